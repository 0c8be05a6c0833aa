theorem d_X8_clear_5 : decode mX8_clear.2.2.1 5 = .ok (.aload_n 0, 1) := by decide +kernel
theorem d_X8_clear_6 : decode mX8_clear.2.2.1 6 = .ok (.iconst 0, 1) := by decide +kernel
theorem d_X8_clear_7 : decode mX8_clear.2.2.1 7 = .ok (.putfield 47, 3) := by decide +kernel
theorem f_8_47 : e_fld 8 47 8 7 12 0 false := ⟨RX8, TX8, 7, rfl, rfl, by decide, rfl, rfl, rfl, iX8, tblG_in (inT2 (List.mem_of_getElem? (i := 30) rfl)) rfl, tyX8_ok, nmX8⟩
theorem d_X8_clear_10 : decode mX8_clear.2.2.1 10 = .ok (.aload_n 0, 1) := by decide +kernel
theorem d_X8_clear_11 : decode mX8_clear.2.2.1 11 = .ok (.getfield 28, 3) := by decide +kernel
theorem d_X8_clear_14 : decode mX8_clear.2.2.1 14 = .ok (.iconst (-1), 1) := by decide +kernel
theorem d_X8_clear_15 : decode mX8_clear.2.2.1 15 = .ok (.invokestatic 50, 3) := by decide +kernel
theorem s_8_50 : e_siteS 8 50 mJ7_fill_53178 := ⟨tblG_in (inT5 (List.mem_of_getElem? (i := 5) rfl)) rfl, tblG_in (inT3 (List.mem_of_getElem? (i := 42) rfl)) rfl⟩
theorem d_X8_clear_18 : decode mX8_clear.2.2.1 18 = .ok (.return_, 1) := by decide +kernel
theorem ok_X8_clear : e_m mX8_clear 0 := ⟨tblG_in (inT5 (List.mem_of_getElem? (i := 4) rfl)) rfl, plainFor_of_name (by decide), rfl, ini_8, by decide +kernel, by decide⟩
theorem d_X1_makeRoom_7 : decode mX1_makeRoom.2.2.1 7 = .ok (.aload_n 0, 1) := by decide +kernel
theorem d_X1_makeRoom_8 : decode mX1_makeRoom.2.2.1 8 = .ok (.getfield 33, 3) := by decide +kernel
theorem d_X1_makeRoom_11 : decode mX1_makeRoom.2.2.1 11 = .ok (.invokevirtual 54, 3) := by decide +kernel
def mX8_makeRoom : MD := (8, yX8_makeRoom, cX8_makeRoom, 2, none)
theorem sel_X8_makeRoom : Cond.instanceMethod mX8_makeRoom.2.1 ∈ tblG ∧ Cond.selects mX8_makeRoom.2.1.cls mX8_makeRoom.2.1 mX8_makeRoom.2.1 ∈ tblG := ⟨tblG_in (inT5 (List.mem_of_getElem? (i := 11) rfl)) rfl, tblG_in (inT5 (List.mem_of_getElem? (i := 12) rfl)) rfl⟩
theorem s_1_54 : e_siteV 1 54 mX8_makeRoom 8 := ⟨tblG_in (inT5 (List.mem_of_getElem? (i := 10) rfl)) rfl, sel_X8_makeRoom.1, sel_X8_makeRoom.2, rfl⟩
theorem d_X8_makeRoom_0 : decode mX8_makeRoom.2.2.1 0 = .ok (.aload_n 0, 1) := by decide +kernel
theorem d_X8_makeRoom_1 : decode mX8_makeRoom.2.2.1 1 = .ok (.getfield 47, 3) := by decide +kernel
theorem d_X8_makeRoom_4 : decode mX8_makeRoom.2.2.1 4 = .ok (.aload_n 0, 1) := by decide +kernel
theorem d_X8_makeRoom_5 : decode mX8_makeRoom.2.2.1 5 = .ok (.getfield 31, 3) := by decide +kernel
theorem d_X8_makeRoom_8 : decode mX8_makeRoom.2.2.1 8 = .ok (.arraylength, 1) := by decide +kernel
theorem d_X8_makeRoom_9 : decode mX8_makeRoom.2.2.1 9 = .ok (.if_icmp .ge 4, 3) := by decide +kernel
theorem d_X8_makeRoom_12 : decode mX8_makeRoom.2.2.1 12 = .ok (.return_, 1) := by decide +kernel
theorem d_X8_makeRoom_13 : decode mX8_makeRoom.2.2.1 13 = .ok (.aload_n 0, 1) := by decide +kernel
theorem d_X8_makeRoom_14 : decode mX8_makeRoom.2.2.1 14 = .ok (.getfield 31, 3) := by decide +kernel
theorem d_X8_makeRoom_17 : decode mX8_makeRoom.2.2.1 17 = .ok (.arraylength, 1) := by decide +kernel
theorem d_X8_makeRoom_18 : decode mX8_makeRoom.2.2.1 18 = .ok (.iconst 2, 1) := by decide +kernel
theorem d_X8_makeRoom_19 : decode mX8_makeRoom.2.2.1 19 = .ok (.imul, 1) := by decide +kernel
theorem d_X8_makeRoom_20 : decode mX8_makeRoom.2.2.1 20 = .ok (.bipush 32, 2) := by decide +kernel
theorem d_X8_makeRoom_22 : decode mX8_makeRoom.2.2.1 22 = .ok (.iadd, 1) := by decide +kernel
theorem d_X8_makeRoom_23 : decode mX8_makeRoom.2.2.1 23 = .ok (.istore_n 1, 1) := by decide +kernel
theorem d_X8_makeRoom_24 : decode mX8_makeRoom.2.2.1 24 = .ok (.aload_n 0, 1) := by decide +kernel
theorem d_X8_makeRoom_25 : decode mX8_makeRoom.2.2.1 25 = .ok (.aload_n 0, 1) := by decide +kernel
theorem d_X8_makeRoom_26 : decode mX8_makeRoom.2.2.1 26 = .ok (.getfield 9, 3) := by decide +kernel
theorem d_X8_makeRoom_29 : decode mX8_makeRoom.2.2.1 29 = .ok (.iload_n 1, 1) := by decide +kernel
theorem d_X8_makeRoom_30 : decode mX8_makeRoom.2.2.1 30 = .ok (.invokestatic 56, 3) := by decide +kernel
theorem d_X8_makeRoom_33 : decode mX8_makeRoom.2.2.1 33 = .ok (.putfield 9, 3) := by decide +kernel
theorem d_X8_makeRoom_36 : decode mX8_makeRoom.2.2.1 36 = .ok (.aload_n 0, 1) := by decide +kernel
theorem d_X8_makeRoom_37 : decode mX8_makeRoom.2.2.1 37 = .ok (.aload_n 0, 1) := by decide +kernel
theorem d_X8_makeRoom_38 : decode mX8_makeRoom.2.2.1 38 = .ok (.getfield 15, 3) := by decide +kernel
theorem d_X8_makeRoom_41 : decode mX8_makeRoom.2.2.1 41 = .ok (.iload_n 1, 1) := by decide +kernel
theorem d_X8_makeRoom_42 : decode mX8_makeRoom.2.2.1 42 = .ok (.invokestatic 56, 3) := by decide +kernel
theorem d_X8_makeRoom_45 : decode mX8_makeRoom.2.2.1 45 = .ok (.putfield 15, 3) := by decide +kernel
theorem d_X8_makeRoom_48 : decode mX8_makeRoom.2.2.1 48 = .ok (.aload_n 0, 1) := by decide +kernel
theorem d_X8_makeRoom_49 : decode mX8_makeRoom.2.2.1 49 = .ok (.aload_n 0, 1) := by decide +kernel
theorem d_X8_makeRoom_50 : decode mX8_makeRoom.2.2.1 50 = .ok (.getfield 18, 3) := by decide +kernel
theorem d_X8_makeRoom_53 : decode mX8_makeRoom.2.2.1 53 = .ok (.iload_n 1, 1) := by decide +kernel
theorem d_X8_makeRoom_54 : decode mX8_makeRoom.2.2.1 54 = .ok (.invokestatic 56, 3) := by decide +kernel
theorem d_X8_makeRoom_57 : decode mX8_makeRoom.2.2.1 57 = .ok (.putfield 18, 3) := by decide +kernel
theorem d_X8_makeRoom_60 : decode mX8_makeRoom.2.2.1 60 = .ok (.aload_n 0, 1) := by decide +kernel
theorem d_X8_makeRoom_61 : decode mX8_makeRoom.2.2.1 61 = .ok (.aload_n 0, 1) := by decide +kernel
theorem d_X8_makeRoom_62 : decode mX8_makeRoom.2.2.1 62 = .ok (.getfield 21, 3) := by decide +kernel
theorem d_X8_makeRoom_65 : decode mX8_makeRoom.2.2.1 65 = .ok (.iload_n 1, 1) := by decide +kernel
theorem d_X8_makeRoom_66 : decode mX8_makeRoom.2.2.1 66 = .ok (.invokestatic 56, 3) := by decide +kernel
theorem d_X8_makeRoom_69 : decode mX8_makeRoom.2.2.1 69 = .ok (.putfield 21, 3) := by decide +kernel
theorem d_X8_makeRoom_72 : decode mX8_makeRoom.2.2.1 72 = .ok (.aload_n 0, 1) := by decide +kernel
theorem d_X8_makeRoom_73 : decode mX8_makeRoom.2.2.1 73 = .ok (.aload_n 0, 1) := by decide +kernel
theorem d_X8_makeRoom_74 : decode mX8_makeRoom.2.2.1 74 = .ok (.getfield 24, 3) := by decide +kernel
theorem d_X8_makeRoom_77 : decode mX8_makeRoom.2.2.1 77 = .ok (.iload_n 1, 1) := by decide +kernel
theorem d_X8_makeRoom_78 : decode mX8_makeRoom.2.2.1 78 = .ok (.invokestatic 60, 3) := by decide +kernel
theorem d_X8_makeRoom_81 : decode mX8_makeRoom.2.2.1 81 = .ok (.putfield 24, 3) := by decide +kernel
theorem d_X8_makeRoom_84 : decode mX8_makeRoom.2.2.1 84 = .ok (.aload_n 0, 1) := by decide +kernel
theorem d_X8_makeRoom_85 : decode mX8_makeRoom.2.2.1 85 = .ok (.aload_n 0, 1) := by decide +kernel
theorem d_X8_makeRoom_86 : decode mX8_makeRoom.2.2.1 86 = .ok (.getfield 31, 3) := by decide +kernel
theorem d_X8_makeRoom_89 : decode mX8_makeRoom.2.2.1 89 = .ok (.iload_n 1, 1) := by decide +kernel
theorem d_X8_makeRoom_90 : decode mX8_makeRoom.2.2.1 90 = .ok (.invokestatic 56, 3) := by decide +kernel
theorem d_X8_makeRoom_93 : decode mX8_makeRoom.2.2.1 93 = .ok (.putfield 31, 3) := by decide +kernel
theorem d_X8_makeRoom_96 : decode mX8_makeRoom.2.2.1 96 = .ok (.aload_n 0, 1) := by decide +kernel
theorem d_X8_makeRoom_97 : decode mX8_makeRoom.2.2.1 97 = .ok (.aload_n 0, 1) := by decide +kernel
theorem d_X8_makeRoom_98 : decode mX8_makeRoom.2.2.1 98 = .ok (.getfield 34, 3) := by decide +kernel
theorem d_X8_makeRoom_101 : decode mX8_makeRoom.2.2.1 101 = .ok (.iload_n 1, 1) := by decide +kernel
theorem d_X8_makeRoom_102 : decode mX8_makeRoom.2.2.1 102 = .ok (.invokestatic 56, 3) := by decide +kernel
theorem d_X8_makeRoom_105 : decode mX8_makeRoom.2.2.1 105 = .ok (.putfield 34, 3) := by decide +kernel
theorem d_X8_makeRoom_108 : decode mX8_makeRoom.2.2.1 108 = .ok (.aload_n 0, 1) := by decide +kernel
theorem d_X8_makeRoom_109 : decode mX8_makeRoom.2.2.1 109 = .ok (.aload_n 0, 1) := by decide +kernel
theorem d_X8_makeRoom_110 : decode mX8_makeRoom.2.2.1 110 = .ok (.getfield 37, 3) := by decide +kernel
theorem d_X8_makeRoom_113 : decode mX8_makeRoom.2.2.1 113 = .ok (.iload_n 1, 1) := by decide +kernel
theorem d_X8_makeRoom_114 : decode mX8_makeRoom.2.2.1 114 = .ok (.invokestatic 56, 3) := by decide +kernel
theorem d_X8_makeRoom_117 : decode mX8_makeRoom.2.2.1 117 = .ok (.putfield 37, 3) := by decide +kernel
theorem d_X8_makeRoom_120 : decode mX8_makeRoom.2.2.1 120 = .ok (.aload_n 0, 1) := by decide +kernel
theorem d_X8_makeRoom_121 : decode mX8_makeRoom.2.2.1 121 = .ok (.aload_n 0, 1) := by decide +kernel
theorem d_X8_makeRoom_122 : decode mX8_makeRoom.2.2.1 122 = .ok (.getfield 40, 3) := by decide +kernel
theorem d_X8_makeRoom_125 : decode mX8_makeRoom.2.2.1 125 = .ok (.iload_n 1, 1) := by decide +kernel
theorem d_X8_makeRoom_126 : decode mX8_makeRoom.2.2.1 126 = .ok (.invokestatic 56, 3) := by decide +kernel
theorem d_X8_makeRoom_129 : decode mX8_makeRoom.2.2.1 129 = .ok (.putfield 40, 3) := by decide +kernel
theorem d_X8_makeRoom_132 : decode mX8_makeRoom.2.2.1 132 = .ok (.return_, 1) := by decide +kernel
def mJ7_copyOf_59c91 : MD := (14, yJ7_copyOf_59c91, cJ7_copyOf_59c91, 3, some (.array .int))
theorem d_J7_copyOf_59c91_0 : decode mJ7_copyOf_59c91.2.2.1 0 = .ok (.iload_n 1, 1) := by decide +kernel
theorem d_J7_copyOf_59c91_1 : decode mJ7_copyOf_59c91.2.2.1 1 = .ok (.aload_n 0, 1) := by decide +kernel
theorem d_J7_copyOf_59c91_2 : decode mJ7_copyOf_59c91.2.2.1 2 = .ok (.arraylength, 1) := by decide +kernel
theorem d_J7_copyOf_59c91_3 : decode mJ7_copyOf_59c91.2.2.1 3 = .ok (.if_icmp .ne 11, 3) := by decide +kernel
theorem d_J7_copyOf_59c91_14 : decode mJ7_copyOf_59c91.2.2.1 14 = .ok (.iload_n 1, 1) := by decide +kernel
theorem d_J7_copyOf_59c91_15 : decode mJ7_copyOf_59c91.2.2.1 15 = .ok (.newarray .int, 2) := by decide +kernel
theorem d_J7_copyOf_59c91_17 : decode mJ7_copyOf_59c91.2.2.1 17 = .ok (.astore_n 2, 1) := by decide +kernel
theorem d_J7_copyOf_59c91_18 : decode mJ7_copyOf_59c91.2.2.1 18 = .ok (.aload_n 0, 1) := by decide +kernel
theorem d_J7_copyOf_59c91_19 : decode mJ7_copyOf_59c91.2.2.1 19 = .ok (.iconst 0, 1) := by decide +kernel
theorem d_J7_copyOf_59c91_20 : decode mJ7_copyOf_59c91.2.2.1 20 = .ok (.aload_n 2, 1) := by decide +kernel
theorem d_J7_copyOf_59c91_21 : decode mJ7_copyOf_59c91.2.2.1 21 = .ok (.iconst 0, 1) := by decide +kernel
theorem d_J7_copyOf_59c91_22 : decode mJ7_copyOf_59c91.2.2.1 22 = .ok (.aload_n 0, 1) := by decide +kernel
theorem d_J7_copyOf_59c91_23 : decode mJ7_copyOf_59c91.2.2.1 23 = .ok (.arraylength, 1) := by decide +kernel
theorem d_J7_copyOf_59c91_24 : decode mJ7_copyOf_59c91.2.2.1 24 = .ok (.iload_n 1, 1) := by decide +kernel
theorem d_J7_copyOf_59c91_25 : decode mJ7_copyOf_59c91.2.2.1 25 = .ok (.invokestatic 304, 3) := by decide +kernel
theorem d_J7_copyOf_59c91_28 : decode mJ7_copyOf_59c91.2.2.1 28 = .ok (.invokestatic 150, 3) := by decide +kernel
theorem d_J7_copyOf_59c91_31 : decode mJ7_copyOf_59c91.2.2.1 31 = .ok (.aload_n 2, 1) := by decide +kernel
theorem d_J7_copyOf_59c91_32 : decode mJ7_copyOf_59c91.2.2.1 32 = .ok (.areturn, 1) := by decide +kernel
def mJ7_copyOf_c38d5 : MD := (14, yJ7_copyOf_c38d5, cJ7_copyOf_c38d5, 3, some (.array .long))
theorem d_J7_copyOf_c38d5_0 : decode mJ7_copyOf_c38d5.2.2.1 0 = .ok (.iload_n 1, 1) := by decide +kernel
theorem d_J7_copyOf_c38d5_1 : decode mJ7_copyOf_c38d5.2.2.1 1 = .ok (.aload_n 0, 1) := by decide +kernel
theorem d_J7_copyOf_c38d5_2 : decode mJ7_copyOf_c38d5.2.2.1 2 = .ok (.arraylength, 1) := by decide +kernel
theorem d_J7_copyOf_c38d5_3 : decode mJ7_copyOf_c38d5.2.2.1 3 = .ok (.if_icmp .ne 11, 3) := by decide +kernel
theorem d_J7_copyOf_c38d5_14 : decode mJ7_copyOf_c38d5.2.2.1 14 = .ok (.iload_n 1, 1) := by decide +kernel
theorem d_J7_copyOf_c38d5_15 : decode mJ7_copyOf_c38d5.2.2.1 15 = .ok (.newarray .long, 2) := by decide +kernel
theorem d_J7_copyOf_c38d5_17 : decode mJ7_copyOf_c38d5.2.2.1 17 = .ok (.astore_n 2, 1) := by decide +kernel
theorem d_J7_copyOf_c38d5_18 : decode mJ7_copyOf_c38d5.2.2.1 18 = .ok (.aload_n 0, 1) := by decide +kernel
theorem d_J7_copyOf_c38d5_19 : decode mJ7_copyOf_c38d5.2.2.1 19 = .ok (.iconst 0, 1) := by decide +kernel
theorem d_J7_copyOf_c38d5_20 : decode mJ7_copyOf_c38d5.2.2.1 20 = .ok (.aload_n 2, 1) := by decide +kernel
theorem d_J7_copyOf_c38d5_21 : decode mJ7_copyOf_c38d5.2.2.1 21 = .ok (.iconst 0, 1) := by decide +kernel
theorem d_J7_copyOf_c38d5_22 : decode mJ7_copyOf_c38d5.2.2.1 22 = .ok (.aload_n 0, 1) := by decide +kernel
theorem d_J7_copyOf_c38d5_23 : decode mJ7_copyOf_c38d5.2.2.1 23 = .ok (.arraylength, 1) := by decide +kernel
theorem d_J7_copyOf_c38d5_24 : decode mJ7_copyOf_c38d5.2.2.1 24 = .ok (.iload_n 1, 1) := by decide +kernel
theorem d_J7_copyOf_c38d5_25 : decode mJ7_copyOf_c38d5.2.2.1 25 = .ok (.invokestatic 304, 3) := by decide +kernel
theorem d_J7_copyOf_c38d5_28 : decode mJ7_copyOf_c38d5.2.2.1 28 = .ok (.invokestatic 150, 3) := by decide +kernel
theorem d_J7_copyOf_c38d5_31 : decode mJ7_copyOf_c38d5.2.2.1 31 = .ok (.aload_n 2, 1) := by decide +kernel
theorem d_J7_copyOf_c38d5_32 : decode mJ7_copyOf_c38d5.2.2.1 32 = .ok (.areturn, 1) := by decide +kernel
theorem ok_J7_copyOf_59c91 : e_m mJ7_copyOf_59c91 2 := ⟨tblG_in (inT5 (List.mem_of_getElem? (i := 16) rfl)) rfl, plainFor_of_name (by decide), rfl, ini_14, by decide +kernel, by decide⟩
theorem ok_J7_copyOf_c38d5 : e_m mJ7_copyOf_c38d5 2 := ⟨tblG_in (inT5 (List.mem_of_getElem? (i := 28) rfl)) rfl, plainFor_of_name (by decide), rfl, ini_14, by decide +kernel, by decide⟩
theorem ml_14_304 : Cond.methodLink (e_cn 14) 304 Lib.Math.min.name ∈ tblG := tblG_in (inT5 (List.mem_of_getElem? (i := 24) rfl)) rfl
theorem ac_14_150 : Cond.methodLink (e_cn 14) 150 arraycopyName ∈ tblG := tblG_in (inT5 (List.mem_of_getElem? (i := 25) rfl)) rfl
theorem s_8_56 : e_siteS 8 56 mJ7_copyOf_59c91 := ⟨tblG_in (inT5 (List.mem_of_getElem? (i := 14) rfl)) rfl, tblG_in (inT5 (List.mem_of_getElem? (i := 15) rfl)) rfl⟩
theorem s_8_60 : e_siteS 8 60 mJ7_copyOf_c38d5 := ⟨tblG_in (inT5 (List.mem_of_getElem? (i := 26) rfl)) rfl, tblG_in (inT5 (List.mem_of_getElem? (i := 27) rfl)) rfl⟩
theorem ok_X8_makeRoom : e_m mX8_makeRoom 0 := ⟨tblG_in (inT5 (List.mem_of_getElem? (i := 13) rfl)) rfl, plainFor_of_name (by decide), rfl, ini_8, by decide +kernel, by decide⟩
theorem d_X1_note_32 : decode mX1_note.2.2.1 32 = .ok (.aload_n 0, 1) := by decide +kernel
theorem d_X1_note_33 : decode mX1_note.2.2.1 33 = .ok (.getfield 15, 3) := by decide +kernel
theorem d_X1_note_36 : decode mX1_note.2.2.1 36 = .ok (.iload_n 1, 1) := by decide +kernel
theorem d_X1_note_37 : decode mX1_note.2.2.1 37 = .ok (.iaload, 1) := by decide +kernel
theorem d_X1_note_38 : decode mX1_note.2.2.1 38 = .ok (.istore 5, 2) := by decide +kernel
theorem d_X1_note_40 : decode mX1_note.2.2.1 40 = .ok (.iload_n 2, 1) := by decide +kernel
theorem d_X1_note_41 : decode mX1_note.2.2.1 41 = .ok (.ifCond .ne 11, 3) := by decide +kernel
theorem d_X1_note_52 : decode mX1_note.2.2.1 52 = .ok (.iload 5, 2) := by decide +kernel
theorem d_X1_note_54 : decode mX1_note.2.2.1 54 = .ok (.ifCond .lt 88, 3) := by decide +kernel
theorem d_X1_note_142 : decode mX1_note.2.2.1 142 = .ok (.return_, 1) := by decide +kernel
theorem d_X1_note_57 : decode mX1_note.2.2.1 57 = .ok (.iload 4, 2) := by decide +kernel
theorem d_X1_note_59 : decode mX1_note.2.2.1 59 = .ok (.iload_n 3, 1) := by decide +kernel
theorem d_X1_note_60 : decode mX1_note.2.2.1 60 = .ok (.isub, 1) := by decide +kernel
theorem d_X1_note_61 : decode mX1_note.2.2.1 61 = .ok (.aload_n 0, 1) := by decide +kernel
theorem d_X1_note_62 : decode mX1_note.2.2.1 62 = .ok (.getfield 41, 3) := by decide +kernel
theorem d_X1_note_65 : decode mX1_note.2.2.1 65 = .ok (.getfield 71, 3) := by decide +kernel
theorem d_X1_note_68 : decode mX1_note.2.2.1 68 = .ok (.iload_n 1, 1) := by decide +kernel
theorem d_X1_note_69 : decode mX1_note.2.2.1 69 = .ok (.iconst 4, 1) := by decide +kernel
theorem d_X1_note_70 : decode mX1_note.2.2.1 70 = .ok (.imul, 1) := by decide +kernel
theorem d_X1_note_71 : decode mX1_note.2.2.1 71 = .ok (.iload_n 2, 1) := by decide +kernel
theorem d_X1_note_72 : decode mX1_note.2.2.1 72 = .ok (.iadd, 1) := by decide +kernel
theorem d_X1_note_73 : decode mX1_note.2.2.1 73 = .ok (.iaload, 1) := by decide +kernel
theorem d_X1_note_74 : decode mX1_note.2.2.1 74 = .ok (.imul, 1) := by decide +kernel
theorem d_X1_note_75 : decode mX1_note.2.2.1 75 = .ok (.istore 6, 2) := by decide +kernel
theorem d_X1_note_77 : decode mX1_note.2.2.1 77 = .ok (.aload_n 0, 1) := by decide +kernel
theorem d_X1_note_78 : decode mX1_note.2.2.1 78 = .ok (.getfield 24, 3) := by decide +kernel
theorem d_X1_note_81 : decode mX1_note.2.2.1 81 = .ok (.iload 5, 2) := by decide +kernel
theorem d_X1_note_83 : decode mX1_note.2.2.1 83 = .ok (.dup2, 1) := by decide +kernel
theorem d_X1_note_84 : decode mX1_note.2.2.1 84 = .ok (.iaload, 1) := by decide +kernel
theorem d_X1_note_85 : decode mX1_note.2.2.1 85 = .ok (.iload_n 2, 1) := by decide +kernel
theorem d_X1_note_86 : decode mX1_note.2.2.1 86 = .ok (.iconst 2, 1) := by decide +kernel
theorem d_X1_note_87 : decode mX1_note.2.2.1 87 = .ok (.if_icmp .ne 8, 3) := by decide +kernel
theorem d_X1_note_90 : decode mX1_note.2.2.1 90 = .ok (.iload 6, 2) := by decide +kernel
theorem d_X1_note_92 : decode mX1_note.2.2.1 92 = .ok (.goto 4, 3) := by decide +kernel
theorem d_X1_note_96 : decode mX1_note.2.2.1 96 = .ok (.iadd, 1) := by decide +kernel
theorem d_X1_note_97 : decode mX1_note.2.2.1 97 = .ok (.iastore, 1) := by decide +kernel
theorem d_X1_note_98 : decode mX1_note.2.2.1 98 = .ok (.aload_n 0, 1) := by decide +kernel
theorem d_X1_note_99 : decode mX1_note.2.2.1 99 = .ok (.getfield 21, 3) := by decide +kernel
theorem d_X1_note_102 : decode mX1_note.2.2.1 102 = .ok (.iload 5, 2) := by decide +kernel
theorem d_X1_note_104 : decode mX1_note.2.2.1 104 = .ok (.dup2, 1) := by decide +kernel
theorem d_X1_note_105 : decode mX1_note.2.2.1 105 = .ok (.iaload, 1) := by decide +kernel
theorem d_X1_note_106 : decode mX1_note.2.2.1 106 = .ok (.iload_n 2, 1) := by decide +kernel
theorem d_X1_note_107 : decode mX1_note.2.2.1 107 = .ok (.iconst 2, 1) := by decide +kernel
theorem d_X1_note_108 : decode mX1_note.2.2.1 108 = .ok (.if_icmp .ne 7, 3) := by decide +kernel
theorem d_X1_note_111 : decode mX1_note.2.2.1 111 = .ok (.iconst 0, 1) := by decide +kernel
theorem d_X1_note_112 : decode mX1_note.2.2.1 112 = .ok (.goto 5, 3) := by decide +kernel
theorem d_X1_note_117 : decode mX1_note.2.2.1 117 = .ok (.iadd, 1) := by decide +kernel
theorem d_X1_note_118 : decode mX1_note.2.2.1 118 = .ok (.iastore, 1) := by decide +kernel
theorem d_X1_note_119 : decode mX1_note.2.2.1 119 = .ok (.aload_n 0, 1) := by decide +kernel
theorem d_X1_note_120 : decode mX1_note.2.2.1 120 = .ok (.getfield 33, 3) := by decide +kernel
theorem d_X1_note_123 : decode mX1_note.2.2.1 123 = .ok (.iload_n 1, 1) := by decide +kernel
theorem d_X1_note_124 : decode mX1_note.2.2.1 124 = .ok (.iload 5, 2) := by decide +kernel
theorem d_X1_note_126 : decode mX1_note.2.2.1 126 = .ok (.iload_n 3, 1) := by decide +kernel
theorem d_X1_note_127 : decode mX1_note.2.2.1 127 = .ok (.iload 4, 2) := by decide +kernel
theorem d_X1_note_129 : decode mX1_note.2.2.1 129 = .ok (.iload_n 2, 1) := by decide +kernel
theorem d_X1_note_130 : decode mX1_note.2.2.1 130 = .ok (.iconst 2, 1) := by decide +kernel
theorem d_X1_note_131 : decode mX1_note.2.2.1 131 = .ok (.if_icmp .ne 7, 3) := by decide +kernel
theorem d_X1_note_134 : decode mX1_note.2.2.1 134 = .ok (.iconst 1, 1) := by decide +kernel
theorem d_X1_note_135 : decode mX1_note.2.2.1 135 = .ok (.goto 4, 3) := by decide +kernel
theorem d_X1_note_139 : decode mX1_note.2.2.1 139 = .ok (.invokevirtual 74, 3) := by decide +kernel
def mX8_stayUp : MD := (8, yX8_stayUp, cX8_stayUp, 7, none)
theorem sel_X8_stayUp : Cond.instanceMethod mX8_stayUp.2.1 ∈ tblG ∧ Cond.selects mX8_stayUp.2.1.cls mX8_stayUp.2.1 mX8_stayUp.2.1 ∈ tblG := ⟨tblG_in (inT5 (List.mem_of_getElem? (i := 101) rfl)) rfl, tblG_in (inT5 (List.mem_of_getElem? (i := 102) rfl)) rfl⟩
theorem s_1_74 : e_siteV 1 74 mX8_stayUp 8 := ⟨tblG_in (inT5 (List.mem_of_getElem? (i := 100) rfl)) rfl, sel_X8_stayUp.1, sel_X8_stayUp.2, rfl⟩
theorem d_X8_stayUp_0 : decode mX8_stayUp.2.2.1 0 = .ok (.aload_n 0, 1) := by decide +kernel
theorem d_X8_stayUp_1 : decode mX8_stayUp.2.2.1 1 = .ok (.getfield 28, 3) := by decide +kernel
theorem d_X8_stayUp_4 : decode mX8_stayUp.2.2.1 4 = .ok (.iload_n 1, 1) := by decide +kernel
theorem d_X8_stayUp_5 : decode mX8_stayUp.2.2.1 5 = .ok (.iaload, 1) := by decide +kernel
theorem d_X8_stayUp_6 : decode mX8_stayUp.2.2.1 6 = .ok (.ifCond .ge 78, 3) := by decide +kernel
theorem d_X8_stayUp_9 : decode mX8_stayUp.2.2.1 9 = .ok (.aload_n 0, 1) := by decide +kernel
theorem d_X8_stayUp_10 : decode mX8_stayUp.2.2.1 10 = .ok (.getfield 43, 3) := by decide +kernel
theorem d_X8_stayUp_13 : decode mX8_stayUp.2.2.1 13 = .ok (.aload_n 0, 1) := by decide +kernel
theorem d_X8_stayUp_14 : decode mX8_stayUp.2.2.1 14 = .ok (.getfield 9, 3) := by decide +kernel
theorem d_X8_stayUp_17 : decode mX8_stayUp.2.2.1 17 = .ok (.arraylength, 1) := by decide +kernel
theorem d_X8_stayUp_18 : decode mX8_stayUp.2.2.1 18 = .ok (.if_icmp .lt 4, 3) := by decide +kernel
theorem d_X8_stayUp_22 : decode mX8_stayUp.2.2.1 22 = .ok (.aload_n 0, 1) := by decide +kernel
theorem d_X8_stayUp_23 : decode mX8_stayUp.2.2.1 23 = .ok (.getfield 9, 3) := by decide +kernel
theorem d_X8_stayUp_26 : decode mX8_stayUp.2.2.1 26 = .ok (.aload_n 0, 1) := by decide +kernel
theorem d_X8_stayUp_27 : decode mX8_stayUp.2.2.1 27 = .ok (.getfield 43, 3) := by decide +kernel
theorem d_X8_stayUp_30 : decode mX8_stayUp.2.2.1 30 = .ok (.iload_n 1, 1) := by decide +kernel
theorem d_X8_stayUp_31 : decode mX8_stayUp.2.2.1 31 = .ok (.iastore, 1) := by decide +kernel
theorem d_X8_stayUp_32 : decode mX8_stayUp.2.2.1 32 = .ok (.aload_n 0, 1) := by decide +kernel
theorem d_X8_stayUp_33 : decode mX8_stayUp.2.2.1 33 = .ok (.getfield 15, 3) := by decide +kernel
theorem d_X8_stayUp_36 : decode mX8_stayUp.2.2.1 36 = .ok (.aload_n 0, 1) := by decide +kernel
theorem d_X8_stayUp_37 : decode mX8_stayUp.2.2.1 37 = .ok (.getfield 43, 3) := by decide +kernel
theorem d_X8_stayUp_40 : decode mX8_stayUp.2.2.1 40 = .ok (.iload_n 3, 1) := by decide +kernel
theorem d_X8_stayUp_41 : decode mX8_stayUp.2.2.1 41 = .ok (.iastore, 1) := by decide +kernel
theorem d_X8_stayUp_42 : decode mX8_stayUp.2.2.1 42 = .ok (.aload_n 0, 1) := by decide +kernel
theorem d_X8_stayUp_43 : decode mX8_stayUp.2.2.1 43 = .ok (.getfield 21, 3) := by decide +kernel
theorem d_X8_stayUp_46 : decode mX8_stayUp.2.2.1 46 = .ok (.aload_n 0, 1) := by decide +kernel
theorem d_X8_stayUp_47 : decode mX8_stayUp.2.2.1 47 = .ok (.getfield 43, 3) := by decide +kernel
theorem d_X8_stayUp_50 : decode mX8_stayUp.2.2.1 50 = .ok (.iconst 0, 1) := by decide +kernel
theorem d_X8_stayUp_51 : decode mX8_stayUp.2.2.1 51 = .ok (.iastore, 1) := by decide +kernel
theorem d_X8_stayUp_52 : decode mX8_stayUp.2.2.1 52 = .ok (.aload_n 0, 1) := by decide +kernel
theorem d_X8_stayUp_53 : decode mX8_stayUp.2.2.1 53 = .ok (.getfield 24, 3) := by decide +kernel
theorem d_X8_stayUp_56 : decode mX8_stayUp.2.2.1 56 = .ok (.aload_n 0, 1) := by decide +kernel
theorem d_X8_stayUp_57 : decode mX8_stayUp.2.2.1 57 = .ok (.getfield 43, 3) := by decide +kernel
theorem d_X8_stayUp_60 : decode mX8_stayUp.2.2.1 60 = .ok (.lconst 1, 1) := by decide +kernel
theorem d_X8_stayUp_61 : decode mX8_stayUp.2.2.1 61 = .ok (.iload_n 2, 1) := by decide +kernel
