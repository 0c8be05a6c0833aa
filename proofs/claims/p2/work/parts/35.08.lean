theorem d_X12_touches_12 : decode mX12_touches.2.2.1 12 = .ok (.getfield 57, 3) := by decide +kernel
theorem d_X12_touches_15 : decode mX12_touches.2.2.1 15 = .ok (.aload_n 0, 1) := by decide +kernel
theorem d_X12_touches_16 : decode mX12_touches.2.2.1 16 = .ok (.getfield 48, 3) := by decide +kernel
theorem d_X12_touches_19 : decode mX12_touches.2.2.1 19 = .ok (.iaload, 1) := by decide +kernel
theorem d_X12_touches_20 : decode mX12_touches.2.2.1 20 = .ok (.idiv, 1) := by decide +kernel
theorem d_X12_touches_21 : decode mX12_touches.2.2.1 21 = .ok (.istore_n 3, 1) := by decide +kernel
theorem d_X12_touches_22 : decode mX12_touches.2.2.1 22 = .ok (.iload_n 3, 1) := by decide +kernel
theorem d_X12_touches_23 : decode mX12_touches.2.2.1 23 = .ok (.aload_n 0, 1) := by decide +kernel
theorem d_X12_touches_24 : decode mX12_touches.2.2.1 24 = .ok (.getfield 54, 3) := by decide +kernel
theorem d_X12_touches_27 : decode mX12_touches.2.2.1 27 = .ok (.aload_n 0, 1) := by decide +kernel
theorem d_X12_touches_28 : decode mX12_touches.2.2.1 28 = .ok (.getfield 48, 3) := by decide +kernel
theorem d_X12_touches_31 : decode mX12_touches.2.2.1 31 = .ok (.iaload, 1) := by decide +kernel
theorem d_X12_touches_32 : decode mX12_touches.2.2.1 32 = .ok (.irem, 1) := by decide +kernel
theorem d_X12_touches_33 : decode mX12_touches.2.2.1 33 = .ok (.istore 4, 2) := by decide +kernel
theorem d_X12_touches_35 : decode mX12_touches.2.2.1 35 = .ok (.aload_n 0, 1) := by decide +kernel
theorem d_X12_touches_36 : decode mX12_touches.2.2.1 36 = .ok (.getfield 189, 3) := by decide +kernel
theorem d_X12_touches_39 : decode mX12_touches.2.2.1 39 = .ok (.iload 4, 2) := by decide +kernel
theorem d_X12_touches_41 : decode mX12_touches.2.2.1 41 = .ok (.iaload, 1) := by decide +kernel
theorem d_X12_touches_42 : decode mX12_touches.2.2.1 42 = .ok (.iload_n 3, 1) := by decide +kernel
theorem d_X12_touches_43 : decode mX12_touches.2.2.1 43 = .ok (.if_icmp .ne 5, 3) := by decide +kernel
theorem d_X12_touches_48 : decode mX12_touches.2.2.1 48 = .ok (.aload_n 0, 1) := by decide +kernel
theorem d_X12_touches_49 : decode mX12_touches.2.2.1 49 = .ok (.dup, 1) := by decide +kernel
theorem d_X12_touches_50 : decode mX12_touches.2.2.1 50 = .ok (.getfield 210, 3) := by decide +kernel
theorem d_X12_touches_53 : decode mX12_touches.2.2.1 53 = .ok (.iconst 1, 1) := by decide +kernel
theorem d_X12_touches_54 : decode mX12_touches.2.2.1 54 = .ok (.iadd, 1) := by decide +kernel
theorem d_X12_touches_55 : decode mX12_touches.2.2.1 55 = .ok (.putfield 210, 3) := by decide +kernel
theorem d_X12_touches_58 : decode mX12_touches.2.2.1 58 = .ok (.aload_n 0, 1) := by decide +kernel
theorem d_X12_touches_59 : decode mX12_touches.2.2.1 59 = .ok (.getfield 189, 3) := by decide +kernel
theorem d_X12_touches_62 : decode mX12_touches.2.2.1 62 = .ok (.iload 4, 2) := by decide +kernel
theorem d_X12_touches_64 : decode mX12_touches.2.2.1 64 = .ok (.iload_n 3, 1) := by decide +kernel
theorem d_X12_touches_65 : decode mX12_touches.2.2.1 65 = .ok (.iastore, 1) := by decide +kernel
theorem d_X12_touches_66 : decode mX12_touches.2.2.1 66 = .ok (.aload_n 0, 1) := by decide +kernel
theorem d_X12_touches_67 : decode mX12_touches.2.2.1 67 = .ok (.iconst (-1), 1) := by decide +kernel
theorem d_X12_touches_68 : decode mX12_touches.2.2.1 68 = .ok (.iconst 0, 1) := by decide +kernel
theorem d_X12_touches_69 : decode mX12_touches.2.2.1 69 = .ok (.aload_n 0, 1) := by decide +kernel
theorem d_X12_touches_70 : decode mX12_touches.2.2.1 70 = .ok (.getfield 60, 3) := by decide +kernel
theorem d_X12_touches_73 : decode mX12_touches.2.2.1 73 = .ok (.aload_n 0, 1) := by decide +kernel
theorem d_X12_touches_74 : decode mX12_touches.2.2.1 74 = .ok (.getfield 48, 3) := by decide +kernel
theorem d_X12_touches_77 : decode mX12_touches.2.2.1 77 = .ok (.iaload, 1) := by decide +kernel
theorem d_X12_touches_78 : decode mX12_touches.2.2.1 78 = .ok (.iload_n 2, 1) := by decide +kernel
theorem d_X12_touches_79 : decode mX12_touches.2.2.1 79 = .ok (.iconst 0, 1) := by decide +kernel
theorem d_X12_touches_80 : decode mX12_touches.2.2.1 80 = .ok (.iconst 0, 1) := by decide +kernel
theorem d_X12_touches_81 : decode mX12_touches.2.2.1 81 = .ok (.invokevirtual 587, 3) := by decide +kernel
def mX12_ticksOf : MD := (12, yX12_ticksOf, cX12_ticksOf, 9, some .boolean)
theorem sel_X12_ticksOf : Cond.instanceMethod mX12_ticksOf.2.1 ∈ tblG ∧ Cond.selects mX12_ticksOf.2.1.cls mX12_ticksOf.2.1 mX12_ticksOf.2.1 ∈ tblG := ⟨tblG_in (inT9 (List.mem_of_getElem? (i := 110) rfl)) rfl, tblG_in (inP8 (q := (mX12_ticksOf.2.1, 121)) (List.mem_of_getElem? (i := 5) rfl)) rfl⟩
theorem s_12_587 : e_siteV 12 587 mX12_ticksOf 12 := ⟨tblG_in (inT9 (List.mem_of_getElem? (i := 108) rfl)) rfl, sel_X12_ticksOf.1, sel_X12_ticksOf.2, rfl⟩
theorem d_X12_ticksOf_0 : decode mX12_ticksOf.2.2.1 0 = .ok (.aload_n 0, 1) := by decide +kernel
theorem d_X12_ticksOf_1 : decode mX12_ticksOf.2.2.1 1 = .ok (.iload_n 1, 1) := by decide +kernel
theorem d_X12_ticksOf_2 : decode mX12_ticksOf.2.2.1 2 = .ok (.putfield 192, 3) := by decide +kernel
theorem d_X12_ticksOf_5 : decode mX12_ticksOf.2.2.1 5 = .ok (.aload_n 0, 1) := by decide +kernel
theorem d_X12_ticksOf_6 : decode mX12_ticksOf.2.2.1 6 = .ok (.iload_n 2, 1) := by decide +kernel
theorem d_X12_ticksOf_7 : decode mX12_ticksOf.2.2.1 7 = .ok (.putfield 198, 3) := by decide +kernel
theorem d_X12_ticksOf_10 : decode mX12_ticksOf.2.2.1 10 = .ok (.iconst 1, 1) := by decide +kernel
theorem d_X12_ticksOf_11 : decode mX12_ticksOf.2.2.1 11 = .ok (.istore 7, 2) := by decide +kernel
theorem d_X12_ticksOf_13 : decode mX12_ticksOf.2.2.1 13 = .ok (.iconst 0, 1) := by decide +kernel
theorem d_X12_ticksOf_14 : decode mX12_ticksOf.2.2.1 14 = .ok (.istore 8, 2) := by decide +kernel
theorem d_X12_ticksOf_16 : decode mX12_ticksOf.2.2.1 16 = .ok (.iload 8, 2) := by decide +kernel
theorem d_X12_ticksOf_18 : decode mX12_ticksOf.2.2.1 18 = .ok (.iload_n 3, 1) := by decide +kernel
theorem d_X12_ticksOf_19 : decode mX12_ticksOf.2.2.1 19 = .ok (.if_icmp .ge 46, 3) := by decide +kernel
theorem d_X12_ticksOf_65 : decode mX12_ticksOf.2.2.1 65 = .ok (.aload_n 0, 1) := by decide +kernel
theorem d_X12_ticksOf_66 : decode mX12_ticksOf.2.2.1 66 = .ok (.iconst (-1), 1) := by decide +kernel
theorem d_X12_ticksOf_67 : decode mX12_ticksOf.2.2.1 67 = .ok (.putfield 192, 3) := by decide +kernel
theorem d_X12_ticksOf_70 : decode mX12_ticksOf.2.2.1 70 = .ok (.iload 7, 2) := by decide +kernel
theorem d_X12_ticksOf_72 : decode mX12_ticksOf.2.2.1 72 = .ok (.ireturn, 1) := by decide +kernel
theorem d_X12_ticksOf_22 : decode mX12_ticksOf.2.2.1 22 = .ok (.iload 7, 2) := by decide +kernel
theorem d_X12_ticksOf_24 : decode mX12_ticksOf.2.2.1 24 = .ok (.ifCond .eq 41, 3) := by decide +kernel
theorem d_X12_ticksOf_27 : decode mX12_ticksOf.2.2.1 27 = .ok (.aload_n 0, 1) := by decide +kernel
theorem d_X12_ticksOf_28 : decode mX12_ticksOf.2.2.1 28 = .ok (.iload 4, 2) := by decide +kernel
theorem d_X12_ticksOf_30 : decode mX12_ticksOf.2.2.1 30 = .ok (.invokevirtual 577, 3) := by decide +kernel
theorem d_X12_ticksOf_33 : decode mX12_ticksOf.2.2.1 33 = .ok (.istore 7, 2) := by decide +kernel
theorem d_X12_ticksOf_35 : decode mX12_ticksOf.2.2.1 35 = .ok (.iload 7, 2) := by decide +kernel
theorem d_X12_ticksOf_37 : decode mX12_ticksOf.2.2.1 37 = .ok (.ifCond .eq 22, 3) := by decide +kernel
theorem d_X12_ticksOf_40 : decode mX12_ticksOf.2.2.1 40 = .ok (.iload 5, 2) := by decide +kernel
theorem d_X12_ticksOf_42 : decode mX12_ticksOf.2.2.1 42 = .ok (.ifCond .eq 17, 3) := by decide +kernel
theorem d_X12_ticksOf_45 : decode mX12_ticksOf.2.2.1 45 = .ok (.iload 8, 2) := by decide +kernel
theorem d_X12_ticksOf_47 : decode mX12_ticksOf.2.2.1 47 = .ok (.ifCond .ne 12, 3) := by decide +kernel
theorem d_X12_ticksOf_50 : decode mX12_ticksOf.2.2.1 50 = .ok (.aload_n 0, 1) := by decide +kernel
theorem d_X12_ticksOf_51 : decode mX12_ticksOf.2.2.1 51 = .ok (.iload_n 1, 1) := by decide +kernel
theorem d_X12_ticksOf_52 : decode mX12_ticksOf.2.2.1 52 = .ok (.iload 4, 2) := by decide +kernel
theorem d_X12_ticksOf_54 : decode mX12_ticksOf.2.2.1 54 = .ok (.iload 6, 2) := by decide +kernel
theorem d_X12_ticksOf_56 : decode mX12_ticksOf.2.2.1 56 = .ok (.invokevirtual 580, 3) := by decide +kernel
def mX12_acts : MD := (12, yX12_acts, cX12_acts, 4, none)
theorem sel_X12_acts : Cond.instanceMethod mX12_acts.2.1 ∈ tblG ∧ Cond.selects mX12_acts.2.1.cls mX12_acts.2.1 mX12_acts.2.1 ∈ tblG := ⟨tblG_in (inT9 (List.mem_of_getElem? (i := 114) rfl)) rfl, tblG_in (inP8 (q := (mX12_acts.2.1, 121)) (List.mem_of_getElem? (i := 6) rfl)) rfl⟩
theorem s_12_580 : e_siteV 12 580 mX12_acts 12 := ⟨tblG_in (inT9 (List.mem_of_getElem? (i := 112) rfl)) rfl, sel_X12_acts.1, sel_X12_acts.2, rfl⟩
theorem d_X12_acts_0 : decode mX12_acts.2.2.1 0 = .ok (.aload_n 0, 1) := by decide +kernel
theorem d_X12_acts_1 : decode mX12_acts.2.2.1 1 = .ok (.getfield 186, 3) := by decide +kernel
theorem d_X12_acts_4 : decode mX12_acts.2.2.1 4 = .ok (.iload_n 1, 1) := by decide +kernel
theorem d_X12_acts_5 : decode mX12_acts.2.2.1 5 = .ok (.iload_n 2, 1) := by decide +kernel
theorem d_X12_acts_6 : decode mX12_acts.2.2.1 6 = .ok (.iastore, 1) := by decide +kernel
theorem d_X12_acts_7 : decode mX12_acts.2.2.1 7 = .ok (.aload_n 0, 1) := by decide +kernel
theorem d_X12_acts_8 : decode mX12_acts.2.2.1 8 = .ok (.getfield 225, 3) := by decide +kernel
theorem d_X12_acts_11 : decode mX12_acts.2.2.1 11 = .ok (.ifCond .ne 4, 3) := by decide +kernel
theorem d_X12_acts_15 : decode mX12_acts.2.2.1 15 = .ok (.aload_n 0, 1) := by decide +kernel
theorem d_X12_acts_16 : decode mX12_acts.2.2.1 16 = .ok (.getfield 243, 3) := by decide +kernel
theorem d_X12_acts_19 : decode mX12_acts.2.2.1 19 = .ok (.aload_n 0, 1) := by decide +kernel
theorem d_X12_acts_20 : decode mX12_acts.2.2.1 20 = .ok (.getfield 240, 3) := by decide +kernel
theorem d_X12_acts_23 : decode mX12_acts.2.2.1 23 = .ok (.iload_n 1, 1) := by decide +kernel
theorem d_X12_acts_24 : decode mX12_acts.2.2.1 24 = .ok (.iastore, 1) := by decide +kernel
theorem d_X12_acts_25 : decode mX12_acts.2.2.1 25 = .ok (.aload_n 0, 1) := by decide +kernel
theorem d_X12_acts_26 : decode mX12_acts.2.2.1 26 = .ok (.getfield 246, 3) := by decide +kernel
theorem d_X12_acts_29 : decode mX12_acts.2.2.1 29 = .ok (.aload_n 0, 1) := by decide +kernel
theorem d_X12_acts_30 : decode mX12_acts.2.2.1 30 = .ok (.getfield 240, 3) := by decide +kernel
theorem d_X12_acts_33 : decode mX12_acts.2.2.1 33 = .ok (.iload_n 2, 1) := by decide +kernel
theorem d_X12_acts_34 : decode mX12_acts.2.2.1 34 = .ok (.iastore, 1) := by decide +kernel
theorem d_X12_acts_35 : decode mX12_acts.2.2.1 35 = .ok (.aload_n 0, 1) := by decide +kernel
theorem d_X12_acts_36 : decode mX12_acts.2.2.1 36 = .ok (.getfield 249, 3) := by decide +kernel
theorem d_X12_acts_39 : decode mX12_acts.2.2.1 39 = .ok (.aload_n 0, 1) := by decide +kernel
theorem d_X12_acts_40 : decode mX12_acts.2.2.1 40 = .ok (.getfield 240, 3) := by decide +kernel
theorem d_X12_acts_43 : decode mX12_acts.2.2.1 43 = .ok (.iload_n 3, 1) := by decide +kernel
theorem d_X12_acts_44 : decode mX12_acts.2.2.1 44 = .ok (.iastore, 1) := by decide +kernel
theorem d_X12_acts_45 : decode mX12_acts.2.2.1 45 = .ok (.aload_n 0, 1) := by decide +kernel
theorem d_X12_acts_46 : decode mX12_acts.2.2.1 46 = .ok (.dup, 1) := by decide +kernel
theorem d_X12_acts_47 : decode mX12_acts.2.2.1 47 = .ok (.getfield 240, 3) := by decide +kernel
theorem d_X12_acts_50 : decode mX12_acts.2.2.1 50 = .ok (.iconst 1, 1) := by decide +kernel
theorem d_X12_acts_51 : decode mX12_acts.2.2.1 51 = .ok (.iadd, 1) := by decide +kernel
theorem d_X12_acts_52 : decode mX12_acts.2.2.1 52 = .ok (.putfield 240, 3) := by decide +kernel
theorem d_X12_acts_55 : decode mX12_acts.2.2.1 55 = .ok (.return_, 1) := by decide +kernel
theorem d_X12_acts_14 : decode mX12_acts.2.2.1 14 = .ok (.return_, 1) := by decide +kernel
theorem ok_X12_acts : e_m mX12_acts 3 := ⟨tblG_in (inT9 (List.mem_of_getElem? (i := 115) rfl)) rfl, plainFor_of_name (by decide), rfl, ini_12, by decide +kernel, by decide⟩
theorem d_X12_ticksOf_59 : decode mX12_ticksOf.2.2.1 59 = .ok (.iinc 8 1, 3) := by decide +kernel
theorem d_X12_ticksOf_62 : decode mX12_ticksOf.2.2.1 62 = .ok (.goto (-46), 3) := by decide +kernel
theorem ok_X12_ticksOf : e_m mX12_ticksOf 6 := ⟨tblG_in (inT9 (List.mem_of_getElem? (i := 111) rfl)) rfl, plainFor_of_name (by decide), rfl, ini_12, by decide +kernel, by decide⟩
theorem d_X12_touches_84 : decode mX12_touches.2.2.1 84 = .ok (.ireturn, 1) := by decide +kernel
theorem d_X12_touches_46 : decode mX12_touches.2.2.1 46 = .ok (.iconst 1, 1) := by decide +kernel
theorem d_X12_touches_47 : decode mX12_touches.2.2.1 47 = .ok (.ireturn, 1) := by decide +kernel
theorem ok_X12_touches : e_m mX12_touches 2 := ⟨tblG_in (inT9 (List.mem_of_getElem? (i := 132) rfl)) rfl, plainFor_of_name (by decide), rfl, ini_12, by decide +kernel, by decide⟩
theorem d_X12_does_150 : decode mX12_does.2.2.1 150 = .ok (.ireturn, 1) := by decide +kernel
theorem d_X12_does_102 : decode mX12_does.2.2.1 102 = .ok (.aload_n 0, 1) := by decide +kernel
theorem d_X12_does_103 : decode mX12_does.2.2.1 103 = .ok (.iconst (-1), 1) := by decide +kernel
theorem d_X12_does_104 : decode mX12_does.2.2.1 104 = .ok (.iconst 0, 1) := by decide +kernel
theorem d_X12_does_105 : decode mX12_does.2.2.1 105 = .ok (.aload_n 0, 1) := by decide +kernel
theorem d_X12_does_106 : decode mX12_does.2.2.1 106 = .ok (.iload_n 1, 1) := by decide +kernel
theorem d_X12_does_107 : decode mX12_does.2.2.1 107 = .ok (.invokevirtual 614, 3) := by decide +kernel
theorem d_X12_does_110 : decode mX12_does.2.2.1 110 = .ok (.bipush 100, 2) := by decide +kernel
theorem d_X12_does_112 : decode mX12_does.2.2.1 112 = .ok (.invokestatic 618, 3) := by decide +kernel
def mX12_within : MD := (12, yX12_within, cX12_within, 3, some .int)
theorem s_12_618 : e_siteS 12 618 mX12_within := ⟨tblG_in (inT9 (List.mem_of_getElem? (i := 97) rfl)) rfl, tblG_in (inT9 (List.mem_of_getElem? (i := 98) rfl)) rfl⟩
theorem d_X12_within_0 : decode mX12_within.2.2.1 0 = .ok (.lload_n 0, 1) := by decide +kernel
theorem d_X12_within_1 : decode mX12_within.2.2.1 1 = .ok (.lconst 0, 1) := by decide +kernel
theorem d_X12_within_2 : decode mX12_within.2.2.1 2 = .ok (.lcmp, 1) := by decide +kernel
theorem d_X12_within_3 : decode mX12_within.2.2.1 3 = .ok (.ifCond .ge 7, 3) := by decide +kernel
theorem d_X12_within_10 : decode mX12_within.2.2.1 10 = .ok (.lload_n 0, 1) := by decide +kernel
theorem d_X12_within_11 : decode mX12_within.2.2.1 11 = .ok (.iload_n 2, 1) := by decide +kernel
theorem d_X12_within_12 : decode mX12_within.2.2.1 12 = .ok (.i2l, 1) := by decide +kernel
theorem d_X12_within_13 : decode mX12_within.2.2.1 13 = .ok (.lcmp, 1) := by decide +kernel
theorem d_X12_within_14 : decode mX12_within.2.2.1 14 = .ok (.ifCond .le 7, 3) := by decide +kernel
theorem d_X12_within_21 : decode mX12_within.2.2.1 21 = .ok (.lload_n 0, 1) := by decide +kernel
theorem d_X12_within_22 : decode mX12_within.2.2.1 22 = .ok (.l2i, 1) := by decide +kernel
theorem d_X12_within_23 : decode mX12_within.2.2.1 23 = .ok (.ireturn, 1) := by decide +kernel
theorem d_X12_within_17 : decode mX12_within.2.2.1 17 = .ok (.iload_n 2, 1) := by decide +kernel
theorem d_X12_within_18 : decode mX12_within.2.2.1 18 = .ok (.goto 5, 3) := by decide +kernel
theorem d_X12_within_6 : decode mX12_within.2.2.1 6 = .ok (.iconst 0, 1) := by decide +kernel
theorem d_X12_within_7 : decode mX12_within.2.2.1 7 = .ok (.goto 16, 3) := by decide +kernel
theorem ok_X12_within : e_m mX12_within 2 := ⟨tblG_in (inT9 (List.mem_of_getElem? (i := 99) rfl)) rfl, plainFor_of_name (by decide), rfl, ini_12, by decide +kernel, by decide⟩
theorem d_X12_does_115 : decode mX12_does.2.2.1 115 = .ok (.iload_n 2, 1) := by decide +kernel
theorem d_X12_does_116 : decode mX12_does.2.2.1 116 = .ok (.iconst 0, 1) := by decide +kernel
theorem d_X12_does_117 : decode mX12_does.2.2.1 117 = .ok (.iconst 0, 1) := by decide +kernel
theorem d_X12_does_118 : decode mX12_does.2.2.1 118 = .ok (.invokevirtual 587, 3) := by decide +kernel
theorem d_X12_does_121 : decode mX12_does.2.2.1 121 = .ok (.ireturn, 1) := by decide +kernel
theorem d_X12_does_94 : decode mX12_does.2.2.1 94 = .ok (.aload_n 0, 1) := by decide +kernel
theorem d_X12_does_95 : decode mX12_does.2.2.1 95 = .ok (.iload_n 3, 1) := by decide +kernel
theorem d_X12_does_96 : decode mX12_does.2.2.1 96 = .ok (.iload_n 2, 1) := by decide +kernel
theorem d_X12_does_97 : decode mX12_does.2.2.1 97 = .ok (.invokevirtual 628, 3) := by decide +kernel
def mX12_frees : MD := (12, yX12_frees, cX12_frees, 3, none)
theorem sel_X12_frees : Cond.instanceMethod mX12_frees.2.1 ∈ tblG ∧ Cond.selects mX12_frees.2.1.cls mX12_frees.2.1 mX12_frees.2.1 ∈ tblG := ⟨tblG_in (inT9 (List.mem_of_getElem? (i := 126) rfl)) rfl, tblG_in (inP8 (q := (mX12_frees.2.1, 121)) (List.mem_of_getElem? (i := 9) rfl)) rfl⟩
theorem s_12_628 : e_siteV 12 628 mX12_frees 12 := ⟨tblG_in (inT9 (List.mem_of_getElem? (i := 124) rfl)) rfl, sel_X12_frees.1, sel_X12_frees.2, rfl⟩
theorem d_X12_frees_0 : decode mX12_frees.2.2.1 0 = .ok (.aload_n 0, 1) := by decide +kernel
theorem d_X12_frees_1 : decode mX12_frees.2.2.1 1 = .ok (.getfield 177, 3) := by decide +kernel
theorem d_X12_frees_4 : decode mX12_frees.2.2.1 4 = .ok (.iload_n 1, 1) := by decide +kernel
theorem d_X12_frees_5 : decode mX12_frees.2.2.1 5 = .ok (.baload, 1) := by decide +kernel
theorem d_X12_frees_6 : decode mX12_frees.2.2.1 6 = .ok (.ifCond .ne 4, 3) := by decide +kernel
theorem d_X12_frees_10 : decode mX12_frees.2.2.1 10 = .ok (.aload_n 0, 1) := by decide +kernel
theorem d_X12_frees_11 : decode mX12_frees.2.2.1 11 = .ok (.iload_n 1, 1) := by decide +kernel
theorem d_X12_frees_12 : decode mX12_frees.2.2.1 12 = .ok (.iload_n 2, 1) := by decide +kernel
theorem d_X12_frees_13 : decode mX12_frees.2.2.1 13 = .ok (.aload_n 0, 1) := by decide +kernel
theorem d_X12_frees_14 : decode mX12_frees.2.2.1 14 = .ok (.getfield 201, 3) := by decide +kernel
theorem d_X12_frees_17 : decode mX12_frees.2.2.1 17 = .ok (.iconst 1, 1) := by decide +kernel
theorem d_X12_frees_18 : decode mX12_frees.2.2.1 18 = .ok (.isub, 1) := by decide +kernel
theorem d_X12_frees_19 : decode mX12_frees.2.2.1 19 = .ok (.invokevirtual 580, 3) := by decide +kernel
theorem d_X12_frees_22 : decode mX12_frees.2.2.1 22 = .ok (.aload_n 0, 1) := by decide +kernel
theorem d_X12_frees_23 : decode mX12_frees.2.2.1 23 = .ok (.getfield 177, 3) := by decide +kernel
theorem d_X12_frees_26 : decode mX12_frees.2.2.1 26 = .ok (.iload_n 1, 1) := by decide +kernel
theorem d_X12_frees_27 : decode mX12_frees.2.2.1 27 = .ok (.iconst 0, 1) := by decide +kernel
theorem d_X12_frees_28 : decode mX12_frees.2.2.1 28 = .ok (.bastore, 1) := by decide +kernel
theorem d_X12_frees_29 : decode mX12_frees.2.2.1 29 = .ok (.aload_n 0, 1) := by decide +kernel
theorem d_X12_frees_30 : decode mX12_frees.2.2.1 30 = .ok (.getfield 183, 3) := by decide +kernel
theorem d_X12_frees_33 : decode mX12_frees.2.2.1 33 = .ok (.iload_n 1, 1) := by decide +kernel
theorem d_X12_frees_34 : decode mX12_frees.2.2.1 34 = .ok (.aload_n 0, 1) := by decide +kernel
theorem d_X12_frees_35 : decode mX12_frees.2.2.1 35 = .ok (.iload_n 1, 1) := by decide +kernel
theorem d_X12_frees_36 : decode mX12_frees.2.2.1 36 = .ok (.invokevirtual 591, 3) := by decide +kernel
theorem d_X12_frees_39 : decode mX12_frees.2.2.1 39 = .ok (.iastore, 1) := by decide +kernel
theorem d_X12_frees_40 : decode mX12_frees.2.2.1 40 = .ok (.return_, 1) := by decide +kernel
theorem d_X12_frees_9 : decode mX12_frees.2.2.1 9 = .ok (.return_, 1) := by decide +kernel
theorem ok_X12_frees : e_m mX12_frees 2 := ⟨tblG_in (inT9 (List.mem_of_getElem? (i := 127) rfl)) rfl, plainFor_of_name (by decide), rfl, ini_12, by decide +kernel, by decide⟩
theorem d_X12_does_100 : decode mX12_does.2.2.1 100 = .ok (.iconst 1, 1) := by decide +kernel
theorem d_X12_does_101 : decode mX12_does.2.2.1 101 = .ok (.ireturn, 1) := by decide +kernel
theorem d_X12_does_87 : decode mX12_does.2.2.1 87 = .ok (.aload_n 0, 1) := by decide +kernel
theorem d_X12_does_88 : decode mX12_does.2.2.1 88 = .ok (.iload_n 3, 1) := by decide +kernel
theorem d_X12_does_89 : decode mX12_does.2.2.1 89 = .ok (.iload_n 2, 1) := by decide +kernel
theorem d_X12_does_90 : decode mX12_does.2.2.1 90 = .ok (.invokevirtual 624, 3) := by decide +kernel
def mX12_holds : MD := (12, yX12_holds, cX12_holds, 5, some .boolean)
theorem sel_X12_holds : Cond.instanceMethod mX12_holds.2.1 ∈ tblG ∧ Cond.selects mX12_holds.2.1.cls mX12_holds.2.1 mX12_holds.2.1 ∈ tblG := ⟨tblG_in (inT9 (List.mem_of_getElem? (i := 122) rfl)) rfl, tblG_in (inP8 (q := (mX12_holds.2.1, 121)) (List.mem_of_getElem? (i := 8) rfl)) rfl⟩
theorem s_12_624 : e_siteV 12 624 mX12_holds 12 := ⟨tblG_in (inT9 (List.mem_of_getElem? (i := 120) rfl)) rfl, sel_X12_holds.1, sel_X12_holds.2, rfl⟩
theorem d_X12_holds_0 : decode mX12_holds.2.2.1 0 = .ok (.aload_n 0, 1) := by decide +kernel
theorem d_X12_holds_1 : decode mX12_holds.2.2.1 1 = .ok (.getfield 177, 3) := by decide +kernel
theorem d_X12_holds_4 : decode mX12_holds.2.2.1 4 = .ok (.iload_n 1, 1) := by decide +kernel
theorem d_X12_holds_5 : decode mX12_holds.2.2.1 5 = .ok (.baload, 1) := by decide +kernel
theorem d_X12_holds_6 : decode mX12_holds.2.2.1 6 = .ok (.ifCond .eq 5, 3) := by decide +kernel
theorem d_X12_holds_11 : decode mX12_holds.2.2.1 11 = .ok (.aload_n 0, 1) := by decide +kernel
theorem d_X12_holds_12 : decode mX12_holds.2.2.1 12 = .ok (.getfield 201, 3) := by decide +kernel
theorem d_X12_holds_15 : decode mX12_holds.2.2.1 15 = .ok (.iconst 1, 1) := by decide +kernel
theorem d_X12_holds_16 : decode mX12_holds.2.2.1 16 = .ok (.isub, 1) := by decide +kernel
theorem d_X12_holds_17 : decode mX12_holds.2.2.1 17 = .ok (.istore_n 3, 1) := by decide +kernel
theorem d_X12_holds_18 : decode mX12_holds.2.2.1 18 = .ok (.aload_n 0, 1) := by decide +kernel
theorem d_X12_holds_19 : decode mX12_holds.2.2.1 19 = .ok (.iload_n 1, 1) := by decide +kernel
theorem d_X12_holds_20 : decode mX12_holds.2.2.1 20 = .ok (.invokevirtual 571, 3) := by decide +kernel
theorem d_X12_holds_23 : decode mX12_holds.2.2.1 23 = .ok (.ifCond .ne 11, 3) := by decide +kernel
theorem d_X12_holds_34 : decode mX12_holds.2.2.1 34 = .ok (.iconst 0, 1) := by decide +kernel
theorem d_X12_holds_26 : decode mX12_holds.2.2.1 26 = .ok (.aload_n 0, 1) := by decide +kernel
theorem d_X12_holds_27 : decode mX12_holds.2.2.1 27 = .ok (.iload_n 1, 1) := by decide +kernel
theorem d_X12_holds_28 : decode mX12_holds.2.2.1 28 = .ok (.invokevirtual 584, 3) := by decide +kernel
def mX12_wakes : MD := (12, yX12_wakes, cX12_wakes, 2, some .int)
theorem sel_X12_wakes : Cond.instanceMethod mX12_wakes.2.1 ∈ tblG ∧ Cond.selects mX12_wakes.2.1.cls mX12_wakes.2.1 mX12_wakes.2.1 ∈ tblG := ⟨tblG_in (inT9 (List.mem_of_getElem? (i := 106) rfl)) rfl, tblG_in (inP8 (q := (mX12_wakes.2.1, 121)) (List.mem_of_getElem? (i := 4) rfl)) rfl⟩
theorem s_12_584 : e_siteV 12 584 mX12_wakes 12 := ⟨tblG_in (inT9 (List.mem_of_getElem? (i := 104) rfl)) rfl, sel_X12_wakes.1, sel_X12_wakes.2, rfl⟩
theorem d_X12_wakes_0 : decode mX12_wakes.2.2.1 0 = .ok (.aload_n 0, 1) := by decide +kernel
theorem d_X12_wakes_1 : decode mX12_wakes.2.2.1 1 = .ok (.iload_n 1, 1) := by decide +kernel
theorem d_X12_wakes_2 : decode mX12_wakes.2.2.1 2 = .ok (.iconst 1, 1) := by decide +kernel
theorem d_X12_wakes_3 : decode mX12_wakes.2.2.1 3 = .ok (.invokevirtual 565, 3) := by decide +kernel
theorem d_X12_wakes_6 : decode mX12_wakes.2.2.1 6 = .ok (.ireturn, 1) := by decide +kernel
theorem ok_X12_wakes : e_m mX12_wakes 1 := ⟨tblG_in (inT9 (List.mem_of_getElem? (i := 107) rfl)) rfl, plainFor_of_name (by decide), rfl, ini_12, by decide +kernel, by decide⟩
