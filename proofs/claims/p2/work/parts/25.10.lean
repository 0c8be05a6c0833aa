theorem d_X6_touch_6 : decode mX6_touch.2.2.1 6 = .ok (.iadd, 1) := by decide +kernel
theorem d_X6_touch_7 : decode mX6_touch.2.2.1 7 = .ok (.putfield 103, 3) := by decide +kernel
theorem d_X6_touch_10 : decode mX6_touch.2.2.1 10 = .ok (.aload_n 0, 1) := by decide +kernel
theorem d_X6_touch_11 : decode mX6_touch.2.2.1 11 = .ok (.getfield 46, 3) := by decide +kernel
theorem d_X6_touch_14 : decode mX6_touch.2.2.1 14 = .ok (.getfield 217, 3) := by decide +kernel
theorem f_6_217 : e_fld 6 217 3 2 12 0 false := ⟨RX3, TX3, 2, rfl, rfl, by decide, rfl, rfl, rfl, iX3, tblG_in (inT1 (List.mem_of_getElem? (i := 167) rfl)) rfl, tyX3_ok, nmX3⟩
theorem d_X6_touch_17 : decode mX6_touch.2.2.1 17 = .ok (.ifCond .le 25, 3) := by decide +kernel
theorem d_X6_touch_42 : decode mX6_touch.2.2.1 42 = .ok (.return_, 1) := by decide +kernel
theorem d_X6_touch_20 : decode mX6_touch.2.2.1 20 = .ok (.aload_n 0, 1) := by decide +kernel
theorem d_X6_touch_21 : decode mX6_touch.2.2.1 21 = .ok (.getfield 46, 3) := by decide +kernel
theorem d_X6_touch_24 : decode mX6_touch.2.2.1 24 = .ok (.getfield 220, 3) := by decide +kernel
theorem f_6_220 : e_fld 6 220 3 1 12 0 false := ⟨RX3, TX3, 1, rfl, rfl, by decide, rfl, rfl, rfl, iX3, tblG_in (inT1 (List.mem_of_getElem? (i := 164) rfl)) rfl, tyX3_ok, nmX3⟩
theorem d_X6_touch_27 : decode mX6_touch.2.2.1 27 = .ok (.ifCond .le 15, 3) := by decide +kernel
theorem d_X6_touch_30 : decode mX6_touch.2.2.1 30 = .ok (.aload_n 0, 1) := by decide +kernel
theorem d_X6_touch_31 : decode mX6_touch.2.2.1 31 = .ok (.getfield 46, 3) := by decide +kernel
theorem d_X6_touch_34 : decode mX6_touch.2.2.1 34 = .ok (.getfield 220, 3) := by decide +kernel
theorem d_X6_touch_37 : decode mX6_touch.2.2.1 37 = .ok (.bipush 8, 2) := by decide +kernel
theorem d_X6_touch_39 : decode mX6_touch.2.2.1 39 = .ok (.if_icmp .le 4, 3) := by decide +kernel
theorem d_X6_touch_43 : decode mX6_touch.2.2.1 43 = .ok (.iload_n 1, 1) := by decide +kernel
theorem d_X6_touch_44 : decode mX6_touch.2.2.1 44 = .ok (.aload_n 0, 1) := by decide +kernel
theorem d_X6_touch_45 : decode mX6_touch.2.2.1 45 = .ok (.getfield 46, 3) := by decide +kernel
theorem d_X6_touch_48 : decode mX6_touch.2.2.1 48 = .ok (.getfield 217, 3) := by decide +kernel
theorem d_X6_touch_51 : decode mX6_touch.2.2.1 51 = .ok (.idiv, 1) := by decide +kernel
theorem d_X6_touch_52 : decode mX6_touch.2.2.1 52 = .ok (.istore_n 2, 1) := by decide +kernel
theorem d_X6_touch_53 : decode mX6_touch.2.2.1 53 = .ok (.iload_n 2, 1) := by decide +kernel
theorem d_X6_touch_54 : decode mX6_touch.2.2.1 54 = .ok (.aload_n 0, 1) := by decide +kernel
theorem d_X6_touch_55 : decode mX6_touch.2.2.1 55 = .ok (.getfield 46, 3) := by decide +kernel
theorem d_X6_touch_58 : decode mX6_touch.2.2.1 58 = .ok (.getfield 220, 3) := by decide +kernel
theorem d_X6_touch_61 : decode mX6_touch.2.2.1 61 = .ok (.irem, 1) := by decide +kernel
theorem d_X6_touch_62 : decode mX6_touch.2.2.1 62 = .ok (.istore_n 3, 1) := by decide +kernel
theorem d_X6_touch_63 : decode mX6_touch.2.2.1 63 = .ok (.aload_n 0, 1) := by decide +kernel
theorem d_X6_touch_64 : decode mX6_touch.2.2.1 64 = .ok (.getfield 21, 3) := by decide +kernel
theorem d_X6_touch_67 : decode mX6_touch.2.2.1 67 = .ok (.iload_n 3, 1) := by decide +kernel
theorem d_X6_touch_68 : decode mX6_touch.2.2.1 68 = .ok (.iaload, 1) := by decide +kernel
theorem d_X6_touch_69 : decode mX6_touch.2.2.1 69 = .ok (.iload_n 2, 1) := by decide +kernel
theorem d_X6_touch_70 : decode mX6_touch.2.2.1 70 = .ok (.if_icmp .eq 34, 3) := by decide +kernel
theorem d_X6_touch_104 : decode mX6_touch.2.2.1 104 = .ok (.return_, 1) := by decide +kernel
theorem d_X6_touch_73 : decode mX6_touch.2.2.1 73 = .ok (.aload_n 0, 1) := by decide +kernel
theorem d_X6_touch_74 : decode mX6_touch.2.2.1 74 = .ok (.dup, 1) := by decide +kernel
theorem d_X6_touch_75 : decode mX6_touch.2.2.1 75 = .ok (.getfield 100, 3) := by decide +kernel
theorem d_X6_touch_78 : decode mX6_touch.2.2.1 78 = .ok (.iconst 1, 1) := by decide +kernel
theorem d_X6_touch_79 : decode mX6_touch.2.2.1 79 = .ok (.iadd, 1) := by decide +kernel
theorem d_X6_touch_80 : decode mX6_touch.2.2.1 80 = .ok (.putfield 100, 3) := by decide +kernel
theorem d_X6_touch_83 : decode mX6_touch.2.2.1 83 = .ok (.aload_n 0, 1) := by decide +kernel
theorem d_X6_touch_84 : decode mX6_touch.2.2.1 84 = .ok (.getfield 21, 3) := by decide +kernel
theorem d_X6_touch_87 : decode mX6_touch.2.2.1 87 = .ok (.iload_n 3, 1) := by decide +kernel
theorem d_X6_touch_88 : decode mX6_touch.2.2.1 88 = .ok (.iload_n 2, 1) := by decide +kernel
theorem d_X6_touch_89 : decode mX6_touch.2.2.1 89 = .ok (.iastore, 1) := by decide +kernel
theorem d_X6_touch_90 : decode mX6_touch.2.2.1 90 = .ok (.aload_n 0, 1) := by decide +kernel
theorem d_X6_touch_91 : decode mX6_touch.2.2.1 91 = .ok (.aload_n 0, 1) := by decide +kernel
theorem d_X6_touch_92 : decode mX6_touch.2.2.1 92 = .ok (.getfield 46, 3) := by decide +kernel
theorem d_X6_touch_95 : decode mX6_touch.2.2.1 95 = .ok (.getfield 223, 3) := by decide +kernel
theorem f_6_223 : e_fld 6 223 3 3 12 0 false := ⟨RX3, TX3, 3, rfl, rfl, by decide, rfl, rfl, rfl, iX3, tblG_in (inT1 (List.mem_of_getElem? (i := 170) rfl)) rfl, tyX3_ok, nmX3⟩
theorem d_X6_touch_98 : decode mX6_touch.2.2.1 98 = .ok (.iconst (-1), 1) := by decide +kernel
theorem d_X6_touch_99 : decode mX6_touch.2.2.1 99 = .ok (.iconst 0, 1) := by decide +kernel
theorem d_X6_touch_100 : decode mX6_touch.2.2.1 100 = .ok (.invokevirtual 145, 3) := by decide +kernel
theorem d_X6_touch_103 : decode mX6_touch.2.2.1 103 = .ok (.pop, 1) := by decide +kernel
theorem ok_X6_touch : e_m mX6_touch 1 := ⟨tblG_in (inT5 (List.mem_of_getElem? (i := 147) rfl)) rfl, plainFor_of_name (by decide), rfl, ini_6, by decide +kernel, by decide⟩
theorem d_X6_step_174 : decode mX6_step.2.2.1 174 = .ok (.goto 27, 3) := by decide +kernel
theorem d_X6_step_201 : decode mX6_step.2.2.1 201 = .ok (.aload_n 2, 1) := by decide +kernel
theorem d_X6_step_202 : decode mX6_step.2.2.1 202 = .ok (.getfield 177, 3) := by decide +kernel
theorem d_X6_step_205 : decode mX6_step.2.2.1 205 = .ok (.iload_n 1, 1) := by decide +kernel
theorem d_X6_step_206 : decode mX6_step.2.2.1 206 = .ok (.iaload, 1) := by decide +kernel
theorem d_X6_step_207 : decode mX6_step.2.2.1 207 = .ok (.ireturn, 1) := by decide +kernel
theorem d_X6_step_135 : decode mX6_step.2.2.1 135 = .ok (.aload_n 0, 1) := by decide +kernel
theorem d_X6_step_136 : decode mX6_step.2.2.1 136 = .ok (.aload_n 0, 1) := by decide +kernel
theorem d_X6_step_137 : decode mX6_step.2.2.1 137 = .ok (.iload_n 1, 1) := by decide +kernel
theorem d_X6_step_138 : decode mX6_step.2.2.1 138 = .ok (.invokevirtual 155, 3) := by decide +kernel
theorem d_X6_step_141 : decode mX6_step.2.2.1 141 = .ok (.iconst 0, 1) := by decide +kernel
theorem d_X6_step_142 : decode mX6_step.2.2.1 142 = .ok (.invokestatic 119, 3) := by decide +kernel
theorem d_X6_step_145 : decode mX6_step.2.2.1 145 = .ok (.bipush 100, 2) := by decide +kernel
theorem d_X6_step_147 : decode mX6_step.2.2.1 147 = .ok (.invokestatic 158, 3) := by decide +kernel
theorem d_X6_step_150 : decode mX6_step.2.2.1 150 = .ok (.iconst (-1), 1) := by decide +kernel
theorem d_X6_step_151 : decode mX6_step.2.2.1 151 = .ok (.iconst 0, 1) := by decide +kernel
theorem d_X6_step_152 : decode mX6_step.2.2.1 152 = .ok (.invokevirtual 145, 3) := by decide +kernel
theorem d_X6_step_155 : decode mX6_step.2.2.1 155 = .ok (.pop, 1) := by decide +kernel
theorem d_X6_step_156 : decode mX6_step.2.2.1 156 = .ok (.goto 45, 3) := by decide +kernel
theorem d_X6_step_126 : decode mX6_step.2.2.1 126 = .ok (.aload_n 0, 1) := by decide +kernel
theorem d_X6_step_127 : decode mX6_step.2.2.1 127 = .ok (.iload_n 1, 1) := by decide +kernel
theorem d_X6_step_128 : decode mX6_step.2.2.1 128 = .ok (.iload_n 3, 1) := by decide +kernel
theorem d_X6_step_129 : decode mX6_step.2.2.1 129 = .ok (.invokevirtual 168, 3) := by decide +kernel
def mX6_free : MD := (6, yX6_free, cX6_free, 3, none)
theorem sel_X6_free : Cond.instanceMethod mX6_free.2.1 ∈ tblG ∧ Cond.selects mX6_free.2.1.cls mX6_free.2.1 mX6_free.2.1 ∈ tblG := ⟨tblG_in (inT5 (List.mem_of_getElem? (i := 134) rfl)) rfl, tblG_in (inP4 (q := (mX6_free.2.1, 18)) (List.mem_of_getElem? (i := 7) rfl)) rfl⟩
theorem s_6_168 : e_siteV 6 168 mX6_free 6 := ⟨tblG_in (inT5 (List.mem_of_getElem? (i := 132) rfl)) rfl, sel_X6_free.1, sel_X6_free.2, rfl⟩
theorem d_X6_free_0 : decode mX6_free.2.2.1 0 = .ok (.aload_n 0, 1) := by decide +kernel
theorem d_X6_free_1 : decode mX6_free.2.2.1 1 = .ok (.getfield 24, 3) := by decide +kernel
theorem d_X6_free_4 : decode mX6_free.2.2.1 4 = .ok (.iload_n 2, 1) := by decide +kernel
theorem d_X6_free_5 : decode mX6_free.2.2.1 5 = .ok (.iaload, 1) := by decide +kernel
theorem d_X6_free_6 : decode mX6_free.2.2.1 6 = .ok (.ifCond .ne 4, 3) := by decide +kernel
theorem d_X6_free_10 : decode mX6_free.2.2.1 10 = .ok (.aload_n 0, 1) := by decide +kernel
theorem d_X6_free_11 : decode mX6_free.2.2.1 11 = .ok (.iload_n 2, 1) := by decide +kernel
theorem d_X6_free_12 : decode mX6_free.2.2.1 12 = .ok (.aload_n 0, 1) := by decide +kernel
theorem d_X6_free_13 : decode mX6_free.2.2.1 13 = .ok (.getfield 68, 3) := by decide +kernel
theorem d_X6_free_16 : decode mX6_free.2.2.1 16 = .ok (.invokevirtual 125, 3) := by decide +kernel
def mX6_settle : MD := (6, yX6_settle, cX6_settle, 5, none)
theorem sel_X6_settle : Cond.instanceMethod mX6_settle.2.1 ∈ tblG ∧ Cond.selects mX6_settle.2.1.cls mX6_settle.2.1 mX6_settle.2.1 ∈ tblG := ⟨tblG_in (inT5 (List.mem_of_getElem? (i := 90) rfl)) rfl, tblG_in (inP4 (q := (mX6_settle.2.1, 18)) (List.mem_of_getElem? (i := 4) rfl)) rfl⟩
theorem s_6_125 : e_siteV 6 125 mX6_settle 6 := ⟨tblG_in (inT5 (List.mem_of_getElem? (i := 88) rfl)) rfl, sel_X6_settle.1, sel_X6_settle.2, rfl⟩
theorem d_X6_settle_0 : decode mX6_settle.2.2.1 0 = .ok (.aload_n 0, 1) := by decide +kernel
theorem d_X6_settle_1 : decode mX6_settle.2.2.1 1 = .ok (.getfield 30, 3) := by decide +kernel
theorem d_X6_settle_4 : decode mX6_settle.2.2.1 4 = .ok (.iload_n 1, 1) := by decide +kernel
theorem d_X6_settle_5 : decode mX6_settle.2.2.1 5 = .ok (.iaload, 1) := by decide +kernel
theorem d_X6_settle_6 : decode mX6_settle.2.2.1 6 = .ok (.istore_n 3, 1) := by decide +kernel
theorem d_X6_settle_7 : decode mX6_settle.2.2.1 7 = .ok (.aload_n 0, 1) := by decide +kernel
theorem d_X6_settle_8 : decode mX6_settle.2.2.1 8 = .ok (.getfield 24, 3) := by decide +kernel
theorem d_X6_settle_11 : decode mX6_settle.2.2.1 11 = .ok (.iload_n 1, 1) := by decide +kernel
theorem d_X6_settle_12 : decode mX6_settle.2.2.1 12 = .ok (.iaload, 1) := by decide +kernel
theorem d_X6_settle_13 : decode mX6_settle.2.2.1 13 = .ok (.iconst 1, 1) := by decide +kernel
theorem d_X6_settle_14 : decode mX6_settle.2.2.1 14 = .ok (.if_icmp .ne 7, 3) := by decide +kernel
theorem d_X6_settle_21 : decode mX6_settle.2.2.1 21 = .ok (.aload_n 0, 1) := by decide +kernel
theorem d_X6_settle_22 : decode mX6_settle.2.2.1 22 = .ok (.getfield 27, 3) := by decide +kernel
theorem d_X6_settle_25 : decode mX6_settle.2.2.1 25 = .ok (.iload_n 1, 1) := by decide +kernel
theorem d_X6_settle_26 : decode mX6_settle.2.2.1 26 = .ok (.iaload, 1) := by decide +kernel
theorem d_X6_settle_27 : decode mX6_settle.2.2.1 27 = .ok (.iload_n 3, 1) := by decide +kernel
theorem d_X6_settle_28 : decode mX6_settle.2.2.1 28 = .ok (.invokestatic 119, 3) := by decide +kernel
theorem d_X6_settle_31 : decode mX6_settle.2.2.1 31 = .ok (.iload_n 2, 1) := by decide +kernel
theorem d_X6_settle_32 : decode mX6_settle.2.2.1 32 = .ok (.invokestatic 158, 3) := by decide +kernel
theorem d_X6_settle_17 : decode mX6_settle.2.2.1 17 = .ok (.iload_n 2, 1) := by decide +kernel
theorem d_X6_settle_18 : decode mX6_settle.2.2.1 18 = .ok (.goto 17, 3) := by decide +kernel
theorem d_X6_settle_35 : decode mX6_settle.2.2.1 35 = .ok (.istore 4, 2) := by decide +kernel
theorem d_X6_settle_37 : decode mX6_settle.2.2.1 37 = .ok (.aload_n 0, 1) := by decide +kernel
theorem d_X6_settle_38 : decode mX6_settle.2.2.1 38 = .ok (.getfield 38, 3) := by decide +kernel
theorem d_X6_settle_41 : decode mX6_settle.2.2.1 41 = .ok (.iload_n 1, 1) := by decide +kernel
theorem d_X6_settle_42 : decode mX6_settle.2.2.1 42 = .ok (.iconst 2, 1) := by decide +kernel
theorem d_X6_settle_43 : decode mX6_settle.2.2.1 43 = .ok (.iload_n 3, 1) := by decide +kernel
theorem d_X6_settle_44 : decode mX6_settle.2.2.1 44 = .ok (.iload 4, 2) := by decide +kernel
theorem d_X6_settle_46 : decode mX6_settle.2.2.1 46 = .ok (.invokevirtual 192, 3) := by decide +kernel
def mX1_note : MD := (1, yX1_note, cX1_note, 7, none)
theorem sel_X1_note : Cond.instanceMethod mX1_note.2.1 ∈ tblG ∧ Cond.selects mX1_note.2.1.cls mX1_note.2.1 mX1_note.2.1 ∈ tblG := ⟨tblG_in (inT5 (List.mem_of_getElem? (i := 93) rfl)) rfl, tblG_in (inT5 (List.mem_of_getElem? (i := 94) rfl)) rfl⟩
theorem s_6_192 : e_siteV 6 192 mX1_note 1 := ⟨tblG_in (inT5 (List.mem_of_getElem? (i := 92) rfl)) rfl, sel_X1_note.1, sel_X1_note.2, rfl⟩
theorem d_X1_note_0 : decode mX1_note.2.2.1 0 = .ok (.iload_n 3, 1) := by decide +kernel
theorem d_X1_note_1 : decode mX1_note.2.2.1 1 = .ok (.iload 4, 2) := by decide +kernel
theorem d_X1_note_3 : decode mX1_note.2.2.1 3 = .ok (.if_icmp .lt 4, 3) := by decide +kernel
theorem d_X1_note_7 : decode mX1_note.2.2.1 7 = .ok (.aload_n 0, 1) := by decide +kernel
theorem d_X1_note_8 : decode mX1_note.2.2.1 8 = .ok (.getfield 9, 3) := by decide +kernel
theorem d_X1_note_11 : decode mX1_note.2.2.1 11 = .ok (.iload_n 1, 1) := by decide +kernel
theorem d_X1_note_12 : decode mX1_note.2.2.1 12 = .ok (.iconst 4, 1) := by decide +kernel
theorem d_X1_note_13 : decode mX1_note.2.2.1 13 = .ok (.imul, 1) := by decide +kernel
theorem d_X1_note_14 : decode mX1_note.2.2.1 14 = .ok (.iload_n 2, 1) := by decide +kernel
theorem d_X1_note_15 : decode mX1_note.2.2.1 15 = .ok (.iadd, 1) := by decide +kernel
theorem d_X1_note_16 : decode mX1_note.2.2.1 16 = .ok (.dup2, 1) := by decide +kernel
theorem d_X1_note_17 : decode mX1_note.2.2.1 17 = .ok (.iaload, 1) := by decide +kernel
theorem d_X1_note_18 : decode mX1_note.2.2.1 18 = .ok (.iload 4, 2) := by decide +kernel
theorem d_X1_note_20 : decode mX1_note.2.2.1 20 = .ok (.iload_n 3, 1) := by decide +kernel
theorem d_X1_note_21 : decode mX1_note.2.2.1 21 = .ok (.isub, 1) := by decide +kernel
theorem d_X1_note_22 : decode mX1_note.2.2.1 22 = .ok (.iadd, 1) := by decide +kernel
theorem d_X1_note_23 : decode mX1_note.2.2.1 23 = .ok (.iastore, 1) := by decide +kernel
theorem d_X1_note_24 : decode mX1_note.2.2.1 24 = .ok (.aload_n 0, 1) := by decide +kernel
theorem d_X1_note_25 : decode mX1_note.2.2.1 25 = .ok (.getfield 37, 3) := by decide +kernel
theorem d_X1_note_28 : decode mX1_note.2.2.1 28 = .ok (.ifCond .ne 4, 3) := by decide +kernel
theorem d_X1_note_31 : decode mX1_note.2.2.1 31 = .ok (.return_, 1) := by decide +kernel
theorem d_X1_note_6 : decode mX1_note.2.2.1 6 = .ok (.return_, 1) := by decide +kernel
theorem ok_X1_note : e_m mX1_note 4 := ⟨tblG_in (inT5 (List.mem_of_getElem? (i := 95) rfl)) rfl, plainFor_of_name (by decide), rfl, ini_1, by decide +kernel, by decide⟩
theorem d_X6_settle_49 : decode mX6_settle.2.2.1 49 = .ok (.aload_n 0, 1) := by decide +kernel
theorem d_X6_settle_50 : decode mX6_settle.2.2.1 50 = .ok (.getfield 38, 3) := by decide +kernel
theorem d_X6_settle_53 : decode mX6_settle.2.2.1 53 = .ok (.iload_n 1, 1) := by decide +kernel
theorem d_X6_settle_54 : decode mX6_settle.2.2.1 54 = .ok (.iconst 0, 1) := by decide +kernel
theorem d_X6_settle_55 : decode mX6_settle.2.2.1 55 = .ok (.iload 4, 2) := by decide +kernel
theorem d_X6_settle_57 : decode mX6_settle.2.2.1 57 = .ok (.iload_n 2, 1) := by decide +kernel
theorem d_X6_settle_58 : decode mX6_settle.2.2.1 58 = .ok (.invokevirtual 192, 3) := by decide +kernel
theorem d_X6_settle_61 : decode mX6_settle.2.2.1 61 = .ok (.aload_n 0, 1) := by decide +kernel
theorem d_X6_settle_62 : decode mX6_settle.2.2.1 62 = .ok (.getfield 30, 3) := by decide +kernel
theorem d_X6_settle_65 : decode mX6_settle.2.2.1 65 = .ok (.iload_n 1, 1) := by decide +kernel
theorem d_X6_settle_66 : decode mX6_settle.2.2.1 66 = .ok (.iload_n 2, 1) := by decide +kernel
theorem d_X6_settle_67 : decode mX6_settle.2.2.1 67 = .ok (.iastore, 1) := by decide +kernel
theorem d_X6_settle_68 : decode mX6_settle.2.2.1 68 = .ok (.return_, 1) := by decide +kernel
theorem ok_X6_settle : e_m mX6_settle 2 := ⟨tblG_in (inT5 (List.mem_of_getElem? (i := 91) rfl)) rfl, plainFor_of_name (by decide), rfl, ini_6, by decide +kernel, by decide⟩
theorem d_X6_free_19 : decode mX6_free.2.2.1 19 = .ok (.aload_n 0, 1) := by decide +kernel
theorem d_X6_free_20 : decode mX6_free.2.2.1 20 = .ok (.getfield 38, 3) := by decide +kernel
theorem d_X6_free_23 : decode mX6_free.2.2.1 23 = .ok (.iload_n 2, 1) := by decide +kernel
theorem d_X6_free_24 : decode mX6_free.2.2.1 24 = .ok (.aload_n 0, 1) := by decide +kernel
theorem d_X6_free_25 : decode mX6_free.2.2.1 25 = .ok (.getfield 68, 3) := by decide +kernel
theorem d_X6_free_28 : decode mX6_free.2.2.1 28 = .ok (.invokevirtual 128, 3) := by decide +kernel
def mX1_letGo : MD := (1, yX1_letGo, cX1_letGo, 3, none)
theorem sel_X1_letGo : Cond.instanceMethod mX1_letGo.2.1 ∈ tblG ∧ Cond.selects mX1_letGo.2.1.cls mX1_letGo.2.1 mX1_letGo.2.1 ∈ tblG := ⟨tblG_in (inT5 (List.mem_of_getElem? (i := 137) rfl)) rfl, tblG_in (inT5 (List.mem_of_getElem? (i := 138) rfl)) rfl⟩
theorem s_6_128 : e_siteV 6 128 mX1_letGo 1 := ⟨tblG_in (inT5 (List.mem_of_getElem? (i := 136) rfl)) rfl, sel_X1_letGo.1, sel_X1_letGo.2, rfl⟩
theorem d_X1_letGo_0 : decode mX1_letGo.2.2.1 0 = .ok (.aload_n 0, 1) := by decide +kernel
theorem d_X1_letGo_1 : decode mX1_letGo.2.2.1 1 = .ok (.getfield 37, 3) := by decide +kernel
theorem d_X1_letGo_4 : decode mX1_letGo.2.2.1 4 = .ok (.ifCond .eq 17, 3) := by decide +kernel
theorem d_X1_letGo_21 : decode mX1_letGo.2.2.1 21 = .ok (.return_, 1) := by decide +kernel
theorem ok_X1_letGo : e_m mX1_letGo 2 := ⟨tblG_in (inT5 (List.mem_of_getElem? (i := 139) rfl)) rfl, plainFor_of_name (by decide), rfl, ini_1, by decide +kernel, by decide⟩
theorem d_X6_free_31 : decode mX6_free.2.2.1 31 = .ok (.aload_n 0, 1) := by decide +kernel
theorem d_X6_free_32 : decode mX6_free.2.2.1 32 = .ok (.getfield 38, 3) := by decide +kernel
theorem d_X6_free_35 : decode mX6_free.2.2.1 35 = .ok (.iload_n 2, 1) := by decide +kernel
theorem d_X6_free_36 : decode mX6_free.2.2.1 36 = .ok (.iload_n 1, 1) := by decide +kernel
theorem d_X6_free_37 : decode mX6_free.2.2.1 37 = .ok (.invokevirtual 214, 3) := by decide +kernel
def mX1_act : MD := (1, yX1_act, cX1_act, 3, none)
theorem sel_X1_act : Cond.instanceMethod mX1_act.2.1 ∈ tblG ∧ Cond.selects mX1_act.2.1.cls mX1_act.2.1 mX1_act.2.1 ∈ tblG := ⟨tblG_in (inT5 (List.mem_of_getElem? (i := 109) rfl)) rfl, tblG_in (inT5 (List.mem_of_getElem? (i := 110) rfl)) rfl⟩
theorem s_6_214 : e_siteV 6 214 mX1_act 1 := ⟨tblG_in (inT5 (List.mem_of_getElem? (i := 108) rfl)) rfl, sel_X1_act.1, sel_X1_act.2, rfl⟩
theorem d_X1_act_0 : decode mX1_act.2.2.1 0 = .ok (.aload_n 0, 1) := by decide +kernel
theorem d_X1_act_1 : decode mX1_act.2.2.1 1 = .ok (.getfield 37, 3) := by decide +kernel
theorem d_X1_act_4 : decode mX1_act.2.2.1 4 = .ok (.ifCond .ne 4, 3) := by decide +kernel
theorem d_X1_act_7 : decode mX1_act.2.2.1 7 = .ok (.return_, 1) := by decide +kernel
theorem ok_X1_act : e_m mX1_act 2 := ⟨tblG_in (inT5 (List.mem_of_getElem? (i := 111) rfl)) rfl, plainFor_of_name (by decide), rfl, ini_1, by decide +kernel, by decide⟩
theorem d_X6_free_40 : decode mX6_free.2.2.1 40 = .ok (.aload_n 0, 1) := by decide +kernel
theorem d_X6_free_41 : decode mX6_free.2.2.1 41 = .ok (.getfield 24, 3) := by decide +kernel
theorem d_X6_free_44 : decode mX6_free.2.2.1 44 = .ok (.iload_n 2, 1) := by decide +kernel
theorem d_X6_free_45 : decode mX6_free.2.2.1 45 = .ok (.iconst 0, 1) := by decide +kernel
theorem d_X6_free_46 : decode mX6_free.2.2.1 46 = .ok (.iastore, 1) := by decide +kernel
theorem d_X6_free_47 : decode mX6_free.2.2.1 47 = .ok (.aload_n 0, 1) := by decide +kernel
theorem d_X6_free_48 : decode mX6_free.2.2.1 48 = .ok (.getfield 27, 3) := by decide +kernel
theorem d_X6_free_51 : decode mX6_free.2.2.1 51 = .ok (.iload_n 2, 1) := by decide +kernel
theorem d_X6_free_52 : decode mX6_free.2.2.1 52 = .ok (.aload_n 0, 1) := by decide +kernel
theorem d_X6_free_53 : decode mX6_free.2.2.1 53 = .ok (.getfield 68, 3) := by decide +kernel
theorem d_X6_free_56 : decode mX6_free.2.2.1 56 = .ok (.aload_n 0, 1) := by decide +kernel
theorem d_X6_free_57 : decode mX6_free.2.2.1 57 = .ok (.getfield 46, 3) := by decide +kernel
theorem d_X6_free_60 : decode mX6_free.2.2.1 60 = .ok (.getfield 208, 3) := by decide +kernel
theorem f_6_208 : e_fld 6 208 3 7 12 2 true := ⟨RX3, TX3, 7, rfl, rfl, by decide, rfl, rfl, rfl, iX3, tblG_in (inT1 (List.mem_of_getElem? (i := 191) rfl)) rfl, tyX3_ok, nmX3⟩
theorem d_X6_free_63 : decode mX6_free.2.2.1 63 = .ok (.iload_n 2, 1) := by decide +kernel
theorem d_X6_free_64 : decode mX6_free.2.2.1 64 = .ok (.iaload, 1) := by decide +kernel
theorem d_X6_free_65 : decode mX6_free.2.2.1 65 = .ok (.iadd, 1) := by decide +kernel
theorem d_X6_free_66 : decode mX6_free.2.2.1 66 = .ok (.iastore, 1) := by decide +kernel
theorem d_X6_free_67 : decode mX6_free.2.2.1 67 = .ok (.return_, 1) := by decide +kernel
theorem d_X6_free_9 : decode mX6_free.2.2.1 9 = .ok (.return_, 1) := by decide +kernel
theorem ok_X6_free : e_m mX6_free 2 := ⟨tblG_in (inT5 (List.mem_of_getElem? (i := 135) rfl)) rfl, plainFor_of_name (by decide), rfl, ini_6, by decide +kernel, by decide⟩
theorem d_X6_step_132 : decode mX6_step.2.2.1 132 = .ok (.goto 69, 3) := by decide +kernel
theorem d_X6_step_117 : decode mX6_step.2.2.1 117 = .ok (.aload_n 0, 1) := by decide +kernel
theorem d_X6_step_118 : decode mX6_step.2.2.1 118 = .ok (.iload_n 1, 1) := by decide +kernel
theorem d_X6_step_119 : decode mX6_step.2.2.1 119 = .ok (.iload_n 3, 1) := by decide +kernel
theorem d_X6_step_120 : decode mX6_step.2.2.1 120 = .ok (.invokevirtual 165, 3) := by decide +kernel
def mX6_hold : MD := (6, yX6_hold, cX6_hold, 4, none)
theorem sel_X6_hold : Cond.instanceMethod mX6_hold.2.1 ∈ tblG ∧ Cond.selects mX6_hold.2.1.cls mX6_hold.2.1 mX6_hold.2.1 ∈ tblG := ⟨tblG_in (inT5 (List.mem_of_getElem? (i := 126) rfl)) rfl, tblG_in (inP4 (q := (mX6_hold.2.1, 18)) (List.mem_of_getElem? (i := 6) rfl)) rfl⟩
theorem s_6_165 : e_siteV 6 165 mX6_hold 6 := ⟨tblG_in (inT5 (List.mem_of_getElem? (i := 124) rfl)) rfl, sel_X6_hold.1, sel_X6_hold.2, rfl⟩
theorem d_X6_hold_0 : decode mX6_hold.2.2.1 0 = .ok (.aload_n 0, 1) := by decide +kernel
theorem d_X6_hold_1 : decode mX6_hold.2.2.1 1 = .ok (.getfield 24, 3) := by decide +kernel
theorem d_X6_hold_4 : decode mX6_hold.2.2.1 4 = .ok (.iload_n 2, 1) := by decide +kernel
theorem d_X6_hold_5 : decode mX6_hold.2.2.1 5 = .ok (.iaload, 1) := by decide +kernel
theorem d_X6_hold_6 : decode mX6_hold.2.2.1 6 = .ok (.iconst 1, 1) := by decide +kernel
theorem d_X6_hold_7 : decode mX6_hold.2.2.1 7 = .ok (.if_icmp .ne 4, 3) := by decide +kernel
theorem d_X6_hold_11 : decode mX6_hold.2.2.1 11 = .ok (.aload_n 0, 1) := by decide +kernel
theorem d_X6_hold_12 : decode mX6_hold.2.2.1 12 = .ok (.getfield 68, 3) := by decide +kernel
