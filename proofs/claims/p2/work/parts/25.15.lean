theorem d_X8_stayUp_62 : decode mX8_stayUp.2.2.1 62 = .ok (.lshl, 1) := by decide +kernel
theorem d_X8_stayUp_63 : decode mX8_stayUp.2.2.1 63 = .ok (.lastore, 1) := by decide +kernel
theorem d_X8_stayUp_64 : decode mX8_stayUp.2.2.1 64 = .ok (.aload_n 0, 1) := by decide +kernel
theorem d_X8_stayUp_65 : decode mX8_stayUp.2.2.1 65 = .ok (.getfield 28, 3) := by decide +kernel
theorem d_X8_stayUp_68 : decode mX8_stayUp.2.2.1 68 = .ok (.iload_n 1, 1) := by decide +kernel
theorem d_X8_stayUp_69 : decode mX8_stayUp.2.2.1 69 = .ok (.aload_n 0, 1) := by decide +kernel
theorem d_X8_stayUp_70 : decode mX8_stayUp.2.2.1 70 = .ok (.getfield 43, 3) := by decide +kernel
theorem d_X8_stayUp_73 : decode mX8_stayUp.2.2.1 73 = .ok (.iastore, 1) := by decide +kernel
theorem d_X8_stayUp_74 : decode mX8_stayUp.2.2.1 74 = .ok (.aload_n 0, 1) := by decide +kernel
theorem d_X8_stayUp_75 : decode mX8_stayUp.2.2.1 75 = .ok (.dup, 1) := by decide +kernel
theorem d_X8_stayUp_76 : decode mX8_stayUp.2.2.1 76 = .ok (.getfield 43, 3) := by decide +kernel
theorem d_X8_stayUp_79 : decode mX8_stayUp.2.2.1 79 = .ok (.iconst 1, 1) := by decide +kernel
theorem d_X8_stayUp_80 : decode mX8_stayUp.2.2.1 80 = .ok (.iadd, 1) := by decide +kernel
theorem d_X8_stayUp_81 : decode mX8_stayUp.2.2.1 81 = .ok (.putfield 43, 3) := by decide +kernel
theorem d_X8_stayUp_21 : decode mX8_stayUp.2.2.1 21 = .ok (.return_, 1) := by decide +kernel
theorem d_X8_stayUp_84 : decode mX8_stayUp.2.2.1 84 = .ok (.aload_n 0, 1) := by decide +kernel
theorem d_X8_stayUp_85 : decode mX8_stayUp.2.2.1 85 = .ok (.getfield 28, 3) := by decide +kernel
theorem d_X8_stayUp_88 : decode mX8_stayUp.2.2.1 88 = .ok (.iload_n 1, 1) := by decide +kernel
theorem d_X8_stayUp_89 : decode mX8_stayUp.2.2.1 89 = .ok (.iaload, 1) := by decide +kernel
theorem d_X8_stayUp_90 : decode mX8_stayUp.2.2.1 90 = .ok (.istore 6, 2) := by decide +kernel
theorem d_X8_stayUp_92 : decode mX8_stayUp.2.2.1 92 = .ok (.aload_n 0, 1) := by decide +kernel
theorem d_X8_stayUp_93 : decode mX8_stayUp.2.2.1 93 = .ok (.getfield 18, 3) := by decide +kernel
theorem d_X8_stayUp_96 : decode mX8_stayUp.2.2.1 96 = .ok (.iload 6, 2) := by decide +kernel
theorem d_X8_stayUp_98 : decode mX8_stayUp.2.2.1 98 = .ok (.iload 4, 2) := by decide +kernel
theorem d_X8_stayUp_100 : decode mX8_stayUp.2.2.1 100 = .ok (.iastore, 1) := by decide +kernel
theorem d_X8_stayUp_101 : decode mX8_stayUp.2.2.1 101 = .ok (.aload_n 0, 1) := by decide +kernel
theorem d_X8_stayUp_102 : decode mX8_stayUp.2.2.1 102 = .ok (.getfield 21, 3) := by decide +kernel
theorem d_X8_stayUp_105 : decode mX8_stayUp.2.2.1 105 = .ok (.iload 6, 2) := by decide +kernel
theorem d_X8_stayUp_107 : decode mX8_stayUp.2.2.1 107 = .ok (.dup2, 1) := by decide +kernel
theorem d_X8_stayUp_108 : decode mX8_stayUp.2.2.1 108 = .ok (.iaload, 1) := by decide +kernel
theorem d_X8_stayUp_109 : decode mX8_stayUp.2.2.1 109 = .ok (.iload 5, 2) := by decide +kernel
theorem d_X8_stayUp_111 : decode mX8_stayUp.2.2.1 111 = .ok (.ifCond .eq 10, 3) := by decide +kernel
theorem d_X8_stayUp_114 : decode mX8_stayUp.2.2.1 114 = .ok (.iload 4, 2) := by decide +kernel
theorem d_X8_stayUp_116 : decode mX8_stayUp.2.2.1 116 = .ok (.iload_n 3, 1) := by decide +kernel
theorem d_X8_stayUp_117 : decode mX8_stayUp.2.2.1 117 = .ok (.isub, 1) := by decide +kernel
theorem d_X8_stayUp_118 : decode mX8_stayUp.2.2.1 118 = .ok (.goto 4, 3) := by decide +kernel
theorem d_X8_stayUp_122 : decode mX8_stayUp.2.2.1 122 = .ok (.iadd, 1) := by decide +kernel
theorem d_X8_stayUp_123 : decode mX8_stayUp.2.2.1 123 = .ok (.iastore, 1) := by decide +kernel
theorem d_X8_stayUp_124 : decode mX8_stayUp.2.2.1 124 = .ok (.return_, 1) := by decide +kernel
theorem ok_X8_stayUp : e_m mX8_stayUp 5 := ⟨tblG_in (inT5 (List.mem_of_getElem? (i := 103) rfl)) rfl, plainFor_of_name (by decide), rfl, ini_8, by decide +kernel, by decide⟩
theorem d_X1_note_44 : decode mX1_note.2.2.1 44 = .ok (.aload_n 0, 1) := by decide +kernel
theorem d_X1_note_45 : decode mX1_note.2.2.1 45 = .ok (.iload_n 1, 1) := by decide +kernel
theorem d_X1_note_46 : decode mX1_note.2.2.1 46 = .ok (.invokevirtual 67, 3) := by decide +kernel
theorem s_1_67 : e_siteV 1 67 mX1_fallAsleep 1 := ⟨tblG_in (inT5 (List.mem_of_getElem? (i := 96) rfl)) rfl, sel_X1_fallAsleep.1, sel_X1_fallAsleep.2, rfl⟩
theorem d_X1_fallAsleep_7 : decode mX1_fallAsleep.2.2.1 7 = .ok (.aload_n 0, 1) := by decide +kernel
theorem d_X1_fallAsleep_8 : decode mX1_fallAsleep.2.2.1 8 = .ok (.getfield 33, 3) := by decide +kernel
theorem d_X1_fallAsleep_11 : decode mX1_fallAsleep.2.2.1 11 = .ok (.getfield 78, 3) := by decide +kernel
theorem f_1_78 : e_fld 1 78 8 6 12 2 true := ⟨RX8, TX8, 6, rfl, rfl, by decide, rfl, rfl, rfl, iX8, tblG_in (inT2 (List.mem_of_getElem? (i := 29) rfl)) rfl, tyX8_ok, nmX8⟩
theorem d_X1_fallAsleep_14 : decode mX1_fallAsleep.2.2.1 14 = .ok (.iload_n 1, 1) := by decide +kernel
theorem d_X1_fallAsleep_15 : decode mX1_fallAsleep.2.2.1 15 = .ok (.iaload, 1) := by decide +kernel
theorem d_X1_fallAsleep_16 : decode mX1_fallAsleep.2.2.1 16 = .ok (.ifCond .lt 59, 3) := by decide +kernel
theorem d_X1_fallAsleep_19 : decode mX1_fallAsleep.2.2.1 19 = .ok (.aload_n 0, 1) := by decide +kernel
theorem d_X1_fallAsleep_20 : decode mX1_fallAsleep.2.2.1 20 = .ok (.getfield 15, 3) := by decide +kernel
theorem d_X1_fallAsleep_23 : decode mX1_fallAsleep.2.2.1 23 = .ok (.iload_n 1, 1) := by decide +kernel
theorem d_X1_fallAsleep_24 : decode mX1_fallAsleep.2.2.1 24 = .ok (.iaload, 1) := by decide +kernel
theorem d_X1_fallAsleep_25 : decode mX1_fallAsleep.2.2.1 25 = .ok (.ifCond .lt 50, 3) := by decide +kernel
theorem d_X1_fallAsleep_28 : decode mX1_fallAsleep.2.2.1 28 = .ok (.aload_n 0, 1) := by decide +kernel
theorem d_X1_fallAsleep_29 : decode mX1_fallAsleep.2.2.1 29 = .ok (.getfield 27, 3) := by decide +kernel
theorem d_X1_fallAsleep_32 : decode mX1_fallAsleep.2.2.1 32 = .ok (.aload_n 0, 1) := by decide +kernel
theorem d_X1_fallAsleep_33 : decode mX1_fallAsleep.2.2.1 33 = .ok (.getfield 15, 3) := by decide +kernel
theorem d_X1_fallAsleep_36 : decode mX1_fallAsleep.2.2.1 36 = .ok (.iload_n 1, 1) := by decide +kernel
theorem d_X1_fallAsleep_37 : decode mX1_fallAsleep.2.2.1 37 = .ok (.iaload, 1) := by decide +kernel
theorem d_X1_fallAsleep_38 : decode mX1_fallAsleep.2.2.1 38 = .ok (.dup2, 1) := by decide +kernel
theorem d_X1_fallAsleep_39 : decode mX1_fallAsleep.2.2.1 39 = .ok (.iaload, 1) := by decide +kernel
theorem d_X1_fallAsleep_40 : decode mX1_fallAsleep.2.2.1 40 = .ok (.aload_n 0, 1) := by decide +kernel
theorem d_X1_fallAsleep_41 : decode mX1_fallAsleep.2.2.1 41 = .ok (.getfield 41, 3) := by decide +kernel
theorem d_X1_fallAsleep_44 : decode mX1_fallAsleep.2.2.1 44 = .ok (.getfield 81, 3) := by decide +kernel
theorem f_1_81 : e_fld 1 81 3 7 12 2 true := ⟨RX3, TX3, 7, rfl, rfl, by decide, rfl, rfl, rfl, iX3, tblG_in (inT1 (List.mem_of_getElem? (i := 190) rfl)) rfl, tyX3_ok, nmX3⟩
theorem d_X1_fallAsleep_47 : decode mX1_fallAsleep.2.2.1 47 = .ok (.iload_n 1, 1) := by decide +kernel
theorem d_X1_fallAsleep_48 : decode mX1_fallAsleep.2.2.1 48 = .ok (.iaload, 1) := by decide +kernel
theorem d_X1_fallAsleep_49 : decode mX1_fallAsleep.2.2.1 49 = .ok (.aload_n 0, 1) := by decide +kernel
theorem d_X1_fallAsleep_50 : decode mX1_fallAsleep.2.2.1 50 = .ok (.getfield 41, 3) := by decide +kernel
theorem d_X1_fallAsleep_53 : decode mX1_fallAsleep.2.2.1 53 = .ok (.getfield 71, 3) := by decide +kernel
theorem d_X1_fallAsleep_56 : decode mX1_fallAsleep.2.2.1 56 = .ok (.iload_n 1, 1) := by decide +kernel
theorem d_X1_fallAsleep_57 : decode mX1_fallAsleep.2.2.1 57 = .ok (.iconst 4, 1) := by decide +kernel
theorem d_X1_fallAsleep_58 : decode mX1_fallAsleep.2.2.1 58 = .ok (.imul, 1) := by decide +kernel
theorem d_X1_fallAsleep_59 : decode mX1_fallAsleep.2.2.1 59 = .ok (.iconst 2, 1) := by decide +kernel
theorem d_X1_fallAsleep_60 : decode mX1_fallAsleep.2.2.1 60 = .ok (.iadd, 1) := by decide +kernel
theorem d_X1_fallAsleep_61 : decode mX1_fallAsleep.2.2.1 61 = .ok (.iaload, 1) := by decide +kernel
theorem d_X1_fallAsleep_62 : decode mX1_fallAsleep.2.2.1 62 = .ok (.imul, 1) := by decide +kernel
theorem d_X1_fallAsleep_63 : decode mX1_fallAsleep.2.2.1 63 = .ok (.iadd, 1) := by decide +kernel
theorem d_X1_fallAsleep_64 : decode mX1_fallAsleep.2.2.1 64 = .ok (.iastore, 1) := by decide +kernel
theorem d_X1_fallAsleep_65 : decode mX1_fallAsleep.2.2.1 65 = .ok (.aload_n 0, 1) := by decide +kernel
theorem d_X1_fallAsleep_66 : decode mX1_fallAsleep.2.2.1 66 = .ok (.getfield 33, 3) := by decide +kernel
theorem d_X1_fallAsleep_69 : decode mX1_fallAsleep.2.2.1 69 = .ok (.getfield 78, 3) := by decide +kernel
theorem d_X1_fallAsleep_72 : decode mX1_fallAsleep.2.2.1 72 = .ok (.iload_n 1, 1) := by decide +kernel
theorem d_X1_fallAsleep_73 : decode mX1_fallAsleep.2.2.1 73 = .ok (.iconst (-1), 1) := by decide +kernel
theorem d_X1_fallAsleep_74 : decode mX1_fallAsleep.2.2.1 74 = .ok (.iastore, 1) := by decide +kernel
theorem d_X1_note_49 : decode mX1_note.2.2.1 49 = .ok (.goto 93, 3) := by decide +kernel
theorem d_X1_letGo_7 : decode mX1_letGo.2.2.1 7 = .ok (.aload_n 0, 1) := by decide +kernel
theorem d_X1_letGo_8 : decode mX1_letGo.2.2.1 8 = .ok (.getfield 33, 3) := by decide +kernel
theorem d_X1_letGo_11 : decode mX1_letGo.2.2.1 11 = .ok (.aload_n 0, 1) := by decide +kernel
theorem d_X1_letGo_12 : decode mX1_letGo.2.2.1 12 = .ok (.getfield 18, 3) := by decide +kernel
theorem d_X1_letGo_15 : decode mX1_letGo.2.2.1 15 = .ok (.iload_n 1, 1) := by decide +kernel
theorem d_X1_letGo_16 : decode mX1_letGo.2.2.1 16 = .ok (.iaload, 1) := by decide +kernel
theorem d_X1_letGo_17 : decode mX1_letGo.2.2.1 17 = .ok (.iload_n 2, 1) := by decide +kernel
theorem d_X1_letGo_18 : decode mX1_letGo.2.2.1 18 = .ok (.invokevirtual 88, 3) := by decide +kernel
def mX8_coverTo : MD := (8, yX8_coverTo, cX8_coverTo, 3, none)
theorem sel_X8_coverTo : Cond.instanceMethod mX8_coverTo.2.1 ∈ tblG ∧ Cond.selects mX8_coverTo.2.1.cls mX8_coverTo.2.1 mX8_coverTo.2.1 ∈ tblG := ⟨tblG_in (inT5 (List.mem_of_getElem? (i := 141) rfl)) rfl, tblG_in (inT5 (List.mem_of_getElem? (i := 142) rfl)) rfl⟩
theorem s_1_88 : e_siteV 1 88 mX8_coverTo 8 := ⟨tblG_in (inT5 (List.mem_of_getElem? (i := 140) rfl)) rfl, sel_X8_coverTo.1, sel_X8_coverTo.2, rfl⟩
theorem d_X8_coverTo_0 : decode mX8_coverTo.2.2.1 0 = .ok (.iload_n 1, 1) := by decide +kernel
theorem d_X8_coverTo_1 : decode mX8_coverTo.2.2.1 1 = .ok (.ifCond .lt 18, 3) := by decide +kernel
theorem d_X8_coverTo_19 : decode mX8_coverTo.2.2.1 19 = .ok (.return_, 1) := by decide +kernel
theorem d_X8_coverTo_4 : decode mX8_coverTo.2.2.1 4 = .ok (.iload_n 1, 1) := by decide +kernel
theorem d_X8_coverTo_5 : decode mX8_coverTo.2.2.1 5 = .ok (.aload_n 0, 1) := by decide +kernel
theorem d_X8_coverTo_6 : decode mX8_coverTo.2.2.1 6 = .ok (.getfield 47, 3) := by decide +kernel
theorem d_X8_coverTo_9 : decode mX8_coverTo.2.2.1 9 = .ok (.if_icmp .ge 10, 3) := by decide +kernel
theorem d_X8_coverTo_12 : decode mX8_coverTo.2.2.1 12 = .ok (.aload_n 0, 1) := by decide +kernel
theorem d_X8_coverTo_13 : decode mX8_coverTo.2.2.1 13 = .ok (.getfield 40, 3) := by decide +kernel
theorem d_X8_coverTo_16 : decode mX8_coverTo.2.2.1 16 = .ok (.iload_n 1, 1) := by decide +kernel
theorem d_X8_coverTo_17 : decode mX8_coverTo.2.2.1 17 = .ok (.iload_n 2, 1) := by decide +kernel
theorem d_X8_coverTo_18 : decode mX8_coverTo.2.2.1 18 = .ok (.iastore, 1) := by decide +kernel
theorem ok_X8_coverTo : e_m mX8_coverTo 2 := ⟨tblG_in (inT5 (List.mem_of_getElem? (i := 143) rfl)) rfl, plainFor_of_name (by decide), rfl, ini_8, by decide +kernel, by decide⟩
theorem d_X1_act_8 : decode mX1_act.2.2.1 8 = .ok (.aload_n 0, 1) := by decide +kernel
theorem d_X1_act_9 : decode mX1_act.2.2.1 9 = .ok (.getfield 15, 3) := by decide +kernel
theorem d_X1_act_12 : decode mX1_act.2.2.1 12 = .ok (.iload_n 1, 1) := by decide +kernel
theorem d_X1_act_13 : decode mX1_act.2.2.1 13 = .ok (.iload_n 2, 1) := by decide +kernel
theorem d_X1_act_14 : decode mX1_act.2.2.1 14 = .ok (.iastore, 1) := by decide +kernel
theorem d_X1_act_15 : decode mX1_act.2.2.1 15 = .ok (.aload_n 0, 1) := by decide +kernel
theorem d_X1_act_16 : decode mX1_act.2.2.1 16 = .ok (.getfield 33, 3) := by decide +kernel
theorem d_X1_act_19 : decode mX1_act.2.2.1 19 = .ok (.iload_n 1, 1) := by decide +kernel
theorem d_X1_act_20 : decode mX1_act.2.2.1 20 = .ok (.iload_n 2, 1) := by decide +kernel
theorem d_X1_act_21 : decode mX1_act.2.2.1 21 = .ok (.invokevirtual 63, 3) := by decide +kernel
def mX8_join : MD := (8, yX8_join, cX8_join, 3, none)
theorem sel_X8_join : Cond.instanceMethod mX8_join.2.1 ∈ tblG ∧ Cond.selects mX8_join.2.1.cls mX8_join.2.1 mX8_join.2.1 ∈ tblG := ⟨tblG_in (inT5 (List.mem_of_getElem? (i := 113) rfl)) rfl, tblG_in (inT5 (List.mem_of_getElem? (i := 114) rfl)) rfl⟩
theorem s_1_63 : e_siteV 1 63 mX8_join 8 := ⟨tblG_in (inT5 (List.mem_of_getElem? (i := 112) rfl)) rfl, sel_X8_join.1, sel_X8_join.2, rfl⟩
theorem d_X8_join_0 : decode mX8_join.2.2.1 0 = .ok (.aload_n 0, 1) := by decide +kernel
theorem d_X8_join_1 : decode mX8_join.2.2.1 1 = .ok (.getfield 28, 3) := by decide +kernel
theorem d_X8_join_4 : decode mX8_join.2.2.1 4 = .ok (.iload_n 1, 1) := by decide +kernel
theorem d_X8_join_5 : decode mX8_join.2.2.1 5 = .ok (.iaload, 1) := by decide +kernel
theorem d_X8_join_6 : decode mX8_join.2.2.1 6 = .ok (.ifCond .lt 20, 3) := by decide +kernel
theorem d_X8_join_26 : decode mX8_join.2.2.1 26 = .ok (.return_, 1) := by decide +kernel
theorem d_X8_join_9 : decode mX8_join.2.2.1 9 = .ok (.aload_n 0, 1) := by decide +kernel
theorem d_X8_join_10 : decode mX8_join.2.2.1 10 = .ok (.getfield 24, 3) := by decide +kernel
theorem d_X8_join_13 : decode mX8_join.2.2.1 13 = .ok (.aload_n 0, 1) := by decide +kernel
theorem d_X8_join_14 : decode mX8_join.2.2.1 14 = .ok (.getfield 28, 3) := by decide +kernel
theorem d_X8_join_17 : decode mX8_join.2.2.1 17 = .ok (.iload_n 1, 1) := by decide +kernel
theorem d_X8_join_18 : decode mX8_join.2.2.1 18 = .ok (.iaload, 1) := by decide +kernel
theorem d_X8_join_19 : decode mX8_join.2.2.1 19 = .ok (.dup2, 1) := by decide +kernel
theorem d_X8_join_20 : decode mX8_join.2.2.1 20 = .ok (.laload, 1) := by decide +kernel
theorem d_X8_join_21 : decode mX8_join.2.2.1 21 = .ok (.lconst 1, 1) := by decide +kernel
theorem d_X8_join_22 : decode mX8_join.2.2.1 22 = .ok (.iload_n 2, 1) := by decide +kernel
theorem d_X8_join_23 : decode mX8_join.2.2.1 23 = .ok (.lshl, 1) := by decide +kernel
theorem d_X8_join_24 : decode mX8_join.2.2.1 24 = .ok (.lor, 1) := by decide +kernel
theorem d_X8_join_25 : decode mX8_join.2.2.1 25 = .ok (.lastore, 1) := by decide +kernel
theorem ok_X8_join : e_m mX8_join 2 := ⟨tblG_in (inT5 (List.mem_of_getElem? (i := 115) rfl)) rfl, plainFor_of_name (by decide), rfl, ini_8, by decide +kernel, by decide⟩
theorem d_X1_act_24 : decode mX1_act.2.2.1 24 = .ok (.return_, 1) := by decide +kernel
theorem d_X1_note_95 : decode mX1_note.2.2.1 95 = .ok (.iconst 0, 1) := by decide +kernel
theorem d_X1_note_115 : decode mX1_note.2.2.1 115 = .ok (.iload 6, 2) := by decide +kernel
theorem d_X1_note_138 : decode mX1_note.2.2.1 138 = .ok (.iconst 0, 1) := by decide +kernel
theorem d_X8_stayUp_121 : decode mX8_stayUp.2.2.1 121 = .ok (.iconst 0, 1) := by decide +kernel
theorem d_X1_holdFor_7 : decode mX1_holdFor.2.2.1 7 = .ok (.aload_n 0, 1) := by decide +kernel
theorem d_X1_holdFor_8 : decode mX1_holdFor.2.2.1 8 = .ok (.getfield 18, 3) := by decide +kernel
theorem d_X1_holdFor_11 : decode mX1_holdFor.2.2.1 11 = .ok (.iload_n 1, 1) := by decide +kernel
theorem d_X1_holdFor_12 : decode mX1_holdFor.2.2.1 12 = .ok (.aload_n 0, 1) := by decide +kernel
theorem d_X1_holdFor_13 : decode mX1_holdFor.2.2.1 13 = .ok (.getfield 33, 3) := by decide +kernel
theorem d_X1_holdFor_16 : decode mX1_holdFor.2.2.1 16 = .ok (.iload_n 1, 1) := by decide +kernel
theorem d_X1_holdFor_17 : decode mX1_holdFor.2.2.1 17 = .ok (.iload_n 2, 1) := by decide +kernel
theorem d_X1_holdFor_18 : decode mX1_holdFor.2.2.1 18 = .ok (.iload_n 3, 1) := by decide +kernel
theorem d_X1_holdFor_19 : decode mX1_holdFor.2.2.1 19 = .ok (.iload_n 3, 1) := by decide +kernel
theorem d_X1_holdFor_20 : decode mX1_holdFor.2.2.1 20 = .ok (.invokevirtual 84, 3) := by decide +kernel
def mX8_cover : MD := (8, yX8_cover, cX8_cover, 5, some .int)
theorem sel_X8_cover : Cond.instanceMethod mX8_cover.2.1 ∈ tblG ∧ Cond.selects mX8_cover.2.1.cls mX8_cover.2.1 mX8_cover.2.1 ∈ tblG := ⟨tblG_in (inT5 (List.mem_of_getElem? (i := 121) rfl)) rfl, tblG_in (inT5 (List.mem_of_getElem? (i := 122) rfl)) rfl⟩
theorem s_1_84 : e_siteV 1 84 mX8_cover 8 := ⟨tblG_in (inT5 (List.mem_of_getElem? (i := 120) rfl)) rfl, sel_X8_cover.1, sel_X8_cover.2, rfl⟩
theorem d_X8_cover_0 : decode mX8_cover.2.2.1 0 = .ok (.aload_n 0, 1) := by decide +kernel
theorem d_X8_cover_1 : decode mX8_cover.2.2.1 1 = .ok (.getfield 47, 3) := by decide +kernel
theorem d_X8_cover_4 : decode mX8_cover.2.2.1 4 = .ok (.aload_n 0, 1) := by decide +kernel
theorem d_X8_cover_5 : decode mX8_cover.2.2.1 5 = .ok (.getfield 31, 3) := by decide +kernel
theorem d_X8_cover_8 : decode mX8_cover.2.2.1 8 = .ok (.arraylength, 1) := by decide +kernel
theorem d_X8_cover_9 : decode mX8_cover.2.2.1 9 = .ok (.if_icmp .lt 5, 3) := by decide +kernel
theorem d_X8_cover_14 : decode mX8_cover.2.2.1 14 = .ok (.aload_n 0, 1) := by decide +kernel
theorem d_X8_cover_15 : decode mX8_cover.2.2.1 15 = .ok (.getfield 31, 3) := by decide +kernel
theorem d_X8_cover_18 : decode mX8_cover.2.2.1 18 = .ok (.aload_n 0, 1) := by decide +kernel
theorem d_X8_cover_19 : decode mX8_cover.2.2.1 19 = .ok (.getfield 47, 3) := by decide +kernel
theorem d_X8_cover_22 : decode mX8_cover.2.2.1 22 = .ok (.iload_n 1, 1) := by decide +kernel
theorem d_X8_cover_23 : decode mX8_cover.2.2.1 23 = .ok (.iastore, 1) := by decide +kernel
theorem d_X8_cover_24 : decode mX8_cover.2.2.1 24 = .ok (.aload_n 0, 1) := by decide +kernel
theorem d_X8_cover_25 : decode mX8_cover.2.2.1 25 = .ok (.getfield 34, 3) := by decide +kernel
theorem d_X8_cover_28 : decode mX8_cover.2.2.1 28 = .ok (.aload_n 0, 1) := by decide +kernel
theorem d_X8_cover_29 : decode mX8_cover.2.2.1 29 = .ok (.getfield 47, 3) := by decide +kernel
theorem d_X8_cover_32 : decode mX8_cover.2.2.1 32 = .ok (.iload_n 2, 1) := by decide +kernel
theorem d_X8_cover_33 : decode mX8_cover.2.2.1 33 = .ok (.iastore, 1) := by decide +kernel
theorem d_X8_cover_34 : decode mX8_cover.2.2.1 34 = .ok (.aload_n 0, 1) := by decide +kernel
theorem d_X8_cover_35 : decode mX8_cover.2.2.1 35 = .ok (.getfield 37, 3) := by decide +kernel
theorem d_X8_cover_38 : decode mX8_cover.2.2.1 38 = .ok (.aload_n 0, 1) := by decide +kernel
theorem d_X8_cover_39 : decode mX8_cover.2.2.1 39 = .ok (.getfield 47, 3) := by decide +kernel
theorem d_X8_cover_42 : decode mX8_cover.2.2.1 42 = .ok (.iload_n 3, 1) := by decide +kernel
theorem d_X8_cover_43 : decode mX8_cover.2.2.1 43 = .ok (.iastore, 1) := by decide +kernel
theorem d_X8_cover_44 : decode mX8_cover.2.2.1 44 = .ok (.aload_n 0, 1) := by decide +kernel
theorem d_X8_cover_45 : decode mX8_cover.2.2.1 45 = .ok (.getfield 40, 3) := by decide +kernel
theorem d_X8_cover_48 : decode mX8_cover.2.2.1 48 = .ok (.aload_n 0, 1) := by decide +kernel
theorem d_X8_cover_49 : decode mX8_cover.2.2.1 49 = .ok (.getfield 47, 3) := by decide +kernel
theorem d_X8_cover_52 : decode mX8_cover.2.2.1 52 = .ok (.iload 4, 2) := by decide +kernel
theorem d_X8_cover_54 : decode mX8_cover.2.2.1 54 = .ok (.iastore, 1) := by decide +kernel
theorem d_X8_cover_55 : decode mX8_cover.2.2.1 55 = .ok (.aload_n 0, 1) := by decide +kernel
theorem d_X8_cover_56 : decode mX8_cover.2.2.1 56 = .ok (.dup, 1) := by decide +kernel
theorem d_X8_cover_57 : decode mX8_cover.2.2.1 57 = .ok (.getfield 47, 3) := by decide +kernel
theorem d_X8_cover_60 : decode mX8_cover.2.2.1 60 = .ok (.iconst 1, 1) := by decide +kernel
theorem d_X8_cover_61 : decode mX8_cover.2.2.1 61 = .ok (.iadd, 1) := by decide +kernel
theorem d_X8_cover_62 : decode mX8_cover.2.2.1 62 = .ok (.putfield 47, 3) := by decide +kernel
theorem d_X8_cover_65 : decode mX8_cover.2.2.1 65 = .ok (.aload_n 0, 1) := by decide +kernel
theorem d_X8_cover_66 : decode mX8_cover.2.2.1 66 = .ok (.getfield 47, 3) := by decide +kernel
theorem d_X8_cover_69 : decode mX8_cover.2.2.1 69 = .ok (.iconst 1, 1) := by decide +kernel
theorem d_X8_cover_70 : decode mX8_cover.2.2.1 70 = .ok (.isub, 1) := by decide +kernel
theorem d_X8_cover_71 : decode mX8_cover.2.2.1 71 = .ok (.ireturn, 1) := by decide +kernel
theorem d_X8_cover_12 : decode mX8_cover.2.2.1 12 = .ok (.iconst (-1), 1) := by decide +kernel
theorem d_X8_cover_13 : decode mX8_cover.2.2.1 13 = .ok (.ireturn, 1) := by decide +kernel
theorem ok_X8_cover : e_m mX8_cover 4 := ⟨tblG_in (inT5 (List.mem_of_getElem? (i := 123) rfl)) rfl, plainFor_of_name (by decide), rfl, ini_8, by decide +kernel, by decide⟩
theorem d_X1_holdFor_23 : decode mX1_holdFor.2.2.1 23 = .ok (.iastore, 1) := by decide +kernel
theorem d_X1_workFor_7 : decode mX1_workFor.2.2.1 7 = .ok (.aload_n 0, 1) := by decide +kernel
theorem d_X1_workFor_8 : decode mX1_workFor.2.2.1 8 = .ok (.getfield 33, 3) := by decide +kernel
theorem d_X1_workFor_11 : decode mX1_workFor.2.2.1 11 = .ok (.iload_n 1, 1) := by decide +kernel
theorem d_X1_workFor_12 : decode mX1_workFor.2.2.1 12 = .ok (.iload_n 2, 1) := by decide +kernel
theorem d_X1_workFor_13 : decode mX1_workFor.2.2.1 13 = .ok (.iload_n 3, 1) := by decide +kernel
theorem d_X1_workFor_14 : decode mX1_workFor.2.2.1 14 = .ok (.iload 4, 2) := by decide +kernel
theorem d_X1_workFor_16 : decode mX1_workFor.2.2.1 16 = .ok (.invokevirtual 84, 3) := by decide +kernel
theorem d_X1_workFor_19 : decode mX1_workFor.2.2.1 19 = .ok (.pop, 1) := by decide +kernel
theorem d_X1_payHeart_7 : decode mX1_payHeart.2.2.1 7 = .ok (.aload_n 0, 1) := by decide +kernel
theorem d_X1_payHeart_8 : decode mX1_payHeart.2.2.1 8 = .ok (.getfield 21, 3) := by decide +kernel
theorem d_X1_payHeart_11 : decode mX1_payHeart.2.2.1 11 = .ok (.iload_n 1, 1) := by decide +kernel
theorem d_X1_payHeart_12 : decode mX1_payHeart.2.2.1 12 = .ok (.dup2, 1) := by decide +kernel
theorem d_X1_payHeart_13 : decode mX1_payHeart.2.2.1 13 = .ok (.iaload, 1) := by decide +kernel
theorem d_X1_payHeart_14 : decode mX1_payHeart.2.2.1 14 = .ok (.iload_n 2, 1) := by decide +kernel
theorem d_X1_payHeart_15 : decode mX1_payHeart.2.2.1 15 = .ok (.aload_n 0, 1) := by decide +kernel
theorem d_X1_payHeart_16 : decode mX1_payHeart.2.2.1 16 = .ok (.getfield 41, 3) := by decide +kernel
theorem d_X1_payHeart_19 : decode mX1_payHeart.2.2.1 19 = .ok (.getfield 57, 3) := by decide +kernel
theorem f_1_57 : e_fld 1 57 3 0 12 0 false := ⟨RX3, TX3, 0, rfl, rfl, by decide, rfl, rfl, rfl, iX3, tblG_in (inT1 (List.mem_of_getElem? (i := 160) rfl)) rfl, tyX3_ok, nmX3⟩
theorem d_X1_payHeart_22 : decode mX1_payHeart.2.2.1 22 = .ok (.imul, 1) := by decide +kernel
theorem d_X1_payHeart_23 : decode mX1_payHeart.2.2.1 23 = .ok (.iadd, 1) := by decide +kernel
theorem d_X1_payHeart_24 : decode mX1_payHeart.2.2.1 24 = .ok (.iastore, 1) := by decide +kernel
