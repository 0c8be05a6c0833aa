/-! 25.11 -/
section
theorem d_X6_hold_15 : decode mX6_hold.2.2.1 15 = .ok (.istore_n 3, 1) := by decide +kernel
theorem d_X6_hold_16 : decode mX6_hold.2.2.1 16 = .ok (.aload_n 0, 1) := by decide +kernel
theorem d_X6_hold_17 : decode mX6_hold.2.2.1 17 = .ok (.aload_n 0, 1) := by decide +kernel
theorem d_X6_hold_18 : decode mX6_hold.2.2.1 18 = .ok (.iload_n 2, 1) := by decide +kernel
theorem d_X6_hold_19 : decode mX6_hold.2.2.1 19 = .ok (.invokevirtual 199, 3) := by decide +kernel
def mX6_wakeOf : MD := (6, yX6_wakeOf, cX6_wakeOf, 2, some .int)
theorem sel_X6_wakeOf : Cond.instanceMethod mX6_wakeOf.2.1 ∈ tblG ∧ Cond.selects mX6_wakeOf.2.1.cls mX6_wakeOf.2.1 mX6_wakeOf.2.1 ∈ tblG := ⟨tblG_in (inT5 (List.mem_of_getElem? (i := 86) rfl)) rfl, tblG_in (inP4 (q := (mX6_wakeOf.2.1, 18)) (List.mem_of_getElem? (i := 3) rfl)) rfl⟩
theorem s_6_199 : e_siteV 6 199 mX6_wakeOf 6 := ⟨tblG_in (inT5 (List.mem_of_getElem? (i := 84) rfl)) rfl, sel_X6_wakeOf.1, sel_X6_wakeOf.2, rfl⟩
theorem d_X6_wakeOf_0 : decode mX6_wakeOf.2.2.1 0 = .ok (.aload_n 0, 1) := by decide +kernel
theorem d_X6_wakeOf_1 : decode mX6_wakeOf.2.2.1 1 = .ok (.getfield 24, 3) := by decide +kernel
theorem d_X6_wakeOf_4 : decode mX6_wakeOf.2.2.1 4 = .ok (.iload_n 1, 1) := by decide +kernel
theorem d_X6_wakeOf_5 : decode mX6_wakeOf.2.2.1 5 = .ok (.iaload, 1) := by decide +kernel
theorem d_X6_wakeOf_6 : decode mX6_wakeOf.2.2.1 6 = .ok (.ifCond .ne 28, 3) := by decide +kernel
theorem d_X6_wakeOf_34 : decode mX6_wakeOf.2.2.1 34 = .ok (.iconst 0, 1) := by decide +kernel
theorem d_X6_wakeOf_35 : decode mX6_wakeOf.2.2.1 35 = .ok (.ireturn, 1) := by decide +kernel
theorem d_X6_wakeOf_9 : decode mX6_wakeOf.2.2.1 9 = .ok (.aload_n 0, 1) := by decide +kernel
theorem d_X6_wakeOf_10 : decode mX6_wakeOf.2.2.1 10 = .ok (.getfield 27, 3) := by decide +kernel
theorem d_X6_wakeOf_13 : decode mX6_wakeOf.2.2.1 13 = .ok (.iload_n 1, 1) := by decide +kernel
theorem d_X6_wakeOf_14 : decode mX6_wakeOf.2.2.1 14 = .ok (.iaload, 1) := by decide +kernel
theorem d_X6_wakeOf_15 : decode mX6_wakeOf.2.2.1 15 = .ok (.aload_n 0, 1) := by decide +kernel
theorem d_X6_wakeOf_16 : decode mX6_wakeOf.2.2.1 16 = .ok (.getfield 68, 3) := by decide +kernel
theorem d_X6_wakeOf_19 : decode mX6_wakeOf.2.2.1 19 = .ok (.if_icmp .gt 15, 3) := by decide +kernel
theorem d_X6_wakeOf_22 : decode mX6_wakeOf.2.2.1 22 = .ok (.aload_n 0, 1) := by decide +kernel
theorem d_X6_wakeOf_23 : decode mX6_wakeOf.2.2.1 23 = .ok (.getfield 46, 3) := by decide +kernel
theorem d_X6_wakeOf_26 : decode mX6_wakeOf.2.2.1 26 = .ok (.getfield 196, 3) := by decide +kernel
theorem f_6_196 : e_fld 6 196 3 6 12 2 true := ⟨RX3, TX3, 6, rfl, rfl, by decide, rfl, rfl, rfl, iX3, tblG_in (inT1 (List.mem_of_getElem? (i := 186) rfl)) rfl, tyX3_ok, nmX3⟩
theorem d_X6_wakeOf_29 : decode mX6_wakeOf.2.2.1 29 = .ok (.iload_n 1, 1) := by decide +kernel
theorem d_X6_wakeOf_30 : decode mX6_wakeOf.2.2.1 30 = .ok (.iaload, 1) := by decide +kernel
theorem d_X6_wakeOf_31 : decode mX6_wakeOf.2.2.1 31 = .ok (.goto 4, 3) := by decide +kernel
theorem ok_X6_wakeOf : e_m mX6_wakeOf 1 := ⟨tblG_in (inT5 (List.mem_of_getElem? (i := 87) rfl)) rfl, plainFor_of_name (by decide), rfl, ini_6, by decide +kernel, by decide⟩
theorem d_X6_hold_22 : decode mX6_hold.2.2.1 22 = .ok (.iload_n 2, 1) := by decide +kernel
theorem d_X6_hold_23 : decode mX6_hold.2.2.1 23 = .ok (.iconst 1, 1) := by decide +kernel
theorem d_X6_hold_24 : decode mX6_hold.2.2.1 24 = .ok (.invokevirtual 145, 3) := by decide +kernel
theorem d_X6_sipsAt_74 : decode mX6_sipsAt.2.2.1 74 = .ok (.iload_n 3, 1) := by decide +kernel
theorem d_X6_sipsAt_75 : decode mX6_sipsAt.2.2.1 75 = .ok (.goto 5, 3) := by decide +kernel
theorem d_X6_hold_27 : decode mX6_hold.2.2.1 27 = .ok (.pop, 1) := by decide +kernel
theorem d_X6_hold_28 : decode mX6_hold.2.2.1 28 = .ok (.aload_n 0, 1) := by decide +kernel
theorem d_X6_hold_29 : decode mX6_hold.2.2.1 29 = .ok (.getfield 62, 3) := by decide +kernel
theorem d_X6_hold_32 : decode mX6_hold.2.2.1 32 = .ok (.ifCond .eq 12, 3) := by decide +kernel
theorem d_X6_hold_35 : decode mX6_hold.2.2.1 35 = .ok (.aload_n 0, 1) := by decide +kernel
theorem d_X6_hold_36 : decode mX6_hold.2.2.1 36 = .ok (.getfield 68, 3) := by decide +kernel
theorem d_X6_hold_39 : decode mX6_hold.2.2.1 39 = .ok (.iload_n 3, 1) := by decide +kernel
theorem d_X6_hold_40 : decode mX6_hold.2.2.1 40 = .ok (.if_icmp .ne 4, 3) := by decide +kernel
theorem d_X6_hold_43 : decode mX6_hold.2.2.1 43 = .ok (.return_, 1) := by decide +kernel
theorem d_X6_hold_10 : decode mX6_hold.2.2.1 10 = .ok (.return_, 1) := by decide +kernel
theorem d_X6_hold_44 : decode mX6_hold.2.2.1 44 = .ok (.aload_n 0, 1) := by decide +kernel
theorem d_X6_hold_45 : decode mX6_hold.2.2.1 45 = .ok (.iload_n 2, 1) := by decide +kernel
theorem d_X6_hold_46 : decode mX6_hold.2.2.1 46 = .ok (.iload_n 3, 1) := by decide +kernel
theorem d_X6_hold_47 : decode mX6_hold.2.2.1 47 = .ok (.invokevirtual 125, 3) := by decide +kernel
theorem d_X6_hold_50 : decode mX6_hold.2.2.1 50 = .ok (.aload_n 0, 1) := by decide +kernel
theorem d_X6_hold_51 : decode mX6_hold.2.2.1 51 = .ok (.iload_n 1, 1) := by decide +kernel
theorem d_X6_hold_52 : decode mX6_hold.2.2.1 52 = .ok (.iload_n 2, 1) := by decide +kernel
theorem d_X6_hold_53 : decode mX6_hold.2.2.1 53 = .ok (.iload_n 3, 1) := by decide +kernel
theorem d_X6_hold_54 : decode mX6_hold.2.2.1 54 = .ok (.aload_n 0, 1) := by decide +kernel
theorem d_X6_hold_55 : decode mX6_hold.2.2.1 55 = .ok (.getfield 68, 3) := by decide +kernel
theorem d_X6_hold_58 : decode mX6_hold.2.2.1 58 = .ok (.invokevirtual 202, 3) := by decide +kernel
def mX6_bookBusy : MD := (6, yX6_bookBusy, cX6_bookBusy, 5, none)
theorem sel_X6_bookBusy : Cond.instanceMethod mX6_bookBusy.2.1 ∈ tblG ∧ Cond.selects mX6_bookBusy.2.1.cls mX6_bookBusy.2.1 mX6_bookBusy.2.1 ∈ tblG := ⟨tblG_in (inT5 (List.mem_of_getElem? (i := 106) rfl)) rfl, tblG_in (inP4 (q := (mX6_bookBusy.2.1, 18)) (List.mem_of_getElem? (i := 5) rfl)) rfl⟩
theorem s_6_202 : e_siteV 6 202 mX6_bookBusy 6 := ⟨tblG_in (inT5 (List.mem_of_getElem? (i := 104) rfl)) rfl, sel_X6_bookBusy.1, sel_X6_bookBusy.2, rfl⟩
theorem d_X6_bookBusy_0 : decode mX6_bookBusy.2.2.1 0 = .ok (.aload_n 0, 1) := by decide +kernel
theorem d_X6_bookBusy_1 : decode mX6_bookBusy.2.2.1 1 = .ok (.getfield 38, 3) := by decide +kernel
theorem d_X6_bookBusy_4 : decode mX6_bookBusy.2.2.1 4 = .ok (.iload_n 2, 1) := by decide +kernel
theorem d_X6_bookBusy_5 : decode mX6_bookBusy.2.2.1 5 = .ok (.iload_n 1, 1) := by decide +kernel
theorem d_X6_bookBusy_6 : decode mX6_bookBusy.2.2.1 6 = .ok (.invokevirtual 214, 3) := by decide +kernel
theorem d_X6_bookBusy_9 : decode mX6_bookBusy.2.2.1 9 = .ok (.aload_n 0, 1) := by decide +kernel
theorem d_X6_bookBusy_10 : decode mX6_bookBusy.2.2.1 10 = .ok (.getfield 38, 3) := by decide +kernel
theorem d_X6_bookBusy_13 : decode mX6_bookBusy.2.2.1 13 = .ok (.iload_n 2, 1) := by decide +kernel
theorem d_X6_bookBusy_14 : decode mX6_bookBusy.2.2.1 14 = .ok (.iconst 1, 1) := by decide +kernel
theorem d_X6_bookBusy_15 : decode mX6_bookBusy.2.2.1 15 = .ok (.iload_n 3, 1) := by decide +kernel
theorem d_X6_bookBusy_16 : decode mX6_bookBusy.2.2.1 16 = .ok (.iload 4, 2) := by decide +kernel
theorem d_X6_bookBusy_18 : decode mX6_bookBusy.2.2.1 18 = .ok (.invokevirtual 192, 3) := by decide +kernel
theorem d_X6_bookBusy_21 : decode mX6_bookBusy.2.2.1 21 = .ok (.aload_n 0, 1) := by decide +kernel
theorem d_X6_bookBusy_22 : decode mX6_bookBusy.2.2.1 22 = .ok (.getfield 38, 3) := by decide +kernel
theorem d_X6_bookBusy_25 : decode mX6_bookBusy.2.2.1 25 = .ok (.iload_n 2, 1) := by decide +kernel
theorem d_X6_bookBusy_26 : decode mX6_bookBusy.2.2.1 26 = .ok (.iconst 3, 1) := by decide +kernel
theorem d_X6_bookBusy_27 : decode mX6_bookBusy.2.2.1 27 = .ok (.iload 4, 2) := by decide +kernel
theorem d_X6_bookBusy_29 : decode mX6_bookBusy.2.2.1 29 = .ok (.aload_n 0, 1) := by decide +kernel
theorem d_X6_bookBusy_30 : decode mX6_bookBusy.2.2.1 30 = .ok (.getfield 68, 3) := by decide +kernel
theorem d_X6_bookBusy_33 : decode mX6_bookBusy.2.2.1 33 = .ok (.invokevirtual 192, 3) := by decide +kernel
theorem d_X6_bookBusy_36 : decode mX6_bookBusy.2.2.1 36 = .ok (.aload_n 0, 1) := by decide +kernel
theorem d_X6_bookBusy_37 : decode mX6_bookBusy.2.2.1 37 = .ok (.getfield 30, 3) := by decide +kernel
theorem d_X6_bookBusy_40 : decode mX6_bookBusy.2.2.1 40 = .ok (.iload_n 2, 1) := by decide +kernel
theorem d_X6_bookBusy_41 : decode mX6_bookBusy.2.2.1 41 = .ok (.aload_n 0, 1) := by decide +kernel
theorem d_X6_bookBusy_42 : decode mX6_bookBusy.2.2.1 42 = .ok (.getfield 68, 3) := by decide +kernel
theorem d_X6_bookBusy_45 : decode mX6_bookBusy.2.2.1 45 = .ok (.iastore, 1) := by decide +kernel
theorem d_X6_bookBusy_46 : decode mX6_bookBusy.2.2.1 46 = .ok (.return_, 1) := by decide +kernel
theorem ok_X6_bookBusy : e_m mX6_bookBusy 4 := ⟨tblG_in (inT5 (List.mem_of_getElem? (i := 107) rfl)) rfl, plainFor_of_name (by decide), rfl, ini_6, by decide +kernel, by decide⟩
theorem d_X6_hold_61 : decode mX6_hold.2.2.1 61 = .ok (.aload_n 0, 1) := by decide +kernel
theorem d_X6_hold_62 : decode mX6_hold.2.2.1 62 = .ok (.getfield 38, 3) := by decide +kernel
theorem d_X6_hold_65 : decode mX6_hold.2.2.1 65 = .ok (.iload_n 2, 1) := by decide +kernel
theorem d_X6_hold_66 : decode mX6_hold.2.2.1 66 = .ok (.iload_n 1, 1) := by decide +kernel
theorem d_X6_hold_67 : decode mX6_hold.2.2.1 67 = .ok (.aload_n 0, 1) := by decide +kernel
theorem d_X6_hold_68 : decode mX6_hold.2.2.1 68 = .ok (.getfield 68, 3) := by decide +kernel
theorem d_X6_hold_71 : decode mX6_hold.2.2.1 71 = .ok (.invokevirtual 211, 3) := by decide +kernel
def mX1_holdFor : MD := (1, yX1_holdFor, cX1_holdFor, 4, none)
theorem sel_X1_holdFor : Cond.instanceMethod mX1_holdFor.2.1 ∈ tblG ∧ Cond.selects mX1_holdFor.2.1.cls mX1_holdFor.2.1 mX1_holdFor.2.1 ∈ tblG := ⟨tblG_in (inT5 (List.mem_of_getElem? (i := 129) rfl)) rfl, tblG_in (inT5 (List.mem_of_getElem? (i := 130) rfl)) rfl⟩
theorem s_6_211 : e_siteV 6 211 mX1_holdFor 1 := ⟨tblG_in (inT5 (List.mem_of_getElem? (i := 128) rfl)) rfl, sel_X1_holdFor.1, sel_X1_holdFor.2, rfl⟩
theorem d_X1_holdFor_0 : decode mX1_holdFor.2.2.1 0 = .ok (.aload_n 0, 1) := by decide +kernel
theorem d_X1_holdFor_1 : decode mX1_holdFor.2.2.1 1 = .ok (.getfield 37, 3) := by decide +kernel
theorem d_X1_holdFor_4 : decode mX1_holdFor.2.2.1 4 = .ok (.ifCond .eq 20, 3) := by decide +kernel
theorem d_X1_holdFor_24 : decode mX1_holdFor.2.2.1 24 = .ok (.return_, 1) := by decide +kernel
theorem ok_X1_holdFor : e_m mX1_holdFor 3 := ⟨tblG_in (inT5 (List.mem_of_getElem? (i := 131) rfl)) rfl, plainFor_of_name (by decide), rfl, ini_1, by decide +kernel, by decide⟩
theorem d_X6_hold_74 : decode mX6_hold.2.2.1 74 = .ok (.aload_n 0, 1) := by decide +kernel
theorem d_X6_hold_75 : decode mX6_hold.2.2.1 75 = .ok (.getfield 62, 3) := by decide +kernel
theorem d_X6_hold_78 : decode mX6_hold.2.2.1 78 = .ok (.ifCond .ne 13, 3) := by decide +kernel
theorem d_X6_hold_91 : decode mX6_hold.2.2.1 91 = .ok (.aload_n 0, 1) := by decide +kernel
theorem d_X6_hold_92 : decode mX6_hold.2.2.1 92 = .ok (.getfield 27, 3) := by decide +kernel
theorem d_X6_hold_95 : decode mX6_hold.2.2.1 95 = .ok (.iload_n 2, 1) := by decide +kernel
theorem d_X6_hold_96 : decode mX6_hold.2.2.1 96 = .ok (.aload_n 0, 1) := by decide +kernel
theorem d_X6_hold_97 : decode mX6_hold.2.2.1 97 = .ok (.getfield 68, 3) := by decide +kernel
theorem d_X6_hold_100 : decode mX6_hold.2.2.1 100 = .ok (.iconst 1, 1) := by decide +kernel
theorem d_X6_hold_101 : decode mX6_hold.2.2.1 101 = .ok (.iadd, 1) := by decide +kernel
theorem d_X6_hold_102 : decode mX6_hold.2.2.1 102 = .ok (.iastore, 1) := by decide +kernel
theorem d_X6_hold_103 : decode mX6_hold.2.2.1 103 = .ok (.return_, 1) := by decide +kernel
theorem d_X6_hold_81 : decode mX6_hold.2.2.1 81 = .ok (.aload_n 0, 1) := by decide +kernel
theorem d_X6_hold_82 : decode mX6_hold.2.2.1 82 = .ok (.getfield 24, 3) := by decide +kernel
theorem d_X6_hold_85 : decode mX6_hold.2.2.1 85 = .ok (.iload_n 2, 1) := by decide +kernel
theorem d_X6_hold_86 : decode mX6_hold.2.2.1 86 = .ok (.iconst 1, 1) := by decide +kernel
theorem d_X6_hold_87 : decode mX6_hold.2.2.1 87 = .ok (.iastore, 1) := by decide +kernel
theorem d_X6_hold_88 : decode mX6_hold.2.2.1 88 = .ok (.goto 15, 3) := by decide +kernel
theorem ok_X6_hold : e_m mX6_hold 2 := ⟨tblG_in (inT5 (List.mem_of_getElem? (i := 127) rfl)) rfl, plainFor_of_name (by decide), rfl, ini_6, by decide +kernel, by decide⟩
theorem d_X6_step_123 : decode mX6_step.2.2.1 123 = .ok (.goto 78, 3) := by decide +kernel
theorem d_X6_step_94 : decode mX6_step.2.2.1 94 = .ok (.aload_n 0, 1) := by decide +kernel
theorem d_X6_step_95 : decode mX6_step.2.2.1 95 = .ok (.iload_n 1, 1) := by decide +kernel
theorem d_X6_step_96 : decode mX6_step.2.2.1 96 = .ok (.iload_n 3, 1) := by decide +kernel
theorem d_X6_step_97 : decode mX6_step.2.2.1 97 = .ok (.aload_n 0, 1) := by decide +kernel
theorem d_X6_step_98 : decode mX6_step.2.2.1 98 = .ok (.iload_n 1, 1) := by decide +kernel
theorem d_X6_step_99 : decode mX6_step.2.2.1 99 = .ok (.invokevirtual 155, 3) := by decide +kernel
theorem d_X6_step_102 : decode mX6_step.2.2.1 102 = .ok (.iconst 0, 1) := by decide +kernel
theorem d_X6_step_103 : decode mX6_step.2.2.1 103 = .ok (.invokestatic 119, 3) := by decide +kernel
theorem d_X6_step_106 : decode mX6_step.2.2.1 106 = .ok (.bipush 50, 2) := by decide +kernel
theorem d_X6_step_108 : decode mX6_step.2.2.1 108 = .ok (.invokestatic 158, 3) := by decide +kernel
theorem d_X6_step_111 : decode mX6_step.2.2.1 111 = .ok (.invokevirtual 161, 3) := by decide +kernel
def mX6_use : MD := (6, yX6_use, cX6_use, 6, none)
theorem sel_X6_use : Cond.instanceMethod mX6_use.2.1 ∈ tblG ∧ Cond.selects mX6_use.2.1.cls mX6_use.2.1 mX6_use.2.1 ∈ tblG := ⟨tblG_in (inT5 (List.mem_of_getElem? (i := 82) rfl)) rfl, tblG_in (inP4 (q := (mX6_use.2.1, 18)) (List.mem_of_getElem? (i := 2) rfl)) rfl⟩
theorem s_6_161 : e_siteV 6 161 mX6_use 6 := ⟨tblG_in (inT5 (List.mem_of_getElem? (i := 80) rfl)) rfl, sel_X6_use.1, sel_X6_use.2, rfl⟩
theorem d_X6_use_0 : decode mX6_use.2.2.1 0 = .ok (.aload_n 0, 1) := by decide +kernel
theorem d_X6_use_1 : decode mX6_use.2.2.1 1 = .ok (.getfield 68, 3) := by decide +kernel
theorem d_X6_use_4 : decode mX6_use.2.2.1 4 = .ok (.istore 4, 2) := by decide +kernel
theorem d_X6_use_6 : decode mX6_use.2.2.1 6 = .ok (.aload_n 0, 1) := by decide +kernel
theorem d_X6_use_7 : decode mX6_use.2.2.1 7 = .ok (.aload_n 0, 1) := by decide +kernel
theorem d_X6_use_8 : decode mX6_use.2.2.1 8 = .ok (.iload_n 2, 1) := by decide +kernel
theorem d_X6_use_9 : decode mX6_use.2.2.1 9 = .ok (.invokevirtual 199, 3) := by decide +kernel
theorem d_X6_use_12 : decode mX6_use.2.2.1 12 = .ok (.iload_n 2, 1) := by decide +kernel
theorem d_X6_use_13 : decode mX6_use.2.2.1 13 = .ok (.iconst 1, 1) := by decide +kernel
theorem d_X6_use_14 : decode mX6_use.2.2.1 14 = .ok (.invokevirtual 145, 3) := by decide +kernel
theorem d_X6_use_17 : decode mX6_use.2.2.1 17 = .ok (.pop, 1) := by decide +kernel
theorem d_X6_use_18 : decode mX6_use.2.2.1 18 = .ok (.aload_n 0, 1) := by decide +kernel
theorem d_X6_use_19 : decode mX6_use.2.2.1 19 = .ok (.getfield 68, 3) := by decide +kernel
theorem d_X6_use_22 : decode mX6_use.2.2.1 22 = .ok (.istore 5, 2) := by decide +kernel
theorem d_X6_use_24 : decode mX6_use.2.2.1 24 = .ok (.aload_n 0, 1) := by decide +kernel
theorem d_X6_use_25 : decode mX6_use.2.2.1 25 = .ok (.getfield 62, 3) := by decide +kernel
theorem d_X6_use_28 : decode mX6_use.2.2.1 28 = .ok (.ifCond .ne 11, 3) := by decide +kernel
theorem d_X6_use_31 : decode mX6_use.2.2.1 31 = .ok (.aload_n 0, 1) := by decide +kernel
theorem d_X6_use_32 : decode mX6_use.2.2.1 32 = .ok (.iload_n 3, 1) := by decide +kernel
theorem d_X6_use_33 : decode mX6_use.2.2.1 33 = .ok (.iload_n 2, 1) := by decide +kernel
theorem d_X6_use_34 : decode mX6_use.2.2.1 34 = .ok (.iconst 3, 1) := by decide +kernel
theorem d_X6_use_35 : decode mX6_use.2.2.1 35 = .ok (.invokevirtual 145, 3) := by decide +kernel
theorem d_X6_use_38 : decode mX6_use.2.2.1 38 = .ok (.pop, 1) := by decide +kernel
theorem d_X6_use_39 : decode mX6_use.2.2.1 39 = .ok (.aload_n 0, 1) := by decide +kernel
theorem d_X6_use_40 : decode mX6_use.2.2.1 40 = .ok (.getfield 62, 3) := by decide +kernel
theorem d_X6_use_43 : decode mX6_use.2.2.1 43 = .ok (.ifCond .eq 13, 3) := by decide +kernel
theorem d_X6_use_46 : decode mX6_use.2.2.1 46 = .ok (.aload_n 0, 1) := by decide +kernel
theorem d_X6_use_47 : decode mX6_use.2.2.1 47 = .ok (.getfield 68, 3) := by decide +kernel
theorem d_X6_use_50 : decode mX6_use.2.2.1 50 = .ok (.iload 4, 2) := by decide +kernel
theorem d_X6_use_52 : decode mX6_use.2.2.1 52 = .ok (.if_icmp .ne 4, 3) := by decide +kernel
theorem d_X6_use_55 : decode mX6_use.2.2.1 55 = .ok (.return_, 1) := by decide +kernel
theorem d_X6_use_56 : decode mX6_use.2.2.1 56 = .ok (.aload_n 0, 1) := by decide +kernel
theorem d_X6_use_57 : decode mX6_use.2.2.1 57 = .ok (.iload_n 2, 1) := by decide +kernel
theorem d_X6_use_58 : decode mX6_use.2.2.1 58 = .ok (.iload 4, 2) := by decide +kernel
theorem d_X6_use_60 : decode mX6_use.2.2.1 60 = .ok (.invokevirtual 125, 3) := by decide +kernel
theorem d_X6_use_63 : decode mX6_use.2.2.1 63 = .ok (.aload_n 0, 1) := by decide +kernel
theorem d_X6_use_64 : decode mX6_use.2.2.1 64 = .ok (.iload_n 1, 1) := by decide +kernel
theorem d_X6_use_65 : decode mX6_use.2.2.1 65 = .ok (.iload_n 2, 1) := by decide +kernel
theorem d_X6_use_66 : decode mX6_use.2.2.1 66 = .ok (.iload 4, 2) := by decide +kernel
theorem d_X6_use_68 : decode mX6_use.2.2.1 68 = .ok (.iload 5, 2) := by decide +kernel
theorem d_X6_use_70 : decode mX6_use.2.2.1 70 = .ok (.invokevirtual 202, 3) := by decide +kernel
theorem d_X6_use_73 : decode mX6_use.2.2.1 73 = .ok (.aload_n 0, 1) := by decide +kernel
theorem d_X6_use_74 : decode mX6_use.2.2.1 74 = .ok (.getfield 38, 3) := by decide +kernel
theorem d_X6_use_77 : decode mX6_use.2.2.1 77 = .ok (.iload_n 2, 1) := by decide +kernel
theorem d_X6_use_78 : decode mX6_use.2.2.1 78 = .ok (.iload_n 1, 1) := by decide +kernel
theorem d_X6_use_79 : decode mX6_use.2.2.1 79 = .ok (.iload 5, 2) := by decide +kernel
theorem d_X6_use_81 : decode mX6_use.2.2.1 81 = .ok (.aload_n 0, 1) := by decide +kernel
theorem d_X6_use_82 : decode mX6_use.2.2.1 82 = .ok (.getfield 68, 3) := by decide +kernel
theorem d_X6_use_85 : decode mX6_use.2.2.1 85 = .ok (.invokevirtual 205, 3) := by decide +kernel
def mX1_workFor : MD := (1, yX1_workFor, cX1_workFor, 5, none)
theorem sel_X1_workFor : Cond.instanceMethod mX1_workFor.2.1 ∈ tblG ∧ Cond.selects mX1_workFor.2.1.cls mX1_workFor.2.1 mX1_workFor.2.1 ∈ tblG := ⟨tblG_in (inT5 (List.mem_of_getElem? (i := 117) rfl)) rfl, tblG_in (inT5 (List.mem_of_getElem? (i := 118) rfl)) rfl⟩
theorem s_6_205 : e_siteV 6 205 mX1_workFor 1 := ⟨tblG_in (inT5 (List.mem_of_getElem? (i := 116) rfl)) rfl, sel_X1_workFor.1, sel_X1_workFor.2, rfl⟩
theorem d_X1_workFor_0 : decode mX1_workFor.2.2.1 0 = .ok (.aload_n 0, 1) := by decide +kernel
theorem d_X1_workFor_1 : decode mX1_workFor.2.2.1 1 = .ok (.getfield 37, 3) := by decide +kernel
theorem d_X1_workFor_4 : decode mX1_workFor.2.2.1 4 = .ok (.ifCond .eq 16, 3) := by decide +kernel
theorem d_X1_workFor_20 : decode mX1_workFor.2.2.1 20 = .ok (.return_, 1) := by decide +kernel
theorem ok_X1_workFor : e_m mX1_workFor 4 := ⟨tblG_in (inT5 (List.mem_of_getElem? (i := 119) rfl)) rfl, plainFor_of_name (by decide), rfl, ini_1, by decide +kernel, by decide⟩
theorem d_X6_use_88 : decode mX6_use.2.2.1 88 = .ok (.aload_n 0, 1) := by decide +kernel
theorem d_X6_use_89 : decode mX6_use.2.2.1 89 = .ok (.getfield 27, 3) := by decide +kernel
theorem d_X6_use_92 : decode mX6_use.2.2.1 92 = .ok (.iload_n 2, 1) := by decide +kernel
theorem d_X6_use_93 : decode mX6_use.2.2.1 93 = .ok (.aload_n 0, 1) := by decide +kernel
theorem d_X6_use_94 : decode mX6_use.2.2.1 94 = .ok (.getfield 62, 3) := by decide +kernel
theorem d_X6_use_97 : decode mX6_use.2.2.1 97 = .ok (.ifCond .ne 20, 3) := by decide +kernel
theorem d_X6_use_117 : decode mX6_use.2.2.1 117 = .ok (.aload_n 0, 1) := by decide +kernel
theorem d_X6_use_118 : decode mX6_use.2.2.1 118 = .ok (.getfield 68, 3) := by decide +kernel
theorem d_X6_use_121 : decode mX6_use.2.2.1 121 = .ok (.iconst 1, 1) := by decide +kernel
theorem d_X6_use_122 : decode mX6_use.2.2.1 122 = .ok (.iadd, 1) := by decide +kernel
theorem d_X6_use_123 : decode mX6_use.2.2.1 123 = .ok (.iastore, 1) := by decide +kernel
theorem d_X6_use_124 : decode mX6_use.2.2.1 124 = .ok (.return_, 1) := by decide +kernel
theorem d_X6_use_100 : decode mX6_use.2.2.1 100 = .ok (.aload_n 0, 1) := by decide +kernel
theorem d_X6_use_101 : decode mX6_use.2.2.1 101 = .ok (.getfield 68, 3) := by decide +kernel
theorem d_X6_use_104 : decode mX6_use.2.2.1 104 = .ok (.aload_n 0, 1) := by decide +kernel
theorem d_X6_use_105 : decode mX6_use.2.2.1 105 = .ok (.getfield 46, 3) := by decide +kernel
theorem d_X6_use_108 : decode mX6_use.2.2.1 108 = .ok (.getfield 208, 3) := by decide +kernel
theorem d_X6_use_111 : decode mX6_use.2.2.1 111 = .ok (.iload_n 2, 1) := by decide +kernel
theorem d_X6_use_112 : decode mX6_use.2.2.1 112 = .ok (.iaload, 1) := by decide +kernel
theorem d_X6_use_113 : decode mX6_use.2.2.1 113 = .ok (.iadd, 1) := by decide +kernel
theorem d_X6_use_114 : decode mX6_use.2.2.1 114 = .ok (.goto 9, 3) := by decide +kernel
theorem ok_X6_use : e_m mX6_use 3 := ⟨tblG_in (inT5 (List.mem_of_getElem? (i := 83) rfl)) rfl, plainFor_of_name (by decide), rfl, ini_6, by decide +kernel, by decide⟩
theorem d_X6_step_114 : decode mX6_step.2.2.1 114 = .ok (.goto 87, 3) := by decide +kernel
theorem d_X6_step_80 : decode mX6_step.2.2.1 80 = .ok (.aload_n 0, 1) := by decide +kernel
theorem d_X6_step_81 : decode mX6_step.2.2.1 81 = .ok (.getfield 15, 3) := by decide +kernel
theorem d_X6_step_84 : decode mX6_step.2.2.1 84 = .ok (.iload_n 3, 1) := by decide +kernel
theorem d_X6_step_85 : decode mX6_step.2.2.1 85 = .ok (.aload_n 0, 1) := by decide +kernel
theorem d_X6_step_86 : decode mX6_step.2.2.1 86 = .ok (.iload_n 1, 1) := by decide +kernel
theorem d_X6_step_87 : decode mX6_step.2.2.1 87 = .ok (.invokevirtual 155, 3) := by decide +kernel
theorem d_X6_step_90 : decode mX6_step.2.2.1 90 = .ok (.iastore, 1) := by decide +kernel
theorem d_X6_step_91 : decode mX6_step.2.2.1 91 = .ok (.goto 110, 3) := by decide +kernel
theorem d_X6_step_10 : decode mX6_step.2.2.1 10 = .ok (.iload_n 1, 1) := by decide +kernel
theorem d_X6_step_11 : decode mX6_step.2.2.1 11 = .ok (.ireturn, 1) := by decide +kernel
theorem ok_X6_step : e_m mX6_step 1 := ⟨tblG_in (inT5 (List.mem_of_getElem? (i := 37) rfl)) rfl, plainFor_of_name (by decide), rfl, ini_6, by decide +kernel, by decide⟩
theorem d_X6_go_62 : decode mX6_go.2.2.1 62 = .ok (.istore 7, 2) := by decide +kernel
theorem d_X6_go_64 : decode mX6_go.2.2.1 64 = .ok (.aload_n 0, 1) := by decide +kernel
theorem d_X6_go_65 : decode mX6_go.2.2.1 65 = .ok (.getfield 38, 3) := by decide +kernel
end
/-! 25.12 -/
section
theorem d_X6_go_68 : decode mX6_go.2.2.1 68 = .ok (.iload 4, 2) := by decide +kernel
theorem d_X6_go_70 : decode mX6_go.2.2.1 70 = .ok (.aload_n 0, 1) := by decide +kernel
theorem d_X6_go_71 : decode mX6_go.2.2.1 71 = .ok (.getfield 68, 3) := by decide +kernel
theorem d_X6_go_74 : decode mX6_go.2.2.1 74 = .ok (.iload 6, 2) := by decide +kernel
theorem d_X6_go_76 : decode mX6_go.2.2.1 76 = .ok (.isub, 1) := by decide +kernel
theorem d_X6_go_77 : decode mX6_go.2.2.1 77 = .ok (.invokevirtual 75, 3) := by decide +kernel
def mX1_payHeart : MD := (1, yX1_payHeart, cX1_payHeart, 3, none)
theorem sel_X1_payHeart : Cond.instanceMethod mX1_payHeart.2.1 ∈ tblG ∧ Cond.selects mX1_payHeart.2.1.cls mX1_payHeart.2.1 mX1_payHeart.2.1 ∈ tblG := ⟨tblG_in (inT5 (List.mem_of_getElem? (i := 149) rfl)) rfl, tblG_in (inT5 (List.mem_of_getElem? (i := 150) rfl)) rfl⟩
theorem s_6_75 : e_siteV 6 75 mX1_payHeart 1 := ⟨tblG_in (inT5 (List.mem_of_getElem? (i := 148) rfl)) rfl, sel_X1_payHeart.1, sel_X1_payHeart.2, rfl⟩
theorem d_X1_payHeart_0 : decode mX1_payHeart.2.2.1 0 = .ok (.aload_n 0, 1) := by decide +kernel
theorem d_X1_payHeart_1 : decode mX1_payHeart.2.2.1 1 = .ok (.getfield 37, 3) := by decide +kernel
theorem d_X1_payHeart_4 : decode mX1_payHeart.2.2.1 4 = .ok (.ifCond .eq 21, 3) := by decide +kernel
theorem d_X1_payHeart_25 : decode mX1_payHeart.2.2.1 25 = .ok (.return_, 1) := by decide +kernel
theorem ok_X1_payHeart : e_m mX1_payHeart 2 := ⟨tblG_in (inT5 (List.mem_of_getElem? (i := 151) rfl)) rfl, plainFor_of_name (by decide), rfl, ini_1, by decide +kernel, by decide⟩
theorem d_X6_go_80 : decode mX6_go.2.2.1 80 = .ok (.aload_n 0, 1) := by decide +kernel
theorem d_X6_go_81 : decode mX6_go.2.2.1 81 = .ok (.getfield 62, 3) := by decide +kernel
theorem d_X6_go_84 : decode mX6_go.2.2.1 84 = .ok (.ifCond .eq 9, 3) := by decide +kernel
theorem d_X6_go_87 : decode mX6_go.2.2.1 87 = .ok (.aload_n 0, 1) := by decide +kernel
theorem d_X6_go_88 : decode mX6_go.2.2.1 88 = .ok (.iload 4, 2) := by decide +kernel
theorem d_X6_go_90 : decode mX6_go.2.2.1 90 = .ok (.putfield 79, 3) := by decide +kernel
theorem d_X6_go_103 : decode mX6_go.2.2.1 103 = .ok (.aload_n 0, 1) := by decide +kernel
theorem d_X6_go_104 : decode mX6_go.2.2.1 104 = .ok (.invokevirtual 82, 3) := by decide +kernel
def mX6_finish : MD := (6, yX6_finish, cX6_finish, 4, none)
theorem sel_X6_finish : Cond.instanceMethod mX6_finish.2.1 ∈ tblG ∧ Cond.selects mX6_finish.2.1.cls mX6_finish.2.1 mX6_finish.2.1 ∈ tblG := ⟨tblG_in (inT5 (List.mem_of_getElem? (i := 154) rfl)) rfl, tblG_in (inP4 (q := (mX6_finish.2.1, 18)) (List.mem_of_getElem? (i := 9) rfl)) rfl⟩
theorem s_6_82 : e_siteV 6 82 mX6_finish 6 := ⟨tblG_in (inT5 (List.mem_of_getElem? (i := 152) rfl)) rfl, sel_X6_finish.1, sel_X6_finish.2, rfl⟩
theorem d_X6_finish_0 : decode mX6_finish.2.2.1 0 = .ok (.aload_n 0, 1) := by decide +kernel
theorem d_X6_finish_1 : decode mX6_finish.2.2.1 1 = .ok (.getfield 68, 3) := by decide +kernel
theorem d_X6_finish_4 : decode mX6_finish.2.2.1 4 = .ok (.istore_n 1, 1) := by decide +kernel
theorem d_X6_finish_5 : decode mX6_finish.2.2.1 5 = .ok (.aload_n 0, 1) := by decide +kernel
theorem d_X6_finish_6 : decode mX6_finish.2.2.1 6 = .ok (.getfield 46, 3) := by decide +kernel
theorem d_X6_finish_9 : decode mX6_finish.2.2.1 9 = .ok (.getfield 116, 3) := by decide +kernel
theorem d_X6_finish_12 : decode mX6_finish.2.2.1 12 = .ok (.iconst 0, 1) := by decide +kernel
theorem d_X6_finish_13 : decode mX6_finish.2.2.1 13 = .ok (.iaload, 1) := by decide +kernel
theorem d_X6_finish_14 : decode mX6_finish.2.2.1 14 = .ok (.istore_n 2, 1) := by decide +kernel
theorem d_X6_finish_15 : decode mX6_finish.2.2.1 15 = .ok (.iconst 0, 1) := by decide +kernel
theorem d_X6_finish_16 : decode mX6_finish.2.2.1 16 = .ok (.istore_n 3, 1) := by decide +kernel
theorem d_X6_finish_17 : decode mX6_finish.2.2.1 17 = .ok (.iload_n 3, 1) := by decide +kernel
theorem d_X6_finish_18 : decode mX6_finish.2.2.1 18 = .ok (.iload_n 2, 1) := by decide +kernel
theorem d_X6_finish_19 : decode mX6_finish.2.2.1 19 = .ok (.if_icmp .ge 42, 3) := by decide +kernel
theorem d_X6_finish_22 : decode mX6_finish.2.2.1 22 = .ok (.aload_n 0, 1) := by decide +kernel
theorem d_X6_finish_23 : decode mX6_finish.2.2.1 23 = .ok (.getfield 62, 3) := by decide +kernel
theorem d_X6_finish_26 : decode mX6_finish.2.2.1 26 = .ok (.ifCond .ne 35, 3) := by decide +kernel
theorem d_X6_finish_29 : decode mX6_finish.2.2.1 29 = .ok (.aload_n 0, 1) := by decide +kernel
theorem d_X6_finish_30 : decode mX6_finish.2.2.1 30 = .ok (.getfield 24, 3) := by decide +kernel
theorem d_X6_finish_33 : decode mX6_finish.2.2.1 33 = .ok (.iload_n 3, 1) := by decide +kernel
theorem d_X6_finish_34 : decode mX6_finish.2.2.1 34 = .ok (.iaload, 1) := by decide +kernel
theorem d_X6_finish_35 : decode mX6_finish.2.2.1 35 = .ok (.ifCond .ne 20, 3) := by decide +kernel
theorem d_X6_finish_38 : decode mX6_finish.2.2.1 38 = .ok (.aload_n 0, 1) := by decide +kernel
theorem d_X6_finish_39 : decode mX6_finish.2.2.1 39 = .ok (.aload_n 0, 1) := by decide +kernel
theorem d_X6_finish_40 : decode mX6_finish.2.2.1 40 = .ok (.getfield 68, 3) := by decide +kernel
theorem d_X6_finish_43 : decode mX6_finish.2.2.1 43 = .ok (.aload_n 0, 1) := by decide +kernel
theorem d_X6_finish_44 : decode mX6_finish.2.2.1 44 = .ok (.getfield 27, 3) := by decide +kernel
theorem d_X6_finish_47 : decode mX6_finish.2.2.1 47 = .ok (.iload_n 3, 1) := by decide +kernel
theorem d_X6_finish_48 : decode mX6_finish.2.2.1 48 = .ok (.iaload, 1) := by decide +kernel
theorem d_X6_finish_49 : decode mX6_finish.2.2.1 49 = .ok (.invokestatic 119, 3) := by decide +kernel
theorem d_X6_finish_52 : decode mX6_finish.2.2.1 52 = .ok (.putfield 68, 3) := by decide +kernel
theorem d_X6_finish_61 : decode mX6_finish.2.2.1 61 = .ok (.iconst 0, 1) := by decide +kernel
theorem d_X6_finish_62 : decode mX6_finish.2.2.1 62 = .ok (.istore_n 3, 1) := by decide +kernel
theorem d_X6_finish_63 : decode mX6_finish.2.2.1 63 = .ok (.iload_n 3, 1) := by decide +kernel
theorem d_X6_finish_64 : decode mX6_finish.2.2.1 64 = .ok (.iload_n 2, 1) := by decide +kernel
theorem d_X6_finish_65 : decode mX6_finish.2.2.1 65 = .ok (.if_icmp .ge 64, 3) := by decide +kernel
theorem d_X6_finish_129 : decode mX6_finish.2.2.1 129 = .ok (.aload_n 0, 1) := by decide +kernel
theorem d_X6_finish_130 : decode mX6_finish.2.2.1 130 = .ok (.iload_n 1, 1) := by decide +kernel
theorem d_X6_finish_131 : decode mX6_finish.2.2.1 131 = .ok (.aload_n 0, 1) := by decide +kernel
theorem d_X6_finish_132 : decode mX6_finish.2.2.1 132 = .ok (.getfield 46, 3) := by decide +kernel
theorem d_X6_finish_135 : decode mX6_finish.2.2.1 135 = .ok (.getfield 135, 3) := by decide +kernel
theorem d_X6_finish_138 : decode mX6_finish.2.2.1 138 = .ok (.imul, 1) := by decide +kernel
theorem d_X6_finish_139 : decode mX6_finish.2.2.1 139 = .ok (.aload_n 0, 1) := by decide +kernel
theorem d_X6_finish_140 : decode mX6_finish.2.2.1 140 = .ok (.getfield 38, 3) := by decide +kernel
theorem d_X6_finish_143 : decode mX6_finish.2.2.1 143 = .ok (.invokevirtual 138, 3) := by decide +kernel
def mX1_sippedByParts : MD := (1, yX1_sippedByParts, cX1_sippedByParts, 3, some .int)
theorem sel_X1_sippedByParts : Cond.instanceMethod mX1_sippedByParts.2.1 ∈ tblG ∧ Cond.selects mX1_sippedByParts.2.1.cls mX1_sippedByParts.2.1 mX1_sippedByParts.2.1 ∈ tblG := ⟨tblG_in (inT5 (List.mem_of_getElem? (i := 158) rfl)) rfl, tblG_in (inT5 (List.mem_of_getElem? (i := 159) rfl)) rfl⟩
theorem s_6_138 : e_siteV 6 138 mX1_sippedByParts 1 := ⟨tblG_in (inT5 (List.mem_of_getElem? (i := 157) rfl)) rfl, sel_X1_sippedByParts.1, sel_X1_sippedByParts.2, rfl⟩
theorem d_X1_sippedByParts_0 : decode mX1_sippedByParts.2.2.1 0 = .ok (.iconst 0, 1) := by decide +kernel
theorem d_X1_sippedByParts_1 : decode mX1_sippedByParts.2.2.1 1 = .ok (.istore_n 1, 1) := by decide +kernel
theorem d_X1_sippedByParts_2 : decode mX1_sippedByParts.2.2.1 2 = .ok (.iconst 0, 1) := by decide +kernel
theorem d_X1_sippedByParts_3 : decode mX1_sippedByParts.2.2.1 3 = .ok (.istore_n 2, 1) := by decide +kernel
theorem d_X1_sippedByParts_4 : decode mX1_sippedByParts.2.2.1 4 = .ok (.iload_n 2, 1) := by decide +kernel
theorem d_X1_sippedByParts_5 : decode mX1_sippedByParts.2.2.1 5 = .ok (.aload_n 0, 1) := by decide +kernel
theorem d_X1_sippedByParts_6 : decode mX1_sippedByParts.2.2.1 6 = .ok (.getfield 41, 3) := by decide +kernel
theorem d_X1_sippedByParts_9 : decode mX1_sippedByParts.2.2.1 9 = .ok (.getfield 91, 3) := by decide +kernel
theorem d_X1_sippedByParts_12 : decode mX1_sippedByParts.2.2.1 12 = .ok (.iconst 0, 1) := by decide +kernel
theorem d_X1_sippedByParts_13 : decode mX1_sippedByParts.2.2.1 13 = .ok (.iaload, 1) := by decide +kernel
theorem d_X1_sippedByParts_14 : decode mX1_sippedByParts.2.2.1 14 = .ok (.iconst 4, 1) := by decide +kernel
theorem d_X1_sippedByParts_15 : decode mX1_sippedByParts.2.2.1 15 = .ok (.imul, 1) := by decide +kernel
theorem d_X1_sippedByParts_16 : decode mX1_sippedByParts.2.2.1 16 = .ok (.if_icmp .ge 28, 3) := by decide +kernel
theorem d_X1_sippedByParts_44 : decode mX1_sippedByParts.2.2.1 44 = .ok (.iload_n 1, 1) := by decide +kernel
theorem d_X1_sippedByParts_45 : decode mX1_sippedByParts.2.2.1 45 = .ok (.ireturn, 1) := by decide +kernel
theorem d_X1_sippedByParts_19 : decode mX1_sippedByParts.2.2.1 19 = .ok (.iload_n 1, 1) := by decide +kernel
theorem d_X1_sippedByParts_20 : decode mX1_sippedByParts.2.2.1 20 = .ok (.aload_n 0, 1) := by decide +kernel
theorem d_X1_sippedByParts_21 : decode mX1_sippedByParts.2.2.1 21 = .ok (.getfield 9, 3) := by decide +kernel
theorem d_X1_sippedByParts_24 : decode mX1_sippedByParts.2.2.1 24 = .ok (.iload_n 2, 1) := by decide +kernel
theorem d_X1_sippedByParts_25 : decode mX1_sippedByParts.2.2.1 25 = .ok (.iaload, 1) := by decide +kernel
theorem d_X1_sippedByParts_26 : decode mX1_sippedByParts.2.2.1 26 = .ok (.aload_n 0, 1) := by decide +kernel
theorem d_X1_sippedByParts_27 : decode mX1_sippedByParts.2.2.1 27 = .ok (.getfield 41, 3) := by decide +kernel
theorem d_X1_sippedByParts_30 : decode mX1_sippedByParts.2.2.1 30 = .ok (.getfield 71, 3) := by decide +kernel
theorem d_X1_sippedByParts_33 : decode mX1_sippedByParts.2.2.1 33 = .ok (.iload_n 2, 1) := by decide +kernel
theorem d_X1_sippedByParts_34 : decode mX1_sippedByParts.2.2.1 34 = .ok (.iaload, 1) := by decide +kernel
theorem d_X1_sippedByParts_35 : decode mX1_sippedByParts.2.2.1 35 = .ok (.imul, 1) := by decide +kernel
theorem d_X1_sippedByParts_36 : decode mX1_sippedByParts.2.2.1 36 = .ok (.iadd, 1) := by decide +kernel
theorem d_X1_sippedByParts_37 : decode mX1_sippedByParts.2.2.1 37 = .ok (.istore_n 1, 1) := by decide +kernel
theorem d_X1_sippedByParts_38 : decode mX1_sippedByParts.2.2.1 38 = .ok (.iinc 2 1, 3) := by decide +kernel
theorem d_X1_sippedByParts_41 : decode mX1_sippedByParts.2.2.1 41 = .ok (.goto (-37), 3) := by decide +kernel
theorem ok_X1_sippedByParts : e_m mX1_sippedByParts 0 := ⟨tblG_in (inT5 (List.mem_of_getElem? (i := 160) rfl)) rfl, plainFor_of_name (by decide), rfl, ini_1, by decide +kernel, by decide⟩
theorem d_X6_finish_146 : decode mX6_finish.2.2.1 146 = .ok (.iadd, 1) := by decide +kernel
theorem d_X6_finish_147 : decode mX6_finish.2.2.1 147 = .ok (.putfield 142, 3) := by decide +kernel
theorem f_6_142 : e_fld 6 142 6 10 18 0 false := ⟨RX6, TX6, 10, rfl, rfl, by decide, rfl, rfl, rfl, iX6, tblG_in (inT2 (List.mem_of_getElem? (i := 113) rfl)) rfl, tyX6_ok, nmX6⟩
theorem d_X6_finish_150 : decode mX6_finish.2.2.1 150 = .ok (.return_, 1) := by decide +kernel
theorem d_X6_finish_68 : decode mX6_finish.2.2.1 68 = .ok (.aload_n 0, 1) := by decide +kernel
theorem d_X6_finish_69 : decode mX6_finish.2.2.1 69 = .ok (.iload_n 3, 1) := by decide +kernel
theorem d_X6_finish_70 : decode mX6_finish.2.2.1 70 = .ok (.aload_n 0, 1) := by decide +kernel
theorem d_X6_finish_71 : decode mX6_finish.2.2.1 71 = .ok (.getfield 68, 3) := by decide +kernel
theorem d_X6_finish_74 : decode mX6_finish.2.2.1 74 = .ok (.invokevirtual 125, 3) := by decide +kernel
theorem d_X6_finish_77 : decode mX6_finish.2.2.1 77 = .ok (.aload_n 0, 1) := by decide +kernel
theorem d_X6_finish_78 : decode mX6_finish.2.2.1 78 = .ok (.getfield 24, 3) := by decide +kernel
theorem d_X6_finish_81 : decode mX6_finish.2.2.1 81 = .ok (.iload_n 3, 1) := by decide +kernel
theorem d_X6_finish_82 : decode mX6_finish.2.2.1 82 = .ok (.iaload, 1) := by decide +kernel
theorem d_X6_finish_83 : decode mX6_finish.2.2.1 83 = .ok (.iconst 1, 1) := by decide +kernel
theorem d_X6_finish_84 : decode mX6_finish.2.2.1 84 = .ok (.if_icmp .ne 18, 3) := by decide +kernel
theorem d_X6_finish_102 : decode mX6_finish.2.2.1 102 = .ok (.aload_n 0, 1) := by decide +kernel
theorem d_X6_finish_103 : decode mX6_finish.2.2.1 103 = .ok (.getfield 27, 3) := by decide +kernel
theorem d_X6_finish_106 : decode mX6_finish.2.2.1 106 = .ok (.iload_n 3, 1) := by decide +kernel
theorem d_X6_finish_107 : decode mX6_finish.2.2.1 107 = .ok (.iaload, 1) := by decide +kernel
theorem d_X6_finish_108 : decode mX6_finish.2.2.1 108 = .ok (.aload_n 0, 1) := by decide +kernel
theorem d_X6_finish_109 : decode mX6_finish.2.2.1 109 = .ok (.getfield 68, 3) := by decide +kernel
theorem d_X6_finish_112 : decode mX6_finish.2.2.1 112 = .ok (.if_icmp .gt 11, 3) := by decide +kernel
theorem d_X6_finish_115 : decode mX6_finish.2.2.1 115 = .ok (.aload_n 0, 1) := by decide +kernel
theorem d_X6_finish_116 : decode mX6_finish.2.2.1 116 = .ok (.getfield 38, 3) := by decide +kernel
theorem d_X6_finish_119 : decode mX6_finish.2.2.1 119 = .ok (.iload_n 3, 1) := by decide +kernel
theorem d_X6_finish_120 : decode mX6_finish.2.2.1 120 = .ok (.invokevirtual 131, 3) := by decide +kernel
def mX1_fallAsleep : MD := (1, yX1_fallAsleep, cX1_fallAsleep, 2, none)
theorem sel_X1_fallAsleep : Cond.instanceMethod mX1_fallAsleep.2.1 ∈ tblG ∧ Cond.selects mX1_fallAsleep.2.1.cls mX1_fallAsleep.2.1 mX1_fallAsleep.2.1 ∈ tblG := ⟨tblG_in (inT5 (List.mem_of_getElem? (i := 97) rfl)) rfl, tblG_in (inT5 (List.mem_of_getElem? (i := 98) rfl)) rfl⟩
theorem s_6_131 : e_siteV 6 131 mX1_fallAsleep 1 := ⟨tblG_in (inT5 (List.mem_of_getElem? (i := 156) rfl)) rfl, sel_X1_fallAsleep.1, sel_X1_fallAsleep.2, rfl⟩
theorem d_X1_fallAsleep_0 : decode mX1_fallAsleep.2.2.1 0 = .ok (.aload_n 0, 1) := by decide +kernel
theorem d_X1_fallAsleep_1 : decode mX1_fallAsleep.2.2.1 1 = .ok (.getfield 37, 3) := by decide +kernel
theorem d_X1_fallAsleep_4 : decode mX1_fallAsleep.2.2.1 4 = .ok (.ifCond .eq 71, 3) := by decide +kernel
theorem d_X1_fallAsleep_75 : decode mX1_fallAsleep.2.2.1 75 = .ok (.return_, 1) := by decide +kernel
theorem ok_X1_fallAsleep : e_m mX1_fallAsleep 1 := ⟨tblG_in (inT5 (List.mem_of_getElem? (i := 99) rfl)) rfl, plainFor_of_name (by decide), rfl, ini_1, by decide +kernel, by decide⟩
theorem d_X6_finish_87 : decode mX6_finish.2.2.1 87 = .ok (.aload_n 0, 1) := by decide +kernel
theorem d_X6_finish_88 : decode mX6_finish.2.2.1 88 = .ok (.getfield 38, 3) := by decide +kernel
theorem d_X6_finish_91 : decode mX6_finish.2.2.1 91 = .ok (.iload_n 3, 1) := by decide +kernel
theorem d_X6_finish_92 : decode mX6_finish.2.2.1 92 = .ok (.aload_n 0, 1) := by decide +kernel
theorem d_X6_finish_93 : decode mX6_finish.2.2.1 93 = .ok (.getfield 68, 3) := by decide +kernel
theorem d_X6_finish_96 : decode mX6_finish.2.2.1 96 = .ok (.invokevirtual 128, 3) := by decide +kernel
theorem d_X6_finish_99 : decode mX6_finish.2.2.1 99 = .ok (.goto 24, 3) := by decide +kernel
theorem d_X6_finish_123 : decode mX6_finish.2.2.1 123 = .ok (.iinc 3 1, 3) := by decide +kernel
theorem d_X6_finish_126 : decode mX6_finish.2.2.1 126 = .ok (.goto (-63), 3) := by decide +kernel
theorem d_X6_finish_55 : decode mX6_finish.2.2.1 55 = .ok (.iinc 3 1, 3) := by decide +kernel
theorem d_X6_finish_58 : decode mX6_finish.2.2.1 58 = .ok (.goto (-41), 3) := by decide +kernel
theorem ok_X6_finish : e_m mX6_finish 0 := ⟨tblG_in (inT5 (List.mem_of_getElem? (i := 155) rfl)) rfl, plainFor_of_name (by decide), rfl, ini_6, by decide +kernel, by decide⟩
theorem d_X6_go_107 : decode mX6_go.2.2.1 107 = .ok (.return_, 1) := by decide +kernel
theorem d_X6_go_93 : decode mX6_go.2.2.1 93 = .ok (.iload 7, 2) := by decide +kernel
theorem d_X6_go_95 : decode mX6_go.2.2.1 95 = .ok (.istore 4, 2) := by decide +kernel
theorem d_X6_go_97 : decode mX6_go.2.2.1 97 = .ok (.iinc 5 1, 3) := by decide +kernel
theorem d_X6_go_100 : decode mX6_go.2.2.1 100 = .ok (.goto (-87), 3) := by decide +kernel
theorem ok_X6_go : e_m mX6_go 3 := ⟨tblG_in (inT4 (List.mem_of_getElem? (i := 229) rfl)) rfl, plainFor_of_name (by decide), rfl, ini_6, by decide +kernel, by decide⟩
theorem d_X11_measure_41 : decode mX11_measure.2.2.1 41 = .ok (.aload_n 0, 1) := by decide +kernel
theorem d_X11_measure_42 : decode mX11_measure.2.2.1 42 = .ok (.getfield 70, 3) := by decide +kernel
theorem d_X11_measure_45 : decode mX11_measure.2.2.1 45 = .ok (.iload_n 1, 1) := by decide +kernel
theorem d_X11_measure_46 : decode mX11_measure.2.2.1 46 = .ok (.aload_n 0, 1) := by decide +kernel
theorem d_X11_measure_47 : decode mX11_measure.2.2.1 47 = .ok (.getfield 50, 3) := by decide +kernel
theorem d_X11_measure_50 : decode mX11_measure.2.2.1 50 = .ok (.invokevirtual 272, 3) := by decide +kernel
def mX2_add : MD := (2, yX2_add, cX2_add, 3, none)
theorem sel_X2_add : Cond.instanceMethod mX2_add.2.1 ∈ tblG ∧ Cond.selects mX2_add.2.1.cls mX2_add.2.1 mX2_add.2.1 ∈ tblG := ⟨tblG_in (inT6 (List.mem_of_getElem? (i := 88) rfl)) rfl, tblG_in (inT6 (List.mem_of_getElem? (i := 89) rfl)) rfl⟩
theorem s_11_272 : e_siteV 11 272 mX2_add 2 := ⟨tblG_in (inT6 (List.mem_of_getElem? (i := 87) rfl)) rfl, sel_X2_add.1, sel_X2_add.2, rfl⟩
theorem d_X2_add_0 : decode mX2_add.2.2.1 0 = .ok (.aload_n 0, 1) := by decide +kernel
theorem d_X2_add_1 : decode mX2_add.2.2.1 1 = .ok (.getfield 27, 3) := by decide +kernel
theorem d_X2_add_4 : decode mX2_add.2.2.1 4 = .ok (.bipush 12, 2) := by decide +kernel
theorem d_X2_add_6 : decode mX2_add.2.2.1 6 = .ok (.if_icmp .lt 4, 3) := by decide +kernel
theorem d_X2_add_10 : decode mX2_add.2.2.1 10 = .ok (.aload_n 0, 1) := by decide +kernel
theorem d_X2_add_11 : decode mX2_add.2.2.1 11 = .ok (.getfield 15, 3) := by decide +kernel
theorem d_X2_add_14 : decode mX2_add.2.2.1 14 = .ok (.aload_n 0, 1) := by decide +kernel
theorem d_X2_add_15 : decode mX2_add.2.2.1 15 = .ok (.getfield 27, 3) := by decide +kernel
theorem d_X2_add_18 : decode mX2_add.2.2.1 18 = .ok (.iload_n 1, 1) := by decide +kernel
theorem d_X2_add_19 : decode mX2_add.2.2.1 19 = .ok (.iastore, 1) := by decide +kernel
theorem d_X2_add_20 : decode mX2_add.2.2.1 20 = .ok (.aload_n 0, 1) := by decide +kernel
theorem d_X2_add_21 : decode mX2_add.2.2.1 21 = .ok (.getfield 18, 3) := by decide +kernel
theorem d_X2_add_24 : decode mX2_add.2.2.1 24 = .ok (.aload_n 0, 1) := by decide +kernel
theorem d_X2_add_25 : decode mX2_add.2.2.1 25 = .ok (.getfield 27, 3) := by decide +kernel
theorem d_X2_add_28 : decode mX2_add.2.2.1 28 = .ok (.aload_n 2, 1) := by decide +kernel
theorem d_X2_add_29 : decode mX2_add.2.2.1 29 = .ok (.getfield 35, 3) := by decide +kernel
theorem f_2_35 : e_fld 2 35 6 10 18 0 false := ⟨RX6, TX6, 10, rfl, rfl, by decide, rfl, rfl, rfl, iX6, tblG_in (inT2 (List.mem_of_getElem? (i := 112) rfl)) rfl, tyX6_ok, nmX6⟩
theorem d_X2_add_32 : decode mX2_add.2.2.1 32 = .ok (.iastore, 1) := by decide +kernel
theorem d_X2_add_33 : decode mX2_add.2.2.1 33 = .ok (.aload_n 2, 1) := by decide +kernel
theorem d_X2_add_34 : decode mX2_add.2.2.1 34 = .ok (.getfield 39, 3) := by decide +kernel
theorem f_2_39 : e_fld 2 39 6 0 18 2 true := ⟨RX6, TX6, 0, rfl, rfl, by decide, rfl, rfl, rfl, iX6, tblG_in (inT2 (List.mem_of_getElem? (i := 99) rfl)) rfl, tyX6_ok, nmX6⟩
theorem d_X2_add_37 : decode mX2_add.2.2.1 37 = .ok (.getfield 43, 3) := by decide +kernel
theorem f_2_43 : e_fld 2 43 1 2 9 2 true := ⟨RX1, TX1, 2, rfl, rfl, by decide, rfl, rfl, rfl, iX1, tblG_in (inT2 (List.mem_of_getElem? (i := 69) rfl)) rfl, tyX1_ok, nmX1⟩
theorem d_X2_add_40 : decode mX2_add.2.2.1 40 = .ok (.iconst 0, 1) := by decide +kernel
theorem d_X2_add_41 : decode mX2_add.2.2.1 41 = .ok (.aload_n 0, 1) := by decide +kernel
theorem d_X2_add_42 : decode mX2_add.2.2.1 42 = .ok (.getfield 21, 3) := by decide +kernel
theorem d_X2_add_45 : decode mX2_add.2.2.1 45 = .ok (.aload_n 0, 1) := by decide +kernel
theorem d_X2_add_46 : decode mX2_add.2.2.1 46 = .ok (.getfield 27, 3) := by decide +kernel
theorem d_X2_add_49 : decode mX2_add.2.2.1 49 = .ok (.bipush 24, 2) := by decide +kernel
theorem d_X2_add_51 : decode mX2_add.2.2.1 51 = .ok (.imul, 1) := by decide +kernel
theorem d_X2_add_52 : decode mX2_add.2.2.1 52 = .ok (.bipush 24, 2) := by decide +kernel
theorem d_X2_add_54 : decode mX2_add.2.2.1 54 = .ok (.invokestatic 48, 3) := by decide +kernel
theorem ac_2_48 : Cond.methodLink (e_cn 2) 48 arraycopyName ∈ tblG := tblG_in (inT6 (List.mem_of_getElem? (i := 91) rfl)) rfl
theorem d_X2_add_57 : decode mX2_add.2.2.1 57 = .ok (.aload_n 0, 1) := by decide +kernel
theorem d_X2_add_58 : decode mX2_add.2.2.1 58 = .ok (.dup, 1) := by decide +kernel
theorem d_X2_add_59 : decode mX2_add.2.2.1 59 = .ok (.getfield 27, 3) := by decide +kernel
theorem d_X2_add_62 : decode mX2_add.2.2.1 62 = .ok (.iconst 1, 1) := by decide +kernel
theorem d_X2_add_63 : decode mX2_add.2.2.1 63 = .ok (.iadd, 1) := by decide +kernel
theorem d_X2_add_64 : decode mX2_add.2.2.1 64 = .ok (.putfield 27, 3) := by decide +kernel
theorem d_X2_add_67 : decode mX2_add.2.2.1 67 = .ok (.return_, 1) := by decide +kernel
theorem d_X2_add_9 : decode mX2_add.2.2.1 9 = .ok (.return_, 1) := by decide +kernel
theorem ok_X2_add : e_m mX2_add 2 := ⟨tblG_in (inT6 (List.mem_of_getElem? (i := 90) rfl)) rfl, plainFor_of_name (by decide), rfl, ini_2, by decide +kernel, by decide⟩
theorem d_X11_measure_53 : decode mX11_measure.2.2.1 53 = .ok (.aload_n 0, 1) := by decide +kernel
theorem d_X11_measure_54 : decode mX11_measure.2.2.1 54 = .ok (.getfield 70, 3) := by decide +kernel
theorem d_X11_measure_57 : decode mX11_measure.2.2.1 57 = .ok (.getfield 133, 3) := by decide +kernel
theorem d_X11_measure_60 : decode mX11_measure.2.2.1 60 = .ok (.ireturn, 1) := by decide +kernel
def mX11_over : MD := (11, yX11_over, cX11_over, 4, some .int)
theorem d_X11_over_0 : decode mX11_over.2.2.1 0 = .ok (.aload_n 0, 1) := by decide +kernel
theorem d_X11_over_1 : decode mX11_over.2.2.1 1 = .ok (.getfield 63, 3) := by decide +kernel
theorem d_X11_over_4 : decode mX11_over.2.2.1 4 = .ok (.aload_n 0, 1) := by decide +kernel
theorem d_X11_over_5 : decode mX11_over.2.2.1 5 = .ok (.getfield 30, 3) := by decide +kernel
theorem d_X11_over_8 : decode mX11_over.2.2.1 8 = .ok (.invokevirtual 249, 3) := by decide +kernel
def mX10_begin : MD := (10, yX10_begin, cX10_begin, 2, some .int)
theorem sel_X10_begin : Cond.instanceMethod mX10_begin.2.1 ∈ tblG ∧ Cond.selects mX10_begin.2.1.cls mX10_begin.2.1 mX10_begin.2.1 ∈ tblG := ⟨tblG_in (inT6 (List.mem_of_getElem? (i := 55) rfl)) rfl, tblG_in (inT6 (List.mem_of_getElem? (i := 56) rfl)) rfl⟩
theorem s_11_249 : e_siteV 11 249 mX10_begin 10 := ⟨tblG_in (inT6 (List.mem_of_getElem? (i := 54) rfl)) rfl, sel_X10_begin.1, sel_X10_begin.2, rfl⟩
theorem d_X10_begin_0 : decode mX10_begin.2.2.1 0 = .ok (.aload_n 1, 1) := by decide +kernel
theorem d_X10_begin_1 : decode mX10_begin.2.2.1 1 = .ok (.getfield 33, 3) := by decide +kernel
theorem f_10_33 : e_fld 10 33 3 8 12 2 true := ⟨RX3, TX3, 8, rfl, rfl, by decide, rfl, rfl, rfl, iX3, tblG_in (inT1 (List.mem_of_getElem? (i := 195) rfl)) rfl, tyX3_ok, nmX3⟩
theorem d_X10_begin_4 : decode mX10_begin.2.2.1 4 = .ok (.iconst 0, 1) := by decide +kernel
theorem d_X10_begin_5 : decode mX10_begin.2.2.1 5 = .ok (.aload_n 0, 1) := by decide +kernel
theorem d_X10_begin_6 : decode mX10_begin.2.2.1 6 = .ok (.getfield 9, 3) := by decide +kernel
theorem d_X10_begin_9 : decode mX10_begin.2.2.1 9 = .ok (.iconst 0, 1) := by decide +kernel
theorem d_X10_begin_10 : decode mX10_begin.2.2.1 10 = .ok (.iconst 3, 1) := by decide +kernel
theorem d_X10_begin_11 : decode mX10_begin.2.2.1 11 = .ok (.invokestatic 36, 3) := by decide +kernel
theorem ac_10_36 : Cond.methodLink (e_cn 10) 36 arraycopyName ∈ tblG := tblG_in (inT6 (List.mem_of_getElem? (i := 58) rfl)) rfl
end
/-! 25.13 -/
section
theorem d_X10_begin_14 : decode mX10_begin.2.2.1 14 = .ok (.aload_n 0, 1) := by decide +kernel
theorem d_X10_begin_15 : decode mX10_begin.2.2.1 15 = .ok (.getfield 21, 3) := by decide +kernel
theorem d_X10_begin_18 : decode mX10_begin.2.2.1 18 = .ok (.ifCond .eq 7, 3) := by decide +kernel
theorem d_X10_begin_25 : decode mX10_begin.2.2.1 25 = .ok (.aload_n 1, 1) := by decide +kernel
theorem d_X10_begin_26 : decode mX10_begin.2.2.1 26 = .ok (.invokestatic 42, 3) := by decide +kernel
def mX10_count : MD := (10, yX10_count, cX10_count, 3, some .int)
theorem s_10_42 : e_siteS 10 42 mX10_count := ⟨tblG_in (inT6 (List.mem_of_getElem? (i := 59) rfl)) rfl, tblG_in (inT6 (List.mem_of_getElem? (i := 60) rfl)) rfl⟩
theorem d_X10_count_0 : decode mX10_count.2.2.1 0 = .ok (.iconst 1, 1) := by decide +kernel
theorem d_X10_count_1 : decode mX10_count.2.2.1 1 = .ok (.istore_n 1, 1) := by decide +kernel
theorem d_X10_count_2 : decode mX10_count.2.2.1 2 = .ok (.iconst 0, 1) := by decide +kernel
theorem d_X10_count_3 : decode mX10_count.2.2.1 3 = .ok (.istore_n 2, 1) := by decide +kernel
theorem d_X10_count_4 : decode mX10_count.2.2.1 4 = .ok (.iload_n 2, 1) := by decide +kernel
theorem d_X10_count_5 : decode mX10_count.2.2.1 5 = .ok (.aload_n 0, 1) := by decide +kernel
theorem d_X10_count_6 : decode mX10_count.2.2.1 6 = .ok (.getfield 25, 3) := by decide +kernel
theorem f_10_25 : e_fld 10 25 3 4 12 2 true := ⟨RX3, TX3, 4, rfl, rfl, by decide, rfl, rfl, rfl, iX3, tblG_in (inT1 (List.mem_of_getElem? (i := 173) rfl)) rfl, tyX3_ok, nmX3⟩
theorem d_X10_count_9 : decode mX10_count.2.2.1 9 = .ok (.iconst 1, 1) := by decide +kernel
theorem d_X10_count_10 : decode mX10_count.2.2.1 10 = .ok (.iaload, 1) := by decide +kernel
theorem d_X10_count_11 : decode mX10_count.2.2.1 11 = .ok (.if_icmp .ge 27, 3) := by decide +kernel
theorem d_X10_count_38 : decode mX10_count.2.2.1 38 = .ok (.iload_n 1, 1) := by decide +kernel
theorem d_X10_count_39 : decode mX10_count.2.2.1 39 = .ok (.ireturn, 1) := by decide +kernel
theorem d_X10_count_14 : decode mX10_count.2.2.1 14 = .ok (.iload_n 1, 1) := by decide +kernel
theorem d_X10_count_15 : decode mX10_count.2.2.1 15 = .ok (.aload_n 0, 1) := by decide +kernel
theorem d_X10_count_16 : decode mX10_count.2.2.1 16 = .ok (.getfield 30, 3) := by decide +kernel
theorem f_10_30 : e_fld 10 30 3 9 12 2 true := ⟨RX3, TX3, 9, rfl, rfl, by decide, rfl, rfl, rfl, iX3, tblG_in (inT1 (List.mem_of_getElem? (i := 199) rfl)) rfl, tyX3_ok, nmX3⟩
theorem d_X10_count_19 : decode mX10_count.2.2.1 19 = .ok (.iload_n 2, 1) := by decide +kernel
theorem d_X10_count_20 : decode mX10_count.2.2.1 20 = .ok (.iaload, 1) := by decide +kernel
theorem d_X10_count_21 : decode mX10_count.2.2.1 21 = .ok (.aload_n 0, 1) := by decide +kernel
theorem d_X10_count_22 : decode mX10_count.2.2.1 22 = .ok (.getfield 33, 3) := by decide +kernel
theorem d_X10_count_25 : decode mX10_count.2.2.1 25 = .ok (.iload_n 2, 1) := by decide +kernel
theorem d_X10_count_26 : decode mX10_count.2.2.1 26 = .ok (.iaload, 1) := by decide +kernel
theorem d_X10_count_27 : decode mX10_count.2.2.1 27 = .ok (.isub, 1) := by decide +kernel
theorem d_X10_count_28 : decode mX10_count.2.2.1 28 = .ok (.iconst 1, 1) := by decide +kernel
theorem d_X10_count_29 : decode mX10_count.2.2.1 29 = .ok (.iadd, 1) := by decide +kernel
theorem d_X10_count_30 : decode mX10_count.2.2.1 30 = .ok (.imul, 1) := by decide +kernel
theorem d_X10_count_31 : decode mX10_count.2.2.1 31 = .ok (.istore_n 1, 1) := by decide +kernel
theorem d_X10_count_32 : decode mX10_count.2.2.1 32 = .ok (.iinc 2 1, 3) := by decide +kernel
theorem d_X10_count_35 : decode mX10_count.2.2.1 35 = .ok (.goto (-31), 3) := by decide +kernel
theorem ok_X10_count : e_m mX10_count 1 := ⟨tblG_in (inT6 (List.mem_of_getElem? (i := 61) rfl)) rfl, plainFor_of_name (by decide), rfl, ini_10, by decide +kernel, by decide⟩
theorem d_X10_begin_29 : decode mX10_begin.2.2.1 29 = .ok (.ireturn, 1) := by decide +kernel
theorem d_X10_begin_21 : decode mX10_begin.2.2.1 21 = .ok (.iconst 0, 1) := by decide +kernel
theorem d_X10_begin_22 : decode mX10_begin.2.2.1 22 = .ok (.goto 7, 3) := by decide +kernel
theorem ok_X10_begin : e_m mX10_begin 1 := ⟨tblG_in (inT6 (List.mem_of_getElem? (i := 57) rfl)) rfl, plainFor_of_name (by decide), rfl, ini_10, by decide +kernel, by decide⟩
theorem d_X11_over_11 : decode mX11_over.2.2.1 11 = .ok (.istore_n 2, 1) := by decide +kernel
theorem d_X11_over_12 : decode mX11_over.2.2.1 12 = .ok (.iload_n 2, 1) := by decide +kernel
theorem d_X11_over_13 : decode mX11_over.2.2.1 13 = .ok (.sipush 256, 3) := by decide +kernel
theorem d_X11_over_16 : decode mX11_over.2.2.1 16 = .ok (.if_icmp .le 5, 3) := by decide +kernel
theorem d_X11_over_21 : decode mX11_over.2.2.1 21 = .ok (.iconst 0, 1) := by decide +kernel
theorem d_X11_over_22 : decode mX11_over.2.2.1 22 = .ok (.istore_n 3, 1) := by decide +kernel
theorem d_X11_over_19 : decode mX11_over.2.2.1 19 = .ok (.iconst (-1), 1) := by decide +kernel
theorem d_X11_over_20 : decode mX11_over.2.2.1 20 = .ok (.ireturn, 1) := by decide +kernel
theorem d_X11_over_23 : decode mX11_over.2.2.1 23 = .ok (.iload_n 3, 1) := by decide +kernel
theorem d_X11_over_24 : decode mX11_over.2.2.1 24 = .ok (.iload_n 2, 1) := by decide +kernel
theorem d_X11_over_25 : decode mX11_over.2.2.1 25 = .ok (.if_icmp .ge 62, 3) := by decide +kernel
theorem d_X11_over_87 : decode mX11_over.2.2.1 87 = .ok (.aload_n 0, 1) := by decide +kernel
theorem d_X11_over_88 : decode mX11_over.2.2.1 88 = .ok (.getfield 63, 3) := by decide +kernel
theorem d_X11_over_91 : decode mX11_over.2.2.1 91 = .ok (.iload_n 1, 1) := by decide +kernel
theorem d_X11_over_92 : decode mX11_over.2.2.1 92 = .ok (.invokevirtual 264, 3) := by decide +kernel
def mX10_choose : MD := (10, yX10_choose, cX10_choose, 2, some .int)
theorem sel_X10_choose : Cond.instanceMethod mX10_choose.2.1 ∈ tblG ∧ Cond.selects mX10_choose.2.1.cls mX10_choose.2.1 mX10_choose.2.1 ∈ tblG := ⟨tblG_in (inT6 (List.mem_of_getElem? (i := 71) rfl)) rfl, tblG_in (inT6 (List.mem_of_getElem? (i := 72) rfl)) rfl⟩
theorem s_11_264 : e_siteV 11 264 mX10_choose 10 := ⟨tblG_in (inT6 (List.mem_of_getElem? (i := 70) rfl)) rfl, sel_X10_choose.1, sel_X10_choose.2, rfl⟩
theorem d_X10_choose_0 : decode mX10_choose.2.2.1 0 = .ok (.aload_n 0, 1) := by decide +kernel
theorem d_X10_choose_1 : decode mX10_choose.2.2.1 1 = .ok (.iconst 1, 1) := by decide +kernel
theorem d_X10_choose_2 : decode mX10_choose.2.2.1 2 = .ok (.putfield 21, 3) := by decide +kernel
theorem d_X10_choose_5 : decode mX10_choose.2.2.1 5 = .ok (.aload_n 0, 1) := by decide +kernel
theorem d_X10_choose_6 : decode mX10_choose.2.2.1 6 = .ok (.iload_n 1, 1) := by decide +kernel
theorem d_X10_choose_7 : decode mX10_choose.2.2.1 7 = .ok (.putfield 52, 3) := by decide +kernel
theorem d_X10_choose_10 : decode mX10_choose.2.2.1 10 = .ok (.iload_n 1, 1) := by decide +kernel
theorem d_X10_choose_11 : decode mX10_choose.2.2.1 11 = .ok (.ifCond .eq 10, 3) := by decide +kernel
theorem d_X10_choose_21 : decode mX10_choose.2.2.1 21 = .ok (.aload_n 0, 1) := by decide +kernel
theorem d_X10_choose_22 : decode mX10_choose.2.2.1 22 = .ok (.getfield 50, 3) := by decide +kernel
theorem f_10_50 : e_fld 10 50 10 3 7 0 false := ⟨RX10, TX10, 3, rfl, rfl, by decide, rfl, rfl, rfl, iX10, tblG_in (inT2 (List.mem_of_getElem? (i := 192) rfl)) rfl, tyX10_ok, nmX10⟩
theorem d_X10_choose_25 : decode mX10_choose.2.2.1 25 = .ok (.ireturn, 1) := by decide +kernel
theorem d_X10_choose_14 : decode mX10_choose.2.2.1 14 = .ok (.aload_n 0, 1) := by decide +kernel
theorem d_X10_choose_15 : decode mX10_choose.2.2.1 15 = .ok (.getfield 46, 3) := by decide +kernel
theorem f_10_46 : e_fld 10 46 10 2 7 0 false := ⟨RX10, TX10, 2, rfl, rfl, by decide, rfl, rfl, rfl, iX10, tblG_in (inT2 (List.mem_of_getElem? (i := 191) rfl)) rfl, tyX10_ok, nmX10⟩
theorem d_X10_choose_18 : decode mX10_choose.2.2.1 18 = .ok (.goto 7, 3) := by decide +kernel
theorem ok_X10_choose : e_m mX10_choose 1 := ⟨tblG_in (inT6 (List.mem_of_getElem? (i := 73) rfl)) rfl, plainFor_of_name (by decide), rfl, ini_10, by decide +kernel, by decide⟩
theorem d_X11_over_95 : decode mX11_over.2.2.1 95 = .ok (.ireturn, 1) := by decide +kernel
theorem d_X11_over_28 : decode mX11_over.2.2.1 28 = .ok (.aload_n 0, 1) := by decide +kernel
theorem d_X11_over_29 : decode mX11_over.2.2.1 29 = .ok (.getfield 50, 3) := by decide +kernel
theorem d_X11_over_32 : decode mX11_over.2.2.1 32 = .ok (.aload_n 0, 1) := by decide +kernel
theorem d_X11_over_33 : decode mX11_over.2.2.1 33 = .ok (.getfield 30, 3) := by decide +kernel
theorem d_X11_over_36 : decode mX11_over.2.2.1 36 = .ok (.aload_n 0, 1) := by decide +kernel
theorem d_X11_over_37 : decode mX11_over.2.2.1 37 = .ok (.getfield 63, 3) := by decide +kernel
theorem d_X11_over_40 : decode mX11_over.2.2.1 40 = .ok (.getfield 253, 3) := by decide +kernel
theorem f_11_253 : e_fld 11 253 10 4 7 2 true := ⟨RX10, TX10, 4, rfl, rfl, by decide, rfl, rfl, rfl, iX10, tblG_in (inT2 (List.mem_of_getElem? (i := 194) rfl)) rfl, tyX10_ok, nmX10⟩
theorem d_X11_over_43 : decode mX11_over.2.2.1 43 = .ok (.iconst (-1), 1) := by decide +kernel
theorem d_X11_over_44 : decode mX11_over.2.2.1 44 = .ok (.invokevirtual 144, 3) := by decide +kernel
theorem d_X11_over_47 : decode mX11_over.2.2.1 47 = .ok (.aload_n 0, 1) := by decide +kernel
theorem d_X11_over_48 : decode mX11_over.2.2.1 48 = .ok (.getfield 63, 3) := by decide +kernel
theorem d_X11_over_51 : decode mX11_over.2.2.1 51 = .ok (.aload_n 0, 1) := by decide +kernel
theorem d_X11_over_52 : decode mX11_over.2.2.1 52 = .ok (.getfield 50, 3) := by decide +kernel
theorem d_X11_over_55 : decode mX11_over.2.2.1 55 = .ok (.getfield 155, 3) := by decide +kernel
theorem d_X11_over_58 : decode mX11_over.2.2.1 58 = .ok (.iload_n 3, 1) := by decide +kernel
theorem d_X11_over_59 : decode mX11_over.2.2.1 59 = .ok (.ifCond .ne 7, 3) := by decide +kernel
theorem d_X11_over_62 : decode mX11_over.2.2.1 62 = .ok (.iconst 1, 1) := by decide +kernel
theorem d_X11_over_63 : decode mX11_over.2.2.1 63 = .ok (.goto 4, 3) := by decide +kernel
theorem d_X11_over_67 : decode mX11_over.2.2.1 67 = .ok (.invokevirtual 256, 3) := by decide +kernel
def mX10_compare : MD := (10, yX10_compare, cX10_compare, 3, none)
theorem sel_X10_compare : Cond.instanceMethod mX10_compare.2.1 ∈ tblG ∧ Cond.selects mX10_compare.2.1.cls mX10_compare.2.1 mX10_compare.2.1 ∈ tblG := ⟨tblG_in (inT6 (List.mem_of_getElem? (i := 63) rfl)) rfl, tblG_in (inT6 (List.mem_of_getElem? (i := 64) rfl)) rfl⟩
theorem s_11_256 : e_siteV 11 256 mX10_compare 10 := ⟨tblG_in (inT6 (List.mem_of_getElem? (i := 62) rfl)) rfl, sel_X10_compare.1, sel_X10_compare.2, rfl⟩
theorem d_X10_compare_0 : decode mX10_compare.2.2.1 0 = .ok (.iload_n 2, 1) := by decide +kernel
theorem d_X10_compare_1 : decode mX10_compare.2.2.1 1 = .ok (.ifCond .ne 11, 3) := by decide +kernel
theorem d_X10_compare_12 : decode mX10_compare.2.2.1 12 = .ok (.aload_n 0, 1) := by decide +kernel
theorem d_X10_compare_13 : decode mX10_compare.2.2.1 13 = .ok (.iload_n 1, 1) := by decide +kernel
theorem d_X10_compare_14 : decode mX10_compare.2.2.1 14 = .ok (.putfield 46, 3) := by decide +kernel
theorem d_X10_compare_17 : decode mX10_compare.2.2.1 17 = .ok (.aload_n 0, 1) := by decide +kernel
theorem d_X10_compare_18 : decode mX10_compare.2.2.1 18 = .ok (.getfield 9, 3) := by decide +kernel
theorem d_X10_compare_21 : decode mX10_compare.2.2.1 21 = .ok (.iconst 0, 1) := by decide +kernel
theorem d_X10_compare_22 : decode mX10_compare.2.2.1 22 = .ok (.aload_n 0, 1) := by decide +kernel
theorem d_X10_compare_23 : decode mX10_compare.2.2.1 23 = .ok (.getfield 15, 3) := by decide +kernel
theorem d_X10_compare_26 : decode mX10_compare.2.2.1 26 = .ok (.iconst 0, 1) := by decide +kernel
theorem d_X10_compare_27 : decode mX10_compare.2.2.1 27 = .ok (.iconst 3, 1) := by decide +kernel
theorem d_X10_compare_28 : decode mX10_compare.2.2.1 28 = .ok (.invokestatic 36, 3) := by decide +kernel
theorem d_X10_compare_31 : decode mX10_compare.2.2.1 31 = .ok (.iload_n 2, 1) := by decide +kernel
theorem d_X10_compare_32 : decode mX10_compare.2.2.1 32 = .ok (.ifCond .ne 11, 3) := by decide +kernel
theorem d_X10_compare_43 : decode mX10_compare.2.2.1 43 = .ok (.aload_n 0, 1) := by decide +kernel
theorem d_X10_compare_44 : decode mX10_compare.2.2.1 44 = .ok (.iload_n 1, 1) := by decide +kernel
theorem d_X10_compare_45 : decode mX10_compare.2.2.1 45 = .ok (.putfield 50, 3) := by decide +kernel
theorem d_X10_compare_48 : decode mX10_compare.2.2.1 48 = .ok (.aload_n 0, 1) := by decide +kernel
theorem d_X10_compare_49 : decode mX10_compare.2.2.1 49 = .ok (.getfield 9, 3) := by decide +kernel
theorem d_X10_compare_52 : decode mX10_compare.2.2.1 52 = .ok (.iconst 0, 1) := by decide +kernel
theorem d_X10_compare_53 : decode mX10_compare.2.2.1 53 = .ok (.aload_n 0, 1) := by decide +kernel
theorem d_X10_compare_54 : decode mX10_compare.2.2.1 54 = .ok (.getfield 18, 3) := by decide +kernel
theorem d_X10_compare_57 : decode mX10_compare.2.2.1 57 = .ok (.iconst 0, 1) := by decide +kernel
theorem d_X10_compare_58 : decode mX10_compare.2.2.1 58 = .ok (.iconst 3, 1) := by decide +kernel
theorem d_X10_compare_59 : decode mX10_compare.2.2.1 59 = .ok (.invokestatic 36, 3) := by decide +kernel
theorem d_X10_compare_62 : decode mX10_compare.2.2.1 62 = .ok (.return_, 1) := by decide +kernel
theorem ok_X10_compare : e_m mX10_compare 2 := ⟨tblG_in (inT6 (List.mem_of_getElem? (i := 65) rfl)) rfl, plainFor_of_name (by decide), rfl, ini_10, by decide +kernel, by decide⟩
theorem d_X11_over_70 : decode mX11_over.2.2.1 70 = .ok (.aload_n 0, 1) := by decide +kernel
theorem d_X11_over_71 : decode mX11_over.2.2.1 71 = .ok (.getfield 63, 3) := by decide +kernel
theorem d_X11_over_74 : decode mX11_over.2.2.1 74 = .ok (.aload_n 0, 1) := by decide +kernel
theorem d_X11_over_75 : decode mX11_over.2.2.1 75 = .ok (.getfield 30, 3) := by decide +kernel
theorem d_X11_over_78 : decode mX11_over.2.2.1 78 = .ok (.invokevirtual 260, 3) := by decide +kernel
def mX10_turnOn : MD := (10, yX10_turnOn, cX10_turnOn, 3, none)
theorem sel_X10_turnOn : Cond.instanceMethod mX10_turnOn.2.1 ∈ tblG ∧ Cond.selects mX10_turnOn.2.1.cls mX10_turnOn.2.1 mX10_turnOn.2.1 ∈ tblG := ⟨tblG_in (inT6 (List.mem_of_getElem? (i := 67) rfl)) rfl, tblG_in (inT6 (List.mem_of_getElem? (i := 68) rfl)) rfl⟩
theorem s_11_260 : e_siteV 11 260 mX10_turnOn 10 := ⟨tblG_in (inT6 (List.mem_of_getElem? (i := 66) rfl)) rfl, sel_X10_turnOn.1, sel_X10_turnOn.2, rfl⟩
theorem d_X10_turnOn_0 : decode mX10_turnOn.2.2.1 0 = .ok (.aload_n 1, 1) := by decide +kernel
theorem d_X10_turnOn_1 : decode mX10_turnOn.2.2.1 1 = .ok (.getfield 25, 3) := by decide +kernel
theorem d_X10_turnOn_4 : decode mX10_turnOn.2.2.1 4 = .ok (.iconst 1, 1) := by decide +kernel
theorem d_X10_turnOn_5 : decode mX10_turnOn.2.2.1 5 = .ok (.iaload, 1) := by decide +kernel
theorem d_X10_turnOn_6 : decode mX10_turnOn.2.2.1 6 = .ok (.iconst 1, 1) := by decide +kernel
theorem d_X10_turnOn_7 : decode mX10_turnOn.2.2.1 7 = .ok (.isub, 1) := by decide +kernel
theorem d_X10_turnOn_8 : decode mX10_turnOn.2.2.1 8 = .ok (.istore_n 2, 1) := by decide +kernel
theorem d_X10_turnOn_9 : decode mX10_turnOn.2.2.1 9 = .ok (.iload_n 2, 1) := by decide +kernel
theorem d_X10_turnOn_10 : decode mX10_turnOn.2.2.1 10 = .ok (.ifCond .lt 47, 3) := by decide +kernel
theorem d_X10_turnOn_57 : decode mX10_turnOn.2.2.1 57 = .ok (.return_, 1) := by decide +kernel
theorem d_X10_turnOn_13 : decode mX10_turnOn.2.2.1 13 = .ok (.aload_n 0, 1) := by decide +kernel
theorem d_X10_turnOn_14 : decode mX10_turnOn.2.2.1 14 = .ok (.getfield 9, 3) := by decide +kernel
theorem d_X10_turnOn_17 : decode mX10_turnOn.2.2.1 17 = .ok (.iload_n 2, 1) := by decide +kernel
theorem d_X10_turnOn_18 : decode mX10_turnOn.2.2.1 18 = .ok (.iaload, 1) := by decide +kernel
theorem d_X10_turnOn_19 : decode mX10_turnOn.2.2.1 19 = .ok (.aload_n 1, 1) := by decide +kernel
theorem d_X10_turnOn_20 : decode mX10_turnOn.2.2.1 20 = .ok (.getfield 30, 3) := by decide +kernel
theorem d_X10_turnOn_23 : decode mX10_turnOn.2.2.1 23 = .ok (.iload_n 2, 1) := by decide +kernel
theorem d_X10_turnOn_24 : decode mX10_turnOn.2.2.1 24 = .ok (.iaload, 1) := by decide +kernel
theorem d_X10_turnOn_25 : decode mX10_turnOn.2.2.1 25 = .ok (.if_icmp .ge 14, 3) := by decide +kernel
theorem d_X10_turnOn_39 : decode mX10_turnOn.2.2.1 39 = .ok (.aload_n 0, 1) := by decide +kernel
theorem d_X10_turnOn_40 : decode mX10_turnOn.2.2.1 40 = .ok (.getfield 9, 3) := by decide +kernel
theorem d_X10_turnOn_43 : decode mX10_turnOn.2.2.1 43 = .ok (.iload_n 2, 1) := by decide +kernel
theorem d_X10_turnOn_44 : decode mX10_turnOn.2.2.1 44 = .ok (.aload_n 1, 1) := by decide +kernel
theorem d_X10_turnOn_45 : decode mX10_turnOn.2.2.1 45 = .ok (.getfield 33, 3) := by decide +kernel
theorem d_X10_turnOn_48 : decode mX10_turnOn.2.2.1 48 = .ok (.iload_n 2, 1) := by decide +kernel
theorem d_X10_turnOn_49 : decode mX10_turnOn.2.2.1 49 = .ok (.iaload, 1) := by decide +kernel
theorem d_X10_turnOn_50 : decode mX10_turnOn.2.2.1 50 = .ok (.iastore, 1) := by decide +kernel
theorem d_X10_turnOn_51 : decode mX10_turnOn.2.2.1 51 = .ok (.iinc 2 (-1), 3) := by decide +kernel
theorem d_X10_turnOn_54 : decode mX10_turnOn.2.2.1 54 = .ok (.goto (-45), 3) := by decide +kernel
theorem d_X10_turnOn_28 : decode mX10_turnOn.2.2.1 28 = .ok (.aload_n 0, 1) := by decide +kernel
theorem d_X10_turnOn_29 : decode mX10_turnOn.2.2.1 29 = .ok (.getfield 9, 3) := by decide +kernel
theorem d_X10_turnOn_32 : decode mX10_turnOn.2.2.1 32 = .ok (.iload_n 2, 1) := by decide +kernel
theorem d_X10_turnOn_33 : decode mX10_turnOn.2.2.1 33 = .ok (.dup2, 1) := by decide +kernel
theorem d_X10_turnOn_34 : decode mX10_turnOn.2.2.1 34 = .ok (.iaload, 1) := by decide +kernel
theorem d_X10_turnOn_35 : decode mX10_turnOn.2.2.1 35 = .ok (.iconst 1, 1) := by decide +kernel
theorem d_X10_turnOn_36 : decode mX10_turnOn.2.2.1 36 = .ok (.iadd, 1) := by decide +kernel
theorem d_X10_turnOn_37 : decode mX10_turnOn.2.2.1 37 = .ok (.iastore, 1) := by decide +kernel
theorem d_X10_turnOn_38 : decode mX10_turnOn.2.2.1 38 = .ok (.return_, 1) := by decide +kernel
theorem ok_X10_turnOn : e_m mX10_turnOn 1 := ⟨tblG_in (inT6 (List.mem_of_getElem? (i := 69) rfl)) rfl, plainFor_of_name (by decide), rfl, ini_10, by decide +kernel, by decide⟩
theorem d_X11_over_81 : decode mX11_over.2.2.1 81 = .ok (.iinc 3 1, 3) := by decide +kernel
theorem d_X11_over_84 : decode mX11_over.2.2.1 84 = .ok (.goto (-61), 3) := by decide +kernel
theorem d_X11_over_66 : decode mX11_over.2.2.1 66 = .ok (.iconst 0, 1) := by decide +kernel
theorem d_X10_compare_4 : decode mX10_compare.2.2.1 4 = .ok (.iload_n 1, 1) := by decide +kernel
theorem d_X10_compare_5 : decode mX10_compare.2.2.1 5 = .ok (.aload_n 0, 1) := by decide +kernel
theorem d_X10_compare_6 : decode mX10_compare.2.2.1 6 = .ok (.getfield 46, 3) := by decide +kernel
theorem d_X10_compare_9 : decode mX10_compare.2.2.1 9 = .ok (.if_icmp .le 22, 3) := by decide +kernel
theorem d_X10_compare_35 : decode mX10_compare.2.2.1 35 = .ok (.iload_n 1, 1) := by decide +kernel
theorem d_X10_compare_36 : decode mX10_compare.2.2.1 36 = .ok (.aload_n 0, 1) := by decide +kernel
theorem d_X10_compare_37 : decode mX10_compare.2.2.1 37 = .ok (.getfield 50, 3) := by decide +kernel
theorem d_X10_compare_40 : decode mX10_compare.2.2.1 40 = .ok (.if_icmp .ge 22, 3) := by decide +kernel
def mX11_run : MD := (11, yX11_run, cX11_run, 2, some .int)
theorem d_X11_run_0 : decode mX11_run.2.2.1 0 = .ok (.iload_n 1, 1) := by decide +kernel
theorem d_X11_run_1 : decode mX11_run.2.2.1 1 = .ok (.iconst (-1), 1) := by decide +kernel
theorem d_X11_run_2 : decode mX11_run.2.2.1 2 = .ok (.if_icmp .ge 6, 3) := by decide +kernel
theorem d_X11_run_8 : decode mX11_run.2.2.1 8 = .ok (.aload_n 0, 1) := by decide +kernel
theorem d_X11_run_9 : decode mX11_run.2.2.1 9 = .ok (.getfield 46, 3) := by decide +kernel
theorem d_X11_run_12 : decode mX11_run.2.2.1 12 = .ok (.aload_n 0, 1) := by decide +kernel
theorem d_X11_run_13 : decode mX11_run.2.2.1 13 = .ok (.getfield 30, 3) := by decide +kernel
theorem d_X11_run_16 : decode mX11_run.2.2.1 16 = .ok (.aload_n 0, 1) := by decide +kernel
theorem d_X11_run_17 : decode mX11_run.2.2.1 17 = .ok (.getfield 37, 3) := by decide +kernel
theorem d_X11_run_20 : decode mX11_run.2.2.1 20 = .ok (.iload_n 1, 1) := by decide +kernel
theorem d_X11_run_21 : decode mX11_run.2.2.1 21 = .ok (.invokevirtual 144, 3) := by decide +kernel
theorem d_X6_begin_91 : decode mX6_begin.2.2.1 91 = .ok (.iconst 1, 1) := by decide +kernel
theorem d_X6_begin_92 : decode mX6_begin.2.2.1 92 = .ok (.goto 4, 3) := by decide +kernel
theorem d_X1_begin_20 : decode mX1_begin.2.2.1 20 = .ok (.aload_n 0, 1) := by decide +kernel
theorem d_X1_begin_21 : decode mX1_begin.2.2.1 21 = .ok (.getfield 15, 3) := by decide +kernel
theorem d_X1_begin_24 : decode mX1_begin.2.2.1 24 = .ok (.iconst (-1), 1) := by decide +kernel
theorem d_X1_begin_25 : decode mX1_begin.2.2.1 25 = .ok (.invokestatic 45, 3) := by decide +kernel
theorem d_X1_begin_28 : decode mX1_begin.2.2.1 28 = .ok (.aload_n 0, 1) := by decide +kernel
theorem d_X1_begin_29 : decode mX1_begin.2.2.1 29 = .ok (.getfield 18, 3) := by decide +kernel
theorem d_X1_begin_32 : decode mX1_begin.2.2.1 32 = .ok (.iconst (-1), 1) := by decide +kernel
theorem d_X1_begin_33 : decode mX1_begin.2.2.1 33 = .ok (.invokestatic 45, 3) := by decide +kernel
theorem d_X1_begin_36 : decode mX1_begin.2.2.1 36 = .ok (.aload_n 0, 1) := by decide +kernel
theorem d_X1_begin_37 : decode mX1_begin.2.2.1 37 = .ok (.getfield 21, 3) := by decide +kernel
theorem d_X1_begin_40 : decode mX1_begin.2.2.1 40 = .ok (.iconst 0, 1) := by decide +kernel
theorem d_X1_begin_41 : decode mX1_begin.2.2.1 41 = .ok (.invokestatic 45, 3) := by decide +kernel
theorem d_X1_begin_44 : decode mX1_begin.2.2.1 44 = .ok (.aload_n 0, 1) := by decide +kernel
theorem d_X1_begin_45 : decode mX1_begin.2.2.1 45 = .ok (.getfield 24, 3) := by decide +kernel
theorem d_X1_begin_48 : decode mX1_begin.2.2.1 48 = .ok (.iconst 0, 1) := by decide +kernel
theorem d_X1_begin_49 : decode mX1_begin.2.2.1 49 = .ok (.invokestatic 45, 3) := by decide +kernel
theorem d_X1_begin_52 : decode mX1_begin.2.2.1 52 = .ok (.aload_n 0, 1) := by decide +kernel
theorem d_X1_begin_53 : decode mX1_begin.2.2.1 53 = .ok (.getfield 27, 3) := by decide +kernel
theorem d_X1_begin_56 : decode mX1_begin.2.2.1 56 = .ok (.iconst 0, 1) := by decide +kernel
theorem d_X1_begin_57 : decode mX1_begin.2.2.1 57 = .ok (.invokestatic 45, 3) := by decide +kernel
theorem d_X1_begin_60 : decode mX1_begin.2.2.1 60 = .ok (.aload_n 0, 1) := by decide +kernel
theorem d_X1_begin_61 : decode mX1_begin.2.2.1 61 = .ok (.getfield 33, 3) := by decide +kernel
theorem d_X1_begin_64 : decode mX1_begin.2.2.1 64 = .ok (.invokevirtual 51, 3) := by decide +kernel
def mX8_clear : MD := (8, yX8_clear, cX8_clear, 1, none)
theorem sel_X8_clear : Cond.instanceMethod mX8_clear.2.1 ∈ tblG ∧ Cond.selects mX8_clear.2.1.cls mX8_clear.2.1 mX8_clear.2.1 ∈ tblG := ⟨tblG_in (inT5 (List.mem_of_getElem? (i := 2) rfl)) rfl, tblG_in (inT5 (List.mem_of_getElem? (i := 3) rfl)) rfl⟩
theorem s_1_51 : e_siteV 1 51 mX8_clear 8 := ⟨tblG_in (inT5 (List.mem_of_getElem? (i := 1) rfl)) rfl, sel_X8_clear.1, sel_X8_clear.2, rfl⟩
theorem d_X8_clear_0 : decode mX8_clear.2.2.1 0 = .ok (.aload_n 0, 1) := by decide +kernel
theorem d_X8_clear_1 : decode mX8_clear.2.2.1 1 = .ok (.iconst 0, 1) := by decide +kernel
theorem d_X8_clear_2 : decode mX8_clear.2.2.1 2 = .ok (.putfield 43, 3) := by decide +kernel
end
/-! 25.14 -/
section
theorem d_X8_clear_5 : decode mX8_clear.2.2.1 5 = .ok (.aload_n 0, 1) := by decide +kernel
theorem d_X8_clear_6 : decode mX8_clear.2.2.1 6 = .ok (.iconst 0, 1) := by decide +kernel
theorem d_X8_clear_7 : decode mX8_clear.2.2.1 7 = .ok (.putfield 47, 3) := by decide +kernel
theorem f_8_47 : e_fld 8 47 8 7 12 0 false := ⟨RX8, TX8, 7, rfl, rfl, by decide, rfl, rfl, rfl, iX8, tblG_in (inT2 (List.mem_of_getElem? (i := 30) rfl)) rfl, tyX8_ok, nmX8⟩
theorem d_X8_clear_10 : decode mX8_clear.2.2.1 10 = .ok (.aload_n 0, 1) := by decide +kernel
theorem d_X8_clear_11 : decode mX8_clear.2.2.1 11 = .ok (.getfield 28, 3) := by decide +kernel
theorem d_X8_clear_14 : decode mX8_clear.2.2.1 14 = .ok (.iconst (-1), 1) := by decide +kernel
theorem d_X8_clear_15 : decode mX8_clear.2.2.1 15 = .ok (.invokestatic 50, 3) := by decide +kernel
theorem s_8_50 : e_siteS 8 50 mJ7_fill_53178 := ⟨tblG_in (inT5 (List.mem_of_getElem? (i := 5) rfl)) rfl, tblG_in (inT3 (List.mem_of_getElem? (i := 42) rfl)) rfl⟩
theorem d_X8_clear_18 : decode mX8_clear.2.2.1 18 = .ok (.return_, 1) := by decide +kernel
theorem ok_X8_clear : e_m mX8_clear 0 := ⟨tblG_in (inT5 (List.mem_of_getElem? (i := 4) rfl)) rfl, plainFor_of_name (by decide), rfl, ini_8, by decide +kernel, by decide⟩
theorem d_X1_makeRoom_7 : decode mX1_makeRoom.2.2.1 7 = .ok (.aload_n 0, 1) := by decide +kernel
theorem d_X1_makeRoom_8 : decode mX1_makeRoom.2.2.1 8 = .ok (.getfield 33, 3) := by decide +kernel
theorem d_X1_makeRoom_11 : decode mX1_makeRoom.2.2.1 11 = .ok (.invokevirtual 54, 3) := by decide +kernel
def mX8_makeRoom : MD := (8, yX8_makeRoom, cX8_makeRoom, 2, none)
theorem sel_X8_makeRoom : Cond.instanceMethod mX8_makeRoom.2.1 ∈ tblG ∧ Cond.selects mX8_makeRoom.2.1.cls mX8_makeRoom.2.1 mX8_makeRoom.2.1 ∈ tblG := ⟨tblG_in (inT5 (List.mem_of_getElem? (i := 11) rfl)) rfl, tblG_in (inT5 (List.mem_of_getElem? (i := 12) rfl)) rfl⟩
theorem s_1_54 : e_siteV 1 54 mX8_makeRoom 8 := ⟨tblG_in (inT5 (List.mem_of_getElem? (i := 10) rfl)) rfl, sel_X8_makeRoom.1, sel_X8_makeRoom.2, rfl⟩
theorem d_X8_makeRoom_0 : decode mX8_makeRoom.2.2.1 0 = .ok (.aload_n 0, 1) := by decide +kernel
theorem d_X8_makeRoom_1 : decode mX8_makeRoom.2.2.1 1 = .ok (.getfield 47, 3) := by decide +kernel
theorem d_X8_makeRoom_4 : decode mX8_makeRoom.2.2.1 4 = .ok (.aload_n 0, 1) := by decide +kernel
theorem d_X8_makeRoom_5 : decode mX8_makeRoom.2.2.1 5 = .ok (.getfield 31, 3) := by decide +kernel
theorem d_X8_makeRoom_8 : decode mX8_makeRoom.2.2.1 8 = .ok (.arraylength, 1) := by decide +kernel
theorem d_X8_makeRoom_9 : decode mX8_makeRoom.2.2.1 9 = .ok (.if_icmp .ge 4, 3) := by decide +kernel
theorem d_X8_makeRoom_12 : decode mX8_makeRoom.2.2.1 12 = .ok (.return_, 1) := by decide +kernel
theorem d_X8_makeRoom_13 : decode mX8_makeRoom.2.2.1 13 = .ok (.aload_n 0, 1) := by decide +kernel
theorem d_X8_makeRoom_14 : decode mX8_makeRoom.2.2.1 14 = .ok (.getfield 31, 3) := by decide +kernel
theorem d_X8_makeRoom_17 : decode mX8_makeRoom.2.2.1 17 = .ok (.arraylength, 1) := by decide +kernel
theorem d_X8_makeRoom_18 : decode mX8_makeRoom.2.2.1 18 = .ok (.iconst 2, 1) := by decide +kernel
theorem d_X8_makeRoom_19 : decode mX8_makeRoom.2.2.1 19 = .ok (.imul, 1) := by decide +kernel
theorem d_X8_makeRoom_20 : decode mX8_makeRoom.2.2.1 20 = .ok (.bipush 32, 2) := by decide +kernel
theorem d_X8_makeRoom_22 : decode mX8_makeRoom.2.2.1 22 = .ok (.iadd, 1) := by decide +kernel
theorem d_X8_makeRoom_23 : decode mX8_makeRoom.2.2.1 23 = .ok (.istore_n 1, 1) := by decide +kernel
theorem d_X8_makeRoom_24 : decode mX8_makeRoom.2.2.1 24 = .ok (.aload_n 0, 1) := by decide +kernel
theorem d_X8_makeRoom_25 : decode mX8_makeRoom.2.2.1 25 = .ok (.aload_n 0, 1) := by decide +kernel
theorem d_X8_makeRoom_26 : decode mX8_makeRoom.2.2.1 26 = .ok (.getfield 9, 3) := by decide +kernel
theorem d_X8_makeRoom_29 : decode mX8_makeRoom.2.2.1 29 = .ok (.iload_n 1, 1) := by decide +kernel
theorem d_X8_makeRoom_30 : decode mX8_makeRoom.2.2.1 30 = .ok (.invokestatic 56, 3) := by decide +kernel
theorem d_X8_makeRoom_33 : decode mX8_makeRoom.2.2.1 33 = .ok (.putfield 9, 3) := by decide +kernel
theorem d_X8_makeRoom_36 : decode mX8_makeRoom.2.2.1 36 = .ok (.aload_n 0, 1) := by decide +kernel
theorem d_X8_makeRoom_37 : decode mX8_makeRoom.2.2.1 37 = .ok (.aload_n 0, 1) := by decide +kernel
theorem d_X8_makeRoom_38 : decode mX8_makeRoom.2.2.1 38 = .ok (.getfield 15, 3) := by decide +kernel
theorem d_X8_makeRoom_41 : decode mX8_makeRoom.2.2.1 41 = .ok (.iload_n 1, 1) := by decide +kernel
theorem d_X8_makeRoom_42 : decode mX8_makeRoom.2.2.1 42 = .ok (.invokestatic 56, 3) := by decide +kernel
theorem d_X8_makeRoom_45 : decode mX8_makeRoom.2.2.1 45 = .ok (.putfield 15, 3) := by decide +kernel
theorem d_X8_makeRoom_48 : decode mX8_makeRoom.2.2.1 48 = .ok (.aload_n 0, 1) := by decide +kernel
theorem d_X8_makeRoom_49 : decode mX8_makeRoom.2.2.1 49 = .ok (.aload_n 0, 1) := by decide +kernel
theorem d_X8_makeRoom_50 : decode mX8_makeRoom.2.2.1 50 = .ok (.getfield 18, 3) := by decide +kernel
theorem d_X8_makeRoom_53 : decode mX8_makeRoom.2.2.1 53 = .ok (.iload_n 1, 1) := by decide +kernel
theorem d_X8_makeRoom_54 : decode mX8_makeRoom.2.2.1 54 = .ok (.invokestatic 56, 3) := by decide +kernel
theorem d_X8_makeRoom_57 : decode mX8_makeRoom.2.2.1 57 = .ok (.putfield 18, 3) := by decide +kernel
theorem d_X8_makeRoom_60 : decode mX8_makeRoom.2.2.1 60 = .ok (.aload_n 0, 1) := by decide +kernel
theorem d_X8_makeRoom_61 : decode mX8_makeRoom.2.2.1 61 = .ok (.aload_n 0, 1) := by decide +kernel
theorem d_X8_makeRoom_62 : decode mX8_makeRoom.2.2.1 62 = .ok (.getfield 21, 3) := by decide +kernel
theorem d_X8_makeRoom_65 : decode mX8_makeRoom.2.2.1 65 = .ok (.iload_n 1, 1) := by decide +kernel
theorem d_X8_makeRoom_66 : decode mX8_makeRoom.2.2.1 66 = .ok (.invokestatic 56, 3) := by decide +kernel
theorem d_X8_makeRoom_69 : decode mX8_makeRoom.2.2.1 69 = .ok (.putfield 21, 3) := by decide +kernel
theorem d_X8_makeRoom_72 : decode mX8_makeRoom.2.2.1 72 = .ok (.aload_n 0, 1) := by decide +kernel
theorem d_X8_makeRoom_73 : decode mX8_makeRoom.2.2.1 73 = .ok (.aload_n 0, 1) := by decide +kernel
theorem d_X8_makeRoom_74 : decode mX8_makeRoom.2.2.1 74 = .ok (.getfield 24, 3) := by decide +kernel
theorem d_X8_makeRoom_77 : decode mX8_makeRoom.2.2.1 77 = .ok (.iload_n 1, 1) := by decide +kernel
theorem d_X8_makeRoom_78 : decode mX8_makeRoom.2.2.1 78 = .ok (.invokestatic 60, 3) := by decide +kernel
theorem d_X8_makeRoom_81 : decode mX8_makeRoom.2.2.1 81 = .ok (.putfield 24, 3) := by decide +kernel
theorem d_X8_makeRoom_84 : decode mX8_makeRoom.2.2.1 84 = .ok (.aload_n 0, 1) := by decide +kernel
theorem d_X8_makeRoom_85 : decode mX8_makeRoom.2.2.1 85 = .ok (.aload_n 0, 1) := by decide +kernel
theorem d_X8_makeRoom_86 : decode mX8_makeRoom.2.2.1 86 = .ok (.getfield 31, 3) := by decide +kernel
theorem d_X8_makeRoom_89 : decode mX8_makeRoom.2.2.1 89 = .ok (.iload_n 1, 1) := by decide +kernel
theorem d_X8_makeRoom_90 : decode mX8_makeRoom.2.2.1 90 = .ok (.invokestatic 56, 3) := by decide +kernel
theorem d_X8_makeRoom_93 : decode mX8_makeRoom.2.2.1 93 = .ok (.putfield 31, 3) := by decide +kernel
theorem d_X8_makeRoom_96 : decode mX8_makeRoom.2.2.1 96 = .ok (.aload_n 0, 1) := by decide +kernel
theorem d_X8_makeRoom_97 : decode mX8_makeRoom.2.2.1 97 = .ok (.aload_n 0, 1) := by decide +kernel
theorem d_X8_makeRoom_98 : decode mX8_makeRoom.2.2.1 98 = .ok (.getfield 34, 3) := by decide +kernel
theorem d_X8_makeRoom_101 : decode mX8_makeRoom.2.2.1 101 = .ok (.iload_n 1, 1) := by decide +kernel
theorem d_X8_makeRoom_102 : decode mX8_makeRoom.2.2.1 102 = .ok (.invokestatic 56, 3) := by decide +kernel
theorem d_X8_makeRoom_105 : decode mX8_makeRoom.2.2.1 105 = .ok (.putfield 34, 3) := by decide +kernel
theorem d_X8_makeRoom_108 : decode mX8_makeRoom.2.2.1 108 = .ok (.aload_n 0, 1) := by decide +kernel
theorem d_X8_makeRoom_109 : decode mX8_makeRoom.2.2.1 109 = .ok (.aload_n 0, 1) := by decide +kernel
theorem d_X8_makeRoom_110 : decode mX8_makeRoom.2.2.1 110 = .ok (.getfield 37, 3) := by decide +kernel
theorem d_X8_makeRoom_113 : decode mX8_makeRoom.2.2.1 113 = .ok (.iload_n 1, 1) := by decide +kernel
theorem d_X8_makeRoom_114 : decode mX8_makeRoom.2.2.1 114 = .ok (.invokestatic 56, 3) := by decide +kernel
theorem d_X8_makeRoom_117 : decode mX8_makeRoom.2.2.1 117 = .ok (.putfield 37, 3) := by decide +kernel
theorem d_X8_makeRoom_120 : decode mX8_makeRoom.2.2.1 120 = .ok (.aload_n 0, 1) := by decide +kernel
theorem d_X8_makeRoom_121 : decode mX8_makeRoom.2.2.1 121 = .ok (.aload_n 0, 1) := by decide +kernel
theorem d_X8_makeRoom_122 : decode mX8_makeRoom.2.2.1 122 = .ok (.getfield 40, 3) := by decide +kernel
theorem d_X8_makeRoom_125 : decode mX8_makeRoom.2.2.1 125 = .ok (.iload_n 1, 1) := by decide +kernel
theorem d_X8_makeRoom_126 : decode mX8_makeRoom.2.2.1 126 = .ok (.invokestatic 56, 3) := by decide +kernel
theorem d_X8_makeRoom_129 : decode mX8_makeRoom.2.2.1 129 = .ok (.putfield 40, 3) := by decide +kernel
theorem d_X8_makeRoom_132 : decode mX8_makeRoom.2.2.1 132 = .ok (.return_, 1) := by decide +kernel
def mJ7_copyOf_59c91 : MD := (14, yJ7_copyOf_59c91, cJ7_copyOf_59c91, 3, some (.array .int))
theorem d_J7_copyOf_59c91_0 : decode mJ7_copyOf_59c91.2.2.1 0 = .ok (.iload_n 1, 1) := by decide +kernel
theorem d_J7_copyOf_59c91_1 : decode mJ7_copyOf_59c91.2.2.1 1 = .ok (.aload_n 0, 1) := by decide +kernel
theorem d_J7_copyOf_59c91_2 : decode mJ7_copyOf_59c91.2.2.1 2 = .ok (.arraylength, 1) := by decide +kernel
theorem d_J7_copyOf_59c91_3 : decode mJ7_copyOf_59c91.2.2.1 3 = .ok (.if_icmp .ne 11, 3) := by decide +kernel
theorem d_J7_copyOf_59c91_14 : decode mJ7_copyOf_59c91.2.2.1 14 = .ok (.iload_n 1, 1) := by decide +kernel
theorem d_J7_copyOf_59c91_15 : decode mJ7_copyOf_59c91.2.2.1 15 = .ok (.newarray .int, 2) := by decide +kernel
theorem d_J7_copyOf_59c91_17 : decode mJ7_copyOf_59c91.2.2.1 17 = .ok (.astore_n 2, 1) := by decide +kernel
theorem d_J7_copyOf_59c91_18 : decode mJ7_copyOf_59c91.2.2.1 18 = .ok (.aload_n 0, 1) := by decide +kernel
theorem d_J7_copyOf_59c91_19 : decode mJ7_copyOf_59c91.2.2.1 19 = .ok (.iconst 0, 1) := by decide +kernel
theorem d_J7_copyOf_59c91_20 : decode mJ7_copyOf_59c91.2.2.1 20 = .ok (.aload_n 2, 1) := by decide +kernel
theorem d_J7_copyOf_59c91_21 : decode mJ7_copyOf_59c91.2.2.1 21 = .ok (.iconst 0, 1) := by decide +kernel
theorem d_J7_copyOf_59c91_22 : decode mJ7_copyOf_59c91.2.2.1 22 = .ok (.aload_n 0, 1) := by decide +kernel
theorem d_J7_copyOf_59c91_23 : decode mJ7_copyOf_59c91.2.2.1 23 = .ok (.arraylength, 1) := by decide +kernel
theorem d_J7_copyOf_59c91_24 : decode mJ7_copyOf_59c91.2.2.1 24 = .ok (.iload_n 1, 1) := by decide +kernel
theorem d_J7_copyOf_59c91_25 : decode mJ7_copyOf_59c91.2.2.1 25 = .ok (.invokestatic 304, 3) := by decide +kernel
theorem d_J7_copyOf_59c91_28 : decode mJ7_copyOf_59c91.2.2.1 28 = .ok (.invokestatic 150, 3) := by decide +kernel
theorem d_J7_copyOf_59c91_31 : decode mJ7_copyOf_59c91.2.2.1 31 = .ok (.aload_n 2, 1) := by decide +kernel
theorem d_J7_copyOf_59c91_32 : decode mJ7_copyOf_59c91.2.2.1 32 = .ok (.areturn, 1) := by decide +kernel
def mJ7_copyOf_c38d5 : MD := (14, yJ7_copyOf_c38d5, cJ7_copyOf_c38d5, 3, some (.array .long))
theorem d_J7_copyOf_c38d5_0 : decode mJ7_copyOf_c38d5.2.2.1 0 = .ok (.iload_n 1, 1) := by decide +kernel
theorem d_J7_copyOf_c38d5_1 : decode mJ7_copyOf_c38d5.2.2.1 1 = .ok (.aload_n 0, 1) := by decide +kernel
theorem d_J7_copyOf_c38d5_2 : decode mJ7_copyOf_c38d5.2.2.1 2 = .ok (.arraylength, 1) := by decide +kernel
theorem d_J7_copyOf_c38d5_3 : decode mJ7_copyOf_c38d5.2.2.1 3 = .ok (.if_icmp .ne 11, 3) := by decide +kernel
theorem d_J7_copyOf_c38d5_14 : decode mJ7_copyOf_c38d5.2.2.1 14 = .ok (.iload_n 1, 1) := by decide +kernel
theorem d_J7_copyOf_c38d5_15 : decode mJ7_copyOf_c38d5.2.2.1 15 = .ok (.newarray .long, 2) := by decide +kernel
theorem d_J7_copyOf_c38d5_17 : decode mJ7_copyOf_c38d5.2.2.1 17 = .ok (.astore_n 2, 1) := by decide +kernel
theorem d_J7_copyOf_c38d5_18 : decode mJ7_copyOf_c38d5.2.2.1 18 = .ok (.aload_n 0, 1) := by decide +kernel
theorem d_J7_copyOf_c38d5_19 : decode mJ7_copyOf_c38d5.2.2.1 19 = .ok (.iconst 0, 1) := by decide +kernel
theorem d_J7_copyOf_c38d5_20 : decode mJ7_copyOf_c38d5.2.2.1 20 = .ok (.aload_n 2, 1) := by decide +kernel
theorem d_J7_copyOf_c38d5_21 : decode mJ7_copyOf_c38d5.2.2.1 21 = .ok (.iconst 0, 1) := by decide +kernel
theorem d_J7_copyOf_c38d5_22 : decode mJ7_copyOf_c38d5.2.2.1 22 = .ok (.aload_n 0, 1) := by decide +kernel
theorem d_J7_copyOf_c38d5_23 : decode mJ7_copyOf_c38d5.2.2.1 23 = .ok (.arraylength, 1) := by decide +kernel
theorem d_J7_copyOf_c38d5_24 : decode mJ7_copyOf_c38d5.2.2.1 24 = .ok (.iload_n 1, 1) := by decide +kernel
theorem d_J7_copyOf_c38d5_25 : decode mJ7_copyOf_c38d5.2.2.1 25 = .ok (.invokestatic 304, 3) := by decide +kernel
theorem d_J7_copyOf_c38d5_28 : decode mJ7_copyOf_c38d5.2.2.1 28 = .ok (.invokestatic 150, 3) := by decide +kernel
theorem d_J7_copyOf_c38d5_31 : decode mJ7_copyOf_c38d5.2.2.1 31 = .ok (.aload_n 2, 1) := by decide +kernel
theorem d_J7_copyOf_c38d5_32 : decode mJ7_copyOf_c38d5.2.2.1 32 = .ok (.areturn, 1) := by decide +kernel
theorem ok_J7_copyOf_59c91 : e_m mJ7_copyOf_59c91 2 := ⟨tblG_in (inT5 (List.mem_of_getElem? (i := 16) rfl)) rfl, plainFor_of_name (by decide), rfl, ini_14, by decide +kernel, by decide⟩
theorem ok_J7_copyOf_c38d5 : e_m mJ7_copyOf_c38d5 2 := ⟨tblG_in (inT5 (List.mem_of_getElem? (i := 28) rfl)) rfl, plainFor_of_name (by decide), rfl, ini_14, by decide +kernel, by decide⟩
theorem ml_14_304 : Cond.methodLink (e_cn 14) 304 Lib.Math.min.name ∈ tblG := tblG_in (inT5 (List.mem_of_getElem? (i := 24) rfl)) rfl
theorem ac_14_150 : Cond.methodLink (e_cn 14) 150 arraycopyName ∈ tblG := tblG_in (inT5 (List.mem_of_getElem? (i := 25) rfl)) rfl
theorem s_8_56 : e_siteS 8 56 mJ7_copyOf_59c91 := ⟨tblG_in (inT5 (List.mem_of_getElem? (i := 14) rfl)) rfl, tblG_in (inT5 (List.mem_of_getElem? (i := 15) rfl)) rfl⟩
theorem s_8_60 : e_siteS 8 60 mJ7_copyOf_c38d5 := ⟨tblG_in (inT5 (List.mem_of_getElem? (i := 26) rfl)) rfl, tblG_in (inT5 (List.mem_of_getElem? (i := 27) rfl)) rfl⟩
theorem ok_X8_makeRoom : e_m mX8_makeRoom 0 := ⟨tblG_in (inT5 (List.mem_of_getElem? (i := 13) rfl)) rfl, plainFor_of_name (by decide), rfl, ini_8, by decide +kernel, by decide⟩
theorem d_X1_note_32 : decode mX1_note.2.2.1 32 = .ok (.aload_n 0, 1) := by decide +kernel
theorem d_X1_note_33 : decode mX1_note.2.2.1 33 = .ok (.getfield 15, 3) := by decide +kernel
theorem d_X1_note_36 : decode mX1_note.2.2.1 36 = .ok (.iload_n 1, 1) := by decide +kernel
theorem d_X1_note_37 : decode mX1_note.2.2.1 37 = .ok (.iaload, 1) := by decide +kernel
theorem d_X1_note_38 : decode mX1_note.2.2.1 38 = .ok (.istore 5, 2) := by decide +kernel
theorem d_X1_note_40 : decode mX1_note.2.2.1 40 = .ok (.iload_n 2, 1) := by decide +kernel
theorem d_X1_note_41 : decode mX1_note.2.2.1 41 = .ok (.ifCond .ne 11, 3) := by decide +kernel
theorem d_X1_note_52 : decode mX1_note.2.2.1 52 = .ok (.iload 5, 2) := by decide +kernel
theorem d_X1_note_54 : decode mX1_note.2.2.1 54 = .ok (.ifCond .lt 88, 3) := by decide +kernel
theorem d_X1_note_142 : decode mX1_note.2.2.1 142 = .ok (.return_, 1) := by decide +kernel
theorem d_X1_note_57 : decode mX1_note.2.2.1 57 = .ok (.iload 4, 2) := by decide +kernel
theorem d_X1_note_59 : decode mX1_note.2.2.1 59 = .ok (.iload_n 3, 1) := by decide +kernel
theorem d_X1_note_60 : decode mX1_note.2.2.1 60 = .ok (.isub, 1) := by decide +kernel
theorem d_X1_note_61 : decode mX1_note.2.2.1 61 = .ok (.aload_n 0, 1) := by decide +kernel
theorem d_X1_note_62 : decode mX1_note.2.2.1 62 = .ok (.getfield 41, 3) := by decide +kernel
theorem d_X1_note_65 : decode mX1_note.2.2.1 65 = .ok (.getfield 71, 3) := by decide +kernel
theorem d_X1_note_68 : decode mX1_note.2.2.1 68 = .ok (.iload_n 1, 1) := by decide +kernel
theorem d_X1_note_69 : decode mX1_note.2.2.1 69 = .ok (.iconst 4, 1) := by decide +kernel
theorem d_X1_note_70 : decode mX1_note.2.2.1 70 = .ok (.imul, 1) := by decide +kernel
theorem d_X1_note_71 : decode mX1_note.2.2.1 71 = .ok (.iload_n 2, 1) := by decide +kernel
theorem d_X1_note_72 : decode mX1_note.2.2.1 72 = .ok (.iadd, 1) := by decide +kernel
theorem d_X1_note_73 : decode mX1_note.2.2.1 73 = .ok (.iaload, 1) := by decide +kernel
theorem d_X1_note_74 : decode mX1_note.2.2.1 74 = .ok (.imul, 1) := by decide +kernel
theorem d_X1_note_75 : decode mX1_note.2.2.1 75 = .ok (.istore 6, 2) := by decide +kernel
theorem d_X1_note_77 : decode mX1_note.2.2.1 77 = .ok (.aload_n 0, 1) := by decide +kernel
theorem d_X1_note_78 : decode mX1_note.2.2.1 78 = .ok (.getfield 24, 3) := by decide +kernel
theorem d_X1_note_81 : decode mX1_note.2.2.1 81 = .ok (.iload 5, 2) := by decide +kernel
theorem d_X1_note_83 : decode mX1_note.2.2.1 83 = .ok (.dup2, 1) := by decide +kernel
theorem d_X1_note_84 : decode mX1_note.2.2.1 84 = .ok (.iaload, 1) := by decide +kernel
theorem d_X1_note_85 : decode mX1_note.2.2.1 85 = .ok (.iload_n 2, 1) := by decide +kernel
theorem d_X1_note_86 : decode mX1_note.2.2.1 86 = .ok (.iconst 2, 1) := by decide +kernel
theorem d_X1_note_87 : decode mX1_note.2.2.1 87 = .ok (.if_icmp .ne 8, 3) := by decide +kernel
theorem d_X1_note_90 : decode mX1_note.2.2.1 90 = .ok (.iload 6, 2) := by decide +kernel
theorem d_X1_note_92 : decode mX1_note.2.2.1 92 = .ok (.goto 4, 3) := by decide +kernel
theorem d_X1_note_96 : decode mX1_note.2.2.1 96 = .ok (.iadd, 1) := by decide +kernel
theorem d_X1_note_97 : decode mX1_note.2.2.1 97 = .ok (.iastore, 1) := by decide +kernel
theorem d_X1_note_98 : decode mX1_note.2.2.1 98 = .ok (.aload_n 0, 1) := by decide +kernel
theorem d_X1_note_99 : decode mX1_note.2.2.1 99 = .ok (.getfield 21, 3) := by decide +kernel
theorem d_X1_note_102 : decode mX1_note.2.2.1 102 = .ok (.iload 5, 2) := by decide +kernel
theorem d_X1_note_104 : decode mX1_note.2.2.1 104 = .ok (.dup2, 1) := by decide +kernel
theorem d_X1_note_105 : decode mX1_note.2.2.1 105 = .ok (.iaload, 1) := by decide +kernel
theorem d_X1_note_106 : decode mX1_note.2.2.1 106 = .ok (.iload_n 2, 1) := by decide +kernel
theorem d_X1_note_107 : decode mX1_note.2.2.1 107 = .ok (.iconst 2, 1) := by decide +kernel
theorem d_X1_note_108 : decode mX1_note.2.2.1 108 = .ok (.if_icmp .ne 7, 3) := by decide +kernel
theorem d_X1_note_111 : decode mX1_note.2.2.1 111 = .ok (.iconst 0, 1) := by decide +kernel
theorem d_X1_note_112 : decode mX1_note.2.2.1 112 = .ok (.goto 5, 3) := by decide +kernel
theorem d_X1_note_117 : decode mX1_note.2.2.1 117 = .ok (.iadd, 1) := by decide +kernel
theorem d_X1_note_118 : decode mX1_note.2.2.1 118 = .ok (.iastore, 1) := by decide +kernel
theorem d_X1_note_119 : decode mX1_note.2.2.1 119 = .ok (.aload_n 0, 1) := by decide +kernel
theorem d_X1_note_120 : decode mX1_note.2.2.1 120 = .ok (.getfield 33, 3) := by decide +kernel
theorem d_X1_note_123 : decode mX1_note.2.2.1 123 = .ok (.iload_n 1, 1) := by decide +kernel
theorem d_X1_note_124 : decode mX1_note.2.2.1 124 = .ok (.iload 5, 2) := by decide +kernel
theorem d_X1_note_126 : decode mX1_note.2.2.1 126 = .ok (.iload_n 3, 1) := by decide +kernel
theorem d_X1_note_127 : decode mX1_note.2.2.1 127 = .ok (.iload 4, 2) := by decide +kernel
theorem d_X1_note_129 : decode mX1_note.2.2.1 129 = .ok (.iload_n 2, 1) := by decide +kernel
theorem d_X1_note_130 : decode mX1_note.2.2.1 130 = .ok (.iconst 2, 1) := by decide +kernel
theorem d_X1_note_131 : decode mX1_note.2.2.1 131 = .ok (.if_icmp .ne 7, 3) := by decide +kernel
theorem d_X1_note_134 : decode mX1_note.2.2.1 134 = .ok (.iconst 1, 1) := by decide +kernel
theorem d_X1_note_135 : decode mX1_note.2.2.1 135 = .ok (.goto 4, 3) := by decide +kernel
theorem d_X1_note_139 : decode mX1_note.2.2.1 139 = .ok (.invokevirtual 74, 3) := by decide +kernel
def mX8_stayUp : MD := (8, yX8_stayUp, cX8_stayUp, 7, none)
theorem sel_X8_stayUp : Cond.instanceMethod mX8_stayUp.2.1 ∈ tblG ∧ Cond.selects mX8_stayUp.2.1.cls mX8_stayUp.2.1 mX8_stayUp.2.1 ∈ tblG := ⟨tblG_in (inT5 (List.mem_of_getElem? (i := 101) rfl)) rfl, tblG_in (inT5 (List.mem_of_getElem? (i := 102) rfl)) rfl⟩
theorem s_1_74 : e_siteV 1 74 mX8_stayUp 8 := ⟨tblG_in (inT5 (List.mem_of_getElem? (i := 100) rfl)) rfl, sel_X8_stayUp.1, sel_X8_stayUp.2, rfl⟩
theorem d_X8_stayUp_0 : decode mX8_stayUp.2.2.1 0 = .ok (.aload_n 0, 1) := by decide +kernel
theorem d_X8_stayUp_1 : decode mX8_stayUp.2.2.1 1 = .ok (.getfield 28, 3) := by decide +kernel
theorem d_X8_stayUp_4 : decode mX8_stayUp.2.2.1 4 = .ok (.iload_n 1, 1) := by decide +kernel
theorem d_X8_stayUp_5 : decode mX8_stayUp.2.2.1 5 = .ok (.iaload, 1) := by decide +kernel
theorem d_X8_stayUp_6 : decode mX8_stayUp.2.2.1 6 = .ok (.ifCond .ge 78, 3) := by decide +kernel
theorem d_X8_stayUp_9 : decode mX8_stayUp.2.2.1 9 = .ok (.aload_n 0, 1) := by decide +kernel
theorem d_X8_stayUp_10 : decode mX8_stayUp.2.2.1 10 = .ok (.getfield 43, 3) := by decide +kernel
theorem d_X8_stayUp_13 : decode mX8_stayUp.2.2.1 13 = .ok (.aload_n 0, 1) := by decide +kernel
theorem d_X8_stayUp_14 : decode mX8_stayUp.2.2.1 14 = .ok (.getfield 9, 3) := by decide +kernel
theorem d_X8_stayUp_17 : decode mX8_stayUp.2.2.1 17 = .ok (.arraylength, 1) := by decide +kernel
theorem d_X8_stayUp_18 : decode mX8_stayUp.2.2.1 18 = .ok (.if_icmp .lt 4, 3) := by decide +kernel
theorem d_X8_stayUp_22 : decode mX8_stayUp.2.2.1 22 = .ok (.aload_n 0, 1) := by decide +kernel
theorem d_X8_stayUp_23 : decode mX8_stayUp.2.2.1 23 = .ok (.getfield 9, 3) := by decide +kernel
theorem d_X8_stayUp_26 : decode mX8_stayUp.2.2.1 26 = .ok (.aload_n 0, 1) := by decide +kernel
theorem d_X8_stayUp_27 : decode mX8_stayUp.2.2.1 27 = .ok (.getfield 43, 3) := by decide +kernel
theorem d_X8_stayUp_30 : decode mX8_stayUp.2.2.1 30 = .ok (.iload_n 1, 1) := by decide +kernel
theorem d_X8_stayUp_31 : decode mX8_stayUp.2.2.1 31 = .ok (.iastore, 1) := by decide +kernel
theorem d_X8_stayUp_32 : decode mX8_stayUp.2.2.1 32 = .ok (.aload_n 0, 1) := by decide +kernel
theorem d_X8_stayUp_33 : decode mX8_stayUp.2.2.1 33 = .ok (.getfield 15, 3) := by decide +kernel
theorem d_X8_stayUp_36 : decode mX8_stayUp.2.2.1 36 = .ok (.aload_n 0, 1) := by decide +kernel
theorem d_X8_stayUp_37 : decode mX8_stayUp.2.2.1 37 = .ok (.getfield 43, 3) := by decide +kernel
theorem d_X8_stayUp_40 : decode mX8_stayUp.2.2.1 40 = .ok (.iload_n 3, 1) := by decide +kernel
theorem d_X8_stayUp_41 : decode mX8_stayUp.2.2.1 41 = .ok (.iastore, 1) := by decide +kernel
theorem d_X8_stayUp_42 : decode mX8_stayUp.2.2.1 42 = .ok (.aload_n 0, 1) := by decide +kernel
theorem d_X8_stayUp_43 : decode mX8_stayUp.2.2.1 43 = .ok (.getfield 21, 3) := by decide +kernel
theorem d_X8_stayUp_46 : decode mX8_stayUp.2.2.1 46 = .ok (.aload_n 0, 1) := by decide +kernel
theorem d_X8_stayUp_47 : decode mX8_stayUp.2.2.1 47 = .ok (.getfield 43, 3) := by decide +kernel
theorem d_X8_stayUp_50 : decode mX8_stayUp.2.2.1 50 = .ok (.iconst 0, 1) := by decide +kernel
theorem d_X8_stayUp_51 : decode mX8_stayUp.2.2.1 51 = .ok (.iastore, 1) := by decide +kernel
theorem d_X8_stayUp_52 : decode mX8_stayUp.2.2.1 52 = .ok (.aload_n 0, 1) := by decide +kernel
theorem d_X8_stayUp_53 : decode mX8_stayUp.2.2.1 53 = .ok (.getfield 24, 3) := by decide +kernel
theorem d_X8_stayUp_56 : decode mX8_stayUp.2.2.1 56 = .ok (.aload_n 0, 1) := by decide +kernel
theorem d_X8_stayUp_57 : decode mX8_stayUp.2.2.1 57 = .ok (.getfield 43, 3) := by decide +kernel
theorem d_X8_stayUp_60 : decode mX8_stayUp.2.2.1 60 = .ok (.lconst 1, 1) := by decide +kernel
theorem d_X8_stayUp_61 : decode mX8_stayUp.2.2.1 61 = .ok (.iload_n 2, 1) := by decide +kernel
end
/-! 25.15 -/
section
theorem d_X8_stayUp_62 : decode mX8_stayUp.2.2.1 62 = .ok (.lshl, 1) := by decide +kernel
theorem d_X8_stayUp_63 : decode mX8_stayUp.2.2.1 63 = .ok (.lastore, 1) := by decide +kernel
theorem d_X8_stayUp_64 : decode mX8_stayUp.2.2.1 64 = .ok (.aload_n 0, 1) := by decide +kernel
theorem d_X8_stayUp_65 : decode mX8_stayUp.2.2.1 65 = .ok (.getfield 28, 3) := by decide +kernel
theorem d_X8_stayUp_68 : decode mX8_stayUp.2.2.1 68 = .ok (.iload_n 1, 1) := by decide +kernel
theorem d_X8_stayUp_69 : decode mX8_stayUp.2.2.1 69 = .ok (.aload_n 0, 1) := by decide +kernel
theorem d_X8_stayUp_70 : decode mX8_stayUp.2.2.1 70 = .ok (.getfield 43, 3) := by decide +kernel
theorem d_X8_stayUp_73 : decode mX8_stayUp.2.2.1 73 = .ok (.iastore, 1) := by decide +kernel
theorem d_X8_stayUp_74 : decode mX8_stayUp.2.2.1 74 = .ok (.aload_n 0, 1) := by decide +kernel
theorem d_X8_stayUp_75 : decode mX8_stayUp.2.2.1 75 = .ok (.dup, 1) := by decide +kernel
theorem d_X8_stayUp_76 : decode mX8_stayUp.2.2.1 76 = .ok (.getfield 43, 3) := by decide +kernel
theorem d_X8_stayUp_79 : decode mX8_stayUp.2.2.1 79 = .ok (.iconst 1, 1) := by decide +kernel
theorem d_X8_stayUp_80 : decode mX8_stayUp.2.2.1 80 = .ok (.iadd, 1) := by decide +kernel
theorem d_X8_stayUp_81 : decode mX8_stayUp.2.2.1 81 = .ok (.putfield 43, 3) := by decide +kernel
theorem d_X8_stayUp_21 : decode mX8_stayUp.2.2.1 21 = .ok (.return_, 1) := by decide +kernel
theorem d_X8_stayUp_84 : decode mX8_stayUp.2.2.1 84 = .ok (.aload_n 0, 1) := by decide +kernel
theorem d_X8_stayUp_85 : decode mX8_stayUp.2.2.1 85 = .ok (.getfield 28, 3) := by decide +kernel
theorem d_X8_stayUp_88 : decode mX8_stayUp.2.2.1 88 = .ok (.iload_n 1, 1) := by decide +kernel
theorem d_X8_stayUp_89 : decode mX8_stayUp.2.2.1 89 = .ok (.iaload, 1) := by decide +kernel
theorem d_X8_stayUp_90 : decode mX8_stayUp.2.2.1 90 = .ok (.istore 6, 2) := by decide +kernel
theorem d_X8_stayUp_92 : decode mX8_stayUp.2.2.1 92 = .ok (.aload_n 0, 1) := by decide +kernel
theorem d_X8_stayUp_93 : decode mX8_stayUp.2.2.1 93 = .ok (.getfield 18, 3) := by decide +kernel
theorem d_X8_stayUp_96 : decode mX8_stayUp.2.2.1 96 = .ok (.iload 6, 2) := by decide +kernel
theorem d_X8_stayUp_98 : decode mX8_stayUp.2.2.1 98 = .ok (.iload 4, 2) := by decide +kernel
theorem d_X8_stayUp_100 : decode mX8_stayUp.2.2.1 100 = .ok (.iastore, 1) := by decide +kernel
theorem d_X8_stayUp_101 : decode mX8_stayUp.2.2.1 101 = .ok (.aload_n 0, 1) := by decide +kernel
theorem d_X8_stayUp_102 : decode mX8_stayUp.2.2.1 102 = .ok (.getfield 21, 3) := by decide +kernel
theorem d_X8_stayUp_105 : decode mX8_stayUp.2.2.1 105 = .ok (.iload 6, 2) := by decide +kernel
theorem d_X8_stayUp_107 : decode mX8_stayUp.2.2.1 107 = .ok (.dup2, 1) := by decide +kernel
theorem d_X8_stayUp_108 : decode mX8_stayUp.2.2.1 108 = .ok (.iaload, 1) := by decide +kernel
theorem d_X8_stayUp_109 : decode mX8_stayUp.2.2.1 109 = .ok (.iload 5, 2) := by decide +kernel
theorem d_X8_stayUp_111 : decode mX8_stayUp.2.2.1 111 = .ok (.ifCond .eq 10, 3) := by decide +kernel
theorem d_X8_stayUp_114 : decode mX8_stayUp.2.2.1 114 = .ok (.iload 4, 2) := by decide +kernel
theorem d_X8_stayUp_116 : decode mX8_stayUp.2.2.1 116 = .ok (.iload_n 3, 1) := by decide +kernel
theorem d_X8_stayUp_117 : decode mX8_stayUp.2.2.1 117 = .ok (.isub, 1) := by decide +kernel
theorem d_X8_stayUp_118 : decode mX8_stayUp.2.2.1 118 = .ok (.goto 4, 3) := by decide +kernel
theorem d_X8_stayUp_122 : decode mX8_stayUp.2.2.1 122 = .ok (.iadd, 1) := by decide +kernel
theorem d_X8_stayUp_123 : decode mX8_stayUp.2.2.1 123 = .ok (.iastore, 1) := by decide +kernel
theorem d_X8_stayUp_124 : decode mX8_stayUp.2.2.1 124 = .ok (.return_, 1) := by decide +kernel
theorem ok_X8_stayUp : e_m mX8_stayUp 5 := ⟨tblG_in (inT5 (List.mem_of_getElem? (i := 103) rfl)) rfl, plainFor_of_name (by decide), rfl, ini_8, by decide +kernel, by decide⟩
theorem d_X1_note_44 : decode mX1_note.2.2.1 44 = .ok (.aload_n 0, 1) := by decide +kernel
theorem d_X1_note_45 : decode mX1_note.2.2.1 45 = .ok (.iload_n 1, 1) := by decide +kernel
theorem d_X1_note_46 : decode mX1_note.2.2.1 46 = .ok (.invokevirtual 67, 3) := by decide +kernel
theorem s_1_67 : e_siteV 1 67 mX1_fallAsleep 1 := ⟨tblG_in (inT5 (List.mem_of_getElem? (i := 96) rfl)) rfl, sel_X1_fallAsleep.1, sel_X1_fallAsleep.2, rfl⟩
theorem d_X1_fallAsleep_7 : decode mX1_fallAsleep.2.2.1 7 = .ok (.aload_n 0, 1) := by decide +kernel
theorem d_X1_fallAsleep_8 : decode mX1_fallAsleep.2.2.1 8 = .ok (.getfield 33, 3) := by decide +kernel
theorem d_X1_fallAsleep_11 : decode mX1_fallAsleep.2.2.1 11 = .ok (.getfield 78, 3) := by decide +kernel
theorem f_1_78 : e_fld 1 78 8 6 12 2 true := ⟨RX8, TX8, 6, rfl, rfl, by decide, rfl, rfl, rfl, iX8, tblG_in (inT2 (List.mem_of_getElem? (i := 29) rfl)) rfl, tyX8_ok, nmX8⟩
theorem d_X1_fallAsleep_14 : decode mX1_fallAsleep.2.2.1 14 = .ok (.iload_n 1, 1) := by decide +kernel
theorem d_X1_fallAsleep_15 : decode mX1_fallAsleep.2.2.1 15 = .ok (.iaload, 1) := by decide +kernel
theorem d_X1_fallAsleep_16 : decode mX1_fallAsleep.2.2.1 16 = .ok (.ifCond .lt 59, 3) := by decide +kernel
theorem d_X1_fallAsleep_19 : decode mX1_fallAsleep.2.2.1 19 = .ok (.aload_n 0, 1) := by decide +kernel
theorem d_X1_fallAsleep_20 : decode mX1_fallAsleep.2.2.1 20 = .ok (.getfield 15, 3) := by decide +kernel
theorem d_X1_fallAsleep_23 : decode mX1_fallAsleep.2.2.1 23 = .ok (.iload_n 1, 1) := by decide +kernel
theorem d_X1_fallAsleep_24 : decode mX1_fallAsleep.2.2.1 24 = .ok (.iaload, 1) := by decide +kernel
theorem d_X1_fallAsleep_25 : decode mX1_fallAsleep.2.2.1 25 = .ok (.ifCond .lt 50, 3) := by decide +kernel
theorem d_X1_fallAsleep_28 : decode mX1_fallAsleep.2.2.1 28 = .ok (.aload_n 0, 1) := by decide +kernel
theorem d_X1_fallAsleep_29 : decode mX1_fallAsleep.2.2.1 29 = .ok (.getfield 27, 3) := by decide +kernel
theorem d_X1_fallAsleep_32 : decode mX1_fallAsleep.2.2.1 32 = .ok (.aload_n 0, 1) := by decide +kernel
theorem d_X1_fallAsleep_33 : decode mX1_fallAsleep.2.2.1 33 = .ok (.getfield 15, 3) := by decide +kernel
theorem d_X1_fallAsleep_36 : decode mX1_fallAsleep.2.2.1 36 = .ok (.iload_n 1, 1) := by decide +kernel
theorem d_X1_fallAsleep_37 : decode mX1_fallAsleep.2.2.1 37 = .ok (.iaload, 1) := by decide +kernel
theorem d_X1_fallAsleep_38 : decode mX1_fallAsleep.2.2.1 38 = .ok (.dup2, 1) := by decide +kernel
theorem d_X1_fallAsleep_39 : decode mX1_fallAsleep.2.2.1 39 = .ok (.iaload, 1) := by decide +kernel
theorem d_X1_fallAsleep_40 : decode mX1_fallAsleep.2.2.1 40 = .ok (.aload_n 0, 1) := by decide +kernel
theorem d_X1_fallAsleep_41 : decode mX1_fallAsleep.2.2.1 41 = .ok (.getfield 41, 3) := by decide +kernel
theorem d_X1_fallAsleep_44 : decode mX1_fallAsleep.2.2.1 44 = .ok (.getfield 81, 3) := by decide +kernel
theorem f_1_81 : e_fld 1 81 3 7 12 2 true := ⟨RX3, TX3, 7, rfl, rfl, by decide, rfl, rfl, rfl, iX3, tblG_in (inT1 (List.mem_of_getElem? (i := 190) rfl)) rfl, tyX3_ok, nmX3⟩
theorem d_X1_fallAsleep_47 : decode mX1_fallAsleep.2.2.1 47 = .ok (.iload_n 1, 1) := by decide +kernel
theorem d_X1_fallAsleep_48 : decode mX1_fallAsleep.2.2.1 48 = .ok (.iaload, 1) := by decide +kernel
theorem d_X1_fallAsleep_49 : decode mX1_fallAsleep.2.2.1 49 = .ok (.aload_n 0, 1) := by decide +kernel
theorem d_X1_fallAsleep_50 : decode mX1_fallAsleep.2.2.1 50 = .ok (.getfield 41, 3) := by decide +kernel
theorem d_X1_fallAsleep_53 : decode mX1_fallAsleep.2.2.1 53 = .ok (.getfield 71, 3) := by decide +kernel
theorem d_X1_fallAsleep_56 : decode mX1_fallAsleep.2.2.1 56 = .ok (.iload_n 1, 1) := by decide +kernel
theorem d_X1_fallAsleep_57 : decode mX1_fallAsleep.2.2.1 57 = .ok (.iconst 4, 1) := by decide +kernel
theorem d_X1_fallAsleep_58 : decode mX1_fallAsleep.2.2.1 58 = .ok (.imul, 1) := by decide +kernel
theorem d_X1_fallAsleep_59 : decode mX1_fallAsleep.2.2.1 59 = .ok (.iconst 2, 1) := by decide +kernel
theorem d_X1_fallAsleep_60 : decode mX1_fallAsleep.2.2.1 60 = .ok (.iadd, 1) := by decide +kernel
theorem d_X1_fallAsleep_61 : decode mX1_fallAsleep.2.2.1 61 = .ok (.iaload, 1) := by decide +kernel
theorem d_X1_fallAsleep_62 : decode mX1_fallAsleep.2.2.1 62 = .ok (.imul, 1) := by decide +kernel
theorem d_X1_fallAsleep_63 : decode mX1_fallAsleep.2.2.1 63 = .ok (.iadd, 1) := by decide +kernel
theorem d_X1_fallAsleep_64 : decode mX1_fallAsleep.2.2.1 64 = .ok (.iastore, 1) := by decide +kernel
theorem d_X1_fallAsleep_65 : decode mX1_fallAsleep.2.2.1 65 = .ok (.aload_n 0, 1) := by decide +kernel
theorem d_X1_fallAsleep_66 : decode mX1_fallAsleep.2.2.1 66 = .ok (.getfield 33, 3) := by decide +kernel
theorem d_X1_fallAsleep_69 : decode mX1_fallAsleep.2.2.1 69 = .ok (.getfield 78, 3) := by decide +kernel
theorem d_X1_fallAsleep_72 : decode mX1_fallAsleep.2.2.1 72 = .ok (.iload_n 1, 1) := by decide +kernel
theorem d_X1_fallAsleep_73 : decode mX1_fallAsleep.2.2.1 73 = .ok (.iconst (-1), 1) := by decide +kernel
theorem d_X1_fallAsleep_74 : decode mX1_fallAsleep.2.2.1 74 = .ok (.iastore, 1) := by decide +kernel
theorem d_X1_note_49 : decode mX1_note.2.2.1 49 = .ok (.goto 93, 3) := by decide +kernel
theorem d_X1_letGo_7 : decode mX1_letGo.2.2.1 7 = .ok (.aload_n 0, 1) := by decide +kernel
theorem d_X1_letGo_8 : decode mX1_letGo.2.2.1 8 = .ok (.getfield 33, 3) := by decide +kernel
theorem d_X1_letGo_11 : decode mX1_letGo.2.2.1 11 = .ok (.aload_n 0, 1) := by decide +kernel
theorem d_X1_letGo_12 : decode mX1_letGo.2.2.1 12 = .ok (.getfield 18, 3) := by decide +kernel
theorem d_X1_letGo_15 : decode mX1_letGo.2.2.1 15 = .ok (.iload_n 1, 1) := by decide +kernel
theorem d_X1_letGo_16 : decode mX1_letGo.2.2.1 16 = .ok (.iaload, 1) := by decide +kernel
theorem d_X1_letGo_17 : decode mX1_letGo.2.2.1 17 = .ok (.iload_n 2, 1) := by decide +kernel
theorem d_X1_letGo_18 : decode mX1_letGo.2.2.1 18 = .ok (.invokevirtual 88, 3) := by decide +kernel
def mX8_coverTo : MD := (8, yX8_coverTo, cX8_coverTo, 3, none)
theorem sel_X8_coverTo : Cond.instanceMethod mX8_coverTo.2.1 ∈ tblG ∧ Cond.selects mX8_coverTo.2.1.cls mX8_coverTo.2.1 mX8_coverTo.2.1 ∈ tblG := ⟨tblG_in (inT5 (List.mem_of_getElem? (i := 141) rfl)) rfl, tblG_in (inT5 (List.mem_of_getElem? (i := 142) rfl)) rfl⟩
theorem s_1_88 : e_siteV 1 88 mX8_coverTo 8 := ⟨tblG_in (inT5 (List.mem_of_getElem? (i := 140) rfl)) rfl, sel_X8_coverTo.1, sel_X8_coverTo.2, rfl⟩
theorem d_X8_coverTo_0 : decode mX8_coverTo.2.2.1 0 = .ok (.iload_n 1, 1) := by decide +kernel
theorem d_X8_coverTo_1 : decode mX8_coverTo.2.2.1 1 = .ok (.ifCond .lt 18, 3) := by decide +kernel
theorem d_X8_coverTo_19 : decode mX8_coverTo.2.2.1 19 = .ok (.return_, 1) := by decide +kernel
theorem d_X8_coverTo_4 : decode mX8_coverTo.2.2.1 4 = .ok (.iload_n 1, 1) := by decide +kernel
theorem d_X8_coverTo_5 : decode mX8_coverTo.2.2.1 5 = .ok (.aload_n 0, 1) := by decide +kernel
theorem d_X8_coverTo_6 : decode mX8_coverTo.2.2.1 6 = .ok (.getfield 47, 3) := by decide +kernel
theorem d_X8_coverTo_9 : decode mX8_coverTo.2.2.1 9 = .ok (.if_icmp .ge 10, 3) := by decide +kernel
theorem d_X8_coverTo_12 : decode mX8_coverTo.2.2.1 12 = .ok (.aload_n 0, 1) := by decide +kernel
theorem d_X8_coverTo_13 : decode mX8_coverTo.2.2.1 13 = .ok (.getfield 40, 3) := by decide +kernel
theorem d_X8_coverTo_16 : decode mX8_coverTo.2.2.1 16 = .ok (.iload_n 1, 1) := by decide +kernel
theorem d_X8_coverTo_17 : decode mX8_coverTo.2.2.1 17 = .ok (.iload_n 2, 1) := by decide +kernel
theorem d_X8_coverTo_18 : decode mX8_coverTo.2.2.1 18 = .ok (.iastore, 1) := by decide +kernel
theorem ok_X8_coverTo : e_m mX8_coverTo 2 := ⟨tblG_in (inT5 (List.mem_of_getElem? (i := 143) rfl)) rfl, plainFor_of_name (by decide), rfl, ini_8, by decide +kernel, by decide⟩
theorem d_X1_act_8 : decode mX1_act.2.2.1 8 = .ok (.aload_n 0, 1) := by decide +kernel
theorem d_X1_act_9 : decode mX1_act.2.2.1 9 = .ok (.getfield 15, 3) := by decide +kernel
theorem d_X1_act_12 : decode mX1_act.2.2.1 12 = .ok (.iload_n 1, 1) := by decide +kernel
theorem d_X1_act_13 : decode mX1_act.2.2.1 13 = .ok (.iload_n 2, 1) := by decide +kernel
theorem d_X1_act_14 : decode mX1_act.2.2.1 14 = .ok (.iastore, 1) := by decide +kernel
theorem d_X1_act_15 : decode mX1_act.2.2.1 15 = .ok (.aload_n 0, 1) := by decide +kernel
theorem d_X1_act_16 : decode mX1_act.2.2.1 16 = .ok (.getfield 33, 3) := by decide +kernel
theorem d_X1_act_19 : decode mX1_act.2.2.1 19 = .ok (.iload_n 1, 1) := by decide +kernel
theorem d_X1_act_20 : decode mX1_act.2.2.1 20 = .ok (.iload_n 2, 1) := by decide +kernel
theorem d_X1_act_21 : decode mX1_act.2.2.1 21 = .ok (.invokevirtual 63, 3) := by decide +kernel
def mX8_join : MD := (8, yX8_join, cX8_join, 3, none)
theorem sel_X8_join : Cond.instanceMethod mX8_join.2.1 ∈ tblG ∧ Cond.selects mX8_join.2.1.cls mX8_join.2.1 mX8_join.2.1 ∈ tblG := ⟨tblG_in (inT5 (List.mem_of_getElem? (i := 113) rfl)) rfl, tblG_in (inT5 (List.mem_of_getElem? (i := 114) rfl)) rfl⟩
theorem s_1_63 : e_siteV 1 63 mX8_join 8 := ⟨tblG_in (inT5 (List.mem_of_getElem? (i := 112) rfl)) rfl, sel_X8_join.1, sel_X8_join.2, rfl⟩
theorem d_X8_join_0 : decode mX8_join.2.2.1 0 = .ok (.aload_n 0, 1) := by decide +kernel
theorem d_X8_join_1 : decode mX8_join.2.2.1 1 = .ok (.getfield 28, 3) := by decide +kernel
theorem d_X8_join_4 : decode mX8_join.2.2.1 4 = .ok (.iload_n 1, 1) := by decide +kernel
theorem d_X8_join_5 : decode mX8_join.2.2.1 5 = .ok (.iaload, 1) := by decide +kernel
theorem d_X8_join_6 : decode mX8_join.2.2.1 6 = .ok (.ifCond .lt 20, 3) := by decide +kernel
theorem d_X8_join_26 : decode mX8_join.2.2.1 26 = .ok (.return_, 1) := by decide +kernel
theorem d_X8_join_9 : decode mX8_join.2.2.1 9 = .ok (.aload_n 0, 1) := by decide +kernel
theorem d_X8_join_10 : decode mX8_join.2.2.1 10 = .ok (.getfield 24, 3) := by decide +kernel
theorem d_X8_join_13 : decode mX8_join.2.2.1 13 = .ok (.aload_n 0, 1) := by decide +kernel
theorem d_X8_join_14 : decode mX8_join.2.2.1 14 = .ok (.getfield 28, 3) := by decide +kernel
theorem d_X8_join_17 : decode mX8_join.2.2.1 17 = .ok (.iload_n 1, 1) := by decide +kernel
theorem d_X8_join_18 : decode mX8_join.2.2.1 18 = .ok (.iaload, 1) := by decide +kernel
theorem d_X8_join_19 : decode mX8_join.2.2.1 19 = .ok (.dup2, 1) := by decide +kernel
theorem d_X8_join_20 : decode mX8_join.2.2.1 20 = .ok (.laload, 1) := by decide +kernel
theorem d_X8_join_21 : decode mX8_join.2.2.1 21 = .ok (.lconst 1, 1) := by decide +kernel
theorem d_X8_join_22 : decode mX8_join.2.2.1 22 = .ok (.iload_n 2, 1) := by decide +kernel
theorem d_X8_join_23 : decode mX8_join.2.2.1 23 = .ok (.lshl, 1) := by decide +kernel
theorem d_X8_join_24 : decode mX8_join.2.2.1 24 = .ok (.lor, 1) := by decide +kernel
theorem d_X8_join_25 : decode mX8_join.2.2.1 25 = .ok (.lastore, 1) := by decide +kernel
theorem ok_X8_join : e_m mX8_join 2 := ⟨tblG_in (inT5 (List.mem_of_getElem? (i := 115) rfl)) rfl, plainFor_of_name (by decide), rfl, ini_8, by decide +kernel, by decide⟩
theorem d_X1_act_24 : decode mX1_act.2.2.1 24 = .ok (.return_, 1) := by decide +kernel
theorem d_X1_note_95 : decode mX1_note.2.2.1 95 = .ok (.iconst 0, 1) := by decide +kernel
theorem d_X1_note_115 : decode mX1_note.2.2.1 115 = .ok (.iload 6, 2) := by decide +kernel
theorem d_X1_note_138 : decode mX1_note.2.2.1 138 = .ok (.iconst 0, 1) := by decide +kernel
theorem d_X8_stayUp_121 : decode mX8_stayUp.2.2.1 121 = .ok (.iconst 0, 1) := by decide +kernel
theorem d_X1_holdFor_7 : decode mX1_holdFor.2.2.1 7 = .ok (.aload_n 0, 1) := by decide +kernel
theorem d_X1_holdFor_8 : decode mX1_holdFor.2.2.1 8 = .ok (.getfield 18, 3) := by decide +kernel
theorem d_X1_holdFor_11 : decode mX1_holdFor.2.2.1 11 = .ok (.iload_n 1, 1) := by decide +kernel
theorem d_X1_holdFor_12 : decode mX1_holdFor.2.2.1 12 = .ok (.aload_n 0, 1) := by decide +kernel
theorem d_X1_holdFor_13 : decode mX1_holdFor.2.2.1 13 = .ok (.getfield 33, 3) := by decide +kernel
theorem d_X1_holdFor_16 : decode mX1_holdFor.2.2.1 16 = .ok (.iload_n 1, 1) := by decide +kernel
theorem d_X1_holdFor_17 : decode mX1_holdFor.2.2.1 17 = .ok (.iload_n 2, 1) := by decide +kernel
theorem d_X1_holdFor_18 : decode mX1_holdFor.2.2.1 18 = .ok (.iload_n 3, 1) := by decide +kernel
theorem d_X1_holdFor_19 : decode mX1_holdFor.2.2.1 19 = .ok (.iload_n 3, 1) := by decide +kernel
theorem d_X1_holdFor_20 : decode mX1_holdFor.2.2.1 20 = .ok (.invokevirtual 84, 3) := by decide +kernel
def mX8_cover : MD := (8, yX8_cover, cX8_cover, 5, some .int)
theorem sel_X8_cover : Cond.instanceMethod mX8_cover.2.1 ∈ tblG ∧ Cond.selects mX8_cover.2.1.cls mX8_cover.2.1 mX8_cover.2.1 ∈ tblG := ⟨tblG_in (inT5 (List.mem_of_getElem? (i := 121) rfl)) rfl, tblG_in (inT5 (List.mem_of_getElem? (i := 122) rfl)) rfl⟩
theorem s_1_84 : e_siteV 1 84 mX8_cover 8 := ⟨tblG_in (inT5 (List.mem_of_getElem? (i := 120) rfl)) rfl, sel_X8_cover.1, sel_X8_cover.2, rfl⟩
theorem d_X8_cover_0 : decode mX8_cover.2.2.1 0 = .ok (.aload_n 0, 1) := by decide +kernel
theorem d_X8_cover_1 : decode mX8_cover.2.2.1 1 = .ok (.getfield 47, 3) := by decide +kernel
theorem d_X8_cover_4 : decode mX8_cover.2.2.1 4 = .ok (.aload_n 0, 1) := by decide +kernel
theorem d_X8_cover_5 : decode mX8_cover.2.2.1 5 = .ok (.getfield 31, 3) := by decide +kernel
theorem d_X8_cover_8 : decode mX8_cover.2.2.1 8 = .ok (.arraylength, 1) := by decide +kernel
theorem d_X8_cover_9 : decode mX8_cover.2.2.1 9 = .ok (.if_icmp .lt 5, 3) := by decide +kernel
theorem d_X8_cover_14 : decode mX8_cover.2.2.1 14 = .ok (.aload_n 0, 1) := by decide +kernel
theorem d_X8_cover_15 : decode mX8_cover.2.2.1 15 = .ok (.getfield 31, 3) := by decide +kernel
theorem d_X8_cover_18 : decode mX8_cover.2.2.1 18 = .ok (.aload_n 0, 1) := by decide +kernel
theorem d_X8_cover_19 : decode mX8_cover.2.2.1 19 = .ok (.getfield 47, 3) := by decide +kernel
theorem d_X8_cover_22 : decode mX8_cover.2.2.1 22 = .ok (.iload_n 1, 1) := by decide +kernel
theorem d_X8_cover_23 : decode mX8_cover.2.2.1 23 = .ok (.iastore, 1) := by decide +kernel
theorem d_X8_cover_24 : decode mX8_cover.2.2.1 24 = .ok (.aload_n 0, 1) := by decide +kernel
theorem d_X8_cover_25 : decode mX8_cover.2.2.1 25 = .ok (.getfield 34, 3) := by decide +kernel
theorem d_X8_cover_28 : decode mX8_cover.2.2.1 28 = .ok (.aload_n 0, 1) := by decide +kernel
theorem d_X8_cover_29 : decode mX8_cover.2.2.1 29 = .ok (.getfield 47, 3) := by decide +kernel
theorem d_X8_cover_32 : decode mX8_cover.2.2.1 32 = .ok (.iload_n 2, 1) := by decide +kernel
theorem d_X8_cover_33 : decode mX8_cover.2.2.1 33 = .ok (.iastore, 1) := by decide +kernel
theorem d_X8_cover_34 : decode mX8_cover.2.2.1 34 = .ok (.aload_n 0, 1) := by decide +kernel
theorem d_X8_cover_35 : decode mX8_cover.2.2.1 35 = .ok (.getfield 37, 3) := by decide +kernel
theorem d_X8_cover_38 : decode mX8_cover.2.2.1 38 = .ok (.aload_n 0, 1) := by decide +kernel
theorem d_X8_cover_39 : decode mX8_cover.2.2.1 39 = .ok (.getfield 47, 3) := by decide +kernel
theorem d_X8_cover_42 : decode mX8_cover.2.2.1 42 = .ok (.iload_n 3, 1) := by decide +kernel
theorem d_X8_cover_43 : decode mX8_cover.2.2.1 43 = .ok (.iastore, 1) := by decide +kernel
theorem d_X8_cover_44 : decode mX8_cover.2.2.1 44 = .ok (.aload_n 0, 1) := by decide +kernel
theorem d_X8_cover_45 : decode mX8_cover.2.2.1 45 = .ok (.getfield 40, 3) := by decide +kernel
theorem d_X8_cover_48 : decode mX8_cover.2.2.1 48 = .ok (.aload_n 0, 1) := by decide +kernel
theorem d_X8_cover_49 : decode mX8_cover.2.2.1 49 = .ok (.getfield 47, 3) := by decide +kernel
theorem d_X8_cover_52 : decode mX8_cover.2.2.1 52 = .ok (.iload 4, 2) := by decide +kernel
theorem d_X8_cover_54 : decode mX8_cover.2.2.1 54 = .ok (.iastore, 1) := by decide +kernel
theorem d_X8_cover_55 : decode mX8_cover.2.2.1 55 = .ok (.aload_n 0, 1) := by decide +kernel
theorem d_X8_cover_56 : decode mX8_cover.2.2.1 56 = .ok (.dup, 1) := by decide +kernel
theorem d_X8_cover_57 : decode mX8_cover.2.2.1 57 = .ok (.getfield 47, 3) := by decide +kernel
theorem d_X8_cover_60 : decode mX8_cover.2.2.1 60 = .ok (.iconst 1, 1) := by decide +kernel
theorem d_X8_cover_61 : decode mX8_cover.2.2.1 61 = .ok (.iadd, 1) := by decide +kernel
theorem d_X8_cover_62 : decode mX8_cover.2.2.1 62 = .ok (.putfield 47, 3) := by decide +kernel
theorem d_X8_cover_65 : decode mX8_cover.2.2.1 65 = .ok (.aload_n 0, 1) := by decide +kernel
theorem d_X8_cover_66 : decode mX8_cover.2.2.1 66 = .ok (.getfield 47, 3) := by decide +kernel
theorem d_X8_cover_69 : decode mX8_cover.2.2.1 69 = .ok (.iconst 1, 1) := by decide +kernel
theorem d_X8_cover_70 : decode mX8_cover.2.2.1 70 = .ok (.isub, 1) := by decide +kernel
theorem d_X8_cover_71 : decode mX8_cover.2.2.1 71 = .ok (.ireturn, 1) := by decide +kernel
theorem d_X8_cover_12 : decode mX8_cover.2.2.1 12 = .ok (.iconst (-1), 1) := by decide +kernel
theorem d_X8_cover_13 : decode mX8_cover.2.2.1 13 = .ok (.ireturn, 1) := by decide +kernel
theorem ok_X8_cover : e_m mX8_cover 4 := ⟨tblG_in (inT5 (List.mem_of_getElem? (i := 123) rfl)) rfl, plainFor_of_name (by decide), rfl, ini_8, by decide +kernel, by decide⟩
theorem d_X1_holdFor_23 : decode mX1_holdFor.2.2.1 23 = .ok (.iastore, 1) := by decide +kernel
theorem d_X1_workFor_7 : decode mX1_workFor.2.2.1 7 = .ok (.aload_n 0, 1) := by decide +kernel
theorem d_X1_workFor_8 : decode mX1_workFor.2.2.1 8 = .ok (.getfield 33, 3) := by decide +kernel
theorem d_X1_workFor_11 : decode mX1_workFor.2.2.1 11 = .ok (.iload_n 1, 1) := by decide +kernel
theorem d_X1_workFor_12 : decode mX1_workFor.2.2.1 12 = .ok (.iload_n 2, 1) := by decide +kernel
theorem d_X1_workFor_13 : decode mX1_workFor.2.2.1 13 = .ok (.iload_n 3, 1) := by decide +kernel
theorem d_X1_workFor_14 : decode mX1_workFor.2.2.1 14 = .ok (.iload 4, 2) := by decide +kernel
theorem d_X1_workFor_16 : decode mX1_workFor.2.2.1 16 = .ok (.invokevirtual 84, 3) := by decide +kernel
theorem d_X1_workFor_19 : decode mX1_workFor.2.2.1 19 = .ok (.pop, 1) := by decide +kernel
theorem d_X1_payHeart_7 : decode mX1_payHeart.2.2.1 7 = .ok (.aload_n 0, 1) := by decide +kernel
theorem d_X1_payHeart_8 : decode mX1_payHeart.2.2.1 8 = .ok (.getfield 21, 3) := by decide +kernel
theorem d_X1_payHeart_11 : decode mX1_payHeart.2.2.1 11 = .ok (.iload_n 1, 1) := by decide +kernel
theorem d_X1_payHeart_12 : decode mX1_payHeart.2.2.1 12 = .ok (.dup2, 1) := by decide +kernel
theorem d_X1_payHeart_13 : decode mX1_payHeart.2.2.1 13 = .ok (.iaload, 1) := by decide +kernel
theorem d_X1_payHeart_14 : decode mX1_payHeart.2.2.1 14 = .ok (.iload_n 2, 1) := by decide +kernel
theorem d_X1_payHeart_15 : decode mX1_payHeart.2.2.1 15 = .ok (.aload_n 0, 1) := by decide +kernel
theorem d_X1_payHeart_16 : decode mX1_payHeart.2.2.1 16 = .ok (.getfield 41, 3) := by decide +kernel
theorem d_X1_payHeart_19 : decode mX1_payHeart.2.2.1 19 = .ok (.getfield 57, 3) := by decide +kernel
theorem f_1_57 : e_fld 1 57 3 0 12 0 false := ⟨RX3, TX3, 0, rfl, rfl, by decide, rfl, rfl, rfl, iX3, tblG_in (inT1 (List.mem_of_getElem? (i := 160) rfl)) rfl, tyX3_ok, nmX3⟩
theorem d_X1_payHeart_22 : decode mX1_payHeart.2.2.1 22 = .ok (.imul, 1) := by decide +kernel
theorem d_X1_payHeart_23 : decode mX1_payHeart.2.2.1 23 = .ok (.iadd, 1) := by decide +kernel
theorem d_X1_payHeart_24 : decode mX1_payHeart.2.2.1 24 = .ok (.iastore, 1) := by decide +kernel
end
/-! 25.16 -/
section
theorem d_X11_run_24 : decode mX11_run.2.2.1 24 = .ok (.aload_n 0, 1) := by decide +kernel
theorem d_X11_run_25 : decode mX11_run.2.2.1 25 = .ok (.getfield 56, 3) := by decide +kernel
theorem d_X11_run_28 : decode mX11_run.2.2.1 28 = .ok (.invokevirtual 148, 3) := by decide +kernel
def mX9_clear : MD := (9, yX9_clear, cX9_clear, 1, none)
theorem sel_X9_clear : Cond.instanceMethod mX9_clear.2.1 ∈ tblG ∧ Cond.selects mX9_clear.2.1.cls mX9_clear.2.1 mX9_clear.2.1 ∈ tblG := ⟨tblG_in (inT5 (List.mem_of_getElem? (i := 162) rfl)) rfl, tblG_in (inT5 (List.mem_of_getElem? (i := 163) rfl)) rfl⟩
theorem s_11_148 : e_siteV 11 148 mX9_clear 9 := ⟨tblG_in (inT5 (List.mem_of_getElem? (i := 161) rfl)) rfl, sel_X9_clear.1, sel_X9_clear.2, rfl⟩
theorem d_X9_clear_0 : decode mX9_clear.2.2.1 0 = .ok (.aload_n 0, 1) := by decide +kernel
theorem d_X9_clear_1 : decode mX9_clear.2.2.1 1 = .ok (.iconst (-1), 1) := by decide +kernel
theorem d_X9_clear_2 : decode mX9_clear.2.2.1 2 = .ok (.putfield 19, 3) := by decide +kernel
theorem d_X9_clear_5 : decode mX9_clear.2.2.1 5 = .ok (.return_, 1) := by decide +kernel
theorem ok_X9_clear : e_m mX9_clear 0 := ⟨tblG_in (inT5 (List.mem_of_getElem? (i := 164) rfl)) rfl, plainFor_of_name (by decide), rfl, ini_9, by decide +kernel, by decide⟩
theorem d_X11_run_31 : decode mX11_run.2.2.1 31 = .ok (.aload_n 0, 1) := by decide +kernel
theorem d_X11_run_32 : decode mX11_run.2.2.1 32 = .ok (.iconst 1, 1) := by decide +kernel
theorem d_X11_run_33 : decode mX11_run.2.2.1 33 = .ok (.putfield 109, 3) := by decide +kernel
theorem d_X11_run_36 : decode mX11_run.2.2.1 36 = .ok (.aload_n 0, 1) := by decide +kernel
theorem d_X11_run_37 : decode mX11_run.2.2.1 37 = .ok (.getfield 46, 3) := by decide +kernel
theorem d_X11_run_40 : decode mX11_run.2.2.1 40 = .ok (.getfield 149, 3) := by decide +kernel
theorem f_11_149 : e_fld 11 149 6 14 18 0 false := ⟨RX6, TX6, 14, rfl, rfl, by decide, rfl, rfl, rfl, iX6, tblG_in (inT2 (List.mem_of_getElem? (i := 122) rfl)) rfl, tyX6_ok, nmX6⟩
theorem d_X11_run_43 : decode mX11_run.2.2.1 43 = .ok (.ireturn, 1) := by decide +kernel
theorem d_X11_run_5 : decode mX11_run.2.2.1 5 = .ok (.bipush (-2), 2) := by decide +kernel
theorem d_X11_run_7 : decode mX11_run.2.2.1 7 = .ok (.ireturn, 1) := by decide +kernel
theorem f_7_21 : e_fld 7 21 7 4 6 2 false := ⟨RX7, TX7, 4, rfl, rfl, by decide, rfl, rfl, rfl, iX7, tblG_in (inT1 (List.mem_of_getElem? (i := 45) rfl)) rfl, tyX7_ok, nmX7⟩
theorem f_7_25 : e_fld 7 25 7 5 6 0 false := ⟨RX7, TX7, 5, rfl, rfl, by decide, rfl, rfl, rfl, iX7, tblG_in (inT1 (List.mem_of_getElem? (i := 46) rfl)) rfl, tyX7_ok, nmX7⟩
theorem f_7_29 : e_fld 7 29 7 3 6 0 false := ⟨RX7, TX7, 3, rfl, rfl, by decide, rfl, rfl, rfl, iX7, tblG_in (inT1 (List.mem_of_getElem? (i := 44) rfl)) rfl, tyX7_ok, nmX7⟩
def mX7_skipBlanks : MD := (7, yX7_skipBlanks, cX7_skipBlanks, 3, some .int)
theorem d_X7_skipBlanks_0 : decode mX7_skipBlanks.2.2.1 0 = .ok (.iload_n 1, 1) := by decide +kernel
theorem d_X7_skipBlanks_1 : decode mX7_skipBlanks.2.2.1 1 = .ok (.istore_n 2, 1) := by decide +kernel
theorem d_X7_skipBlanks_2 : decode mX7_skipBlanks.2.2.1 2 = .ok (.iload_n 2, 1) := by decide +kernel
theorem d_X7_skipBlanks_3 : decode mX7_skipBlanks.2.2.1 3 = .ok (.aload_n 0, 1) := by decide +kernel
theorem d_X7_skipBlanks_4 : decode mX7_skipBlanks.2.2.1 4 = .ok (.getfield 25, 3) := by decide +kernel
theorem d_X7_skipBlanks_7 : decode mX7_skipBlanks.2.2.1 7 = .ok (.if_icmp .ge 31, 3) := by decide +kernel
theorem d_X7_skipBlanks_38 : decode mX7_skipBlanks.2.2.1 38 = .ok (.iload_n 2, 1) := by decide +kernel
theorem d_X7_skipBlanks_39 : decode mX7_skipBlanks.2.2.1 39 = .ok (.ireturn, 1) := by decide +kernel
theorem d_X7_skipBlanks_10 : decode mX7_skipBlanks.2.2.1 10 = .ok (.aload_n 0, 1) := by decide +kernel
theorem d_X7_skipBlanks_11 : decode mX7_skipBlanks.2.2.1 11 = .ok (.getfield 21, 3) := by decide +kernel
theorem d_X7_skipBlanks_14 : decode mX7_skipBlanks.2.2.1 14 = .ok (.iload_n 2, 1) := by decide +kernel
theorem d_X7_skipBlanks_15 : decode mX7_skipBlanks.2.2.1 15 = .ok (.baload, 1) := by decide +kernel
theorem d_X7_skipBlanks_16 : decode mX7_skipBlanks.2.2.1 16 = .ok (.bipush 10, 2) := by decide +kernel
theorem d_X7_skipBlanks_18 : decode mX7_skipBlanks.2.2.1 18 = .ok (.if_icmp .eq 14, 3) := by decide +kernel
theorem d_X7_skipBlanks_21 : decode mX7_skipBlanks.2.2.1 21 = .ok (.aload_n 0, 1) := by decide +kernel
theorem d_X7_skipBlanks_22 : decode mX7_skipBlanks.2.2.1 22 = .ok (.getfield 21, 3) := by decide +kernel
theorem d_X7_skipBlanks_25 : decode mX7_skipBlanks.2.2.1 25 = .ok (.iload_n 2, 1) := by decide +kernel
theorem d_X7_skipBlanks_26 : decode mX7_skipBlanks.2.2.1 26 = .ok (.baload, 1) := by decide +kernel
theorem d_X7_skipBlanks_27 : decode mX7_skipBlanks.2.2.1 27 = .ok (.bipush 32, 2) := by decide +kernel
theorem d_X7_skipBlanks_29 : decode mX7_skipBlanks.2.2.1 29 = .ok (.if_icmp .ne 9, 3) := by decide +kernel
theorem d_X7_skipBlanks_32 : decode mX7_skipBlanks.2.2.1 32 = .ok (.iinc 2 1, 3) := by decide +kernel
theorem d_X7_skipBlanks_35 : decode mX7_skipBlanks.2.2.1 35 = .ok (.goto (-33), 3) := by decide +kernel
def mX7_isLetter : MD := (7, yX7_isLetter, cX7_isLetter, 1, some .boolean)
theorem d_X7_isLetter_0 : decode mX7_isLetter.2.2.1 0 = .ok (.iload_n 0, 1) := by decide +kernel
theorem d_X7_isLetter_1 : decode mX7_isLetter.2.2.1 1 = .ok (.bipush 97, 2) := by decide +kernel
theorem d_X7_isLetter_3 : decode mX7_isLetter.2.2.1 3 = .ok (.if_icmp .lt 13, 3) := by decide +kernel
theorem d_X7_isLetter_16 : decode mX7_isLetter.2.2.1 16 = .ok (.iconst 0, 1) := by decide +kernel
theorem d_X7_isLetter_17 : decode mX7_isLetter.2.2.1 17 = .ok (.ireturn, 1) := by decide +kernel
theorem d_X7_isLetter_6 : decode mX7_isLetter.2.2.1 6 = .ok (.iload_n 0, 1) := by decide +kernel
theorem d_X7_isLetter_7 : decode mX7_isLetter.2.2.1 7 = .ok (.bipush 122, 2) := by decide +kernel
theorem d_X7_isLetter_9 : decode mX7_isLetter.2.2.1 9 = .ok (.if_icmp .gt 7, 3) := by decide +kernel
theorem d_X7_isLetter_12 : decode mX7_isLetter.2.2.1 12 = .ok (.iconst 1, 1) := by decide +kernel
theorem d_X7_isLetter_13 : decode mX7_isLetter.2.2.1 13 = .ok (.goto 4, 3) := by decide +kernel
def mX7_isDigit : MD := (7, yX7_isDigit, cX7_isDigit, 1, some .boolean)
theorem s_7_48 : e_siteS 7 48 mX7_isDigit := ⟨tblG_in (inT3 (List.mem_of_getElem? (i := 126) rfl)) rfl, tblG_in (inT3 (List.mem_of_getElem? (i := 127) rfl)) rfl⟩
theorem d_X7_isDigit_0 : decode mX7_isDigit.2.2.1 0 = .ok (.iload_n 0, 1) := by decide +kernel
theorem d_X7_isDigit_1 : decode mX7_isDigit.2.2.1 1 = .ok (.bipush 48, 2) := by decide +kernel
theorem d_X7_isDigit_3 : decode mX7_isDigit.2.2.1 3 = .ok (.if_icmp .lt 13, 3) := by decide +kernel
theorem d_X7_isDigit_16 : decode mX7_isDigit.2.2.1 16 = .ok (.iconst 0, 1) := by decide +kernel
theorem d_X7_isDigit_17 : decode mX7_isDigit.2.2.1 17 = .ok (.ireturn, 1) := by decide +kernel
theorem d_X7_isDigit_6 : decode mX7_isDigit.2.2.1 6 = .ok (.iload_n 0, 1) := by decide +kernel
theorem d_X7_isDigit_7 : decode mX7_isDigit.2.2.1 7 = .ok (.bipush 57, 2) := by decide +kernel
theorem d_X7_isDigit_9 : decode mX7_isDigit.2.2.1 9 = .ok (.if_icmp .gt 7, 3) := by decide +kernel
theorem d_X7_isDigit_12 : decode mX7_isDigit.2.2.1 12 = .ok (.iconst 1, 1) := by decide +kernel
theorem d_X7_isDigit_13 : decode mX7_isDigit.2.2.1 13 = .ok (.goto 4, 3) := by decide +kernel
theorem ok_X7_isDigit : e_m mX7_isDigit 1 := ⟨tblG_in (inT3 (List.mem_of_getElem? (i := 128) rfl)) rfl, plainFor_of_name (by decide), rfl, ini_7, by decide +kernel, by decide⟩
def mJ1_canEncode_9a6ad : MD := (20, yJ1_canEncode_9a6ad, cJ1_canEncode_9a6ad, 1, some .boolean)
theorem d_J1_canEncode_9a6ad_0 : decode mJ1_canEncode_9a6ad.2.2.1 0 = .ok (.iload_n 0, 1) := by decide +kernel
theorem d_J1_canEncode_9a6ad_1 : decode mJ1_canEncode_9a6ad.2.2.1 1 = .ok (.ifCond .lt 14, 3) := by decide +kernel
theorem d_J1_canEncode_9a6ad_4 : decode mJ1_canEncode_9a6ad.2.2.1 4 = .ok (.iload_n 0, 1) := by decide +kernel
theorem d_J1_canEncode_9a6ad_5 : decode mJ1_canEncode_9a6ad.2.2.1 5 = .ok (.sipush 255, 3) := by decide +kernel
theorem d_J1_canEncode_9a6ad_8 : decode mJ1_canEncode_9a6ad.2.2.1 8 = .ok (.if_icmp .gt 7, 3) := by decide +kernel
theorem d_J1_canEncode_9a6ad_11 : decode mJ1_canEncode_9a6ad.2.2.1 11 = .ok (.iconst 1, 1) := by decide +kernel
theorem d_J1_canEncode_9a6ad_12 : decode mJ1_canEncode_9a6ad.2.2.1 12 = .ok (.goto 4, 3) := by decide +kernel
theorem d_J1_canEncode_9a6ad_16 : decode mJ1_canEncode_9a6ad.2.2.1 16 = .ok (.ireturn, 1) := by decide +kernel
def mX7_add : MD := (7, yX7_add, cX7_add, 5, some .int)
theorem sel_X7_add : Cond.instanceMethod mX7_add.2.1 ∈ tblG ∧ Cond.selects mX7_add.2.1.cls mX7_add.2.1 mX7_add.2.1 ∈ tblG := ⟨tblG_in (inT3 (List.mem_of_getElem? (i := 121) rfl)) rfl, tblG_in (inP1 (q := (mX7_add.2.1, 6)) (List.mem_of_getElem? (i := 3) rfl)) rfl⟩
theorem s_7_40 : e_siteV 7 40 mX7_add 7 := ⟨tblG_in (inT3 (List.mem_of_getElem? (i := 119) rfl)) rfl, sel_X7_add.1, sel_X7_add.2, rfl⟩
theorem d_X7_add_0 : decode mX7_add.2.2.1 0 = .ok (.aload_n 0, 1) := by decide +kernel
theorem d_X7_add_1 : decode mX7_add.2.2.1 1 = .ok (.getfield 29, 3) := by decide +kernel
theorem d_X7_add_4 : decode mX7_add.2.2.1 4 = .ok (.aload_n 0, 1) := by decide +kernel
theorem d_X7_add_5 : decode mX7_add.2.2.1 5 = .ok (.getfield 9, 3) := by decide +kernel
theorem d_X7_add_8 : decode mX7_add.2.2.1 8 = .ok (.arraylength, 1) := by decide +kernel
theorem d_X7_add_9 : decode mX7_add.2.2.1 9 = .ok (.if_icmp .ge 43, 3) := by decide +kernel
theorem d_X7_add_52 : decode mX7_add.2.2.1 52 = .ok (.iload 4, 2) := by decide +kernel
theorem d_X7_add_54 : decode mX7_add.2.2.1 54 = .ok (.ireturn, 1) := by decide +kernel
theorem d_X7_add_12 : decode mX7_add.2.2.1 12 = .ok (.aload_n 0, 1) := by decide +kernel
theorem d_X7_add_13 : decode mX7_add.2.2.1 13 = .ok (.getfield 9, 3) := by decide +kernel
theorem d_X7_add_16 : decode mX7_add.2.2.1 16 = .ok (.aload_n 0, 1) := by decide +kernel
theorem d_X7_add_17 : decode mX7_add.2.2.1 17 = .ok (.getfield 29, 3) := by decide +kernel
theorem d_X7_add_20 : decode mX7_add.2.2.1 20 = .ok (.iload_n 1, 1) := by decide +kernel
theorem d_X7_add_21 : decode mX7_add.2.2.1 21 = .ok (.iastore, 1) := by decide +kernel
theorem d_X7_add_22 : decode mX7_add.2.2.1 22 = .ok (.aload_n 0, 1) := by decide +kernel
theorem d_X7_add_23 : decode mX7_add.2.2.1 23 = .ok (.getfield 15, 3) := by decide +kernel
theorem d_X7_add_26 : decode mX7_add.2.2.1 26 = .ok (.aload_n 0, 1) := by decide +kernel
theorem d_X7_add_27 : decode mX7_add.2.2.1 27 = .ok (.getfield 29, 3) := by decide +kernel
theorem d_X7_add_30 : decode mX7_add.2.2.1 30 = .ok (.iload_n 2, 1) := by decide +kernel
theorem d_X7_add_31 : decode mX7_add.2.2.1 31 = .ok (.iastore, 1) := by decide +kernel
theorem d_X7_add_32 : decode mX7_add.2.2.1 32 = .ok (.aload_n 0, 1) := by decide +kernel
theorem d_X7_add_33 : decode mX7_add.2.2.1 33 = .ok (.getfield 18, 3) := by decide +kernel
theorem d_X7_add_36 : decode mX7_add.2.2.1 36 = .ok (.aload_n 0, 1) := by decide +kernel
theorem d_X7_add_37 : decode mX7_add.2.2.1 37 = .ok (.getfield 29, 3) := by decide +kernel
theorem d_X7_add_40 : decode mX7_add.2.2.1 40 = .ok (.iload_n 3, 1) := by decide +kernel
theorem d_X7_add_41 : decode mX7_add.2.2.1 41 = .ok (.iastore, 1) := by decide +kernel
theorem d_X7_add_42 : decode mX7_add.2.2.1 42 = .ok (.aload_n 0, 1) := by decide +kernel
theorem d_X7_add_43 : decode mX7_add.2.2.1 43 = .ok (.dup, 1) := by decide +kernel
theorem d_X7_add_44 : decode mX7_add.2.2.1 44 = .ok (.getfield 29, 3) := by decide +kernel
theorem d_X7_add_47 : decode mX7_add.2.2.1 47 = .ok (.iconst 1, 1) := by decide +kernel
theorem d_X7_add_48 : decode mX7_add.2.2.1 48 = .ok (.iadd, 1) := by decide +kernel
theorem d_X7_add_49 : decode mX7_add.2.2.1 49 = .ok (.putfield 29, 3) := by decide +kernel
theorem ok_X7_add : e_m mX7_add 4 := ⟨tblG_in (inT3 (List.mem_of_getElem? (i := 122) rfl)) rfl, plainFor_of_name (by decide), rfl, ini_7, by decide +kernel, by decide⟩
def mX7_takeNumber : MD := (7, yX7_takeNumber, cX7_takeNumber, 4, some .int)
theorem d_X7_takeNumber_0 : decode mX7_takeNumber.2.2.1 0 = .ok (.iload_n 1, 1) := by decide +kernel
theorem d_X7_takeNumber_1 : decode mX7_takeNumber.2.2.1 1 = .ok (.istore_n 2, 1) := by decide +kernel
theorem d_X7_takeNumber_2 : decode mX7_takeNumber.2.2.1 2 = .ok (.iconst 0, 1) := by decide +kernel
theorem d_X7_takeNumber_3 : decode mX7_takeNumber.2.2.1 3 = .ok (.istore_n 3, 1) := by decide +kernel
theorem d_X7_takeNumber_4 : decode mX7_takeNumber.2.2.1 4 = .ok (.iload_n 2, 1) := by decide +kernel
theorem d_X7_takeNumber_5 : decode mX7_takeNumber.2.2.1 5 = .ok (.aload_n 0, 1) := by decide +kernel
theorem d_X7_takeNumber_6 : decode mX7_takeNumber.2.2.1 6 = .ok (.getfield 25, 3) := by decide +kernel
theorem d_X7_takeNumber_9 : decode mX7_takeNumber.2.2.1 9 = .ok (.if_icmp .ge 43, 3) := by decide +kernel
theorem d_X7_takeNumber_12 : decode mX7_takeNumber.2.2.1 12 = .ok (.iload_n 2, 1) := by decide +kernel
theorem d_X7_takeNumber_13 : decode mX7_takeNumber.2.2.1 13 = .ok (.iload_n 1, 1) := by decide +kernel
theorem d_X7_takeNumber_14 : decode mX7_takeNumber.2.2.1 14 = .ok (.iconst 4, 1) := by decide +kernel
theorem d_X7_takeNumber_15 : decode mX7_takeNumber.2.2.1 15 = .ok (.iadd, 1) := by decide +kernel
theorem d_X7_takeNumber_16 : decode mX7_takeNumber.2.2.1 16 = .ok (.if_icmp .gt 36, 3) := by decide +kernel
theorem d_X7_takeNumber_19 : decode mX7_takeNumber.2.2.1 19 = .ok (.aload_n 0, 1) := by decide +kernel
theorem d_X7_takeNumber_20 : decode mX7_takeNumber.2.2.1 20 = .ok (.getfield 21, 3) := by decide +kernel
theorem d_X7_takeNumber_23 : decode mX7_takeNumber.2.2.1 23 = .ok (.iload_n 2, 1) := by decide +kernel
theorem d_X7_takeNumber_24 : decode mX7_takeNumber.2.2.1 24 = .ok (.baload, 1) := by decide +kernel
theorem d_X7_takeNumber_25 : decode mX7_takeNumber.2.2.1 25 = .ok (.invokestatic 48, 3) := by decide +kernel
theorem d_X7_takeNumber_28 : decode mX7_takeNumber.2.2.1 28 = .ok (.ifCond .eq 24, 3) := by decide +kernel
theorem d_X7_takeNumber_31 : decode mX7_takeNumber.2.2.1 31 = .ok (.iload_n 3, 1) := by decide +kernel
theorem d_X7_takeNumber_32 : decode mX7_takeNumber.2.2.1 32 = .ok (.bipush 10, 2) := by decide +kernel
theorem d_X7_takeNumber_34 : decode mX7_takeNumber.2.2.1 34 = .ok (.imul, 1) := by decide +kernel
theorem d_X7_takeNumber_35 : decode mX7_takeNumber.2.2.1 35 = .ok (.aload_n 0, 1) := by decide +kernel
theorem d_X7_takeNumber_36 : decode mX7_takeNumber.2.2.1 36 = .ok (.getfield 21, 3) := by decide +kernel
theorem d_X7_takeNumber_39 : decode mX7_takeNumber.2.2.1 39 = .ok (.iload_n 2, 1) := by decide +kernel
theorem d_X7_takeNumber_40 : decode mX7_takeNumber.2.2.1 40 = .ok (.baload, 1) := by decide +kernel
theorem d_X7_takeNumber_41 : decode mX7_takeNumber.2.2.1 41 = .ok (.iadd, 1) := by decide +kernel
theorem d_X7_takeNumber_42 : decode mX7_takeNumber.2.2.1 42 = .ok (.bipush 48, 2) := by decide +kernel
theorem d_X7_takeNumber_44 : decode mX7_takeNumber.2.2.1 44 = .ok (.isub, 1) := by decide +kernel
theorem d_X7_takeNumber_45 : decode mX7_takeNumber.2.2.1 45 = .ok (.istore_n 3, 1) := by decide +kernel
theorem d_X7_takeNumber_46 : decode mX7_takeNumber.2.2.1 46 = .ok (.iinc 2 1, 3) := by decide +kernel
theorem d_X7_takeNumber_49 : decode mX7_takeNumber.2.2.1 49 = .ok (.goto (-45), 3) := by decide +kernel
theorem d_X7_takeNumber_52 : decode mX7_takeNumber.2.2.1 52 = .ok (.iload_n 2, 1) := by decide +kernel
theorem d_X7_takeNumber_53 : decode mX7_takeNumber.2.2.1 53 = .ok (.iload_n 1, 1) := by decide +kernel
theorem d_X7_takeNumber_54 : decode mX7_takeNumber.2.2.1 54 = .ok (.isub, 1) := by decide +kernel
theorem d_X7_takeNumber_55 : decode mX7_takeNumber.2.2.1 55 = .ok (.iconst 4, 1) := by decide +kernel
theorem d_X7_takeNumber_56 : decode mX7_takeNumber.2.2.1 56 = .ok (.if_icmp .le 14, 3) := by decide +kernel
theorem d_X7_takeNumber_70 : decode mX7_takeNumber.2.2.1 70 = .ok (.aload_n 0, 1) := by decide +kernel
theorem d_X7_takeNumber_71 : decode mX7_takeNumber.2.2.1 71 = .ok (.iconst 4, 1) := by decide +kernel
theorem d_X7_takeNumber_72 : decode mX7_takeNumber.2.2.1 72 = .ok (.iload_n 1, 1) := by decide +kernel
theorem d_X7_takeNumber_73 : decode mX7_takeNumber.2.2.1 73 = .ok (.iload_n 3, 1) := by decide +kernel
theorem d_X7_takeNumber_74 : decode mX7_takeNumber.2.2.1 74 = .ok (.iload_n 2, 1) := by decide +kernel
theorem d_X7_takeNumber_75 : decode mX7_takeNumber.2.2.1 75 = .ok (.invokevirtual 40, 3) := by decide +kernel
theorem d_X7_takeNumber_78 : decode mX7_takeNumber.2.2.1 78 = .ok (.ireturn, 1) := by decide +kernel
theorem d_X7_takeNumber_59 : decode mX7_takeNumber.2.2.1 59 = .ok (.aload_n 0, 1) := by decide +kernel
theorem d_X7_takeNumber_60 : decode mX7_takeNumber.2.2.1 60 = .ok (.iconst 1, 1) := by decide +kernel
theorem d_X7_takeNumber_61 : decode mX7_takeNumber.2.2.1 61 = .ok (.iload_n 1, 1) := by decide +kernel
theorem d_X7_takeNumber_62 : decode mX7_takeNumber.2.2.1 62 = .ok (.iconst 4, 1) := by decide +kernel
theorem d_X7_takeNumber_63 : decode mX7_takeNumber.2.2.1 63 = .ok (.iadd, 1) := by decide +kernel
theorem d_X7_takeNumber_64 : decode mX7_takeNumber.2.2.1 64 = .ok (.iconst 0, 1) := by decide +kernel
theorem d_X7_takeNumber_65 : decode mX7_takeNumber.2.2.1 65 = .ok (.iconst (-1), 1) := by decide +kernel
theorem d_X7_takeNumber_66 : decode mX7_takeNumber.2.2.1 66 = .ok (.invokevirtual 40, 3) := by decide +kernel
theorem d_X7_takeNumber_69 : decode mX7_takeNumber.2.2.1 69 = .ok (.ireturn, 1) := by decide +kernel
def mJ3_checkIndex_8e157 : MD := (23, yJ3_checkIndex_8e157, cJ3_checkIndex_8e157, 3, some .int)
theorem d_J3_checkIndex_8e157_0 : decode mJ3_checkIndex_8e157.2.2.1 0 = .ok (.iload_n 0, 1) := by decide +kernel
theorem d_J3_checkIndex_8e157_1 : decode mJ3_checkIndex_8e157.2.2.1 1 = .ok (.ifCond .lt 8, 3) := by decide +kernel
theorem d_J3_checkIndex_8e157_4 : decode mJ3_checkIndex_8e157.2.2.1 4 = .ok (.iload_n 0, 1) := by decide +kernel
theorem d_J3_checkIndex_8e157_5 : decode mJ3_checkIndex_8e157.2.2.1 5 = .ok (.iload_n 1, 1) := by decide +kernel
theorem d_J3_checkIndex_8e157_6 : decode mJ3_checkIndex_8e157.2.2.1 6 = .ok (.if_icmp .lt 10, 3) := by decide +kernel
theorem d_J3_checkIndex_8e157_16 : decode mJ3_checkIndex_8e157.2.2.1 16 = .ok (.iload_n 0, 1) := by decide +kernel
theorem d_J3_checkIndex_8e157_17 : decode mJ3_checkIndex_8e157.2.2.1 17 = .ok (.ireturn, 1) := by decide +kernel
theorem f_5_18 : e_fld 5 18 5 2 7 2 false := ⟨RX5, TX5, 2, rfl, rfl, by decide, rfl, rfl, rfl, iX5, tblG_in (inT1 (List.mem_of_getElem? (i := 72) rfl)) rfl, tyX5_ok, nmX5⟩
theorem f_5_22 : e_fld 5 22 5 3 7 2 false := ⟨RX5, TX5, 3, rfl, rfl, by decide, rfl, rfl, rfl, iX5, tblG_in (inT1 (List.mem_of_getElem? (i := 73) rfl)) rfl, tyX5_ok, nmX5⟩
theorem f_5_32 : e_fld 5 32 5 4 7 2 false := ⟨RX5, TX5, 4, rfl, rfl, by decide, rfl, rfl, rfl, iX5, tblG_in (inT1 (List.mem_of_getElem? (i := 74) rfl)) rfl, tyX5_ok, nmX5⟩
theorem f_5_36 : e_fld 5 36 5 5 7 0 false := ⟨RX5, TX5, 5, rfl, rfl, by decide, rfl, rfl, rfl, iX5, tblG_in (inT1 (List.mem_of_getElem? (i := 75) rfl)) rfl, tyX5_ok, nmX5⟩
theorem f_5_39 : e_fld 5 39 5 6 7 0 false := ⟨RX5, TX5, 6, rfl, rfl, by decide, rfl, rfl, rfl, iX5, tblG_in (inT1 (List.mem_of_getElem? (i := 76) rfl)) rfl, tyX5_ok, nmX5⟩
theorem f_5_50 : e_fld 5 50 7 0 6 2 true := ⟨RX7, TX7, 0, rfl, rfl, by decide, rfl, rfl, rfl, iX7, tblG_in (inT1 (List.mem_of_getElem? (i := 39) rfl)) rfl, tyX7_ok, nmX7⟩
theorem f_5_68 : e_fld 5 68 7 2 6 2 true := ⟨RX7, TX7, 2, rfl, rfl, by decide, rfl, rfl, rfl, iX7, tblG_in (inT1 (List.mem_of_getElem? (i := 43) rfl)) rfl, tyX7_ok, nmX7⟩
def mX5_goOn : MD := (5, yX5_goOn, cX5_goOn, 1, some .boolean)
theorem sel_X5_goOn : Cond.instanceMethod mX5_goOn.2.1 ∈ tblG ∧ Cond.selects mX5_goOn.2.1.cls mX5_goOn.2.1 mX5_goOn.2.1 ∈ tblG := ⟨tblG_in (inT4 (List.mem_of_getElem? (i := 32) rfl)) rfl, tblG_in (inP1 (q := (mX5_goOn.2.1, 7)) (List.mem_of_getElem? (i := 11) rfl)) rfl⟩
theorem s_5_74 : e_siteV 5 74 mX5_goOn 5 := ⟨tblG_in (inT4 (List.mem_of_getElem? (i := 30) rfl)) rfl, sel_X5_goOn.1, sel_X5_goOn.2, rfl⟩
theorem d_X5_goOn_0 : decode mX5_goOn.2.2.1 0 = .ok (.aload_n 0, 1) := by decide +kernel
theorem d_X5_goOn_1 : decode mX5_goOn.2.2.1 1 = .ok (.getfield 36, 3) := by decide +kernel
theorem d_X5_goOn_4 : decode mX5_goOn.2.2.1 4 = .ok (.sipush 900, 3) := by decide +kernel
theorem d_X5_goOn_7 : decode mX5_goOn.2.2.1 7 = .ok (.if_icmp .ge 13, 3) := by decide +kernel
theorem d_X5_goOn_20 : decode mX5_goOn.2.2.1 20 = .ok (.iconst 1, 1) := by decide +kernel
theorem d_X5_goOn_21 : decode mX5_goOn.2.2.1 21 = .ok (.ireturn, 1) := by decide +kernel
theorem d_X5_goOn_10 : decode mX5_goOn.2.2.1 10 = .ok (.aload_n 0, 1) := by decide +kernel
theorem d_X5_goOn_11 : decode mX5_goOn.2.2.1 11 = .ok (.dup, 1) := by decide +kernel
theorem d_X5_goOn_12 : decode mX5_goOn.2.2.1 12 = .ok (.getfield 36, 3) := by decide +kernel
theorem d_X5_goOn_15 : decode mX5_goOn.2.2.1 15 = .ok (.iconst 1, 1) := by decide +kernel
theorem d_X5_goOn_16 : decode mX5_goOn.2.2.1 16 = .ok (.iadd, 1) := by decide +kernel
theorem d_X5_goOn_17 : decode mX5_goOn.2.2.1 17 = .ok (.putfield 36, 3) := by decide +kernel
theorem ok_X5_goOn : e_m mX5_goOn 0 := ⟨tblG_in (inT4 (List.mem_of_getElem? (i := 33) rfl)) rfl, plainFor_of_name (by decide), rfl, ini_5, by decide +kernel, by decide⟩
def mX3_find : MD := (3, yX3_find, cX3_find, 3, some .int)
theorem d_X3_find_0 : decode mX3_find.2.2.1 0 = .ok (.iconst 0, 1) := by decide +kernel
theorem d_X3_find_1 : decode mX3_find.2.2.1 1 = .ok (.istore_n 2, 1) := by decide +kernel
theorem d_X3_find_2 : decode mX3_find.2.2.1 2 = .ok (.iload_n 2, 1) := by decide +kernel
theorem d_X3_find_3 : decode mX3_find.2.2.1 3 = .ok (.bipush 15, 2) := by decide +kernel
theorem d_X3_find_5 : decode mX3_find.2.2.1 5 = .ok (.if_icmp .ge 21, 3) := by decide +kernel
theorem d_X3_find_8 : decode mX3_find.2.2.1 8 = .ok (.aload_n 0, 1) := by decide +kernel
theorem d_X3_find_9 : decode mX3_find.2.2.1 9 = .ok (.getfield 30, 3) := by decide +kernel
theorem d_X3_find_12 : decode mX3_find.2.2.1 12 = .ok (.iload_n 2, 1) := by decide +kernel
theorem d_X3_find_13 : decode mX3_find.2.2.1 13 = .ok (.iaload, 1) := by decide +kernel
theorem d_X3_find_14 : decode mX3_find.2.2.1 14 = .ok (.iload_n 1, 1) := by decide +kernel
theorem d_X3_find_15 : decode mX3_find.2.2.1 15 = .ok (.if_icmp .ne 5, 3) := by decide +kernel
theorem d_X3_find_20 : decode mX3_find.2.2.1 20 = .ok (.iinc 2 1, 3) := by decide +kernel
theorem d_X3_find_23 : decode mX3_find.2.2.1 23 = .ok (.goto (-21), 3) := by decide +kernel
theorem d_X3_find_18 : decode mX3_find.2.2.1 18 = .ok (.iload_n 2, 1) := by decide +kernel
theorem d_X3_find_19 : decode mX3_find.2.2.1 19 = .ok (.ireturn, 1) := by decide +kernel
theorem d_X3_find_26 : decode mX3_find.2.2.1 26 = .ok (.iconst (-1), 1) := by decide +kernel
theorem d_X3_find_27 : decode mX3_find.2.2.1 27 = .ok (.ireturn, 1) := by decide +kernel
def mX5_refuse : MD := (5, yX5_refuse, cX5_refuse, 2, some .boolean)
theorem sel_X5_refuse : Cond.instanceMethod mX5_refuse.2.1 ∈ tblG ∧ Cond.selects mX5_refuse.2.1.cls mX5_refuse.2.1 mX5_refuse.2.1 ∈ tblG := ⟨tblG_in (inT4 (List.mem_of_getElem? (i := 40) rfl)) rfl, tblG_in (inP1 (q := (mX5_refuse.2.1, 7)) (List.mem_of_getElem? (i := 13) rfl)) rfl⟩
theorem s_5_56 : e_siteV 5 56 mX5_refuse 5 := ⟨tblG_in (inT4 (List.mem_of_getElem? (i := 38) rfl)) rfl, sel_X5_refuse.1, sel_X5_refuse.2, rfl⟩
theorem d_X5_refuse_0 : decode mX5_refuse.2.2.1 0 = .ok (.aload_n 0, 1) := by decide +kernel
theorem d_X5_refuse_1 : decode mX5_refuse.2.2.1 1 = .ok (.iload_n 1, 1) := by decide +kernel
theorem d_X5_refuse_2 : decode mX5_refuse.2.2.1 2 = .ok (.putfield 9, 3) := by decide +kernel
theorem d_X5_refuse_5 : decode mX5_refuse.2.2.1 5 = .ok (.aload_n 0, 1) := by decide +kernel
theorem d_X5_refuse_6 : decode mX5_refuse.2.2.1 6 = .ok (.aload_n 0, 1) := by decide +kernel
theorem d_X5_refuse_7 : decode mX5_refuse.2.2.1 7 = .ok (.getfield 18, 3) := by decide +kernel
theorem d_X5_refuse_10 : decode mX5_refuse.2.2.1 10 = .ok (.getfield 65, 3) := by decide +kernel
theorem f_5_65 : e_fld 5 65 7 1 6 2 true := ⟨RX7, TX7, 1, rfl, rfl, by decide, rfl, rfl, rfl, iX7, tblG_in (inT1 (List.mem_of_getElem? (i := 41) rfl)) rfl, tyX7_ok, nmX7⟩
end
/-! 25.17 -/
section
theorem d_X5_refuse_13 : decode mX5_refuse.2.2.1 13 = .ok (.aload_n 0, 1) := by decide +kernel
theorem d_X5_refuse_14 : decode mX5_refuse.2.2.1 14 = .ok (.getfield 36, 3) := by decide +kernel
theorem d_X5_refuse_17 : decode mX5_refuse.2.2.1 17 = .ok (.iaload, 1) := by decide +kernel
theorem d_X5_refuse_18 : decode mX5_refuse.2.2.1 18 = .ok (.putfield 15, 3) := by decide +kernel
theorem d_X5_refuse_21 : decode mX5_refuse.2.2.1 21 = .ok (.iconst 0, 1) := by decide +kernel
theorem d_X5_refuse_22 : decode mX5_refuse.2.2.1 22 = .ok (.ireturn, 1) := by decide +kernel
theorem ok_X5_refuse : e_m mX5_refuse 1 := ⟨tblG_in (inT4 (List.mem_of_getElem? (i := 41) rfl)) rfl, plainFor_of_name (by decide), rfl, ini_5, by decide +kernel, by decide⟩
def mX5_takeSign : MD := (5, yX5_takeSign, cX5_takeSign, 2, some .boolean)
theorem sel_X5_takeSign : Cond.instanceMethod mX5_takeSign.2.1 ∈ tblG ∧ Cond.selects mX5_takeSign.2.1.cls mX5_takeSign.2.1 mX5_takeSign.2.1 ∈ tblG := ⟨tblG_in (inT4 (List.mem_of_getElem? (i := 44) rfl)) rfl, tblG_in (inP1 (q := (mX5_takeSign.2.1, 7)) (List.mem_of_getElem? (i := 14) rfl)) rfl⟩
theorem s_5_81 : e_siteV 5 81 mX5_takeSign 5 := ⟨tblG_in (inT4 (List.mem_of_getElem? (i := 42) rfl)) rfl, sel_X5_takeSign.1, sel_X5_takeSign.2, rfl⟩
theorem d_X5_takeSign_0 : decode mX5_takeSign.2.2.1 0 = .ok (.aload_n 0, 1) := by decide +kernel
theorem d_X5_takeSign_1 : decode mX5_takeSign.2.2.1 1 = .ok (.iload_n 1, 1) := by decide +kernel
theorem d_X5_takeSign_2 : decode mX5_takeSign.2.2.1 2 = .ok (.invokevirtual 77, 3) := by decide +kernel
def mX5_isSign : MD := (5, yX5_isSign, cX5_isSign, 2, some .boolean)
theorem sel_X5_isSign : Cond.instanceMethod mX5_isSign.2.1 ∈ tblG ∧ Cond.selects mX5_isSign.2.1.cls mX5_isSign.2.1 mX5_isSign.2.1 ∈ tblG := ⟨tblG_in (inT4 (List.mem_of_getElem? (i := 48) rfl)) rfl, tblG_in (inP1 (q := (mX5_isSign.2.1, 7)) (List.mem_of_getElem? (i := 15) rfl)) rfl⟩
theorem s_5_77 : e_siteV 5 77 mX5_isSign 5 := ⟨tblG_in (inT4 (List.mem_of_getElem? (i := 46) rfl)) rfl, sel_X5_isSign.1, sel_X5_isSign.2, rfl⟩
theorem d_X5_isSign_0 : decode mX5_isSign.2.2.1 0 = .ok (.aload_n 0, 1) := by decide +kernel
theorem d_X5_isSign_1 : decode mX5_isSign.2.2.1 1 = .ok (.getfield 18, 3) := by decide +kernel
theorem d_X5_isSign_4 : decode mX5_isSign.2.2.1 4 = .ok (.getfield 50, 3) := by decide +kernel
theorem d_X5_isSign_7 : decode mX5_isSign.2.2.1 7 = .ok (.aload_n 0, 1) := by decide +kernel
theorem d_X5_isSign_8 : decode mX5_isSign.2.2.1 8 = .ok (.getfield 36, 3) := by decide +kernel
theorem d_X5_isSign_11 : decode mX5_isSign.2.2.1 11 = .ok (.iaload, 1) := by decide +kernel
theorem d_X5_isSign_12 : decode mX5_isSign.2.2.1 12 = .ok (.iconst 5, 1) := by decide +kernel
theorem d_X5_isSign_13 : decode mX5_isSign.2.2.1 13 = .ok (.if_icmp .ne 23, 3) := by decide +kernel
theorem d_X5_isSign_36 : decode mX5_isSign.2.2.1 36 = .ok (.iconst 0, 1) := by decide +kernel
theorem d_X5_isSign_37 : decode mX5_isSign.2.2.1 37 = .ok (.ireturn, 1) := by decide +kernel
theorem d_X5_isSign_16 : decode mX5_isSign.2.2.1 16 = .ok (.aload_n 0, 1) := by decide +kernel
theorem d_X5_isSign_17 : decode mX5_isSign.2.2.1 17 = .ok (.getfield 18, 3) := by decide +kernel
theorem d_X5_isSign_20 : decode mX5_isSign.2.2.1 20 = .ok (.getfield 68, 3) := by decide +kernel
theorem d_X5_isSign_23 : decode mX5_isSign.2.2.1 23 = .ok (.aload_n 0, 1) := by decide +kernel
theorem d_X5_isSign_24 : decode mX5_isSign.2.2.1 24 = .ok (.getfield 36, 3) := by decide +kernel
theorem d_X5_isSign_27 : decode mX5_isSign.2.2.1 27 = .ok (.iaload, 1) := by decide +kernel
theorem d_X5_isSign_28 : decode mX5_isSign.2.2.1 28 = .ok (.iload_n 1, 1) := by decide +kernel
theorem d_X5_isSign_29 : decode mX5_isSign.2.2.1 29 = .ok (.if_icmp .ne 7, 3) := by decide +kernel
theorem d_X5_isSign_32 : decode mX5_isSign.2.2.1 32 = .ok (.iconst 1, 1) := by decide +kernel
theorem d_X5_isSign_33 : decode mX5_isSign.2.2.1 33 = .ok (.goto 4, 3) := by decide +kernel
theorem ok_X5_isSign : e_m mX5_isSign 1 := ⟨tblG_in (inT4 (List.mem_of_getElem? (i := 49) rfl)) rfl, plainFor_of_name (by decide), rfl, ini_5, by decide +kernel, by decide⟩
theorem d_X5_takeSign_5 : decode mX5_takeSign.2.2.1 5 = .ok (.ifCond .eq 10, 3) := by decide +kernel
theorem d_X5_takeSign_15 : decode mX5_takeSign.2.2.1 15 = .ok (.aload_n 0, 1) := by decide +kernel
theorem d_X5_takeSign_16 : decode mX5_takeSign.2.2.1 16 = .ok (.iconst 1, 1) := by decide +kernel
theorem d_X5_takeSign_17 : decode mX5_takeSign.2.2.1 17 = .ok (.invokevirtual 56, 3) := by decide +kernel
theorem d_X5_takeSign_20 : decode mX5_takeSign.2.2.1 20 = .ok (.ireturn, 1) := by decide +kernel
theorem d_X5_takeSign_8 : decode mX5_takeSign.2.2.1 8 = .ok (.aload_n 0, 1) := by decide +kernel
theorem d_X5_takeSign_9 : decode mX5_takeSign.2.2.1 9 = .ok (.invokevirtual 74, 3) := by decide +kernel
theorem d_X5_takeSign_12 : decode mX5_takeSign.2.2.1 12 = .ok (.goto 8, 3) := by decide +kernel
theorem ok_X5_takeSign : e_m mX5_takeSign 1 := ⟨tblG_in (inT4 (List.mem_of_getElem? (i := 45) rfl)) rfl, plainFor_of_name (by decide), rfl, ini_5, by decide +kernel, by decide⟩
def mX5_takeNumber : MD := (5, yX5_takeNumber, cX5_takeNumber, 4, some .int)
theorem sel_X5_takeNumber : Cond.instanceMethod mX5_takeNumber.2.1 ∈ tblG ∧ Cond.selects mX5_takeNumber.2.1.cls mX5_takeNumber.2.1 mX5_takeNumber.2.1 ∈ tblG := ⟨tblG_in (inT4 (List.mem_of_getElem? (i := 36) rfl)) rfl, tblG_in (inP1 (q := (mX5_takeNumber.2.1, 7)) (List.mem_of_getElem? (i := 12) rfl)) rfl⟩
theorem s_5_87 : e_siteV 5 87 mX5_takeNumber 5 := ⟨tblG_in (inT4 (List.mem_of_getElem? (i := 34) rfl)) rfl, sel_X5_takeNumber.1, sel_X5_takeNumber.2, rfl⟩
theorem d_X5_takeNumber_0 : decode mX5_takeNumber.2.2.1 0 = .ok (.aload_n 0, 1) := by decide +kernel
theorem d_X5_takeNumber_1 : decode mX5_takeNumber.2.2.1 1 = .ok (.getfield 18, 3) := by decide +kernel
theorem d_X5_takeNumber_4 : decode mX5_takeNumber.2.2.1 4 = .ok (.getfield 50, 3) := by decide +kernel
theorem d_X5_takeNumber_7 : decode mX5_takeNumber.2.2.1 7 = .ok (.aload_n 0, 1) := by decide +kernel
theorem d_X5_takeNumber_8 : decode mX5_takeNumber.2.2.1 8 = .ok (.getfield 36, 3) := by decide +kernel
theorem d_X5_takeNumber_11 : decode mX5_takeNumber.2.2.1 11 = .ok (.iaload, 1) := by decide +kernel
theorem d_X5_takeNumber_12 : decode mX5_takeNumber.2.2.1 12 = .ok (.iconst 4, 1) := by decide +kernel
theorem d_X5_takeNumber_13 : decode mX5_takeNumber.2.2.1 13 = .ok (.if_icmp .eq 11, 3) := by decide +kernel
theorem d_X5_takeNumber_24 : decode mX5_takeNumber.2.2.1 24 = .ok (.aload_n 0, 1) := by decide +kernel
theorem d_X5_takeNumber_25 : decode mX5_takeNumber.2.2.1 25 = .ok (.getfield 18, 3) := by decide +kernel
theorem d_X5_takeNumber_28 : decode mX5_takeNumber.2.2.1 28 = .ok (.getfield 68, 3) := by decide +kernel
theorem d_X5_takeNumber_31 : decode mX5_takeNumber.2.2.1 31 = .ok (.aload_n 0, 1) := by decide +kernel
theorem d_X5_takeNumber_32 : decode mX5_takeNumber.2.2.1 32 = .ok (.getfield 36, 3) := by decide +kernel
theorem d_X5_takeNumber_35 : decode mX5_takeNumber.2.2.1 35 = .ok (.iaload, 1) := by decide +kernel
theorem d_X5_takeNumber_36 : decode mX5_takeNumber.2.2.1 36 = .ok (.istore_n 3, 1) := by decide +kernel
theorem d_X5_takeNumber_37 : decode mX5_takeNumber.2.2.1 37 = .ok (.iload_n 3, 1) := by decide +kernel
theorem d_X5_takeNumber_38 : decode mX5_takeNumber.2.2.1 38 = .ok (.iload_n 1, 1) := by decide +kernel
theorem d_X5_takeNumber_39 : decode mX5_takeNumber.2.2.1 39 = .ok (.if_icmp .lt 8, 3) := by decide +kernel
theorem d_X5_takeNumber_42 : decode mX5_takeNumber.2.2.1 42 = .ok (.iload_n 3, 1) := by decide +kernel
theorem d_X5_takeNumber_43 : decode mX5_takeNumber.2.2.1 43 = .ok (.iload_n 2, 1) := by decide +kernel
theorem d_X5_takeNumber_44 : decode mX5_takeNumber.2.2.1 44 = .ok (.if_icmp .le 11, 3) := by decide +kernel
theorem d_X5_takeNumber_55 : decode mX5_takeNumber.2.2.1 55 = .ok (.aload_n 0, 1) := by decide +kernel
theorem d_X5_takeNumber_56 : decode mX5_takeNumber.2.2.1 56 = .ok (.invokevirtual 74, 3) := by decide +kernel
theorem d_X5_takeNumber_59 : decode mX5_takeNumber.2.2.1 59 = .ok (.pop, 1) := by decide +kernel
theorem d_X5_takeNumber_60 : decode mX5_takeNumber.2.2.1 60 = .ok (.iload_n 3, 1) := by decide +kernel
theorem d_X5_takeNumber_61 : decode mX5_takeNumber.2.2.1 61 = .ok (.ireturn, 1) := by decide +kernel
theorem d_X5_takeNumber_16 : decode mX5_takeNumber.2.2.1 16 = .ok (.aload_n 0, 1) := by decide +kernel
theorem d_X5_takeNumber_17 : decode mX5_takeNumber.2.2.1 17 = .ok (.iconst 1, 1) := by decide +kernel
theorem d_X5_takeNumber_18 : decode mX5_takeNumber.2.2.1 18 = .ok (.invokevirtual 56, 3) := by decide +kernel
theorem d_X5_takeNumber_21 : decode mX5_takeNumber.2.2.1 21 = .ok (.pop, 1) := by decide +kernel
theorem d_X5_takeNumber_22 : decode mX5_takeNumber.2.2.1 22 = .ok (.iconst (-1), 1) := by decide +kernel
theorem d_X5_takeNumber_23 : decode mX5_takeNumber.2.2.1 23 = .ok (.ireturn, 1) := by decide +kernel
theorem d_X5_takeNumber_47 : decode mX5_takeNumber.2.2.1 47 = .ok (.aload_n 0, 1) := by decide +kernel
theorem d_X5_takeNumber_48 : decode mX5_takeNumber.2.2.1 48 = .ok (.iconst 4, 1) := by decide +kernel
theorem d_X5_takeNumber_49 : decode mX5_takeNumber.2.2.1 49 = .ok (.invokevirtual 56, 3) := by decide +kernel
theorem d_X5_takeNumber_52 : decode mX5_takeNumber.2.2.1 52 = .ok (.pop, 1) := by decide +kernel
theorem d_X5_takeNumber_53 : decode mX5_takeNumber.2.2.1 53 = .ok (.iconst (-1), 1) := by decide +kernel
theorem d_X5_takeNumber_54 : decode mX5_takeNumber.2.2.1 54 = .ok (.ireturn, 1) := by decide +kernel
theorem ok_X5_takeNumber : e_m mX5_takeNumber 2 := ⟨tblG_in (inT4 (List.mem_of_getElem? (i := 37) rfl)) rfl, plainFor_of_name (by decide), rfl, ini_5, by decide +kernel, by decide⟩
def mX5_takeTold : MD := (5, yX5_takeTold, cX5_takeTold, 3, some .int)
theorem d_X5_takeTold_0 : decode mX5_takeTold.2.2.1 0 = .ok (.aload_n 0, 1) := by decide +kernel
theorem d_X5_takeTold_1 : decode mX5_takeTold.2.2.1 1 = .ok (.iload_n 1, 1) := by decide +kernel
theorem d_X5_takeTold_2 : decode mX5_takeTold.2.2.1 2 = .ok (.invokevirtual 84, 3) := by decide +kernel
def mX5_takeOwn : MD := (5, yX5_takeOwn, cX5_takeOwn, 2, some .boolean)
theorem sel_X5_takeOwn : Cond.instanceMethod mX5_takeOwn.2.1 ∈ tblG ∧ Cond.selects mX5_takeOwn.2.1.cls mX5_takeOwn.2.1 mX5_takeOwn.2.1 ∈ tblG := ⟨tblG_in (inT4 (List.mem_of_getElem? (i := 84) rfl)) rfl, tblG_in (inP2 (q := (mX5_takeOwn.2.1, 7)) (List.mem_of_getElem? (i := 4) rfl)) rfl⟩
theorem s_5_84 : e_siteV 5 84 mX5_takeOwn 5 := ⟨tblG_in (inT4 (List.mem_of_getElem? (i := 82) rfl)) rfl, sel_X5_takeOwn.1, sel_X5_takeOwn.2, rfl⟩
theorem d_X5_takeOwn_0 : decode mX5_takeOwn.2.2.1 0 = .ok (.aload_n 0, 1) := by decide +kernel
theorem d_X5_takeOwn_1 : decode mX5_takeOwn.2.2.1 1 = .ok (.iload_n 1, 1) := by decide +kernel
theorem d_X5_takeOwn_2 : decode mX5_takeOwn.2.2.1 2 = .ok (.invokevirtual 71, 3) := by decide +kernel
def mX5_isOwn : MD := (5, yX5_isOwn, cX5_isOwn, 2, some .boolean)
theorem sel_X5_isOwn : Cond.instanceMethod mX5_isOwn.2.1 ∈ tblG ∧ Cond.selects mX5_isOwn.2.1.cls mX5_isOwn.2.1 mX5_isOwn.2.1 ∈ tblG := ⟨tblG_in (inT4 (List.mem_of_getElem? (i := 88) rfl)) rfl, tblG_in (inP2 (q := (mX5_isOwn.2.1, 7)) (List.mem_of_getElem? (i := 5) rfl)) rfl⟩
theorem s_5_71 : e_siteV 5 71 mX5_isOwn 5 := ⟨tblG_in (inT4 (List.mem_of_getElem? (i := 86) rfl)) rfl, sel_X5_isOwn.1, sel_X5_isOwn.2, rfl⟩
theorem d_X5_isOwn_0 : decode mX5_isOwn.2.2.1 0 = .ok (.aload_n 0, 1) := by decide +kernel
theorem d_X5_isOwn_1 : decode mX5_isOwn.2.2.1 1 = .ok (.getfield 18, 3) := by decide +kernel
theorem d_X5_isOwn_4 : decode mX5_isOwn.2.2.1 4 = .ok (.getfield 50, 3) := by decide +kernel
theorem d_X5_isOwn_7 : decode mX5_isOwn.2.2.1 7 = .ok (.aload_n 0, 1) := by decide +kernel
theorem d_X5_isOwn_8 : decode mX5_isOwn.2.2.1 8 = .ok (.getfield 36, 3) := by decide +kernel
theorem d_X5_isOwn_11 : decode mX5_isOwn.2.2.1 11 = .ok (.iaload, 1) := by decide +kernel
theorem d_X5_isOwn_12 : decode mX5_isOwn.2.2.1 12 = .ok (.iconst 2, 1) := by decide +kernel
theorem d_X5_isOwn_13 : decode mX5_isOwn.2.2.1 13 = .ok (.if_icmp .ne 23, 3) := by decide +kernel
theorem d_X5_isOwn_36 : decode mX5_isOwn.2.2.1 36 = .ok (.iconst 0, 1) := by decide +kernel
theorem d_X5_isOwn_37 : decode mX5_isOwn.2.2.1 37 = .ok (.ireturn, 1) := by decide +kernel
theorem d_X5_isOwn_16 : decode mX5_isOwn.2.2.1 16 = .ok (.aload_n 0, 1) := by decide +kernel
theorem d_X5_isOwn_17 : decode mX5_isOwn.2.2.1 17 = .ok (.getfield 18, 3) := by decide +kernel
theorem d_X5_isOwn_20 : decode mX5_isOwn.2.2.1 20 = .ok (.getfield 68, 3) := by decide +kernel
theorem d_X5_isOwn_23 : decode mX5_isOwn.2.2.1 23 = .ok (.aload_n 0, 1) := by decide +kernel
theorem d_X5_isOwn_24 : decode mX5_isOwn.2.2.1 24 = .ok (.getfield 36, 3) := by decide +kernel
theorem d_X5_isOwn_27 : decode mX5_isOwn.2.2.1 27 = .ok (.iaload, 1) := by decide +kernel
theorem d_X5_isOwn_28 : decode mX5_isOwn.2.2.1 28 = .ok (.iload_n 1, 1) := by decide +kernel
theorem d_X5_isOwn_29 : decode mX5_isOwn.2.2.1 29 = .ok (.if_icmp .ne 7, 3) := by decide +kernel
theorem d_X5_isOwn_32 : decode mX5_isOwn.2.2.1 32 = .ok (.iconst 1, 1) := by decide +kernel
theorem d_X5_isOwn_33 : decode mX5_isOwn.2.2.1 33 = .ok (.goto 4, 3) := by decide +kernel
theorem ok_X5_isOwn : e_m mX5_isOwn 1 := ⟨tblG_in (inT4 (List.mem_of_getElem? (i := 89) rfl)) rfl, plainFor_of_name (by decide), rfl, ini_5, by decide +kernel, by decide⟩
theorem d_X5_takeOwn_5 : decode mX5_takeOwn.2.2.1 5 = .ok (.ifCond .eq 10, 3) := by decide +kernel
theorem d_X5_takeOwn_15 : decode mX5_takeOwn.2.2.1 15 = .ok (.aload_n 0, 1) := by decide +kernel
theorem d_X5_takeOwn_16 : decode mX5_takeOwn.2.2.1 16 = .ok (.iconst 1, 1) := by decide +kernel
theorem d_X5_takeOwn_17 : decode mX5_takeOwn.2.2.1 17 = .ok (.invokevirtual 56, 3) := by decide +kernel
theorem d_X5_takeOwn_20 : decode mX5_takeOwn.2.2.1 20 = .ok (.ireturn, 1) := by decide +kernel
theorem d_X5_takeOwn_8 : decode mX5_takeOwn.2.2.1 8 = .ok (.aload_n 0, 1) := by decide +kernel
theorem d_X5_takeOwn_9 : decode mX5_takeOwn.2.2.1 9 = .ok (.invokevirtual 74, 3) := by decide +kernel
theorem d_X5_takeOwn_12 : decode mX5_takeOwn.2.2.1 12 = .ok (.goto 8, 3) := by decide +kernel
theorem ok_X5_takeOwn : e_m mX5_takeOwn 1 := ⟨tblG_in (inT4 (List.mem_of_getElem? (i := 85) rfl)) rfl, plainFor_of_name (by decide), rfl, ini_5, by decide +kernel, by decide⟩
theorem d_X5_takeTold_5 : decode mX5_takeTold.2.2.1 5 = .ok (.ifCond .eq 12, 3) := by decide +kernel
theorem d_X5_takeTold_17 : decode mX5_takeTold.2.2.1 17 = .ok (.iconst (-1), 1) := by decide +kernel
theorem d_X5_takeTold_18 : decode mX5_takeTold.2.2.1 18 = .ok (.ireturn, 1) := by decide +kernel
theorem d_X5_takeTold_8 : decode mX5_takeTold.2.2.1 8 = .ok (.aload_n 0, 1) := by decide +kernel
theorem d_X5_takeTold_9 : decode mX5_takeTold.2.2.1 9 = .ok (.iconst 0, 1) := by decide +kernel
theorem d_X5_takeTold_10 : decode mX5_takeTold.2.2.1 10 = .ok (.iload_n 2, 1) := by decide +kernel
theorem d_X5_takeTold_11 : decode mX5_takeTold.2.2.1 11 = .ok (.invokevirtual 87, 3) := by decide +kernel
theorem d_X5_takeTold_14 : decode mX5_takeTold.2.2.1 14 = .ok (.goto 4, 3) := by decide +kernel
def mX5_cache : MD := (5, yX5_cache, cX5_cache, 4, some .boolean)
theorem d_X5_cache_0 : decode mX5_cache.2.2.1 0 = .ok (.aload_n 0, 1) := by decide +kernel
theorem d_X5_cache_1 : decode mX5_cache.2.2.1 1 = .ok (.invokevirtual 74, 3) := by decide +kernel
theorem d_X5_cache_4 : decode mX5_cache.2.2.1 4 = .ok (.pop, 1) := by decide +kernel
theorem d_X5_cache_5 : decode mX5_cache.2.2.1 5 = .ok (.aload_n 0, 1) := by decide +kernel
theorem d_X5_cache_6 : decode mX5_cache.2.2.1 6 = .ok (.iconst 1, 1) := by decide +kernel
theorem d_X5_cache_7 : decode mX5_cache.2.2.1 7 = .ok (.bipush 8, 2) := by decide +kernel
theorem d_X5_cache_9 : decode mX5_cache.2.2.1 9 = .ok (.invokevirtual 87, 3) := by decide +kernel
theorem d_X5_cache_12 : decode mX5_cache.2.2.1 12 = .ok (.istore_n 1, 1) := by decide +kernel
theorem d_X5_cache_13 : decode mX5_cache.2.2.1 13 = .ok (.iload_n 1, 1) := by decide +kernel
theorem d_X5_cache_14 : decode mX5_cache.2.2.1 14 = .ok (.ifCond .ge 7, 3) := by decide +kernel
theorem d_X5_cache_21 : decode mX5_cache.2.2.1 21 = .ok (.aload_n 0, 1) := by decide +kernel
theorem d_X5_cache_22 : decode mX5_cache.2.2.1 22 = .ok (.iconst 1, 1) := by decide +kernel
theorem d_X5_cache_23 : decode mX5_cache.2.2.1 23 = .ok (.bipush 8, 2) := by decide +kernel
theorem d_X5_cache_25 : decode mX5_cache.2.2.1 25 = .ok (.invokevirtual 87, 3) := by decide +kernel
theorem d_X5_cache_17 : decode mX5_cache.2.2.1 17 = .ok (.iconst (-1), 1) := by decide +kernel
theorem d_X5_cache_18 : decode mX5_cache.2.2.1 18 = .ok (.goto 10, 3) := by decide +kernel
theorem d_X5_cache_28 : decode mX5_cache.2.2.1 28 = .ok (.istore_n 2, 1) := by decide +kernel
theorem d_X5_cache_29 : decode mX5_cache.2.2.1 29 = .ok (.iload_n 2, 1) := by decide +kernel
theorem d_X5_cache_30 : decode mX5_cache.2.2.1 30 = .ok (.ifCond .ge 7, 3) := by decide +kernel
theorem d_X5_cache_37 : decode mX5_cache.2.2.1 37 = .ok (.aload_n 0, 1) := by decide +kernel
theorem d_X5_cache_38 : decode mX5_cache.2.2.1 38 = .ok (.iconst 0, 1) := by decide +kernel
theorem d_X5_cache_39 : decode mX5_cache.2.2.1 39 = .ok (.bipush 20, 2) := by decide +kernel
theorem d_X5_cache_41 : decode mX5_cache.2.2.1 41 = .ok (.invokevirtual 87, 3) := by decide +kernel
theorem d_X5_cache_33 : decode mX5_cache.2.2.1 33 = .ok (.iconst (-1), 1) := by decide +kernel
theorem d_X5_cache_34 : decode mX5_cache.2.2.1 34 = .ok (.goto 10, 3) := by decide +kernel
theorem d_X5_cache_44 : decode mX5_cache.2.2.1 44 = .ok (.istore_n 3, 1) := by decide +kernel
theorem d_X5_cache_45 : decode mX5_cache.2.2.1 45 = .ok (.aload_n 0, 1) := by decide +kernel
theorem d_X5_cache_46 : decode mX5_cache.2.2.1 46 = .ok (.getfield 22, 3) := by decide +kernel
theorem d_X5_cache_49 : decode mX5_cache.2.2.1 49 = .ok (.iload_n 1, 1) := by decide +kernel
theorem d_X5_cache_50 : decode mX5_cache.2.2.1 50 = .ok (.putfield 117, 3) := by decide +kernel
theorem f_5_117 : e_fld 5 117 3 1 12 0 false := ⟨RX3, TX3, 1, rfl, rfl, by decide, rfl, rfl, rfl, iX3, tblG_in (inT1 (List.mem_of_getElem? (i := 165) rfl)) rfl, tyX3_ok, nmX3⟩
theorem d_X5_cache_53 : decode mX5_cache.2.2.1 53 = .ok (.aload_n 0, 1) := by decide +kernel
theorem d_X5_cache_54 : decode mX5_cache.2.2.1 54 = .ok (.getfield 22, 3) := by decide +kernel
theorem d_X5_cache_57 : decode mX5_cache.2.2.1 57 = .ok (.iload_n 2, 1) := by decide +kernel
theorem d_X5_cache_58 : decode mX5_cache.2.2.1 58 = .ok (.putfield 120, 3) := by decide +kernel
theorem f_5_120 : e_fld 5 120 3 2 12 0 false := ⟨RX3, TX3, 2, rfl, rfl, by decide, rfl, rfl, rfl, iX3, tblG_in (inT1 (List.mem_of_getElem? (i := 168) rfl)) rfl, tyX3_ok, nmX3⟩
theorem d_X5_cache_61 : decode mX5_cache.2.2.1 61 = .ok (.aload_n 0, 1) := by decide +kernel
theorem d_X5_cache_62 : decode mX5_cache.2.2.1 62 = .ok (.getfield 22, 3) := by decide +kernel
theorem d_X5_cache_65 : decode mX5_cache.2.2.1 65 = .ok (.iload_n 3, 1) := by decide +kernel
theorem d_X5_cache_66 : decode mX5_cache.2.2.1 66 = .ok (.putfield 123, 3) := by decide +kernel
theorem f_5_123 : e_fld 5 123 3 3 12 0 false := ⟨RX3, TX3, 3, rfl, rfl, by decide, rfl, rfl, rfl, iX3, tblG_in (inT1 (List.mem_of_getElem? (i := 171) rfl)) rfl, tyX3_ok, nmX3⟩
theorem d_X5_cache_69 : decode mX5_cache.2.2.1 69 = .ok (.iload_n 3, 1) := by decide +kernel
theorem d_X5_cache_70 : decode mX5_cache.2.2.1 70 = .ok (.ifCond .lt 16, 3) := by decide +kernel
theorem d_X5_cache_86 : decode mX5_cache.2.2.1 86 = .ok (.iconst 0, 1) := by decide +kernel
theorem d_X5_cache_87 : decode mX5_cache.2.2.1 87 = .ok (.ireturn, 1) := by decide +kernel
theorem d_X5_cache_73 : decode mX5_cache.2.2.1 73 = .ok (.aload_n 0, 1) := by decide +kernel
theorem d_X5_cache_74 : decode mX5_cache.2.2.1 74 = .ok (.bipush 59, 2) := by decide +kernel
theorem d_X5_cache_76 : decode mX5_cache.2.2.1 76 = .ok (.invokevirtual 81, 3) := by decide +kernel
theorem d_X5_cache_79 : decode mX5_cache.2.2.1 79 = .ok (.ifCond .eq 7, 3) := by decide +kernel
theorem d_X5_cache_82 : decode mX5_cache.2.2.1 82 = .ok (.iconst 1, 1) := by decide +kernel
theorem d_X5_cache_83 : decode mX5_cache.2.2.1 83 = .ok (.goto 4, 3) := by decide +kernel
def mX5_heart : MD := (5, yX5_heart, cX5_heart, 2, some .boolean)
theorem d_X5_heart_0 : decode mX5_heart.2.2.1 0 = .ok (.aload_n 0, 1) := by decide +kernel
theorem d_X5_heart_1 : decode mX5_heart.2.2.1 1 = .ok (.invokevirtual 74, 3) := by decide +kernel
theorem d_X5_heart_4 : decode mX5_heart.2.2.1 4 = .ok (.pop, 1) := by decide +kernel
theorem d_X5_heart_5 : decode mX5_heart.2.2.1 5 = .ok (.aload_n 0, 1) := by decide +kernel
theorem d_X5_heart_6 : decode mX5_heart.2.2.1 6 = .ok (.iconst 0, 1) := by decide +kernel
theorem d_X5_heart_7 : decode mX5_heart.2.2.1 7 = .ok (.sipush 999, 3) := by decide +kernel
theorem d_X5_heart_10 : decode mX5_heart.2.2.1 10 = .ok (.invokevirtual 87, 3) := by decide +kernel
theorem d_X5_heart_13 : decode mX5_heart.2.2.1 13 = .ok (.istore_n 1, 1) := by decide +kernel
theorem d_X5_heart_14 : decode mX5_heart.2.2.1 14 = .ok (.aload_n 0, 1) := by decide +kernel
theorem d_X5_heart_15 : decode mX5_heart.2.2.1 15 = .ok (.getfield 22, 3) := by decide +kernel
theorem d_X5_heart_18 : decode mX5_heart.2.2.1 18 = .ok (.iload_n 1, 1) := by decide +kernel
theorem d_X5_heart_19 : decode mX5_heart.2.2.1 19 = .ok (.putfield 115, 3) := by decide +kernel
theorem f_5_115 : e_fld 5 115 3 0 12 0 false := ⟨RX3, TX3, 0, rfl, rfl, by decide, rfl, rfl, rfl, iX3, tblG_in (inT1 (List.mem_of_getElem? (i := 162) rfl)) rfl, tyX3_ok, nmX3⟩
theorem d_X5_heart_22 : decode mX5_heart.2.2.1 22 = .ok (.iload_n 1, 1) := by decide +kernel
theorem d_X5_heart_23 : decode mX5_heart.2.2.1 23 = .ok (.ifCond .lt 16, 3) := by decide +kernel
theorem d_X5_heart_39 : decode mX5_heart.2.2.1 39 = .ok (.iconst 0, 1) := by decide +kernel
theorem d_X5_heart_40 : decode mX5_heart.2.2.1 40 = .ok (.ireturn, 1) := by decide +kernel
theorem d_X5_heart_26 : decode mX5_heart.2.2.1 26 = .ok (.aload_n 0, 1) := by decide +kernel
theorem d_X5_heart_27 : decode mX5_heart.2.2.1 27 = .ok (.bipush 59, 2) := by decide +kernel
theorem d_X5_heart_29 : decode mX5_heart.2.2.1 29 = .ok (.invokevirtual 81, 3) := by decide +kernel
theorem d_X5_heart_32 : decode mX5_heart.2.2.1 32 = .ok (.ifCond .eq 7, 3) := by decide +kernel
theorem d_X5_heart_35 : decode mX5_heart.2.2.1 35 = .ok (.iconst 1, 1) := by decide +kernel
theorem d_X5_heart_36 : decode mX5_heart.2.2.1 36 = .ok (.goto 4, 3) := by decide +kernel
def mX5_isOrder : MD := (5, yX5_isOrder, cX5_isOrder, 2, some .boolean)
theorem d_X5_isOrder_0 : decode mX5_isOrder.2.2.1 0 = .ok (.aload_n 0, 1) := by decide +kernel
theorem d_X5_isOrder_1 : decode mX5_isOrder.2.2.1 1 = .ok (.getfield 18, 3) := by decide +kernel
theorem d_X5_isOrder_4 : decode mX5_isOrder.2.2.1 4 = .ok (.getfield 68, 3) := by decide +kernel
theorem d_X5_isOrder_7 : decode mX5_isOrder.2.2.1 7 = .ok (.aload_n 0, 1) := by decide +kernel
theorem d_X5_isOrder_8 : decode mX5_isOrder.2.2.1 8 = .ok (.getfield 36, 3) := by decide +kernel
theorem d_X5_isOrder_11 : decode mX5_isOrder.2.2.1 11 = .ok (.iaload, 1) := by decide +kernel
theorem d_X5_isOrder_12 : decode mX5_isOrder.2.2.1 12 = .ok (.istore_n 1, 1) := by decide +kernel
theorem d_X5_isOrder_13 : decode mX5_isOrder.2.2.1 13 = .ok (.aload_n 0, 1) := by decide +kernel
theorem d_X5_isOrder_14 : decode mX5_isOrder.2.2.1 14 = .ok (.getfield 18, 3) := by decide +kernel
theorem d_X5_isOrder_17 : decode mX5_isOrder.2.2.1 17 = .ok (.getfield 50, 3) := by decide +kernel
theorem d_X5_isOrder_20 : decode mX5_isOrder.2.2.1 20 = .ok (.aload_n 0, 1) := by decide +kernel
theorem d_X5_isOrder_21 : decode mX5_isOrder.2.2.1 21 = .ok (.getfield 36, 3) := by decide +kernel
theorem d_X5_isOrder_24 : decode mX5_isOrder.2.2.1 24 = .ok (.iaload, 1) := by decide +kernel
theorem d_X5_isOrder_25 : decode mX5_isOrder.2.2.1 25 = .ok (.iconst 2, 1) := by decide +kernel
end
/-! 25.18 -/
section
theorem d_X5_isOrder_26 : decode mX5_isOrder.2.2.1 26 = .ok (.if_icmp .ne 18, 3) := by decide +kernel
theorem d_X5_isOrder_44 : decode mX5_isOrder.2.2.1 44 = .ok (.iconst 0, 1) := by decide +kernel
theorem d_X5_isOrder_45 : decode mX5_isOrder.2.2.1 45 = .ok (.ireturn, 1) := by decide +kernel
theorem d_X5_isOrder_29 : decode mX5_isOrder.2.2.1 29 = .ok (.iload_n 1, 1) := by decide +kernel
theorem d_X5_isOrder_30 : decode mX5_isOrder.2.2.1 30 = .ok (.iconst 5, 1) := by decide +kernel
theorem d_X5_isOrder_31 : decode mX5_isOrder.2.2.1 31 = .ok (.if_icmp .lt 13, 3) := by decide +kernel
theorem d_X5_isOrder_34 : decode mX5_isOrder.2.2.1 34 = .ok (.iload_n 1, 1) := by decide +kernel
theorem d_X5_isOrder_35 : decode mX5_isOrder.2.2.1 35 = .ok (.bipush 12, 2) := by decide +kernel
theorem d_X5_isOrder_37 : decode mX5_isOrder.2.2.1 37 = .ok (.if_icmp .gt 7, 3) := by decide +kernel
theorem d_X5_isOrder_40 : decode mX5_isOrder.2.2.1 40 = .ok (.iconst 1, 1) := by decide +kernel
theorem d_X5_isOrder_41 : decode mX5_isOrder.2.2.1 41 = .ok (.goto 4, 3) := by decide +kernel
def mX4_open : MD := (4, yX4_open, cX4_open, 4, some .int)
theorem d_X4_open_0 : decode mX4_open.2.2.1 0 = .ok (.aload_n 0, 1) := by decide +kernel
theorem d_X4_open_1 : decode mX4_open.2.2.1 1 = .ok (.getfield 45, 3) := by decide +kernel
theorem d_X4_open_4 : decode mX4_open.2.2.1 4 = .ok (.istore_n 3, 1) := by decide +kernel
theorem d_X4_open_5 : decode mX4_open.2.2.1 5 = .ok (.aload_n 0, 1) := by decide +kernel
theorem d_X4_open_6 : decode mX4_open.2.2.1 6 = .ok (.getfield 9, 3) := by decide +kernel
theorem d_X4_open_9 : decode mX4_open.2.2.1 9 = .ok (.iload_n 3, 1) := by decide +kernel
theorem d_X4_open_10 : decode mX4_open.2.2.1 10 = .ok (.iload_n 1, 1) := by decide +kernel
theorem d_X4_open_11 : decode mX4_open.2.2.1 11 = .ok (.iastore, 1) := by decide +kernel
theorem d_X4_open_12 : decode mX4_open.2.2.1 12 = .ok (.aload_n 0, 1) := by decide +kernel
theorem d_X4_open_13 : decode mX4_open.2.2.1 13 = .ok (.getfield 15, 3) := by decide +kernel
theorem d_X4_open_16 : decode mX4_open.2.2.1 16 = .ok (.iload_n 3, 1) := by decide +kernel
theorem d_X4_open_17 : decode mX4_open.2.2.1 17 = .ok (.iconst 0, 1) := by decide +kernel
theorem d_X4_open_18 : decode mX4_open.2.2.1 18 = .ok (.iastore, 1) := by decide +kernel
theorem d_X4_open_19 : decode mX4_open.2.2.1 19 = .ok (.aload_n 0, 1) := by decide +kernel
theorem d_X4_open_20 : decode mX4_open.2.2.1 20 = .ok (.getfield 18, 3) := by decide +kernel
theorem d_X4_open_23 : decode mX4_open.2.2.1 23 = .ok (.iload_n 3, 1) := by decide +kernel
theorem d_X4_open_24 : decode mX4_open.2.2.1 24 = .ok (.aload_n 0, 1) := by decide +kernel
theorem d_X4_open_25 : decode mX4_open.2.2.1 25 = .ok (.getfield 49, 3) := by decide +kernel
theorem d_X4_open_28 : decode mX4_open.2.2.1 28 = .ok (.iastore, 1) := by decide +kernel
theorem d_X4_open_29 : decode mX4_open.2.2.1 29 = .ok (.aload_n 0, 1) := by decide +kernel
theorem d_X4_open_30 : decode mX4_open.2.2.1 30 = .ok (.getfield 21, 3) := by decide +kernel
theorem d_X4_open_33 : decode mX4_open.2.2.1 33 = .ok (.iload_n 3, 1) := by decide +kernel
theorem d_X4_open_34 : decode mX4_open.2.2.1 34 = .ok (.iconst (-1), 1) := by decide +kernel
theorem d_X4_open_35 : decode mX4_open.2.2.1 35 = .ok (.iastore, 1) := by decide +kernel
theorem d_X4_open_36 : decode mX4_open.2.2.1 36 = .ok (.aload_n 0, 1) := by decide +kernel
theorem d_X4_open_37 : decode mX4_open.2.2.1 37 = .ok (.getfield 24, 3) := by decide +kernel
theorem d_X4_open_40 : decode mX4_open.2.2.1 40 = .ok (.iload_n 3, 1) := by decide +kernel
theorem d_X4_open_41 : decode mX4_open.2.2.1 41 = .ok (.iconst (-1), 1) := by decide +kernel
theorem d_X4_open_42 : decode mX4_open.2.2.1 42 = .ok (.iastore, 1) := by decide +kernel
theorem d_X4_open_43 : decode mX4_open.2.2.1 43 = .ok (.aload_n 0, 1) := by decide +kernel
theorem d_X4_open_44 : decode mX4_open.2.2.1 44 = .ok (.getfield 27, 3) := by decide +kernel
theorem d_X4_open_47 : decode mX4_open.2.2.1 47 = .ok (.iload_n 3, 1) := by decide +kernel
theorem d_X4_open_48 : decode mX4_open.2.2.1 48 = .ok (.iconst (-1), 1) := by decide +kernel
theorem d_X4_open_49 : decode mX4_open.2.2.1 49 = .ok (.iastore, 1) := by decide +kernel
theorem d_X4_open_50 : decode mX4_open.2.2.1 50 = .ok (.aload_n 0, 1) := by decide +kernel
theorem d_X4_open_51 : decode mX4_open.2.2.1 51 = .ok (.getfield 30, 3) := by decide +kernel
theorem d_X4_open_54 : decode mX4_open.2.2.1 54 = .ok (.iload_n 3, 1) := by decide +kernel
theorem d_X4_open_55 : decode mX4_open.2.2.1 55 = .ok (.iload_n 2, 1) := by decide +kernel
theorem d_X4_open_56 : decode mX4_open.2.2.1 56 = .ok (.iastore, 1) := by decide +kernel
theorem d_X4_open_57 : decode mX4_open.2.2.1 57 = .ok (.aload_n 0, 1) := by decide +kernel
theorem d_X4_open_58 : decode mX4_open.2.2.1 58 = .ok (.dup, 1) := by decide +kernel
theorem d_X4_open_59 : decode mX4_open.2.2.1 59 = .ok (.getfield 45, 3) := by decide +kernel
theorem d_X4_open_62 : decode mX4_open.2.2.1 62 = .ok (.iconst 1, 1) := by decide +kernel
theorem d_X4_open_63 : decode mX4_open.2.2.1 63 = .ok (.iadd, 1) := by decide +kernel
theorem d_X4_open_64 : decode mX4_open.2.2.1 64 = .ok (.putfield 45, 3) := by decide +kernel
theorem d_X4_open_67 : decode mX4_open.2.2.1 67 = .ok (.iload_n 3, 1) := by decide +kernel
theorem d_X4_open_68 : decode mX4_open.2.2.1 68 = .ok (.ireturn, 1) := by decide +kernel
def mX4_emit : MD := (4, yX4_emit, cX4_emit, 3, none)
theorem sel_X4_emit : Cond.instanceMethod mX4_emit.2.1 ∈ tblG ∧ Cond.selects mX4_emit.2.1.cls mX4_emit.2.1 mX4_emit.2.1 ∈ tblG := ⟨tblG_in (inT4 (List.mem_of_getElem? (i := 136) rfl)) rfl, tblG_in (inT4 (List.mem_of_getElem? (i := 137) rfl)) rfl⟩
theorem s_5_215 : e_siteV 5 215 mX4_emit 4 := ⟨tblG_in (inT4 (List.mem_of_getElem? (i := 135) rfl)) rfl, sel_X4_emit.1, sel_X4_emit.2, rfl⟩
theorem d_X4_emit_0 : decode mX4_emit.2.2.1 0 = .ok (.aload_n 0, 1) := by decide +kernel
theorem d_X4_emit_1 : decode mX4_emit.2.2.1 1 = .ok (.getfield 49, 3) := by decide +kernel
theorem d_X4_emit_4 : decode mX4_emit.2.2.1 4 = .ok (.sipush 900, 3) := by decide +kernel
theorem d_X4_emit_7 : decode mX4_emit.2.2.1 7 = .ok (.if_icmp .ge 33, 3) := by decide +kernel
theorem d_X4_emit_10 : decode mX4_emit.2.2.1 10 = .ok (.aload_n 0, 1) := by decide +kernel
theorem d_X4_emit_11 : decode mX4_emit.2.2.1 11 = .ok (.getfield 36, 3) := by decide +kernel
theorem d_X4_emit_14 : decode mX4_emit.2.2.1 14 = .ok (.aload_n 0, 1) := by decide +kernel
theorem d_X4_emit_15 : decode mX4_emit.2.2.1 15 = .ok (.getfield 49, 3) := by decide +kernel
theorem d_X4_emit_18 : decode mX4_emit.2.2.1 18 = .ok (.iload_n 1, 1) := by decide +kernel
theorem d_X4_emit_19 : decode mX4_emit.2.2.1 19 = .ok (.iastore, 1) := by decide +kernel
theorem d_X4_emit_20 : decode mX4_emit.2.2.1 20 = .ok (.aload_n 0, 1) := by decide +kernel
theorem d_X4_emit_21 : decode mX4_emit.2.2.1 21 = .ok (.getfield 39, 3) := by decide +kernel
theorem d_X4_emit_24 : decode mX4_emit.2.2.1 24 = .ok (.aload_n 0, 1) := by decide +kernel
theorem d_X4_emit_25 : decode mX4_emit.2.2.1 25 = .ok (.getfield 49, 3) := by decide +kernel
theorem d_X4_emit_28 : decode mX4_emit.2.2.1 28 = .ok (.iload_n 2, 1) := by decide +kernel
theorem d_X4_emit_29 : decode mX4_emit.2.2.1 29 = .ok (.iastore, 1) := by decide +kernel
theorem d_X4_emit_30 : decode mX4_emit.2.2.1 30 = .ok (.aload_n 0, 1) := by decide +kernel
theorem d_X4_emit_31 : decode mX4_emit.2.2.1 31 = .ok (.dup, 1) := by decide +kernel
theorem d_X4_emit_32 : decode mX4_emit.2.2.1 32 = .ok (.getfield 49, 3) := by decide +kernel
theorem d_X4_emit_35 : decode mX4_emit.2.2.1 35 = .ok (.iconst 1, 1) := by decide +kernel
theorem d_X4_emit_36 : decode mX4_emit.2.2.1 36 = .ok (.iadd, 1) := by decide +kernel
theorem d_X4_emit_37 : decode mX4_emit.2.2.1 37 = .ok (.putfield 49, 3) := by decide +kernel
theorem d_X4_emit_40 : decode mX4_emit.2.2.1 40 = .ok (.return_, 1) := by decide +kernel
theorem ok_X4_emit : e_m mX4_emit 2 := ⟨tblG_in (inT4 (List.mem_of_getElem? (i := 138) rfl)) rfl, plainFor_of_name (by decide), rfl, ini_4, by decide +kernel, by decide⟩
def mX5_takeOpening : MD := (5, yX5_takeOpening, cX5_takeOpening, 2, some .boolean)
theorem sel_X5_takeOpening : Cond.instanceMethod mX5_takeOpening.2.1 ∈ tblG ∧ Cond.selects mX5_takeOpening.2.1.cls mX5_takeOpening.2.1 mX5_takeOpening.2.1 ∈ tblG := ⟨tblG_in (inT4 (List.mem_of_getElem? (i := 145) rfl)) rfl, tblG_in (inP3 (q := (mX5_takeOpening.2.1, 7)) (List.mem_of_getElem? (i := 0) rfl)) rfl⟩
theorem s_5_206 : e_siteV 5 206 mX5_takeOpening 5 := ⟨tblG_in (inT4 (List.mem_of_getElem? (i := 143) rfl)) rfl, sel_X5_takeOpening.1, sel_X5_takeOpening.2, rfl⟩
theorem d_X5_takeOpening_0 : decode mX5_takeOpening.2.2.1 0 = .ok (.aload_n 0, 1) := by decide +kernel
theorem d_X5_takeOpening_1 : decode mX5_takeOpening.2.2.1 1 = .ok (.iload_n 1, 1) := by decide +kernel
theorem d_X5_takeOpening_2 : decode mX5_takeOpening.2.2.1 2 = .ok (.invokevirtual 77, 3) := by decide +kernel
theorem d_X5_takeOpening_5 : decode mX5_takeOpening.2.2.1 5 = .ok (.ifCond .ne 9, 3) := by decide +kernel
theorem d_X5_takeOpening_14 : decode mX5_takeOpening.2.2.1 14 = .ok (.aload_n 0, 1) := by decide +kernel
theorem d_X5_takeOpening_15 : decode mX5_takeOpening.2.2.1 15 = .ok (.getfield 39, 3) := by decide +kernel
theorem d_X5_takeOpening_18 : decode mX5_takeOpening.2.2.1 18 = .ok (.bipush 8, 2) := by decide +kernel
theorem d_X5_takeOpening_20 : decode mX5_takeOpening.2.2.1 20 = .ok (.if_icmp .ne 9, 3) := by decide +kernel
theorem d_X5_takeOpening_29 : decode mX5_takeOpening.2.2.1 29 = .ok (.aload_n 0, 1) := by decide +kernel
theorem d_X5_takeOpening_30 : decode mX5_takeOpening.2.2.1 30 = .ok (.dup, 1) := by decide +kernel
theorem d_X5_takeOpening_31 : decode mX5_takeOpening.2.2.1 31 = .ok (.getfield 39, 3) := by decide +kernel
theorem d_X5_takeOpening_34 : decode mX5_takeOpening.2.2.1 34 = .ok (.iconst 1, 1) := by decide +kernel
theorem d_X5_takeOpening_35 : decode mX5_takeOpening.2.2.1 35 = .ok (.iadd, 1) := by decide +kernel
theorem d_X5_takeOpening_36 : decode mX5_takeOpening.2.2.1 36 = .ok (.putfield 39, 3) := by decide +kernel
theorem d_X5_takeOpening_39 : decode mX5_takeOpening.2.2.1 39 = .ok (.aload_n 0, 1) := by decide +kernel
theorem d_X5_takeOpening_40 : decode mX5_takeOpening.2.2.1 40 = .ok (.invokevirtual 74, 3) := by decide +kernel
theorem d_X5_takeOpening_43 : decode mX5_takeOpening.2.2.1 43 = .ok (.ireturn, 1) := by decide +kernel
theorem d_X5_takeOpening_8 : decode mX5_takeOpening.2.2.1 8 = .ok (.aload_n 0, 1) := by decide +kernel
theorem d_X5_takeOpening_9 : decode mX5_takeOpening.2.2.1 9 = .ok (.iconst 1, 1) := by decide +kernel
theorem d_X5_takeOpening_10 : decode mX5_takeOpening.2.2.1 10 = .ok (.invokevirtual 56, 3) := by decide +kernel
theorem d_X5_takeOpening_13 : decode mX5_takeOpening.2.2.1 13 = .ok (.ireturn, 1) := by decide +kernel
theorem ok_X5_takeOpening : e_m mX5_takeOpening 1 := ⟨tblG_in (inT4 (List.mem_of_getElem? (i := 146) rfl)) rfl, plainFor_of_name (by decide), rfl, ini_5, by decide +kernel, by decide⟩
theorem d_X5_takeOpening_23 : decode mX5_takeOpening.2.2.1 23 = .ok (.aload_n 0, 1) := by decide +kernel
theorem d_X5_takeOpening_24 : decode mX5_takeOpening.2.2.1 24 = .ok (.iconst 5, 1) := by decide +kernel
theorem d_X5_takeOpening_25 : decode mX5_takeOpening.2.2.1 25 = .ok (.invokevirtual 56, 3) := by decide +kernel
theorem d_X5_takeOpening_28 : decode mX5_takeOpening.2.2.1 28 = .ok (.ireturn, 1) := by decide +kernel
def mX5_choice : MD := (5, yX5_choice, cX5_choice, 3, some .boolean)
theorem d_X5_choice_0 : decode mX5_choice.2.2.1 0 = .ok (.aload_n 0, 1) := by decide +kernel
theorem d_X5_choice_1 : decode mX5_choice.2.2.1 1 = .ok (.invokevirtual 74, 3) := by decide +kernel
theorem d_X5_choice_4 : decode mX5_choice.2.2.1 4 = .ok (.pop, 1) := by decide +kernel
theorem d_X5_choice_5 : decode mX5_choice.2.2.1 5 = .ok (.aload_n 0, 1) := by decide +kernel
theorem d_X5_choice_6 : decode mX5_choice.2.2.1 6 = .ok (.bipush 40, 2) := by decide +kernel
theorem d_X5_choice_8 : decode mX5_choice.2.2.1 8 = .ok (.invokevirtual 206, 3) := by decide +kernel
theorem d_X5_choice_11 : decode mX5_choice.2.2.1 11 = .ok (.ifCond .eq 39, 3) := by decide +kernel
theorem d_X5_choice_50 : decode mX5_choice.2.2.1 50 = .ok (.iconst 0, 1) := by decide +kernel
theorem d_X5_choice_51 : decode mX5_choice.2.2.1 51 = .ok (.istore_n 2, 1) := by decide +kernel
theorem d_X5_choice_52 : decode mX5_choice.2.2.1 52 = .ok (.aload_n 0, 1) := by decide +kernel
theorem d_X5_choice_53 : decode mX5_choice.2.2.1 53 = .ok (.getfield 32, 3) := by decide +kernel
theorem d_X5_choice_56 : decode mX5_choice.2.2.1 56 = .ok (.iload_n 1, 1) := by decide +kernel
theorem d_X5_choice_57 : decode mX5_choice.2.2.1 57 = .ok (.iconst 0, 1) := by decide +kernel
theorem d_X5_choice_58 : decode mX5_choice.2.2.1 58 = .ok (.invokevirtual 215, 3) := by decide +kernel
theorem d_X5_choice_61 : decode mX5_choice.2.2.1 61 = .ok (.iload_n 2, 1) := by decide +kernel
theorem d_X5_choice_62 : decode mX5_choice.2.2.1 62 = .ok (.ireturn, 1) := by decide +kernel
def mX5_takeClosing : MD := (5, yX5_takeClosing, cX5_takeClosing, 2, some .boolean)
theorem d_X5_takeClosing_0 : decode mX5_takeClosing.2.2.1 0 = .ok (.aload_n 0, 1) := by decide +kernel
theorem d_X5_takeClosing_1 : decode mX5_takeClosing.2.2.1 1 = .ok (.iload_n 1, 1) := by decide +kernel
theorem d_X5_takeClosing_2 : decode mX5_takeClosing.2.2.1 2 = .ok (.invokevirtual 81, 3) := by decide +kernel
theorem d_X5_takeClosing_5 : decode mX5_takeClosing.2.2.1 5 = .ok (.ifCond .ne 5, 3) := by decide +kernel
theorem d_X5_takeClosing_10 : decode mX5_takeClosing.2.2.1 10 = .ok (.aload_n 0, 1) := by decide +kernel
theorem d_X5_takeClosing_11 : decode mX5_takeClosing.2.2.1 11 = .ok (.dup, 1) := by decide +kernel
theorem d_X5_takeClosing_12 : decode mX5_takeClosing.2.2.1 12 = .ok (.getfield 39, 3) := by decide +kernel
theorem d_X5_takeClosing_15 : decode mX5_takeClosing.2.2.1 15 = .ok (.iconst 1, 1) := by decide +kernel
theorem d_X5_takeClosing_16 : decode mX5_takeClosing.2.2.1 16 = .ok (.isub, 1) := by decide +kernel
theorem d_X5_takeClosing_17 : decode mX5_takeClosing.2.2.1 17 = .ok (.putfield 39, 3) := by decide +kernel
theorem d_X5_takeClosing_20 : decode mX5_takeClosing.2.2.1 20 = .ok (.iconst 1, 1) := by decide +kernel
theorem d_X5_takeClosing_21 : decode mX5_takeClosing.2.2.1 21 = .ok (.ireturn, 1) := by decide +kernel
theorem d_X5_takeClosing_8 : decode mX5_takeClosing.2.2.1 8 = .ok (.iconst 0, 1) := by decide +kernel
theorem d_X5_takeClosing_9 : decode mX5_takeClosing.2.2.1 9 = .ok (.ireturn, 1) := by decide +kernel
def mX5_yesBlock : MD := (5, yX5_yesBlock, cX5_yesBlock, 3, some .boolean)
theorem d_X5_yesBlock_0 : decode mX5_yesBlock.2.2.1 0 = .ok (.aload_n 0, 1) := by decide +kernel
theorem d_X5_yesBlock_1 : decode mX5_yesBlock.2.2.1 1 = .ok (.iload_n 1, 1) := by decide +kernel
theorem d_X5_yesBlock_2 : decode mX5_yesBlock.2.2.1 2 = .ok (.invokevirtual 197, 3) := by decide +kernel
def mX5_block : MD := (5, yX5_block, cX5_block, 3, some .int)
theorem sel_X5_block : Cond.instanceMethod mX5_block.2.1 ∈ tblG ∧ Cond.selects mX5_block.2.1.cls mX5_block.2.1 mX5_block.2.1 ∈ tblG := ⟨tblG_in (inT4 (List.mem_of_getElem? (i := 177) rfl)) rfl, tblG_in (inP3 (q := (mX5_block.2.1, 7)) (List.mem_of_getElem? (i := 8) rfl)) rfl⟩
theorem s_5_197 : e_siteV 5 197 mX5_block 5 := ⟨tblG_in (inT4 (List.mem_of_getElem? (i := 175) rfl)) rfl, sel_X5_block.1, sel_X5_block.2, rfl⟩
theorem d_X5_block_0 : decode mX5_block.2.2.1 0 = .ok (.aload_n 0, 1) := by decide +kernel
theorem d_X5_block_1 : decode mX5_block.2.2.1 1 = .ok (.bipush 123, 2) := by decide +kernel
theorem d_X5_block_3 : decode mX5_block.2.2.1 3 = .ok (.invokevirtual 206, 3) := by decide +kernel
theorem d_X5_block_6 : decode mX5_block.2.2.1 6 = .ok (.ifCond .ne 6, 3) := by decide +kernel
theorem d_X5_block_9 : decode mX5_block.2.2.1 9 = .ok (.bipush (-2), 2) := by decide +kernel
theorem d_X5_block_11 : decode mX5_block.2.2.1 11 = .ok (.ireturn, 1) := by decide +kernel
theorem ok_X5_block : e_m mX5_block 1 := ⟨tblG_in (inT4 (List.mem_of_getElem? (i := 178) rfl)) rfl, plainFor_of_name (by decide), rfl, ini_5, by decide +kernel, by decide⟩
theorem d_X5_yesBlock_5 : decode mX5_yesBlock.2.2.1 5 = .ok (.istore_n 2, 1) := by decide +kernel
theorem d_X5_yesBlock_6 : decode mX5_yesBlock.2.2.1 6 = .ok (.aload_n 0, 1) := by decide +kernel
theorem d_X5_yesBlock_7 : decode mX5_yesBlock.2.2.1 7 = .ok (.getfield 32, 3) := by decide +kernel
theorem d_X5_yesBlock_10 : decode mX5_yesBlock.2.2.1 10 = .ok (.getfield 200, 3) := by decide +kernel
theorem f_5_200 : e_fld 5 200 4 4 13 2 true := ⟨RX4, TX4, 4, rfl, rfl, by decide, rfl, rfl, rfl, iX4, tblG_in (inT1 (List.mem_of_getElem? (i := 118) rfl)) rfl, tyX4_ok, nmX4⟩
theorem d_X5_yesBlock_13 : decode mX5_yesBlock.2.2.1 13 = .ok (.iload_n 1, 1) := by decide +kernel
theorem d_X5_yesBlock_14 : decode mX5_yesBlock.2.2.1 14 = .ok (.iload_n 2, 1) := by decide +kernel
theorem d_X5_yesBlock_15 : decode mX5_yesBlock.2.2.1 15 = .ok (.iastore, 1) := by decide +kernel
theorem d_X5_yesBlock_16 : decode mX5_yesBlock.2.2.1 16 = .ok (.iload_n 2, 1) := by decide +kernel
theorem d_X5_yesBlock_17 : decode mX5_yesBlock.2.2.1 17 = .ok (.bipush (-2), 2) := by decide +kernel
theorem d_X5_yesBlock_19 : decode mX5_yesBlock.2.2.1 19 = .ok (.if_icmp .eq 7, 3) := by decide +kernel
theorem d_X5_yesBlock_26 : decode mX5_yesBlock.2.2.1 26 = .ok (.iconst 0, 1) := by decide +kernel
theorem d_X5_yesBlock_27 : decode mX5_yesBlock.2.2.1 27 = .ok (.ireturn, 1) := by decide +kernel
def mX4_link : MD := (4, yX4_link, cX4_link, 3, none)
theorem d_X4_link_0 : decode mX4_link.2.2.1 0 = .ok (.aload_n 0, 1) := by decide +kernel
theorem d_X4_link_1 : decode mX4_link.2.2.1 1 = .ok (.getfield 18, 3) := by decide +kernel
theorem d_X4_link_4 : decode mX4_link.2.2.1 4 = .ok (.aload_n 0, 1) := by decide +kernel
theorem d_X4_link_5 : decode mX4_link.2.2.1 5 = .ok (.getfield 45, 3) := by decide +kernel
theorem d_X4_link_8 : decode mX4_link.2.2.1 8 = .ok (.aload_n 0, 1) := by decide +kernel
theorem d_X4_link_9 : decode mX4_link.2.2.1 9 = .ok (.getfield 49, 3) := by decide +kernel
theorem d_X4_link_12 : decode mX4_link.2.2.1 12 = .ok (.iastore, 1) := by decide +kernel
theorem d_X4_link_13 : decode mX4_link.2.2.1 13 = .ok (.iconst 0, 1) := by decide +kernel
theorem d_X4_link_14 : decode mX4_link.2.2.1 14 = .ok (.istore_n 1, 1) := by decide +kernel
theorem d_X4_link_15 : decode mX4_link.2.2.1 15 = .ok (.iload_n 1, 1) := by decide +kernel
theorem d_X4_link_16 : decode mX4_link.2.2.1 16 = .ok (.aload_n 0, 1) := by decide +kernel
theorem d_X4_link_17 : decode mX4_link.2.2.1 17 = .ok (.getfield 45, 3) := by decide +kernel
theorem d_X4_link_20 : decode mX4_link.2.2.1 20 = .ok (.if_icmp .ge 87, 3) := by decide +kernel
theorem d_X4_link_107 : decode mX4_link.2.2.1 107 = .ok (.return_, 1) := by decide +kernel
theorem d_X4_link_23 : decode mX4_link.2.2.1 23 = .ok (.aload_n 0, 1) := by decide +kernel
theorem d_X4_link_24 : decode mX4_link.2.2.1 24 = .ok (.getfield 33, 3) := by decide +kernel
theorem d_X4_link_27 : decode mX4_link.2.2.1 27 = .ok (.iload_n 1, 1) := by decide +kernel
theorem d_X4_link_28 : decode mX4_link.2.2.1 28 = .ok (.aload_n 0, 1) := by decide +kernel
theorem d_X4_link_29 : decode mX4_link.2.2.1 29 = .ok (.iload_n 1, 1) := by decide +kernel
theorem d_X4_link_30 : decode mX4_link.2.2.1 30 = .ok (.invokevirtual 52, 3) := by decide +kernel
def mX4_behind : MD := (4, yX4_behind, cX4_behind, 3, some .int)
theorem sel_X4_behind : Cond.instanceMethod mX4_behind.2.1 ∈ tblG ∧ Cond.selects mX4_behind.2.1.cls mX4_behind.2.1 mX4_behind.2.1 ∈ tblG := ⟨tblG_in (inT4 (List.mem_of_getElem? (i := 189) rfl)) rfl, tblG_in (inP3 (q := (mX4_behind.2.1, 13)) (List.mem_of_getElem? (i := 10) rfl)) rfl⟩
theorem s_4_52 : e_siteV 4 52 mX4_behind 4 := ⟨tblG_in (inT4 (List.mem_of_getElem? (i := 187) rfl)) rfl, sel_X4_behind.1, sel_X4_behind.2, rfl⟩
theorem d_X4_behind_0 : decode mX4_behind.2.2.1 0 = .ok (.aload_n 0, 1) := by decide +kernel
theorem d_X4_behind_1 : decode mX4_behind.2.2.1 1 = .ok (.getfield 27, 3) := by decide +kernel
theorem d_X4_behind_4 : decode mX4_behind.2.2.1 4 = .ok (.iload_n 1, 1) := by decide +kernel
theorem d_X4_behind_5 : decode mX4_behind.2.2.1 5 = .ok (.iaload, 1) := by decide +kernel
theorem d_X4_behind_6 : decode mX4_behind.2.2.1 6 = .ok (.ifCond .lt 10, 3) := by decide +kernel
theorem d_X4_behind_16 : decode mX4_behind.2.2.1 16 = .ok (.aload_n 0, 1) := by decide +kernel
theorem d_X4_behind_17 : decode mX4_behind.2.2.1 17 = .ok (.getfield 30, 3) := by decide +kernel
theorem d_X4_behind_20 : decode mX4_behind.2.2.1 20 = .ok (.iload_n 1, 1) := by decide +kernel
theorem d_X4_behind_21 : decode mX4_behind.2.2.1 21 = .ok (.iaload, 1) := by decide +kernel
theorem d_X4_behind_22 : decode mX4_behind.2.2.1 22 = .ok (.istore_n 2, 1) := by decide +kernel
theorem d_X4_behind_23 : decode mX4_behind.2.2.1 23 = .ok (.iload_n 2, 1) := by decide +kernel
theorem d_X4_behind_24 : decode mX4_behind.2.2.1 24 = .ok (.ifCond .ge 8, 3) := by decide +kernel
theorem d_X4_behind_32 : decode mX4_behind.2.2.1 32 = .ok (.aload_n 0, 1) := by decide +kernel
theorem d_X4_behind_33 : decode mX4_behind.2.2.1 33 = .ok (.getfield 9, 3) := by decide +kernel
theorem d_X4_behind_36 : decode mX4_behind.2.2.1 36 = .ok (.iload_n 2, 1) := by decide +kernel
theorem d_X4_behind_37 : decode mX4_behind.2.2.1 37 = .ok (.iaload, 1) := by decide +kernel
theorem d_X4_behind_38 : decode mX4_behind.2.2.1 38 = .ok (.bipush 12, 2) := by decide +kernel
theorem d_X4_behind_40 : decode mX4_behind.2.2.1 40 = .ok (.if_icmp .ne 7, 3) := by decide +kernel
theorem d_X4_behind_47 : decode mX4_behind.2.2.1 47 = .ok (.aload_n 0, 1) := by decide +kernel
theorem d_X4_behind_48 : decode mX4_behind.2.2.1 48 = .ok (.getfield 33, 3) := by decide +kernel
theorem d_X4_behind_51 : decode mX4_behind.2.2.1 51 = .ok (.iload_n 2, 1) := by decide +kernel
theorem d_X4_behind_52 : decode mX4_behind.2.2.1 52 = .ok (.iaload, 1) := by decide +kernel
theorem d_X4_behind_53 : decode mX4_behind.2.2.1 53 = .ok (.ireturn, 1) := by decide +kernel
theorem d_X4_behind_43 : decode mX4_behind.2.2.1 43 = .ok (.iload_n 2, 1) := by decide +kernel
theorem d_X4_behind_44 : decode mX4_behind.2.2.1 44 = .ok (.goto 9, 3) := by decide +kernel
theorem d_X4_behind_27 : decode mX4_behind.2.2.1 27 = .ok (.aload_n 0, 1) := by decide +kernel
theorem d_X4_behind_28 : decode mX4_behind.2.2.1 28 = .ok (.getfield 45, 3) := by decide +kernel
theorem d_X4_behind_31 : decode mX4_behind.2.2.1 31 = .ok (.ireturn, 1) := by decide +kernel
theorem d_X4_behind_9 : decode mX4_behind.2.2.1 9 = .ok (.aload_n 0, 1) := by decide +kernel
theorem d_X4_behind_10 : decode mX4_behind.2.2.1 10 = .ok (.getfield 27, 3) := by decide +kernel
theorem d_X4_behind_13 : decode mX4_behind.2.2.1 13 = .ok (.iload_n 1, 1) := by decide +kernel
theorem d_X4_behind_14 : decode mX4_behind.2.2.1 14 = .ok (.iaload, 1) := by decide +kernel
end
/-! 25.19 -/
section
theorem d_X4_behind_15 : decode mX4_behind.2.2.1 15 = .ok (.ireturn, 1) := by decide +kernel
theorem ok_X4_behind : e_m mX4_behind 1 := ⟨tblG_in (inT4 (List.mem_of_getElem? (i := 190) rfl)) rfl, plainFor_of_name (by decide), rfl, ini_4, by decide +kernel, by decide⟩
theorem d_X4_link_33 : decode mX4_link.2.2.1 33 = .ok (.iastore, 1) := by decide +kernel
theorem d_X4_link_34 : decode mX4_link.2.2.1 34 = .ok (.aload_n 0, 1) := by decide +kernel
theorem d_X4_link_35 : decode mX4_link.2.2.1 35 = .ok (.getfield 9, 3) := by decide +kernel
theorem d_X4_link_38 : decode mX4_link.2.2.1 38 = .ok (.iload_n 1, 1) := by decide +kernel
theorem d_X4_link_39 : decode mX4_link.2.2.1 39 = .ok (.iaload, 1) := by decide +kernel
theorem d_X4_link_40 : decode mX4_link.2.2.1 40 = .ok (.bipush 12, 2) := by decide +kernel
theorem d_X4_link_42 : decode mX4_link.2.2.1 42 = .ok (.if_icmp .ne 7, 3) := by decide +kernel
theorem d_X4_link_49 : decode mX4_link.2.2.1 49 = .ok (.iconst 0, 1) := by decide +kernel
theorem d_X4_link_45 : decode mX4_link.2.2.1 45 = .ok (.iconst 1, 1) := by decide +kernel
theorem d_X4_link_46 : decode mX4_link.2.2.1 46 = .ok (.goto 4, 3) := by decide +kernel
theorem d_X4_link_50 : decode mX4_link.2.2.1 50 = .ok (.istore_n 2, 1) := by decide +kernel
theorem d_X4_link_51 : decode mX4_link.2.2.1 51 = .ok (.aload_n 0, 1) := by decide +kernel
theorem d_X4_link_52 : decode mX4_link.2.2.1 52 = .ok (.getfield 21, 3) := by decide +kernel
theorem d_X4_link_55 : decode mX4_link.2.2.1 55 = .ok (.iload_n 1, 1) := by decide +kernel
theorem d_X4_link_56 : decode mX4_link.2.2.1 56 = .ok (.iaload, 1) := by decide +kernel
theorem d_X4_link_57 : decode mX4_link.2.2.1 57 = .ok (.ifCond .ge 23, 3) := by decide +kernel
theorem d_X4_link_60 : decode mX4_link.2.2.1 60 = .ok (.aload_n 0, 1) := by decide +kernel
theorem d_X4_link_61 : decode mX4_link.2.2.1 61 = .ok (.getfield 21, 3) := by decide +kernel
theorem d_X4_link_64 : decode mX4_link.2.2.1 64 = .ok (.iload_n 1, 1) := by decide +kernel
theorem d_X4_link_65 : decode mX4_link.2.2.1 65 = .ok (.iload_n 2, 1) := by decide +kernel
theorem d_X4_link_66 : decode mX4_link.2.2.1 66 = .ok (.ifCond .eq 7, 3) := by decide +kernel
theorem d_X4_link_73 : decode mX4_link.2.2.1 73 = .ok (.aload_n 0, 1) := by decide +kernel
theorem d_X4_link_74 : decode mX4_link.2.2.1 74 = .ok (.getfield 33, 3) := by decide +kernel
theorem d_X4_link_77 : decode mX4_link.2.2.1 77 = .ok (.iload_n 1, 1) := by decide +kernel
theorem d_X4_link_78 : decode mX4_link.2.2.1 78 = .ok (.iaload, 1) := by decide +kernel
theorem d_X4_link_69 : decode mX4_link.2.2.1 69 = .ok (.iload_n 1, 1) := by decide +kernel
theorem d_X4_link_70 : decode mX4_link.2.2.1 70 = .ok (.goto 9, 3) := by decide +kernel
theorem d_X4_link_79 : decode mX4_link.2.2.1 79 = .ok (.iastore, 1) := by decide +kernel
theorem d_X4_link_80 : decode mX4_link.2.2.1 80 = .ok (.aload_n 0, 1) := by decide +kernel
theorem d_X4_link_81 : decode mX4_link.2.2.1 81 = .ok (.getfield 24, 3) := by decide +kernel
theorem d_X4_link_84 : decode mX4_link.2.2.1 84 = .ok (.iload_n 1, 1) := by decide +kernel
theorem d_X4_link_85 : decode mX4_link.2.2.1 85 = .ok (.iaload, 1) := by decide +kernel
theorem d_X4_link_86 : decode mX4_link.2.2.1 86 = .ok (.ifCond .ge 15, 3) := by decide +kernel
theorem d_X4_link_89 : decode mX4_link.2.2.1 89 = .ok (.aload_n 0, 1) := by decide +kernel
theorem d_X4_link_90 : decode mX4_link.2.2.1 90 = .ok (.getfield 24, 3) := by decide +kernel
theorem d_X4_link_93 : decode mX4_link.2.2.1 93 = .ok (.iload_n 1, 1) := by decide +kernel
theorem d_X4_link_94 : decode mX4_link.2.2.1 94 = .ok (.aload_n 0, 1) := by decide +kernel
theorem d_X4_link_95 : decode mX4_link.2.2.1 95 = .ok (.getfield 33, 3) := by decide +kernel
theorem d_X4_link_98 : decode mX4_link.2.2.1 98 = .ok (.iload_n 1, 1) := by decide +kernel
theorem d_X4_link_99 : decode mX4_link.2.2.1 99 = .ok (.iaload, 1) := by decide +kernel
theorem d_X4_link_100 : decode mX4_link.2.2.1 100 = .ok (.iastore, 1) := by decide +kernel
theorem d_X4_link_101 : decode mX4_link.2.2.1 101 = .ok (.iinc 1 1, 3) := by decide +kernel
theorem d_X4_link_104 : decode mX4_link.2.2.1 104 = .ok (.goto (-89), 3) := by decide +kernel
def mX10_clear : MD := (10, yX10_clear, cX10_clear, 1, none)
theorem d_X10_clear_0 : decode mX10_clear.2.2.1 0 = .ok (.aload_n 0, 1) := by decide +kernel
theorem d_X10_clear_1 : decode mX10_clear.2.2.1 1 = .ok (.iconst 0, 1) := by decide +kernel
theorem d_X10_clear_2 : decode mX10_clear.2.2.1 2 = .ok (.putfield 21, 3) := by decide +kernel
theorem d_X10_clear_5 : decode mX10_clear.2.2.1 5 = .ok (.return_, 1) := by decide +kernel
def mX2_clear : MD := (2, yX2_clear, cX2_clear, 1, none)
theorem d_X2_clear_0 : decode mX2_clear.2.2.1 0 = .ok (.aload_n 0, 1) := by decide +kernel
theorem d_X2_clear_1 : decode mX2_clear.2.2.1 1 = .ok (.iconst 0, 1) := by decide +kernel
theorem d_X2_clear_2 : decode mX2_clear.2.2.1 2 = .ok (.putfield 27, 3) := by decide +kernel
theorem d_X2_clear_5 : decode mX2_clear.2.2.1 5 = .ok (.aload_n 0, 1) := by decide +kernel
theorem d_X2_clear_6 : decode mX2_clear.2.2.1 6 = .ok (.iconst 0, 1) := by decide +kernel
theorem d_X2_clear_7 : decode mX2_clear.2.2.1 7 = .ok (.putfield 31, 3) := by decide +kernel
theorem d_X2_clear_10 : decode mX2_clear.2.2.1 10 = .ok (.return_, 1) := by decide +kernel
end
/-! 30.00 -/
section
def ws_X11_lay_0 : List (Int × Int) := [(0, 1)]
def as_X11_lay_0 : List Int := [1]
def q_X11_lay_0 (a1 : Int) (M0 M' : Mem) (r : Option PV) : Prop := St Tru ws_X11_lay_0 as_X11_lay_0 M0 M' ∧ r = none ∧ (rd M' 0 1 = rd M0 0 1 + 4)
set_option maxRecDepth 100000 in
set_option maxHeartbeats 4000000 in
theorem sp_X11_lay_0 {l : Launch} {K : EC} {M0 : Mem} (hI : In Tru M0)  (a1 : Int) (ha1 : (-2147483648) ≤ a1 ∧ a1 ≤ 2147483647)  (hq0 : rd M0 0 1 ≤ 896) : Tr l K 0 mX11_lay 0 [(0, (2, 0)), (1, (0, a1))] [] M0 (q_X11_lay_0 a1 M0) := by
  have hS : St Tru ws_X11_lay_0 as_X11_lay_0 M0 M0 := St.rf hI
  obtain ⟨g0_1, eg0_1⟩ : ∃ v, rd M0 0 1 = v := ⟨_, rfl⟩
  have bg0_1 : 0 ≤ g0_1 ∧ g0_1 ≤ 900 := by rw [← eg0_1]; exact ir_0_1 hI.2.1
  refine Tr.bipush (pc := 0) d_X11_lay_0 rfl (by decide) ?_
  refine Tr.istore_n (pc := 2) (i := 2) (ls2 := [(2, (0, 24)), (0, (2, 0)), (1, (0, a1))]) d_X11_lay_2 rfl (by decide) rfl ?_
  have J3 : ∀ (n3 : Nat) (M : Mem) (p3_2 u3_0_1 : Int), St Tru ws_X11_lay_0 as_X11_lay_0 M0 M → ((-8) ≤ p3_2 ∧ p3_2 ≤ 24) → (0 ≤ u3_0_1 ∧ u3_0_1 ≤ 900) → rd M 0 1 = u3_0_1 → (8 * u3_0_1 + p3_2 = 8 * g0_1 + 24) → (p3_2 = 24 ∨ p3_2 = 16 ∨ p3_2 = 8 ∨ p3_2 = 0 ∨ p3_2 = -8) → (p3_2 - (-8)).toNat < n3 → Tr l K 0 mX11_lay 3 [(0, (2, 0)), (1, (0, a1)), (2, (0, p3_2))] [] M (q_X11_lay_0 a1 M0) := by
    intro n3
    induction n3 with
    | zero => intro M p3_2 u3_0_1 hS bp3_2 bu3_0_1 k3_0_1 t3_0 t3_1 hm3; exact absurd hm3 (Nat.not_lt_zero _)
    | succ n3 J3 =>
      intro M p3_2 u3_0_1 hS bp3_2 bu3_0_1 k3_0_1 t3_0 t3_1 hm3
      refine Tr.iload_n (pc := 3) (i := 2) d_X11_lay_3 rfl rfl ?_
      refine Tr.if_lt (pc := 4) (tgt := 46) d_X11_lay_4 rfl (fun c4 => ?_) (fun c4 => ?_)
      · have kr_0_1 : rd M 0 1 = u3_0_1 := k3_0_1
        exact Tr.vret (pc := 46) d_X11_lay_46 rfl ⟨hS, rfl, by omega⟩
      · refine Tr.aload_n (pc := 7) (i := 0) d_X11_lay_7 rfl rfl ?_
        refine Tr.getf (pc := 8) d_X11_lay_8 f_11_84 (by decide) (by decide) (ty_0 hS.1.1) ?_
        refine Tr.tp u3_0_1 k3_0_1 ?_
        refine Tr.sipush (pc := 11) d_X11_lay_11 rfl (by decide) ?_
        refine Tr.icmp_ge (pc := 14) (tgt := 46) d_X11_lay_14 rfl (fun c14 => ?_) (fun c14 => ?_)
        · have kr_0_1 : rd M 0 1 = u3_0_1 := k3_0_1
          exact Tr.vret (pc := 46) d_X11_lay_46 rfl ⟨hS, rfl, by omega⟩
        · refine Tr.aload_n (pc := 17) (i := 0) d_X11_lay_17 rfl rfl ?_
          refine Tr.getf (pc := 18) d_X11_lay_18 f_11_9 (by decide) (by decide) (ty_0 hS.1.1) ?_
          refine Tr.tp 1 (fx_0_0 hS.1.1) ?_
          refine Tr.aload_n (pc := 21) (i := 0) d_X11_lay_21 rfl rfl ?_
          refine Tr.getf (pc := 22) d_X11_lay_22 f_11_84 (by decide) (by decide) (ty_0 hS.1.1) ?_
          refine Tr.tp u3_0_1 k3_0_1 ?_
          refine Tr.iload_n (pc := 25) (i := 1) d_X11_lay_25 rfl rfl ?_
          refine Tr.iload_n (pc := 26) (i := 2) d_X11_lay_26 rfl rfl ?_
          refine Tr.ishr (pc := 27) d_X11_lay_27 ?_
          refine Tr.gen (P := fun v => (-2147483648) ≤ v ∧ v ≤ 2147483647) (i32_b _) (fun r27 er27 br27 => ?_)
          refine Tr.i2b (pc := 28) d_X11_lay_28 ?_
          refine Tr.gen (P := fun v => (-128) ≤ v ∧ v ≤ 127) (w8_b _) (fun r28 er28 br28 => ?_)
          refine Tr.bastS (pc := 29) (P := St Tru ws_X11_lay_0 as_X11_lay_0 M0) d_X11_lay_29 (ty_1 hS.1.1) (by omega) (by omega) (sa_1 hS (by decide) (w8_b _) trivial) (fun M29 hS w29 => ?_)
          refine Tr.aload_n (pc := 30) (i := 0) d_X11_lay_30 rfl rfl ?_
          refine Tr.dup (pc := 31) d_X11_lay_31 ne21 ?_
          refine Tr.getf (pc := 32) d_X11_lay_32 f_11_84 (by decide) (by decide) (ty_0 hS.1.1) ?_
          refine Tr.tp u3_0_1 ((Wr.b w29 rfl).trans k3_0_1) ?_
          refine Tr.iconst (pc := 35) d_X11_lay_35 (by decide) ?_
          refine Tr.iadd (pc := 36) d_X11_lay_36 ?_
          refine Tr.tp (u3_0_1 + 1) ((w32_id (by omega)).trans (by omega)) ?_
          refine Tr.putfS (pc := 37) (P := St Tru ws_X11_lay_0 as_X11_lay_0 M0) d_X11_lay_37 f_11_84 (by decide) (by decide) (ty_0 hS.1.1) (st_0_1 hS (by decide) (by omega) trivial) (fun M37 hS w37 => ?_)
          refine Tr.iincV (pc := 40) (n2 := (p3_2 - 8)) (ls2 := [(2, (0, (p3_2 - 8))), (0, (2, 0)), (1, (0, a1))]) d_X11_lay_40 rfl (by decide) ((w32_id (by omega)).trans (by omega)) rfl ?_
          refine Tr.goto (pc := 43) (tgt := 3) d_X11_lay_43 rfl ?_
          refine Tr.pick [1, 2, 0] (ls2 := [(0, (2, 0)), (1, (0, a1)), (2, (0, (p3_2 - 8)))]) rfl ?_
          exact J3 _ _ _ hS (by omega) (by omega) w37.1 (by omega) (by omega) (by omega)
  refine Tr.pick [1, 2, 0] (ls2 := [(0, (2, 0)), (1, (0, a1)), (2, (0, 24))]) rfl ?_
  exact J3 _ _ _ _ hS (by omega) (by omega) eg0_1 (by omega) (by omega) (Nat.lt_succ_self _)

def ws_X11_feed_0 : List (Int × Int) := [(0, 1)]
def as_X11_feed_0 : List Int := [1]
def q_X11_feed_0 (a1 : Int) (a2 : Int) (a3 : Int) (a4 : Int) (a5 : Int) (M0 M' : Mem) (r : Option PV) : Prop := St Tru ws_X11_feed_0 as_X11_feed_0 M0 M' ∧ ∃ v : Int, r = some (0, v) ∧ (-1) ≤ v ∧ v ≤ 900 ∧ ((v = -1 ∧ rd M' 0 1 = rd M0 0 1 ∧ 880 < rd M0 0 1) ∨ (v = rd M' 0 1 ∧ rd M' 0 1 = rd M0 0 1 + 20 ∧ rd M0 0 1 ≤ 880))
set_option maxRecDepth 100000 in
set_option maxHeartbeats 4000000 in
theorem sp_X11_feed_0 {l : Launch} {K : EC} {M0 : Mem} (hI : In Tru M0)  (a1 : Int) (ha1 : (-2147483648) ≤ a1 ∧ a1 ≤ 2147483647) (a2 : Int) (ha2 : (-2147483648) ≤ a2 ∧ a2 ≤ 2147483647) (a3 : Int) (ha3 : (-2147483648) ≤ a3 ∧ a3 ≤ 2147483647) (a4 : Int) (ha4 : (-2147483648) ≤ a4 ∧ a4 ≤ 2147483647) (a5 : Int) (ha5 : (-2147483648) ≤ a5 ∧ a5 ≤ 2147483647)  : Tr l K 1 mX11_feed 0 [(0, (2, 0)), (1, (0, a1)), (2, (0, a2)), (3, (0, a3)), (4, (0, a4)), (5, (0, a5))] [] M0 (q_X11_feed_0 a1 a2 a3 a4 a5 M0) := by
  have hS : St Tru ws_X11_feed_0 as_X11_feed_0 M0 M0 := St.rf hI
  obtain ⟨g0_1, eg0_1⟩ : ∃ v, rd M0 0 1 = v := ⟨_, rfl⟩
  have bg0_1 : 0 ≤ g0_1 ∧ g0_1 ≤ 900 := by rw [← eg0_1]; exact ir_0_1 hI.2.1
  refine Tr.aload_n (pc := 0) (i := 0) d_X11_feed_0 rfl rfl ?_
  refine Tr.getf (pc := 1) d_X11_feed_1 f_11_84 (by decide) (by decide) (ty_0 hS.1.1) ?_
  refine Tr.tp g0_1 eg0_1 ?_
  refine Tr.bipush (pc := 4) d_X11_feed_4 rfl (by decide) ?_
  refine Tr.iadd (pc := 6) d_X11_feed_6 ?_
  refine Tr.tp (g0_1 + 20) ((w32_id (by omega)).trans (by omega)) ?_
  refine Tr.sipush (pc := 7) d_X11_feed_7 rfl (by decide) ?_
  refine Tr.icmp_le (pc := 10) (tgt := 15) d_X11_feed_10 rfl (fun c10 => ?_) (fun c10 => ?_)
  · refine Tr.aload_n (pc := 15) (i := 0) d_X11_feed_15 rfl rfl ?_
    refine Tr.iload_n (pc := 16) (i := 1) d_X11_feed_16 rfl rfl ?_
    refine Tr.callV (pc := 17) (as := [_]) d_X11_feed_17 s_11_88 ok_X11_lay rfl rfl (Nat.le_of_ble_eq_true rfl) (Nat.le_of_ble_eq_true rfl) (by decide) (ty_0 hS.1.1) ?_
    have kb17_0_1 : rd M0 0 1 = g0_1 := eg0_1
    refine Tr.imp (Tr.deep (by decide) (sp_X11_lay_0 hS.1 a1 (by omega) (by omega))) ?_
    rintro M17 _ ⟨h17, rfl, z17_0⟩
    have hS := St.tr hS h17 (by decide) (by decide)
    obtain ⟨s17_0_1, es17_0_1⟩ : ∃ v, rd M17 0 1 = v := ⟨_, rfl⟩
    have bs17_0_1 : 0 ≤ s17_0_1 ∧ s17_0_1 ≤ 900 := by rw [← es17_0_1]; exact ir_0_1 hS.1.2.1
    refine Tr.sc [] rfl ?_
    refine Tr.aload_n (pc := 20) (i := 0) d_X11_feed_20 rfl rfl ?_
    refine Tr.iload_n (pc := 21) (i := 2) d_X11_feed_21 rfl rfl ?_
    refine Tr.callV (pc := 22) (as := [_]) d_X11_feed_22 s_11_88 ok_X11_lay rfl rfl (Nat.le_of_ble_eq_true rfl) (Nat.le_of_ble_eq_true rfl) (by decide) (ty_0 hS.1.1) ?_
    have kb22_0_1 : rd M17 0 1 = s17_0_1 := es17_0_1
    refine Tr.imp (Tr.deep (by decide) (sp_X11_lay_0 hS.1 a2 (by omega) (by omega))) ?_
    rintro M22 _ ⟨h22, rfl, z22_0⟩
    have hS := St.tr hS h22 (by decide) (by decide)
    obtain ⟨s22_0_1, es22_0_1⟩ : ∃ v, rd M22 0 1 = v := ⟨_, rfl⟩
    have bs22_0_1 : 0 ≤ s22_0_1 ∧ s22_0_1 ≤ 900 := by rw [← es22_0_1]; exact ir_0_1 hS.1.2.1
    refine Tr.sc [] rfl ?_
    refine Tr.aload_n (pc := 25) (i := 0) d_X11_feed_25 rfl rfl ?_
    refine Tr.iload_n (pc := 26) (i := 3) d_X11_feed_26 rfl rfl ?_
    refine Tr.callV (pc := 27) (as := [_]) d_X11_feed_27 s_11_88 ok_X11_lay rfl rfl (Nat.le_of_ble_eq_true rfl) (Nat.le_of_ble_eq_true rfl) (by decide) (ty_0 hS.1.1) ?_
    have kb27_0_1 : rd M22 0 1 = s22_0_1 := es22_0_1
    refine Tr.imp (Tr.deep (by decide) (sp_X11_lay_0 hS.1 a3 (by omega) (by omega))) ?_
    rintro M27 _ ⟨h27, rfl, z27_0⟩
    have hS := St.tr hS h27 (by decide) (by decide)
    obtain ⟨s27_0_1, es27_0_1⟩ : ∃ v, rd M27 0 1 = v := ⟨_, rfl⟩
    have bs27_0_1 : 0 ≤ s27_0_1 ∧ s27_0_1 ≤ 900 := by rw [← es27_0_1]; exact ir_0_1 hS.1.2.1
    refine Tr.sc [] rfl ?_
    refine Tr.aload_n (pc := 30) (i := 0) d_X11_feed_30 rfl rfl ?_
    refine Tr.iload (pc := 31) (i := 4) d_X11_feed_31 rfl ?_
    refine Tr.callV (pc := 33) (as := [_]) d_X11_feed_33 s_11_88 ok_X11_lay rfl rfl (Nat.le_of_ble_eq_true rfl) (Nat.le_of_ble_eq_true rfl) (by decide) (ty_0 hS.1.1) ?_
    have kb33_0_1 : rd M27 0 1 = s27_0_1 := es27_0_1
    refine Tr.imp (Tr.deep (by decide) (sp_X11_lay_0 hS.1 a4 (by omega) (by omega))) ?_
    rintro M33 _ ⟨h33, rfl, z33_0⟩
    have hS := St.tr hS h33 (by decide) (by decide)
    obtain ⟨s33_0_1, es33_0_1⟩ : ∃ v, rd M33 0 1 = v := ⟨_, rfl⟩
    have bs33_0_1 : 0 ≤ s33_0_1 ∧ s33_0_1 ≤ 900 := by rw [← es33_0_1]; exact ir_0_1 hS.1.2.1
    refine Tr.sc [] rfl ?_
    refine Tr.aload_n (pc := 36) (i := 0) d_X11_feed_36 rfl rfl ?_
    refine Tr.iload (pc := 37) (i := 5) d_X11_feed_37 rfl ?_
    refine Tr.callV (pc := 39) (as := [_]) d_X11_feed_39 s_11_88 ok_X11_lay rfl rfl (Nat.le_of_ble_eq_true rfl) (Nat.le_of_ble_eq_true rfl) (by decide) (ty_0 hS.1.1) ?_
    have kb39_0_1 : rd M33 0 1 = s33_0_1 := es33_0_1
    refine Tr.imp (Tr.deep (by decide) (sp_X11_lay_0 hS.1 a5 (by omega) (by omega))) ?_
    rintro M39 _ ⟨h39, rfl, z39_0⟩
    have hS := St.tr hS h39 (by decide) (by decide)
    obtain ⟨s39_0_1, es39_0_1⟩ : ∃ v, rd M39 0 1 = v := ⟨_, rfl⟩
    have bs39_0_1 : 0 ≤ s39_0_1 ∧ s39_0_1 ≤ 900 := by rw [← es39_0_1]; exact ir_0_1 hS.1.2.1
    refine Tr.sc [] rfl ?_
    refine Tr.aload_n (pc := 42) (i := 0) d_X11_feed_42 rfl rfl ?_
    refine Tr.getf (pc := 43) d_X11_feed_43 f_11_84 (by decide) (by decide) (ty_0 hS.1.1) ?_
    refine Tr.tp s39_0_1 es39_0_1 ?_
    have kr_0_1 : rd M39 0 1 = s39_0_1 := es39_0_1
    exact Tr.iret (pc := 46) d_X11_feed_46 rfl ⟨hS, _, rfl, by omega, by omega, by omega⟩
  · refine Tr.iconst (pc := 13) d_X11_feed_13 (by decide) ?_
    have kr_0_1 : rd M0 0 1 = g0_1 := eg0_1
    exact Tr.iret (pc := 14) d_X11_feed_14 rfl ⟨hS, _, rfl, by omega, by omega, by omega⟩

def ws_X11_end_0 : List (Int × Int) := [(0, 1)]
def as_X11_end_0 : List Int := []
def q_X11_end_0 (a1 : Int) (M0 M' : Mem) (r : Option PV) : Prop := St Tru ws_X11_end_0 as_X11_end_0 M0 M' ∧ ∃ v : Int, r = some (0, v) ∧ 0 ≤ v ∧ v ≤ 1 ∧ ((v = 1 ∧ rd M' 0 1 = a1 ∧ 0 ≤ a1 ∧ a1 ≤ rd M0 0 1) ∨ (v = 0 ∧ rd M' 0 1 = rd M0 0 1 ∧ (a1 < 0 ∨ rd M0 0 1 < a1)))
set_option maxRecDepth 100000 in
set_option maxHeartbeats 4000000 in
theorem sp_X11_end_0 {l : Launch} {K : EC} {M0 : Mem} (hI : In Tru M0)  (a1 : Int) (ha1 : (-2147483648) ≤ a1 ∧ a1 ≤ 2147483647)  : Tr l K 0 mX11_end 0 [(0, (2, 0)), (1, (0, a1))] [] M0 (q_X11_end_0 a1 M0) := by
  have hS : St Tru ws_X11_end_0 as_X11_end_0 M0 M0 := St.rf hI
  obtain ⟨g0_1, eg0_1⟩ : ∃ v, rd M0 0 1 = v := ⟨_, rfl⟩
  have bg0_1 : 0 ≤ g0_1 ∧ g0_1 ≤ 900 := by rw [← eg0_1]; exact ir_0_1 hI.2.1
  refine Tr.iload_n (pc := 0) (i := 1) d_X11_end_0 rfl rfl ?_
  refine Tr.if_lt (pc := 1) (tgt := 12) d_X11_end_1 rfl (fun c1 => ?_) (fun c1 => ?_)
  · refine Tr.iconst (pc := 12) d_X11_end_12 (by decide) ?_
    have kr_0_1 : rd M0 0 1 = g0_1 := eg0_1
    exact Tr.zret (pc := 13) d_X11_end_13 rfl (by omega) ⟨hS, _, rfl, by omega, by omega, by omega⟩
  · refine Tr.iload_n (pc := 4) (i := 1) d_X11_end_4 rfl rfl ?_
    refine Tr.aload_n (pc := 5) (i := 0) d_X11_end_5 rfl rfl ?_
    refine Tr.getf (pc := 6) d_X11_end_6 f_11_84 (by decide) (by decide) (ty_0 hS.1.1) ?_
    refine Tr.tp g0_1 eg0_1 ?_
    refine Tr.icmp_le (pc := 9) (tgt := 14) d_X11_end_9 rfl (fun c9 => ?_) (fun c9 => ?_)
    · refine Tr.aload_n (pc := 14) (i := 0) d_X11_end_14 rfl rfl ?_
      refine Tr.iload_n (pc := 15) (i := 1) d_X11_end_15 rfl rfl ?_
      refine Tr.putfS (pc := 16) (P := St Tru ws_X11_end_0 as_X11_end_0 M0) d_X11_end_16 f_11_84 (by decide) (by decide) (ty_0 hS.1.1) (st_0_1 hS (by decide) (by omega) trivial) (fun M16 hS w16 => ?_)
      refine Tr.iconst (pc := 19) d_X11_end_19 (by decide) ?_
      have kr_0_1 : rd M16 0 1 = a1 := w16.1
      exact Tr.zret (pc := 20) d_X11_end_20 rfl (by omega) ⟨hS, _, rfl, by omega, by omega, by omega⟩
    · refine Tr.iconst (pc := 12) d_X11_end_12 (by decide) ?_
      have kr_0_1 : rd M0 0 1 = g0_1 := eg0_1
      exact Tr.zret (pc := 13) d_X11_end_13 rfl (by omega) ⟨hS, _, rfl, by omega, by omega, by omega⟩

def ws_X11_fault_0 : List (Int × Int) := []
def as_X11_fault_0 : List Int := []
def q_X11_fault_0 (M0 M' : Mem) (r : Option PV) : Prop := St Tru ws_X11_fault_0 as_X11_fault_0 M0 M' ∧ ∃ v : Int, r = some (0, v) ∧ (-2147483648) ≤ v ∧ v ≤ 2147483647
set_option maxRecDepth 100000 in
set_option maxHeartbeats 4000000 in
theorem sp_X11_fault_0 {l : Launch} {K : EC} {M0 : Mem} (hI : In Tru M0)  (a1 : Int) (ha1 : (-2147483648) ≤ a1 ∧ a1 ≤ 2147483647)  : Tr l K 0 mX11_fault 0 [(0, (2, 0)), (1, (0, a1))] [] M0 (q_X11_fault_0 M0) := by
  have hS : St Tru ws_X11_fault_0 as_X11_fault_0 M0 M0 := St.rf hI
  refine Tr.iload_n (pc := 0) (i := 1) d_X11_fault_0 rfl rfl ?_
  refine Tr.if_ne (pc := 1) (tgt := 12) d_X11_fault_1 rfl (fun c1 => ?_) (fun c1 => ?_)
  · refine Tr.iload_n (pc := 12) (i := 1) d_X11_fault_12 rfl rfl ?_
    refine Tr.iconst (pc := 13) d_X11_fault_13 (by decide) ?_
    refine Tr.icmp_ne (pc := 14) (tgt := 27) d_X11_fault_14 rfl (fun c14 => ?_) (fun c14 => ?_)
    · refine Tr.iconst (pc := 27) d_X11_fault_27 (by decide) ?_
      exact Tr.iret (pc := 28) d_X11_fault_28 rfl ⟨hS, _, rfl, by omega, by omega⟩
    · refine Tr.aload_n (pc := 17) (i := 0) d_X11_fault_17 rfl rfl ?_
      refine Tr.getf (pc := 18) d_X11_fault_18 f_11_23 (by decide) (by decide) (ty_0 hS.1.1) ?_
      refine Tr.tp 6 (fx_0_3 hS.1.1) ?_
      refine Tr.getf (pc := 21) d_X11_fault_21 f_11_127 (by decide) (by decide) (ty_6 hS.1.1) ?_
      refine Tr.gen (P := fun v => (-2147483648) ≤ v ∧ v ≤ 2147483647) (ir_6_1 hS.1.2.1) (fun r21 er21 br21 => ?_)
      refine Tr.goto (pc := 24) (tgt := 28) d_X11_fault_24 rfl ?_
      exact Tr.iret (pc := 28) d_X11_fault_28 rfl ⟨hS, _, rfl, by omega, by omega⟩
  · refine Tr.aload_n (pc := 4) (i := 0) d_X11_fault_4 rfl rfl ?_
    refine Tr.getf (pc := 5) d_X11_fault_5 f_11_23 (by decide) (by decide) (ty_0 hS.1.1) ?_
    refine Tr.tp 6 (fx_0_3 hS.1.1) ?_
    refine Tr.getf (pc := 8) d_X11_fault_8 f_11_124 (by decide) (by decide) (ty_6 hS.1.1) ?_
    refine Tr.gen (P := fun v => (-2147483648) ≤ v ∧ v ≤ 2147483647) (ir_6_0 hS.1.2.1) (fun r8 er8 br8 => ?_)
    exact Tr.iret (pc := 11) d_X11_fault_11 rfl ⟨hS, _, rfl, by omega, by omega⟩

def ws_X11_has_0 : List (Int × Int) := []
def as_X11_has_0 : List Int := []
def q_X11_has_0 (M0 M' : Mem) (r : Option PV) : Prop := St Tru ws_X11_has_0 as_X11_has_0 M0 M' ∧ ∃ v : Int, r = some (0, v) ∧ (-1) ≤ v ∧ v ≤ 60
set_option maxRecDepth 100000 in
set_option maxHeartbeats 4000000 in
theorem sp_X11_has_0 {l : Launch} {K : EC} {M0 : Mem} (hI : In Tru M0) (en_0_4 : rd M0 0 4 = 7) (a1 : Int) (ha1 : (-2147483648) ≤ a1 ∧ a1 ≤ 2147483647)  : Tr l K 0 mX11_has 0 [(0, (2, 0)), (1, (0, a1))] [] M0 (q_X11_has_0 M0) := by
  have hS : St Tru ws_X11_has_0 as_X11_has_0 M0 M0 := St.rf hI
  refine Tr.iload_n (pc := 0) (i := 1) d_X11_has_0 rfl rfl ?_
  rcases (show (a1 < 0 ∨ 5 < a1) ∨ a1 = 0 ∨ a1 = 1 ∨ a1 = 2 ∨ a1 = 3 ∨ a1 = 4 ∨ a1 = 5 by omega) with c1 | c1 | c1 | c1 | c1 | c1 | c1
  · refine Tr.tswOut (pc := 1) (tgt := 77) d_X11_has_1 c1 rfl ?_
    refine Tr.iconst (pc := 77) d_X11_has_77 (by decide) ?_
    exact Tr.iret (pc := 78) d_X11_has_78 rfl ⟨hS, _, rfl, by omega, by omega⟩
  · refine Tr.tp 0 c1 ?_
    refine Tr.tswIn (pc := 1) (off := 39) (tgt := 40) d_X11_has_1 (by decide) (by decide) rfl rfl ?_
    refine Tr.aload_n (pc := 40) (i := 0) d_X11_has_40 rfl rfl ?_
    refine Tr.getf (pc := 41) d_X11_has_41 f_11_30 (by decide) (by decide) (ty_0 hS.1.1) ?_
    refine Tr.tp 7 ((St.kp hS (by decide) (by decide) (by decide)).trans en_0_4) ?_
    refine Tr.getf (pc := 44) d_X11_has_44 f_11_130 (by decide) (by decide) (ty_7 hS.1.1) ?_
    refine Tr.tp 8 (fx_7_4 hS.1.1) ?_
    refine Tr.iload_n (pc := 47) (i := 1) d_X11_has_47 rfl rfl ?_
    refine Tr.tp 0 (by omega) ?_
    refine Tr.iald (pc := 48) d_X11_has_48 (ty_8 hS.1.1) (by omega) (by omega) ?_
    refine Tr.gen (P := fun v => 0 ≤ v ∧ v ≤ 6) (ir_8_0 hS.1.2.1) (fun r48 er48 br48 => ?_)
    exact Tr.iret (pc := 49) d_X11_has_49 rfl ⟨hS, _, rfl, by omega, by omega⟩
  · refine Tr.tp 1 c1 ?_
    refine Tr.tswIn (pc := 1) (off := 39) (tgt := 40) d_X11_has_1 (by decide) (by decide) rfl rfl ?_
    refine Tr.aload_n (pc := 40) (i := 0) d_X11_has_40 rfl rfl ?_
    refine Tr.getf (pc := 41) d_X11_has_41 f_11_30 (by decide) (by decide) (ty_0 hS.1.1) ?_
    refine Tr.tp 7 ((St.kp hS (by decide) (by decide) (by decide)).trans en_0_4) ?_
    refine Tr.getf (pc := 44) d_X11_has_44 f_11_130 (by decide) (by decide) (ty_7 hS.1.1) ?_
    refine Tr.tp 8 (fx_7_4 hS.1.1) ?_
    refine Tr.iload_n (pc := 47) (i := 1) d_X11_has_47 rfl rfl ?_
    refine Tr.tp 1 (by omega) ?_
    refine Tr.iald (pc := 48) d_X11_has_48 (ty_8 hS.1.1) (by omega) (by omega) ?_
    refine Tr.gen (P := fun v => 0 ≤ v ∧ v ≤ 3) (ir_8_1 hS.1.2.1) (fun r48 er48 br48 => ?_)
    exact Tr.iret (pc := 49) d_X11_has_49 rfl ⟨hS, _, rfl, by omega, by omega⟩
  · refine Tr.tp 2 c1 ?_
    refine Tr.tswIn (pc := 1) (off := 39) (tgt := 40) d_X11_has_1 (by decide) (by decide) rfl rfl ?_
    refine Tr.aload_n (pc := 40) (i := 0) d_X11_has_40 rfl rfl ?_
    refine Tr.getf (pc := 41) d_X11_has_41 f_11_30 (by decide) (by decide) (ty_0 hS.1.1) ?_
    refine Tr.tp 7 ((St.kp hS (by decide) (by decide) (by decide)).trans en_0_4) ?_
    refine Tr.getf (pc := 44) d_X11_has_44 f_11_130 (by decide) (by decide) (ty_7 hS.1.1) ?_
    refine Tr.tp 8 (fx_7_4 hS.1.1) ?_
    refine Tr.iload_n (pc := 47) (i := 1) d_X11_has_47 rfl rfl ?_
    refine Tr.tp 2 (by omega) ?_
    refine Tr.iald (pc := 48) d_X11_has_48 (ty_8 hS.1.1) (by omega) (by omega) ?_
    refine Tr.gen (P := fun v => 0 ≤ v ∧ v ≤ 6) (ir_8_2 hS.1.2.1) (fun r48 er48 br48 => ?_)
    exact Tr.iret (pc := 49) d_X11_has_49 rfl ⟨hS, _, rfl, by omega, by omega⟩
  · refine Tr.tp 3 c1 ?_
    refine Tr.tswIn (pc := 1) (off := 49) (tgt := 50) d_X11_has_1 (by decide) (by decide) rfl rfl ?_
    refine Tr.aload_n (pc := 50) (i := 0) d_X11_has_50 rfl rfl ?_
    refine Tr.getf (pc := 51) d_X11_has_51 f_11_30 (by decide) (by decide) (ty_0 hS.1.1) ?_
    refine Tr.tp 7 ((St.kp hS (by decide) (by decide) (by decide)).trans en_0_4) ?_
    refine Tr.getf (pc := 54) d_X11_has_54 f_11_115 (by decide) (by decide) (ty_7 hS.1.1) ?_
    refine Tr.tp 15 (fx_7_11 hS.1.1) ?_
    refine Tr.getf (pc := 57) d_X11_has_57 f_11_119 (by decide) (by decide) (ty_15 hS.1.1) ?_
    refine Tr.gen (P := fun v => 0 ≤ v ∧ v ≤ 60) (ir_15_0 hS.1.2.1) (fun r57 er57 br57 => ?_)
    exact Tr.iret (pc := 60) d_X11_has_60 rfl ⟨hS, _, rfl, by omega, by omega⟩
  · refine Tr.tp 4 c1 ?_
    refine Tr.tswIn (pc := 1) (off := 60) (tgt := 61) d_X11_has_1 (by decide) (by decide) rfl rfl ?_
    refine Tr.aload_n (pc := 61) (i := 0) d_X11_has_61 rfl rfl ?_
    refine Tr.getf (pc := 62) d_X11_has_62 f_11_70 (by decide) (by decide) (ty_0 hS.1.1) ?_
    refine Tr.tp 107 (fx_0_12 hS.1.1) ?_
    refine Tr.getf (pc := 65) d_X11_has_65 f_11_133 (by decide) (by decide) (ty_107 hS.1.1) ?_
    refine Tr.gen (P := fun v => 0 ≤ v ∧ v ≤ 12) (ir_107_0 hS.1.2.1) (fun r65 er65 br65 => ?_)
    exact Tr.iret (pc := 68) d_X11_has_68 rfl ⟨hS, _, rfl, by omega, by omega⟩
  · refine Tr.tp 5 c1 ?_
    refine Tr.tswIn (pc := 1) (off := 68) (tgt := 69) d_X11_has_1 (by decide) (by decide) rfl rfl ?_
    refine Tr.aload_n (pc := 69) (i := 0) d_X11_has_69 rfl rfl ?_
    refine Tr.getf (pc := 70) d_X11_has_70 f_11_77 (by decide) (by decide) (ty_0 hS.1.1) ?_
    refine Tr.tp 113 (fx_0_13 hS.1.1) ?_
    refine Tr.getf (pc := 73) d_X11_has_73 f_11_136 (by decide) (by decide) (ty_113 hS.1.1) ?_
    refine Tr.gen (P := fun v => 0 ≤ v ∧ v ≤ 6) (ir_113_0 hS.1.2.1) (fun r73 er73 br73 => ?_)
    exact Tr.iret (pc := 76) d_X11_has_76 rfl ⟨hS, _, rfl, by omega, by omega⟩

def ws_X11_put_0 : List (Int × Int) := []
def as_X11_put_0 : List Int := [47]
def q_X11_put_0 (M0 M' : Mem) (r : Option PV) : Prop := St Tru ws_X11_put_0 as_X11_put_0 M0 M' ∧ ∃ v : Int, r = some (0, v) ∧ 0 ≤ v ∧ v ≤ 1
set_option maxRecDepth 100000 in
set_option maxHeartbeats 4000000 in
theorem sp_X11_put_0 {l : Launch} {K : EC} {M0 : Mem} (hI : In Tru M0) (en_0_4 : rd M0 0 4 = 7) (a1 : Int) (ha1 : (-2147483648) ≤ a1 ∧ a1 ≤ 2147483647) (a2 : Int) (ha2 : (-2147483648) ≤ a2 ∧ a2 ≤ 2147483647)  : Tr l K 0 mX11_put 0 [(0, (2, 0)), (1, (0, a1)), (2, (0, a2))] [] M0 (q_X11_put_0 M0) := by
  have hS : St Tru ws_X11_put_0 as_X11_put_0 M0 M0 := St.rf hI
  refine Tr.iload_n (pc := 0) (i := 1) d_X11_put_0 rfl rfl ?_
  refine Tr.if_lt (pc := 1) (tgt := 17) d_X11_put_1 rfl (fun c1 => ?_) (fun c1 => ?_)
  · refine Tr.iconst (pc := 17) d_X11_put_17 (by decide) ?_
    exact Tr.zret (pc := 18) d_X11_put_18 rfl (by omega) ⟨hS, _, rfl, by omega, by omega⟩
  · refine Tr.iload_n (pc := 4) (i := 1) d_X11_put_4 rfl rfl ?_
    refine Tr.aload_n (pc := 5) (i := 0) d_X11_put_5 rfl rfl ?_
    refine Tr.getf (pc := 6) d_X11_put_6 f_11_30 (by decide) (by decide) (ty_0 hS.1.1) ?_
    refine Tr.tp 7 ((St.kp hS (by decide) (by decide) (by decide)).trans en_0_4) ?_
    refine Tr.getf (pc := 9) d_X11_put_9 f_11_130 (by decide) (by decide) (ty_7 hS.1.1) ?_
    refine Tr.tp 8 (fx_7_4 hS.1.1) ?_
    refine Tr.iconst (pc := 12) d_X11_put_12 (by decide) ?_
    refine Tr.iald (pc := 13) d_X11_put_13 (ty_8 hS.1.1) (by omega) (by omega) ?_
    refine Tr.gen (P := fun v => 0 ≤ v ∧ v ≤ 3) (ir_8_1 hS.1.2.1) (fun r13 er13 br13 => ?_)
    refine Tr.icmp_lt (pc := 14) (tgt := 19) d_X11_put_14 rfl (fun c14 => ?_) (fun c14 => ?_)
    · refine Tr.iload_n (pc := 19) (i := 2) d_X11_put_19 rfl rfl ?_
      refine Tr.aload_n (pc := 20) (i := 0) d_X11_put_20 rfl rfl ?_
      refine Tr.getf (pc := 21) d_X11_put_21 f_11_30 (by decide) (by decide) (ty_0 hS.1.1) ?_
      refine Tr.tp 7 ((St.kp hS (by decide) (by decide) (by decide)).trans en_0_4) ?_
      refine Tr.getf (pc := 24) d_X11_put_24 f_11_100 (by decide) (by decide) (ty_7 hS.1.1) ?_
      refine Tr.tp 12 (fx_7_8 hS.1.1) ?_
      refine Tr.iload_n (pc := 27) (i := 1) d_X11_put_27 rfl rfl ?_
      refine Tr.iald (pc := 28) d_X11_put_28 (ty_12 hS.1.1) (by omega) (by omega) ?_
      refine Tr.gen (P := fun v => (-1) ≤ v ∧ v ≤ 99) (ar_12 hS.1.2.1 _) (fun r28 er28 br28 => ?_)
      refine Tr.icmp_lt (pc := 29) (tgt := 45) d_X11_put_29 rfl (fun c29 => ?_) (fun c29 => ?_)
      · refine Tr.iconst (pc := 45) d_X11_put_45 (by decide) ?_
        exact Tr.zret (pc := 46) d_X11_put_46 rfl (by omega) ⟨hS, _, rfl, by omega, by omega⟩
      · refine Tr.iload_n (pc := 32) (i := 2) d_X11_put_32 rfl rfl ?_
        refine Tr.aload_n (pc := 33) (i := 0) d_X11_put_33 rfl rfl ?_
        refine Tr.getf (pc := 34) d_X11_put_34 f_11_30 (by decide) (by decide) (ty_0 hS.1.1) ?_
        refine Tr.tp 7 ((St.kp hS (by decide) (by decide) (by decide)).trans en_0_4) ?_
        refine Tr.getf (pc := 37) d_X11_put_37 f_11_141 (by decide) (by decide) (ty_7 hS.1.1) ?_
        refine Tr.tp 13 (fx_7_9 hS.1.1) ?_
        refine Tr.iload_n (pc := 40) (i := 1) d_X11_put_40 rfl rfl ?_
        refine Tr.iald (pc := 41) d_X11_put_41 (ty_13 hS.1.1) (by omega) (by omega) ?_
        refine Tr.gen (P := fun v => (-1) ≤ v ∧ v ≤ 99) (ar_13 hS.1.2.1 _) (fun r41 er41 br41 => ?_)
        refine Tr.icmp_le (pc := 42) (tgt := 47) d_X11_put_42 rfl (fun c42 => ?_) (fun c42 => ?_)
        · refine Tr.aload_n (pc := 47) (i := 0) d_X11_put_47 rfl rfl ?_
          refine Tr.getf (pc := 48) d_X11_put_48 f_11_37 (by decide) (by decide) (ty_0 hS.1.1) ?_
          refine Tr.tp 47 (fx_0_6 hS.1.1) ?_
          refine Tr.iload_n (pc := 51) (i := 1) d_X11_put_51 rfl rfl ?_
          refine Tr.iload_n (pc := 52) (i := 2) d_X11_put_52 rfl rfl ?_
          refine Tr.iastS (pc := 53) (P := St Tru ws_X11_put_0 as_X11_put_0 M0) d_X11_put_53 (ty_47 hS.1.1) (by omega) (by omega) (sa_47 hS (by decide) (by omega) trivial) (fun M53 hS w53 => ?_)
          refine Tr.iconst (pc := 54) d_X11_put_54 (by decide) ?_
          exact Tr.zret (pc := 55) d_X11_put_55 rfl (by omega) ⟨hS, _, rfl, by omega, by omega⟩
        · refine Tr.iconst (pc := 45) d_X11_put_45 (by decide) ?_
          exact Tr.zret (pc := 46) d_X11_put_46 rfl (by omega) ⟨hS, _, rfl, by omega, by omega⟩
    · refine Tr.iconst (pc := 17) d_X11_put_17 (by decide) ?_
      exact Tr.zret (pc := 18) d_X11_put_18 rfl (by omega) ⟨hS, _, rfl, by omega, by omega⟩

def ws_X11_ran_0 : List (Int × Int) := []
def as_X11_ran_0 : List Int := []
def q_X11_ran_0 (M0 M' : Mem) (r : Option PV) : Prop := St Tru ws_X11_ran_0 as_X11_ran_0 M0 M' ∧ ∃ v : Int, r = some (0, v) ∧ (-1) ≤ v ∧ v ≤ (-1)
set_option maxRecDepth 100000 in
set_option maxHeartbeats 4000000 in
theorem sp_X11_ran_0 {l : Launch} {K : EC} {M0 : Mem} (hI : In Tru M0) (en_0_9 : rd M0 0 9 = 0) (a1 : Int) (ha1 : (-2147483648) ≤ a1 ∧ a1 ≤ 2147483647)  : Tr l K 0 mX11_ran 0 [(0, (2, 0)), (1, (0, a1))] [] M0 (q_X11_ran_0 M0) := by
  have hS : St Tru ws_X11_ran_0 as_X11_ran_0 M0 M0 := St.rf hI
  refine Tr.aload_n (pc := 0) (i := 0) d_X11_ran_0 rfl rfl ?_
  refine Tr.getz (pc := 1) d_X11_ran_1 f_11_109 (by decide) (ty_0 hS.1.1) ?_
  refine Tr.tp 0 ((St.kp hS (by decide) (by decide) (by decide)).trans en_0_9) ?_
  refine Tr.if_ne (pc := 4) (tgt := 9) d_X11_ran_4 rfl (fun hc => absurd (by omega) hc) (fun _ => ?_)
  refine Tr.iconst (pc := 7) d_X11_ran_7 (by decide) ?_
  exact Tr.iret (pc := 8) d_X11_ran_8 rfl ⟨hS, _, rfl, by omega, by omega⟩

def ws_X11_ran_0_w1 : List (Int × Int) := []
def as_X11_ran_0_w1 : List Int := []
def q_X11_ran_0_w1 (M0 M' : Mem) (r : Option PV) : Prop := St Tru ws_X11_ran_0_w1 as_X11_ran_0_w1 M0 M' ∧ ∃ v : Int, r = some (0, v) ∧ (-2147483648) ≤ v ∧ v ≤ 2147483647
set_option maxRecDepth 100000 in
set_option maxHeartbeats 4000000 in
theorem sp_X11_ran_0_w1 {l : Launch} {K : EC} {M0 : Mem} (hI : In Tru M0) (en_0_9 : rd M0 0 9 = 1) (a1 : Int) (ha1 : (-2147483648) ≤ a1 ∧ a1 ≤ 2147483647)  : Tr l K 0 mX11_ran 0 [(0, (2, 0)), (1, (0, a1))] [] M0 (q_X11_ran_0_w1 M0) := by
  have hS : St Tru ws_X11_ran_0_w1 as_X11_ran_0_w1 M0 M0 := St.rf hI
  refine Tr.aload_n (pc := 0) (i := 0) d_X11_ran_0 rfl rfl ?_
  refine Tr.getz (pc := 1) d_X11_ran_1 f_11_109 (by decide) (ty_0 hS.1.1) ?_
  refine Tr.tp 1 ((St.kp hS (by decide) (by decide) (by decide)).trans en_0_9) ?_
  refine Tr.if_ne (pc := 4) (tgt := 9) d_X11_ran_4 rfl (fun _ => ?_) (fun hc => absurd hc (by omega))
  refine Tr.iload_n (pc := 9) (i := 1) d_X11_ran_9 rfl rfl ?_
  rcases (show (a1 < 0 ∨ 5 < a1) ∨ a1 = 0 ∨ a1 = 1 ∨ a1 = 2 ∨ a1 = 3 ∨ a1 = 4 ∨ a1 = 5 by omega) with c10 | c10 | c10 | c10 | c10 | c10 | c10
  · refine Tr.tswOut (pc := 10) (tgt := 96) d_X11_ran_10 c10 rfl ?_
    refine Tr.iconst (pc := 96) d_X11_ran_96 (by decide) ?_
    exact Tr.iret (pc := 97) d_X11_ran_97 rfl ⟨hS, _, rfl, by omega, by omega⟩
  · refine Tr.tp 0 c10 ?_
    refine Tr.tswIn (pc := 10) (off := 38) (tgt := 48) d_X11_ran_10 (by decide) (by decide) rfl rfl ?_
    refine Tr.aload_n (pc := 48) (i := 0) d_X11_ran_48 rfl rfl ?_
    refine Tr.getf (pc := 49) d_X11_ran_49 f_11_46 (by decide) (by decide) (ty_0 hS.1.1) ?_
    refine Tr.tp 48 (fx_0_7 hS.1.1) ?_
    refine Tr.getf (pc := 52) d_X11_ran_52 f_11_152 (by decide) (by decide) (ty_48 hS.1.1) ?_
    refine Tr.gen (P := fun v => (-2147483648) ≤ v ∧ v ≤ 2147483647) (ir_48_9 hS.1.2.1) (fun r52 er52 br52 => ?_)
    exact Tr.iret (pc := 55) d_X11_ran_55 rfl ⟨hS, _, rfl, by omega, by omega⟩
  · refine Tr.tp 1 c10 ?_
    refine Tr.tswIn (pc := 10) (off := 46) (tgt := 56) d_X11_ran_10 (by decide) (by decide) rfl rfl ?_
    refine Tr.aload_n (pc := 56) (i := 0) d_X11_ran_56 rfl rfl ?_
    refine Tr.getf (pc := 57) d_X11_ran_57 f_11_46 (by decide) (by decide) (ty_0 hS.1.1) ?_
    refine Tr.tp 48 (fx_0_7 hS.1.1) ?_
    refine Tr.getf (pc := 60) d_X11_ran_60 f_11_155 (by decide) (by decide) (ty_48 hS.1.1) ?_
    refine Tr.gen (P := fun v => (-2147483648) ≤ v ∧ v ≤ 2147483647) (ir_48_10 hS.1.2.1) (fun r60 er60 br60 => ?_)
    exact Tr.iret (pc := 63) d_X11_ran_63 rfl ⟨hS, _, rfl, by omega, by omega⟩
  · refine Tr.tp 2 c10 ?_
    refine Tr.tswIn (pc := 10) (off := 54) (tgt := 64) d_X11_ran_10 (by decide) (by decide) rfl rfl ?_
    refine Tr.aload_n (pc := 64) (i := 0) d_X11_ran_64 rfl rfl ?_
    refine Tr.getf (pc := 65) d_X11_ran_65 f_11_46 (by decide) (by decide) (ty_0 hS.1.1) ?_
    refine Tr.tp 48 (fx_0_7 hS.1.1) ?_
    refine Tr.getf (pc := 68) d_X11_ran_68 f_11_158 (by decide) (by decide) (ty_48 hS.1.1) ?_
    refine Tr.gen (P := fun v => (-2147483648) ≤ v ∧ v ≤ 2147483647) (ir_48_12 hS.1.2.1) (fun r68 er68 br68 => ?_)
    exact Tr.iret (pc := 71) d_X11_ran_71 rfl ⟨hS, _, rfl, by omega, by omega⟩
  · refine Tr.tp 3 c10 ?_
    refine Tr.tswIn (pc := 10) (off := 62) (tgt := 72) d_X11_ran_10 (by decide) (by decide) rfl rfl ?_
    refine Tr.aload_n (pc := 72) (i := 0) d_X11_ran_72 rfl rfl ?_
    refine Tr.getf (pc := 73) d_X11_ran_73 f_11_46 (by decide) (by decide) (ty_0 hS.1.1) ?_
    refine Tr.tp 48 (fx_0_7 hS.1.1) ?_
    refine Tr.getf (pc := 76) d_X11_ran_76 f_11_161 (by decide) (by decide) (ty_48 hS.1.1) ?_
    refine Tr.gen (P := fun v => (-2147483648) ≤ v ∧ v ≤ 2147483647) (ir_48_13 hS.1.2.1) (fun r76 er76 br76 => ?_)
    exact Tr.iret (pc := 79) d_X11_ran_79 rfl ⟨hS, _, rfl, by omega, by omega⟩
  · refine Tr.tp 4 c10 ?_
    refine Tr.tswIn (pc := 10) (off := 70) (tgt := 80) d_X11_ran_10 (by decide) (by decide) rfl rfl ?_
    refine Tr.aload_n (pc := 80) (i := 0) d_X11_ran_80 rfl rfl ?_
    refine Tr.getf (pc := 81) d_X11_ran_81 f_11_46 (by decide) (by decide) (ty_0 hS.1.1) ?_
    refine Tr.tp 48 (fx_0_7 hS.1.1) ?_
    refine Tr.getf (pc := 84) d_X11_ran_84 f_11_164 (by decide) (by decide) (ty_48 hS.1.1) ?_
    refine Tr.gen (P := fun v => (-2147483648) ≤ v ∧ v ≤ 2147483647) (ir_48_11 hS.1.2.1) (fun r84 er84 br84 => ?_)
    exact Tr.iret (pc := 87) d_X11_ran_87 rfl ⟨hS, _, rfl, by omega, by omega⟩
  · refine Tr.tp 5 c10 ?_
    refine Tr.tswIn (pc := 10) (off := 78) (tgt := 88) d_X11_ran_10 (by decide) (by decide) rfl rfl ?_
    refine Tr.aload_n (pc := 88) (i := 0) d_X11_ran_88 rfl rfl ?_
    refine Tr.getf (pc := 89) d_X11_ran_89 f_11_46 (by decide) (by decide) (ty_0 hS.1.1) ?_
    refine Tr.tp 48 (fx_0_7 hS.1.1) ?_
    refine Tr.getf (pc := 92) d_X11_ran_92 f_11_167 (by decide) (by decide) (ty_48 hS.1.1) ?_
    refine Tr.gen (P := fun v => (-2147483648) ≤ v ∧ v ≤ 2147483647) (ir_48_15 hS.1.2.1) (fun r92 er92 br92 => ?_)
    exact Tr.iret (pc := 95) d_X11_ran_95 rfl ⟨hS, _, rfl, by omega, by omega⟩

def ws_X11_value_0 : List (Int × Int) := []
def as_X11_value_0 : List Int := []
def q_X11_value_0 (M0 M' : Mem) (r : Option PV) : Prop := St Tru ws_X11_value_0 as_X11_value_0 M0 M' ∧ ∃ v : Int, r = some (0, v) ∧ (-2000000000) ≤ v ∧ v ≤ (-2000000000)
set_option maxRecDepth 100000 in
set_option maxHeartbeats 4000000 in
theorem sp_X11_value_0 {l : Launch} {K : EC} {M0 : Mem} (hI : In Tru M0) (en_0_9 : rd M0 0 9 = 0) (a1 : Int) (ha1 : (-2147483648) ≤ a1 ∧ a1 ≤ 2147483647)  : Tr l K 0 mX11_value 0 [(0, (2, 0)), (1, (0, a1))] [] M0 (q_X11_value_0 M0) := by
  have hS : St Tru ws_X11_value_0 as_X11_value_0 M0 M0 := St.rf hI
  refine Tr.aload_n (pc := 0) (i := 0) d_X11_value_0 rfl rfl ?_
  refine Tr.getz (pc := 1) d_X11_value_1 f_11_109 (by decide) (ty_0 hS.1.1) ?_
  refine Tr.tp 0 ((St.kp hS (by decide) (by decide) (by decide)).trans en_0_9) ?_
  refine Tr.if_eq (pc := 4) (tgt := 24) d_X11_value_4 rfl (fun _ => ?_) (fun hc => absurd (by omega) hc)
  refine Tr.ldc (pc := 24) d_X11_value_24 k_11_170 (by decide) ?_
  exact Tr.iret (pc := 26) d_X11_value_26 rfl ⟨hS, _, rfl, by omega, by omega⟩

def ws_X11_value_0_w1 : List (Int × Int) := []
def as_X11_value_0_w1 : List Int := []
def q_X11_value_0_w1 (M0 M' : Mem) (r : Option PV) : Prop := St Tru ws_X11_value_0_w1 as_X11_value_0_w1 M0 M' ∧ ∃ v : Int, r = some (0, v) ∧ (-2147483648) ≤ v ∧ v ≤ 2147483647
set_option maxRecDepth 100000 in
set_option maxHeartbeats 4000000 in
theorem sp_X11_value_0_w1 {l : Launch} {K : EC} {M0 : Mem} (hI : In Tru M0) (en_0_4 : rd M0 0 4 = 7) (en_0_9 : rd M0 0 9 = 1) (a1 : Int) (ha1 : (-2147483648) ≤ a1 ∧ a1 ≤ 2147483647)  : Tr l K 0 mX11_value 0 [(0, (2, 0)), (1, (0, a1))] [] M0 (q_X11_value_0_w1 M0) := by
  have hS : St Tru ws_X11_value_0_w1 as_X11_value_0_w1 M0 M0 := St.rf hI
  refine Tr.aload_n (pc := 0) (i := 0) d_X11_value_0 rfl rfl ?_
  refine Tr.getz (pc := 1) d_X11_value_1 f_11_109 (by decide) (ty_0 hS.1.1) ?_
  refine Tr.tp 1 ((St.kp hS (by decide) (by decide) (by decide)).trans en_0_9) ?_
  refine Tr.if_eq (pc := 4) (tgt := 24) d_X11_value_4 rfl (fun hc => absurd hc (by omega)) (fun _ => ?_)
  refine Tr.iload_n (pc := 7) (i := 1) d_X11_value_7 rfl rfl ?_
  refine Tr.if_lt (pc := 8) (tgt := 24) d_X11_value_8 rfl (fun c8 => ?_) (fun c8 => ?_)
  · refine Tr.ldc (pc := 24) d_X11_value_24 k_11_170 (by decide) ?_
    exact Tr.iret (pc := 26) d_X11_value_26 rfl ⟨hS, _, rfl, by omega, by omega⟩
  · refine Tr.iload_n (pc := 11) (i := 1) d_X11_value_11 rfl rfl ?_
    refine Tr.aload_n (pc := 12) (i := 0) d_X11_value_12 rfl rfl ?_
    refine Tr.getf (pc := 13) d_X11_value_13 f_11_30 (by decide) (by decide) (ty_0 hS.1.1) ?_
    refine Tr.tp 7 ((St.kp hS (by decide) (by decide) (by decide)).trans en_0_4) ?_
    refine Tr.getf (pc := 16) d_X11_value_16 f_11_130 (by decide) (by decide) (ty_7 hS.1.1) ?_
    refine Tr.tp 8 (fx_7_4 hS.1.1) ?_
    refine Tr.iconst (pc := 19) d_X11_value_19 (by decide) ?_
    refine Tr.iald (pc := 20) d_X11_value_20 (ty_8 hS.1.1) (by omega) (by omega) ?_
    refine Tr.gen (P := fun v => 0 ≤ v ∧ v ≤ 6) (ir_8_2 hS.1.2.1) (fun r20 er20 br20 => ?_)
    refine Tr.icmp_lt (pc := 21) (tgt := 27) d_X11_value_21 rfl (fun c21 => ?_) (fun c21 => ?_)
    · refine Tr.aload_n (pc := 27) (i := 0) d_X11_value_27 rfl rfl ?_
      refine Tr.getf (pc := 28) d_X11_value_28 f_11_46 (by decide) (by decide) (ty_0 hS.1.1) ?_
      refine Tr.tp 48 (fx_0_7 hS.1.1) ?_
      refine Tr.getf (pc := 31) d_X11_value_31 f_11_171 (by decide) (by decide) (ty_48 hS.1.1) ?_
      refine Tr.tp 50 (fx_48_3 hS.1.1) ?_
      refine Tr.iload_n (pc := 34) (i := 1) d_X11_value_34 rfl rfl ?_
      refine Tr.iald (pc := 35) d_X11_value_35 (ty_50 hS.1.1) (by omega) (by omega) ?_
      refine Tr.gen (P := fun v => (-2147483648) ≤ v ∧ v ≤ 2147483647) (ar_50 hS.1.2.1 _) (fun r35 er35 br35 => ?_)
      exact Tr.iret (pc := 36) d_X11_value_36 rfl ⟨hS, _, rfl, by omega, by omega⟩
    · refine Tr.ldc (pc := 24) d_X11_value_24 k_11_170 (by decide) ?_
      exact Tr.iret (pc := 26) d_X11_value_26 rfl ⟨hS, _, rfl, by omega, by omega⟩

def ws_X11_spent_0 : List (Int × Int) := []
def as_X11_spent_0 : List Int := []
def q_X11_spent_0 (M0 M' : Mem) (r : Option PV) : Prop := St Tru ws_X11_spent_0 as_X11_spent_0 M0 M' ∧ ∃ v : Int, r = some (0, v) ∧ (-1) ≤ v ∧ v ≤ (-1)
set_option maxRecDepth 100000 in
set_option maxHeartbeats 4000000 in
theorem sp_X11_spent_0 {l : Launch} {K : EC} {M0 : Mem} (hI : In Tru M0) (en_0_9 : rd M0 0 9 = 0) (a1 : Int) (ha1 : (-2147483648) ≤ a1 ∧ a1 ≤ 2147483647) (a2 : Int) (ha2 : (-2147483648) ≤ a2 ∧ a2 ≤ 2147483647)  : Tr l K 0 mX11_spent 0 [(0, (2, 0)), (1, (0, a1)), (2, (0, a2))] [] M0 (q_X11_spent_0 M0) := by
  have hS : St Tru ws_X11_spent_0 as_X11_spent_0 M0 M0 := St.rf hI
  refine Tr.aload_n (pc := 0) (i := 0) d_X11_spent_0 rfl rfl ?_
  refine Tr.getz (pc := 1) d_X11_spent_1 f_11_109 (by decide) (ty_0 hS.1.1) ?_
  refine Tr.tp 0 ((St.kp hS (by decide) (by decide) (by decide)).trans en_0_9) ?_
  refine Tr.if_eq (pc := 4) (tgt := 24) d_X11_spent_4 rfl (fun _ => ?_) (fun hc => absurd (by omega) hc)
  refine Tr.iconst (pc := 24) d_X11_spent_24 (by decide) ?_
  exact Tr.iret (pc := 25) d_X11_spent_25 rfl ⟨hS, _, rfl, by omega, by omega⟩

def ws_X11_isPart_0 : List (Int × Int) := []
def as_X11_isPart_0 : List Int := []
def q_X11_isPart_0 (a1 : Int) (M0 M' : Mem) (r : Option PV) : Prop := St Tru ws_X11_isPart_0 as_X11_isPart_0 M0 M' ∧ ∃ v : Int, r = some (0, v) ∧ 0 ≤ v ∧ v ≤ 1 ∧ (v = 1 → (0 ≤ a1 ∧ a1 ≤ 5))
set_option maxRecDepth 100000 in
set_option maxHeartbeats 4000000 in
theorem sp_X11_isPart_0 {l : Launch} {K : EC} {M0 : Mem} (hI : In Tru M0) (en_0_4 : rd M0 0 4 = 7) (a1 : Int) (ha1 : (-2147483648) ≤ a1 ∧ a1 ≤ 2147483647)  : Tr l K 0 mX11_isPart 0 [(0, (2, 0)), (1, (0, a1))] [] M0 (q_X11_isPart_0 a1 M0) := by
  have hS : St Tru ws_X11_isPart_0 as_X11_isPart_0 M0 M0 := St.rf hI
  refine Tr.iload_n (pc := 0) (i := 1) d_X11_isPart_0 rfl rfl ?_
  refine Tr.if_lt (pc := 1) (tgt := 21) d_X11_isPart_1 rfl (fun c1 => ?_) (fun c1 => ?_)
  · refine Tr.iconst (pc := 21) d_X11_isPart_21 (by decide) ?_
    exact Tr.zret (pc := 22) d_X11_isPart_22 rfl (by omega) ⟨hS, _, rfl, by omega, by omega, by omega⟩
  · refine Tr.iload_n (pc := 4) (i := 1) d_X11_isPart_4 rfl rfl ?_
    refine Tr.aload_n (pc := 5) (i := 0) d_X11_isPart_5 rfl rfl ?_
    refine Tr.getf (pc := 6) d_X11_isPart_6 f_11_30 (by decide) (by decide) (ty_0 hS.1.1) ?_
    refine Tr.tp 7 ((St.kp hS (by decide) (by decide) (by decide)).trans en_0_4) ?_
    refine Tr.getf (pc := 9) d_X11_isPart_9 f_11_130 (by decide) (by decide) (ty_7 hS.1.1) ?_
    refine Tr.tp 8 (fx_7_4 hS.1.1) ?_
    refine Tr.iconst (pc := 12) d_X11_isPart_12 (by decide) ?_
    refine Tr.iald (pc := 13) d_X11_isPart_13 (ty_8 hS.1.1) (by omega) (by omega) ?_
    refine Tr.gen (P := fun v => 0 ≤ v ∧ v ≤ 6) (ir_8_0 hS.1.2.1) (fun r13 er13 br13 => ?_)
    refine Tr.icmp_ge (pc := 14) (tgt := 21) d_X11_isPart_14 rfl (fun c14 => ?_) (fun c14 => ?_)
    · refine Tr.iconst (pc := 21) d_X11_isPart_21 (by decide) ?_
      exact Tr.zret (pc := 22) d_X11_isPart_22 rfl (by omega) ⟨hS, _, rfl, by omega, by omega, by omega⟩
    · refine Tr.iconst (pc := 17) d_X11_isPart_17 (by decide) ?_
      refine Tr.goto (pc := 18) (tgt := 22) d_X11_isPart_18 rfl ?_
      exact Tr.zret (pc := 22) d_X11_isPart_22 rfl (by omega) ⟨hS, _, rfl, by omega, by omega, by omega⟩

def ws_X11_spent_0_w1 : List (Int × Int) := []
def as_X11_spent_0_w1 : List Int := []
def q_X11_spent_0_w1 (M0 M' : Mem) (r : Option PV) : Prop := St Tru ws_X11_spent_0_w1 as_X11_spent_0_w1 M0 M' ∧ ∃ v : Int, r = some (0, v) ∧ (-2147483648) ≤ v ∧ v ≤ 2147483647
set_option maxRecDepth 100000 in
set_option maxHeartbeats 4000000 in
theorem sp_X11_spent_0_w1 {l : Launch} {K : EC} {M0 : Mem} (hI : In Tru M0) (en_0_4 : rd M0 0 4 = 7) (en_0_9 : rd M0 0 9 = 1) (a1 : Int) (ha1 : (-2147483648) ≤ a1 ∧ a1 ≤ 2147483647) (a2 : Int) (ha2 : (-2147483648) ≤ a2 ∧ a2 ≤ 2147483647)  : Tr l K 1 mX11_spent 0 [(0, (2, 0)), (1, (0, a1)), (2, (0, a2))] [] M0 (q_X11_spent_0_w1 M0) := by
  have hS : St Tru ws_X11_spent_0_w1 as_X11_spent_0_w1 M0 M0 := St.rf hI
  refine Tr.aload_n (pc := 0) (i := 0) d_X11_spent_0 rfl rfl ?_
  refine Tr.getz (pc := 1) d_X11_spent_1 f_11_109 (by decide) (ty_0 hS.1.1) ?_
  refine Tr.tp 1 ((St.kp hS (by decide) (by decide) (by decide)).trans en_0_9) ?_
  refine Tr.if_eq (pc := 4) (tgt := 24) d_X11_spent_4 rfl (fun hc => absurd hc (by omega)) (fun _ => ?_)
  refine Tr.aload_n (pc := 7) (i := 0) d_X11_spent_7 rfl rfl ?_
  refine Tr.iload_n (pc := 8) (i := 1) d_X11_spent_8 rfl rfl ?_
  refine Tr.callV (pc := 9) (as := [_]) d_X11_spent_9 s_11_174 ok_X11_isPart rfl rfl (Nat.le_of_ble_eq_true rfl) (Nat.le_of_ble_eq_true rfl) (by decide) (ty_0 hS.1.1) ?_
  refine Tr.imp (Tr.deep (by decide) (sp_X11_isPart_0 hS.1 ((St.kp hS (by decide) (by decide) (by decide)).trans en_0_4) a1 (by omega))) ?_
  rintro M9 _ ⟨h9, r9, rfl, lr9, ur9, wr9⟩
  have hS := St.tr hS h9 (by decide) (by decide)
  refine Tr.sc [(0, r9)] rfl ?_
  refine Tr.if_eq (pc := 12) (tgt := 24) d_X11_spent_12 rfl (fun c12 => ?_) (fun c12 => ?_)
  · refine Tr.iconst (pc := 24) d_X11_spent_24 (by decide) ?_
    exact Tr.iret (pc := 25) d_X11_spent_25 rfl ⟨hS, _, rfl, by omega, by omega⟩
  · refine Tr.iload_n (pc := 15) (i := 2) d_X11_spent_15 rfl rfl ?_
    refine Tr.if_lt (pc := 16) (tgt := 24) d_X11_spent_16 rfl (fun c16 => ?_) (fun c16 => ?_)
    · refine Tr.iconst (pc := 24) d_X11_spent_24 (by decide) ?_
      exact Tr.iret (pc := 25) d_X11_spent_25 rfl ⟨hS, _, rfl, by omega, by omega⟩
    · refine Tr.iload_n (pc := 19) (i := 2) d_X11_spent_19 rfl rfl ?_
      refine Tr.iconst (pc := 20) d_X11_spent_20 (by decide) ?_
      refine Tr.icmp_lt (pc := 21) (tgt := 26) d_X11_spent_21 rfl (fun c21 => ?_) (fun c21 => ?_)
      · refine Tr.aload_n (pc := 26) (i := 0) d_X11_spent_26 rfl rfl ?_
        refine Tr.getf (pc := 27) d_X11_spent_27 f_11_46 (by decide) (by decide) (ty_0 hS.1.1) ?_
        refine Tr.tp 48 (fx_0_7 hS.1.1) ?_
        refine Tr.getf (pc := 30) d_X11_spent_30 f_11_178 (by decide) (by decide) (ty_48 hS.1.1) ?_
        refine Tr.tp 56 (fx_48_0 hS.1.1) ?_
        refine Tr.getf (pc := 33) d_X11_spent_33 f_11_182 (by decide) (by decide) (ty_56 hS.1.1) ?_
        refine Tr.tp 57 (fx_56_2 hS.1.1) ?_
        refine Tr.iload_n (pc := 36) (i := 1) d_X11_spent_36 rfl rfl ?_
        refine Tr.iconst (pc := 37) d_X11_spent_37 (by decide) ?_
        refine Tr.imul (pc := 38) d_X11_spent_38 ?_
        refine Tr.tp (4 * a1) ((w32_id (by omega)).trans (by omega)) ?_
        refine Tr.iload_n (pc := 39) (i := 2) d_X11_spent_39 rfl rfl ?_
        refine Tr.iadd (pc := 40) d_X11_spent_40 ?_
        refine Tr.tp (4 * a1 + a2) ((w32_id (by omega)).trans (by omega)) ?_
        refine Tr.iald (pc := 41) d_X11_spent_41 (ty_57 hS.1.1) (by omega) (by omega) ?_
        refine Tr.gen (P := fun v => (-2147483648) ≤ v ∧ v ≤ 2147483647) (ar_57 hS.1.2.1 _) (fun r41 er41 br41 => ?_)
        exact Tr.iret (pc := 42) d_X11_spent_42 rfl ⟨hS, _, rfl, by omega, by omega⟩
      · refine Tr.iconst (pc := 24) d_X11_spent_24 (by decide) ?_
        exact Tr.iret (pc := 25) d_X11_spent_25 rfl ⟨hS, _, rfl, by omega, by omega⟩

def ws_X11_pays_0 : List (Int × Int) := []
def as_X11_pays_0 : List Int := []
def q_X11_pays_0 (M0 M' : Mem) (r : Option PV) : Prop := St Tru ws_X11_pays_0 as_X11_pays_0 M0 M' ∧ ∃ v : Int, r = some (0, v) ∧ (-1) ≤ v ∧ v ≤ (-1)
set_option maxRecDepth 100000 in
set_option maxHeartbeats 4000000 in
theorem sp_X11_pays_0 {l : Launch} {K : EC} {M0 : Mem} (hI : In Tru M0) (en_0_9 : rd M0 0 9 = 0) (a1 : Int) (ha1 : (-2147483648) ≤ a1 ∧ a1 ≤ 2147483647) (a2 : Int) (ha2 : (-2147483648) ≤ a2 ∧ a2 ≤ 2147483647)  : Tr l K 0 mX11_pays 0 [(0, (2, 0)), (1, (0, a1)), (2, (0, a2))] [] M0 (q_X11_pays_0 M0) := by
  have hS : St Tru ws_X11_pays_0 as_X11_pays_0 M0 M0 := St.rf hI
  refine Tr.aload_n (pc := 0) (i := 0) d_X11_pays_0 rfl rfl ?_
  refine Tr.getz (pc := 1) d_X11_pays_1 f_11_109 (by decide) (ty_0 hS.1.1) ?_
  refine Tr.tp 0 ((St.kp hS (by decide) (by decide) (by decide)).trans en_0_9) ?_
  refine Tr.if_eq (pc := 4) (tgt := 16) d_X11_pays_4 rfl (fun _ => ?_) (fun hc => absurd (by omega) hc)
  refine Tr.iconst (pc := 16) d_X11_pays_16 (by decide) ?_
  exact Tr.iret (pc := 17) d_X11_pays_17 rfl ⟨hS, _, rfl, by omega, by omega⟩

def ws_X11_isLine_0 : List (Int × Int) := []
def as_X11_isLine_0 : List Int := []
def q_X11_isLine_0 (a1 : Int) (M0 M' : Mem) (r : Option PV) : Prop := St Tru ws_X11_isLine_0 as_X11_isLine_0 M0 M' ∧ ∃ v : Int, r = some (0, v) ∧ 0 ≤ v ∧ v ≤ 1 ∧ (v = 1 → (0 ≤ a1 ∧ a1 ≤ 59))
set_option maxRecDepth 100000 in
set_option maxHeartbeats 4000000 in
theorem sp_X11_isLine_0 {l : Launch} {K : EC} {M0 : Mem} (hI : In Tru M0) (en_0_4 : rd M0 0 4 = 7) (a1 : Int) (ha1 : (-2147483648) ≤ a1 ∧ a1 ≤ 2147483647)  : Tr l K 0 mX11_isLine 0 [(0, (2, 0)), (1, (0, a1))] [] M0 (q_X11_isLine_0 a1 M0) := by
  have hS : St Tru ws_X11_isLine_0 as_X11_isLine_0 M0 M0 := St.rf hI
  refine Tr.iload_n (pc := 0) (i := 1) d_X11_isLine_0 rfl rfl ?_
  refine Tr.if_lt (pc := 1) (tgt := 22) d_X11_isLine_1 rfl (fun c1 => ?_) (fun c1 => ?_)
  · refine Tr.iconst (pc := 22) d_X11_isLine_22 (by decide) ?_
    exact Tr.zret (pc := 23) d_X11_isLine_23 rfl (by omega) ⟨hS, _, rfl, by omega, by omega, by omega⟩
  · refine Tr.iload_n (pc := 4) (i := 1) d_X11_isLine_4 rfl rfl ?_
    refine Tr.aload_n (pc := 5) (i := 0) d_X11_isLine_5 rfl rfl ?_
    refine Tr.getf (pc := 6) d_X11_isLine_6 f_11_30 (by decide) (by decide) (ty_0 hS.1.1) ?_
    refine Tr.tp 7 ((St.kp hS (by decide) (by decide) (by decide)).trans en_0_4) ?_
    refine Tr.getf (pc := 9) d_X11_isLine_9 f_11_115 (by decide) (by decide) (ty_7 hS.1.1) ?_
    refine Tr.tp 15 (fx_7_11 hS.1.1) ?_
    refine Tr.getf (pc := 12) d_X11_isLine_12 f_11_119 (by decide) (by decide) (ty_15 hS.1.1) ?_
    refine Tr.gen (P := fun v => 0 ≤ v ∧ v ≤ 60) (ir_15_0 hS.1.2.1) (fun r12 er12 br12 => ?_)
    refine Tr.icmp_ge (pc := 15) (tgt := 22) d_X11_isLine_15 rfl (fun c15 => ?_) (fun c15 => ?_)
    · refine Tr.iconst (pc := 22) d_X11_isLine_22 (by decide) ?_
      exact Tr.zret (pc := 23) d_X11_isLine_23 rfl (by omega) ⟨hS, _, rfl, by omega, by omega, by omega⟩
    · refine Tr.iconst (pc := 18) d_X11_isLine_18 (by decide) ?_
      refine Tr.goto (pc := 19) (tgt := 23) d_X11_isLine_19 rfl ?_
      exact Tr.zret (pc := 23) d_X11_isLine_23 rfl (by omega) ⟨hS, _, rfl, by omega, by omega, by omega⟩

def ws_J13_bitCount_95d88 : List (Int × Int) := []
def as_J13_bitCount_95d88 : List Int := []
def q_J13_bitCount_95d88 (a0 : Int) (M0 M' : Mem) (r : Option PV) : Prop := St Tru ws_J13_bitCount_95d88 as_J13_bitCount_95d88 M0 M' ∧ ∃ v : Int, r = some (0, v) ∧ (-2147483648) ≤ v ∧ v ≤ 2147483647 ∧ (v = pop a0 ∧ 0 ≤ v ∧ v ≤ 64)
set_option maxRecDepth 100000 in
set_option maxHeartbeats 4000000 in
theorem sp_J13_bitCount_95d88 {l : Launch} {K : EC} {M0 : Mem} (hI : In Tru M0)  (a0 : Int) (ha0 : (-9223372036854775808) ≤ a0 ∧ a0 ≤ 9223372036854775807)  : Tr l K 0 mJ13_bitCount_95d88 0 [(0, (1, a0))] [] M0 (q_J13_bitCount_95d88 a0 M0) := by
  have hS : St Tru ws_J13_bitCount_95d88 as_J13_bitCount_95d88 M0 M0 := St.rf hI
  refine Tr.lload_n (pc := 0) (i := 0) d_J13_bitCount_95d88_0 rfl rfl ?_
  refine Tr.lload_n (pc := 1) (i := 0) d_J13_bitCount_95d88_1 rfl rfl ?_
  refine Tr.iconst (pc := 2) d_J13_bitCount_95d88_2 (by decide) ?_
  refine Tr.lushr (pc := 3) d_J13_bitCount_95d88_3 ?_
  refine Tr.gen (P := fun v => v = (a0 % 18446744073709551616) / 2 ∧ (0 ≤ v ∧ v ≤ 9223372036854775807)) ⟨(lushr_p1 _).2, (lushr_p1 _).1⟩ (fun r3 er3 br3 => ?_)
  refine Tr.ldc2 (pc := 4) d_J13_bitCount_95d88_4 kl_17_314 (by decide) ?_
  refine Tr.land (pc := 7) d_J13_bitCount_95d88_7 ?_
  refine Tr.gen (P := fun v => (-9223372036854775808) ≤ v ∧ v ≤ 9223372036854775807) (i64_b _) (fun r7 er7 br7 => ?_)
  refine Tr.lsub (pc := 8) d_J13_bitCount_95d88_8 ?_
  refine Tr.gen (P := fun v => (-9223372036854775808) ≤ v ∧ v ≤ 9223372036854775807) (w64_b _) (fun r8 er8 br8 => ?_)
  refine Tr.lstore_n (pc := 9) (i := 0) (ls2 := [(0, (1, r8))]) d_J13_bitCount_95d88_9 rfl (by decide) rfl ?_
  refine Tr.lload_n (pc := 10) (i := 0) d_J13_bitCount_95d88_10 rfl rfl ?_
  refine Tr.ldc2 (pc := 11) d_J13_bitCount_95d88_11 kl_17_316 (by decide) ?_
  refine Tr.land (pc := 14) d_J13_bitCount_95d88_14 ?_
  refine Tr.gen (P := fun v => (-9223372036854775808) ≤ v ∧ v ≤ 9223372036854775807) (i64_b _) (fun r14 er14 br14 => ?_)
  refine Tr.lload_n (pc := 15) (i := 0) d_J13_bitCount_95d88_15 rfl rfl ?_
  refine Tr.iconst (pc := 16) d_J13_bitCount_95d88_16 (by decide) ?_
  refine Tr.lushr (pc := 17) d_J13_bitCount_95d88_17 ?_
  refine Tr.gen (P := fun v => (-9223372036854775808) ≤ v ∧ v ≤ 9223372036854775807) (i64_b _) (fun r17 er17 br17 => ?_)
  refine Tr.ldc2 (pc := 18) d_J13_bitCount_95d88_18 kl_17_316 (by decide) ?_
  refine Tr.land (pc := 21) d_J13_bitCount_95d88_21 ?_
  refine Tr.gen (P := fun v => (-9223372036854775808) ≤ v ∧ v ≤ 9223372036854775807) (i64_b _) (fun r21 er21 br21 => ?_)
  refine Tr.ladd (pc := 22) d_J13_bitCount_95d88_22 ?_
  refine Tr.gen (P := fun v => (-9223372036854775808) ≤ v ∧ v ≤ 9223372036854775807) (w64_b _) (fun r22 er22 br22 => ?_)
  refine Tr.lstore_n (pc := 23) (i := 0) (ls2 := [(0, (1, r22))]) d_J13_bitCount_95d88_23 rfl (by decide) rfl ?_
  refine Tr.lload_n (pc := 24) (i := 0) d_J13_bitCount_95d88_24 rfl rfl ?_
  refine Tr.lload_n (pc := 25) (i := 0) d_J13_bitCount_95d88_25 rfl rfl ?_
  refine Tr.iconst (pc := 26) d_J13_bitCount_95d88_26 (by decide) ?_
  refine Tr.lushr (pc := 27) d_J13_bitCount_95d88_27 ?_
  refine Tr.gen (P := fun v => (-9223372036854775808) ≤ v ∧ v ≤ 9223372036854775807) (i64_b _) (fun r27 er27 br27 => ?_)
  refine Tr.ladd (pc := 28) d_J13_bitCount_95d88_28 ?_
  refine Tr.gen (P := fun v => (-9223372036854775808) ≤ v ∧ v ≤ 9223372036854775807) (w64_b _) (fun r28 er28 br28 => ?_)
  refine Tr.ldc2 (pc := 29) d_J13_bitCount_95d88_29 kl_17_318 (by decide) ?_
  refine Tr.land (pc := 32) d_J13_bitCount_95d88_32 ?_
  refine Tr.gen (P := fun v => (-9223372036854775808) ≤ v ∧ v ≤ 9223372036854775807) (i64_b _) (fun r32 er32 br32 => ?_)
  refine Tr.lstore_n (pc := 33) (i := 0) (ls2 := [(0, (1, r32))]) d_J13_bitCount_95d88_33 rfl (by decide) rfl ?_
  refine Tr.lload_n (pc := 34) (i := 0) d_J13_bitCount_95d88_34 rfl rfl ?_
  refine Tr.lload_n (pc := 35) (i := 0) d_J13_bitCount_95d88_35 rfl rfl ?_
  refine Tr.bipush (pc := 36) d_J13_bitCount_95d88_36 rfl (by decide) ?_
  refine Tr.lushr (pc := 38) d_J13_bitCount_95d88_38 ?_
  refine Tr.gen (P := fun v => v = (r32 % 18446744073709551616) / 256 ∧ (0 ≤ v ∧ v ≤ 72057594037927935)) ⟨(lushr_p8 _).2, (lushr_p8 _).1⟩ (fun r38 er38 br38 => ?_)
  refine Tr.ladd (pc := 39) d_J13_bitCount_95d88_39 ?_
  refine Tr.gen (P := fun v => (-9223372036854775808) ≤ v ∧ v ≤ 9223372036854775807) (w64_b _) (fun r39 er39 br39 => ?_)
  refine Tr.lstore_n (pc := 40) (i := 0) (ls2 := [(0, (1, r39))]) d_J13_bitCount_95d88_40 rfl (by decide) rfl ?_
  refine Tr.lload_n (pc := 41) (i := 0) d_J13_bitCount_95d88_41 rfl rfl ?_
  refine Tr.lload_n (pc := 42) (i := 0) d_J13_bitCount_95d88_42 rfl rfl ?_
  refine Tr.bipush (pc := 43) d_J13_bitCount_95d88_43 rfl (by decide) ?_
  refine Tr.lushr (pc := 45) d_J13_bitCount_95d88_45 ?_
  refine Tr.gen (P := fun v => (-9223372036854775808) ≤ v ∧ v ≤ 9223372036854775807) (i64_b _) (fun r45 er45 br45 => ?_)
  refine Tr.ladd (pc := 46) d_J13_bitCount_95d88_46 ?_
  refine Tr.gen (P := fun v => (-9223372036854775808) ≤ v ∧ v ≤ 9223372036854775807) (w64_b _) (fun r46 er46 br46 => ?_)
  refine Tr.lstore_n (pc := 47) (i := 0) (ls2 := [(0, (1, r46))]) d_J13_bitCount_95d88_47 rfl (by decide) rfl ?_
  refine Tr.lload_n (pc := 48) (i := 0) d_J13_bitCount_95d88_48 rfl rfl ?_
  refine Tr.lload_n (pc := 49) (i := 0) d_J13_bitCount_95d88_49 rfl rfl ?_
  refine Tr.bipush (pc := 50) d_J13_bitCount_95d88_50 rfl (by decide) ?_
  refine Tr.lushr (pc := 52) d_J13_bitCount_95d88_52 ?_
  refine Tr.gen (P := fun v => (-9223372036854775808) ≤ v ∧ v ≤ 9223372036854775807) (i64_b _) (fun r52 er52 br52 => ?_)
  refine Tr.ladd (pc := 53) d_J13_bitCount_95d88_53 ?_
  refine Tr.gen (P := fun v => (-9223372036854775808) ≤ v ∧ v ≤ 9223372036854775807) (w64_b _) (fun r53 er53 br53 => ?_)
  refine Tr.lstore_n (pc := 54) (i := 0) (ls2 := [(0, (1, r53))]) d_J13_bitCount_95d88_54 rfl (by decide) rfl ?_
  refine Tr.lload_n (pc := 55) (i := 0) d_J13_bitCount_95d88_55 rfl rfl ?_
  refine Tr.l2i (pc := 56) d_J13_bitCount_95d88_56 ?_
  refine Tr.gen (P := fun v => (-2147483648) ≤ v ∧ v ≤ 2147483647) (w32_b _) (fun r56 er56 br56 => ?_)
  refine Tr.bipush (pc := 57) d_J13_bitCount_95d88_57 rfl (by decide) ?_
  refine Tr.iand (pc := 59) d_J13_bitCount_95d88_59 ?_
  refine Tr.gen (P := fun v => (-2147483648) ≤ v ∧ v ≤ 2147483647) (i32_b _) (fun r59 er59 br59 => ?_)
  exact Tr.iret (pc := 60) d_J13_bitCount_95d88_60 rfl ⟨hS, _, rfl, by omega, by omega, (by have h8 := bc_fin (bc_J (a := a0) (e1 := r8) (e2 := r22) (e3 := r32) (e4 := r39) (e5 := r46) (e6 := r53) (by rw [er3, er7]; exact er8) (by rw [er14, er17, er21]; exact er22) (by rw [er27, er28]; exact er32) (by rw [er38]; exact er39) (by rw [er45]; exact er46) (by rw [er52]; exact er53)); rw [er56, er59] at h8; have h7 : (pop a0 : Int) ≤ 64 := (by have := pop_le a0; omega); have h6 : r59 = pop a0 := h8; omega)⟩

def ws_X1_part : List (Int × Int) := []
def as_X1_part : List Int := []
def q_X1_part (M0 M' : Mem) (r : Option PV) : Prop := St Tru ws_X1_part as_X1_part M0 M' ∧ ∃ v : Int, r = some (0, v) ∧ (-2147483648) ≤ v ∧ v ≤ 2147483647
set_option maxRecDepth 100000 in
set_option maxHeartbeats 4000000 in
theorem sp_X1_part {l : Launch} {K : EC} {M0 : Mem} (hI : In Tru M0)  (a0 : Int) (ha0 : (-2147483648) ≤ a0 ∧ a0 ≤ 2147483647) (a1 : Int) (ha1 : (-9223372036854775808) ≤ a1 ∧ a1 ≤ 9223372036854775807) (a3 : Int) (ha3 : 0 ≤ a3 ∧ a3 ≤ 59)  : Tr l K 1 mX1_part 0 [(0, (0, a0)), (1, (1, a1)), (3, (0, a3))] [] M0 (q_X1_part M0) := by
  have hS : St Tru ws_X1_part as_X1_part M0 M0 := St.rf hI
  refine Tr.lload_n (pc := 0) (i := 1) d_X1_part_0 rfl rfl ?_
  refine Tr.callS (pc := 1) (as := [_]) d_X1_part_1 s_1_111 ok_J13_bitCount_95d88 rfl rfl (Nat.le_of_ble_eq_true rfl) (Nat.le_of_ble_eq_true rfl) ?_
  refine Tr.imp (Tr.deep (by decide) (sp_J13_bitCount_95d88 hS.1 a1 (by omega))) ?_
  rintro M1 _ ⟨h1, r1, rfl, lr1, ur1, wr1⟩
  have hS := St.tr hS h1 (by decide) (by decide)
  refine Tr.sc [(0, r1)] rfl ?_
  refine Tr.istore (pc := 4) (i := 4) (ls2 := [(4, (0, r1)), (0, (0, a0)), (1, (1, a1)), (3, (0, a3))]) d_X1_part_4 (by decide) rfl ?_
  refine Tr.lload_n (pc := 6) (i := 1) d_X1_part_6 rfl rfl ?_
  refine Tr.lconst (pc := 7) (v := 1) d_X1_part_7 rfl (by decide) ?_
  refine Tr.iload_n (pc := 8) (i := 3) d_X1_part_8 rfl rfl ?_
  refine Tr.lshl (pc := 9) d_X1_part_9 ?_
  refine Tr.gen (P := fun v => (-9223372036854775808) ≤ v ∧ v ≤ 9223372036854775807) (i64_b _) (fun r9 er9 br9 => ?_)
  refine Tr.lconst (pc := 10) (v := 1) d_X1_part_10 rfl (by decide) ?_
  refine Tr.lsub (pc := 11) d_X1_part_11 ?_
  refine Tr.gen (P := fun v => (-9223372036854775808) ≤ v ∧ v ≤ 9223372036854775807) (w64_b _) (fun r11 er11 br11 => ?_)
  refine Tr.land (pc := 12) d_X1_part_12 ?_
  refine Tr.gen (P := fun v => (-9223372036854775808) ≤ v ∧ v ≤ 9223372036854775807) (i64_b _) (fun r12 er12 br12 => ?_)
  refine Tr.callS (pc := 13) (as := [_]) d_X1_part_13 s_1_111 ok_J13_bitCount_95d88 rfl rfl (Nat.le_of_ble_eq_true rfl) (Nat.le_of_ble_eq_true rfl) ?_
  refine Tr.imp (Tr.deep (by decide) (sp_J13_bitCount_95d88 hS.1 r12 (by omega))) ?_
  rintro M13 _ ⟨h13, r13, rfl, lr13, ur13, wr13⟩
  have hS := St.tr hS h13 (by decide) (by decide)
  refine Tr.sc [(0, r13)] rfl ?_
  refine Tr.istore (pc := 16) (i := 5) (ls2 := [(5, (0, r13)), (4, (0, r1)), (0, (0, a0)), (1, (1, a1)), (3, (0, a3))]) d_X1_part_16 (by decide) rfl ?_
  refine Tr.iload (pc := 18) (i := 4) d_X1_part_18 rfl ?_
  refine Tr.if_ne (pc := 20) (tgt := 25) d_X1_part_20 rfl (fun c20 => ?_) (fun c20 => ?_)
  · refine Tr.iload_n (pc := 25) (i := 0) d_X1_part_25 rfl rfl ?_
    refine Tr.iload (pc := 26) (i := 4) d_X1_part_26 rfl ?_
    refine Tr.idiv (pc := 28) d_X1_part_28 (by omega) ?_
    refine Tr.gen (P := fun v => (-2147483648) ≤ v ∧ v ≤ 2147483647) (w32_b _) (fun r28 er28 br28 => ?_)
    refine Tr.iload (pc := 29) (i := 5) d_X1_part_29 rfl ?_
    refine Tr.iload_n (pc := 31) (i := 0) d_X1_part_31 rfl rfl ?_
    refine Tr.iload (pc := 32) (i := 4) d_X1_part_32 rfl ?_
    refine Tr.irem (pc := 34) d_X1_part_34 (by omega) ?_
    refine Tr.gen (P := fun v => (-2147483648) ≤ v ∧ v ≤ 2147483647) (rem32_b _ _ (by omega)) (fun r34 er34 br34 => ?_)
    refine Tr.icmp_ge (pc := 35) (tgt := 42) d_X1_part_35 rfl (fun c35 => ?_) (fun c35 => ?_)
    · refine Tr.iconst (pc := 42) d_X1_part_42 (by decide) ?_
      refine Tr.iadd (pc := 43) d_X1_part_43 ?_
      refine Tr.tp r28 ((w32_id (by omega)).trans (by omega)) ?_
      exact Tr.iret (pc := 44) d_X1_part_44 rfl ⟨hS, _, rfl, by omega, by omega⟩
    · refine Tr.iconst (pc := 38) d_X1_part_38 (by decide) ?_
      refine Tr.goto (pc := 39) (tgt := 43) d_X1_part_39 rfl ?_
      refine Tr.iadd (pc := 43) d_X1_part_43 ?_
      refine Tr.gen (P := fun v => (-2147483648) ≤ v ∧ v ≤ 2147483647) (w32_b _) (fun r43 er43 br43 => ?_)
      exact Tr.iret (pc := 44) d_X1_part_44 rfl ⟨hS, _, rfl, by omega, by omega⟩
  · refine Tr.iconst (pc := 23) d_X1_part_23 (by decide) ?_
    exact Tr.iret (pc := 24) d_X1_part_24 rfl ⟨hS, _, rfl, by omega, by omega⟩

def ws_X1_paysInParts_56 : List (Int × Int) := []
def as_X1_paysInParts_56 : List Int := []
def q_X1_paysInParts_56 (M0 M' : Mem) (r : Option PV) : Prop := St Tru ws_X1_paysInParts_56 as_X1_paysInParts_56 M0 M' ∧ ∃ v : Int, r = some (0, v) ∧ (-2147483648) ≤ v ∧ v ≤ 2147483647
set_option maxRecDepth 100000 in
set_option maxHeartbeats 4000000 in
theorem sp_X1_paysInParts_56 {l : Launch} {K : EC} {M0 : Mem} (hI : In Tru M0) (en_56_1 : rd M0 56 1 = 7) (a1 : Int) (ha1 : 0 ≤ a1 ∧ a1 ≤ 59)  : Tr l K 2 mX1_paysInParts 0 [(0, (2, 56)), (1, (0, a1))] [] M0 (q_X1_paysInParts_56 M0) := by
  have hS : St Tru ws_X1_paysInParts_56 as_X1_paysInParts_56 M0 M0 := St.rf hI
  obtain ⟨g63_1, eg63_1⟩ : ∃ v, rd M0 63 1 = v := ⟨_, rfl⟩
  have bg63_1 : (-1000000000) ≤ g63_1 ∧ g63_1 ≤ 1000000000 := by rw [← eg63_1]; exact ir_63_1 hI.2.1
  obtain ⟨g63_0, eg63_0⟩ : ∃ v, rd M0 63 0 = v := ⟨_, rfl⟩
  have bg63_0 : (-2147483648) ≤ g63_0 ∧ g63_0 ≤ 2147483647 := by rw [← eg63_0]; exact ir_63_0 hI.2.1
  refine Tr.aload_n (pc := 0) (i := 0) d_X1_paysInParts_0 rfl rfl ?_
  refine Tr.getf (pc := 1) d_X1_paysInParts_1 f_1_21 (by decide) (by decide) (ty_56 hS.1.1) ?_
  refine Tr.tp 60 (fx_56_5 hS.1.1) ?_
  refine Tr.iload_n (pc := 4) (i := 1) d_X1_paysInParts_4 rfl rfl ?_
  refine Tr.iald (pc := 5) d_X1_paysInParts_5 (ty_60 hS.1.1) (by omega) (by omega) ?_
  refine Tr.gen (P := fun v => (-2147483648) ≤ v ∧ v ≤ 2147483647) (ar_60 hS.1.2.1 _) (fun r5 er5 br5 => ?_)
  refine Tr.istore_n (pc := 6) (i := 2) (ls2 := [(2, (0, r5)), (0, (2, 56)), (1, (0, a1))]) d_X1_paysInParts_6 rfl (by decide) rfl ?_
  refine Tr.iconst (pc := 7) d_X1_paysInParts_7 (by decide) ?_
  refine Tr.istore_n (pc := 8) (i := 3) (ls2 := [(3, (0, 0)), (2, (0, r5)), (0, (2, 56)), (1, (0, a1))]) d_X1_paysInParts_8 rfl (by decide) rfl ?_
  have J9 : ∀ (n9 : Nat) (M : Mem) (p9_2 p9_3 : Int), St Tru ws_X1_paysInParts_56 as_X1_paysInParts_56 M0 M → ((-2147483648) ≤ p9_2 ∧ p9_2 ≤ 2147483647) → (0 ≤ p9_3 ∧ p9_3 ≤ 2016) → rd M 60 a1 = r5 → rd M 63 0 = g63_0 → rd M 63 1 = g63_1 → (2016 - p9_3).toNat < n9 → Tr l K 2 mX1_paysInParts 9 [(0, (2, 56)), (1, (0, a1)), (2, (0, p9_2)), (3, (0, p9_3))] [] M (q_X1_paysInParts_56 M0) := by
    intro n9
    induction n9 with
    | zero => intro M p9_2 p9_3 hS bp9_2 bp9_3 k9_60_a110 k9_63_0 k9_63_1 hm9; exact absurd hm9 (Nat.not_lt_zero _)
    | succ n9 J9 =>
      intro M p9_2 p9_3 hS bp9_2 bp9_3 k9_60_a110 k9_63_0 k9_63_1 hm9
      refine Tr.iload_n (pc := 9) (i := 3) d_X1_paysInParts_9 rfl rfl ?_
      refine Tr.aload_n (pc := 10) (i := 0) d_X1_paysInParts_10 rfl rfl ?_
      refine Tr.getf (pc := 11) d_X1_paysInParts_11 f_1_33 (by decide) (by decide) (ty_56 hS.1.1) ?_
      refine Tr.tp 63 (fx_56_8 hS.1.1) ?_
      refine Tr.getf (pc := 14) d_X1_paysInParts_14 f_1_94 (by decide) (by decide) (ty_63 hS.1.1) ?_
      refine Tr.tp g63_0 k9_63_0 ?_
      refine Tr.icmp_ge (pc := 17) (tgt := 95) d_X1_paysInParts_17 rfl (fun c17 => ?_) (fun c17 => ?_)
      · refine Tr.iload_n (pc := 95) (i := 2) d_X1_paysInParts_95 rfl rfl ?_
        exact Tr.iret (pc := 96) d_X1_paysInParts_96 rfl ⟨hS, _, rfl, by omega, by omega⟩
      · refine Tr.aload_n (pc := 20) (i := 0) d_X1_paysInParts_20 rfl rfl ?_
        refine Tr.getf (pc := 21) d_X1_paysInParts_21 f_1_33 (by decide) (by decide) (ty_56 hS.1.1) ?_
        refine Tr.tp 63 (fx_56_8 hS.1.1) ?_
        refine Tr.getf (pc := 24) d_X1_paysInParts_24 f_1_97 (by decide) (by decide) (ty_63 hS.1.1) ?_
        refine Tr.gen (P := fun v => v = tref g63_1 5) (tl_ref hS k9_63_1 (by decide)) (fun t24 et24 bt24 => ?_)
        refine Tr.iload_n (pc := 27) (i := 3) d_X1_paysInParts_27 rfl rfl ?_
        have nk28_0 : rd M 63 0 = g63_0 := k9_63_0
        have nn28 := tl_n hS k9_63_1
        refine Tr.lald (pc := 28) d_X1_paysInParts_28 (tl_tyL hS k9_63_1 bt24) (by omega) (by omega) ?_
        refine Tr.gen (P := fun v => (-9223372036854775808) ≤ v ∧ v ≤ 9223372036854775807) (tl_eL hS k9_63_1 bt24 (by omega) (by omega)) (fun r28 er28 br28 => ?_)
        refine Tr.iload_n (pc := 29) (i := 1) d_X1_paysInParts_29 rfl rfl ?_
        refine Tr.lshr (pc := 30) d_X1_paysInParts_30 ?_
        refine Tr.gen (P := fun v => (-9223372036854775808) ≤ v ∧ v ≤ 9223372036854775807) (i64_b _) (fun r30 er30 br30 => ?_)
        refine Tr.lconst (pc := 31) (v := 1) d_X1_paysInParts_31 rfl (by decide) ?_
        refine Tr.land (pc := 32) d_X1_paysInParts_32 ?_
        refine Tr.gen (P := fun v => v = r30 % 2 ∧ (0 ≤ v ∧ v ≤ 1)) ⟨(f_land_1 _).1, (f_land_1 _).2⟩ (fun r32 er32 br32 => ?_)
        refine Tr.lconst (pc := 33) (v := 1) d_X1_paysInParts_33 rfl (by decide) ?_
        refine Tr.lcmp (pc := 34) d_X1_paysInParts_34 ?_
        refine Tr.gen (P := fun v => (v = 1 ∧ 1 < r32) ∨ (v = 0 ∧ r32 = 1) ∨ (v = -1 ∧ r32 < 1)) (f_lcmp_c _ _) (fun r34 er34 br34 => ?_)
        have J89 : ∀ (M : Mem) (p89_2 : Int), St Tru ws_X1_paysInParts_56 as_X1_paysInParts_56 M0 M → ((-2147483648) ≤ p89_2 ∧ p89_2 ≤ 2147483647) → rd M 60 a1 = r5 → rd M 63 0 = g63_0 → rd M 63 1 = g63_1 → Tr l K 2 mX1_paysInParts 89 [(0, (2, 56)), (1, (0, a1)), (2, (0, p89_2)), (3, (0, p9_3))] [] M (q_X1_paysInParts_56 M0) := by
          intro M p89_2 hS bp89_2 k89_60_a110 k89_63_0 k89_63_1
          refine Tr.iincV (pc := 89) (n2 := (p9_3 + 1)) (ls2 := [(3, (0, (p9_3 + 1))), (0, (2, 56)), (1, (0, a1)), (2, (0, p89_2))]) d_X1_paysInParts_89 rfl (by decide) ((w32_id (by omega)).trans (by omega)) rfl ?_
          refine Tr.goto (pc := 92) (tgt := 9) d_X1_paysInParts_92 rfl ?_
          refine Tr.pick [1, 2, 3, 0] (ls2 := [(0, (2, 56)), (1, (0, a1)), (2, (0, p89_2)), (3, (0, (p9_3 + 1)))]) rfl ?_
          exact J9 _ _ _ hS (by omega) (by omega) k89_60_a110 k89_63_0 k89_63_1 (by omega)
        refine Tr.if_ne (pc := 35) (tgt := 89) d_X1_paysInParts_35 rfl (fun c35 => ?_) (fun c35 => ?_)
        · refine Tr.pick [0, 1, 2, 3] (ls2 := [(0, (2, 56)), (1, (0, a1)), (2, (0, p9_2)), (3, (0, p9_3))]) rfl ?_
          exact J89 _ _ hS (by omega) k9_60_a110 k9_63_0 k9_63_1
        · refine Tr.aload_n (pc := 38) (i := 0) d_X1_paysInParts_38 rfl rfl ?_
          refine Tr.getf (pc := 39) d_X1_paysInParts_39 f_1_33 (by decide) (by decide) (ty_56 hS.1.1) ?_
          refine Tr.tp 63 (fx_56_8 hS.1.1) ?_
          refine Tr.getf (pc := 42) d_X1_paysInParts_42 f_1_101 (by decide) (by decide) (ty_63 hS.1.1) ?_
          refine Tr.gen (P := fun v => v = tref g63_1 4) (tl_ref hS k9_63_1 (by decide)) (fun t42 et42 bt42 => ?_)
          refine Tr.iload_n (pc := 45) (i := 3) d_X1_paysInParts_45 rfl rfl ?_
          have nk46_0 : rd M 63 0 = g63_0 := k9_63_0
          have nn46 := tl_n hS k9_63_1
          refine Tr.iald (pc := 46) d_X1_paysInParts_46 (tl_tyI hS k9_63_1 (j := 4) (by decide) (by decide) bt42) (by omega) (by omega) ?_
          refine Tr.gen (P := fun v => (-2147483648) ≤ v ∧ v ≤ 2147483647) (tl_eI hS k9_63_1 (j := 4) (by decide) (by decide) bt42 (by omega) (by omega)) (fun r46 er46 br46 => ?_)
          refine Tr.aload_n (pc := 47) (i := 0) d_X1_paysInParts_47 rfl rfl ?_
          refine Tr.getf (pc := 48) d_X1_paysInParts_48 f_1_41 (by decide) (by decide) (ty_56 hS.1.1) ?_
          refine Tr.tp 7 ((St.kp hS (by decide) (by decide) (by decide)).trans en_56_1) ?_
          refine Tr.getf (pc := 51) d_X1_paysInParts_51 f_1_71 (by decide) (by decide) (ty_7 hS.1.1) ?_
          refine Tr.tp 9 (fx_7_5 hS.1.1) ?_
          refine Tr.aload_n (pc := 54) (i := 0) d_X1_paysInParts_54 rfl rfl ?_
          refine Tr.getf (pc := 55) d_X1_paysInParts_55 f_1_33 (by decide) (by decide) (ty_56 hS.1.1) ?_
          refine Tr.tp 63 (fx_56_8 hS.1.1) ?_
          refine Tr.getf (pc := 58) d_X1_paysInParts_58 f_1_104 (by decide) (by decide) (ty_63 hS.1.1) ?_
          refine Tr.gen (P := fun v => v = tref g63_1 1) (tl_ref hS k9_63_1 (by decide)) (fun t58 et58 bt58 => ?_)
          refine Tr.iload_n (pc := 61) (i := 3) d_X1_paysInParts_61 rfl rfl ?_
          have nk62_0 : rd M 63 0 = g63_0 := k9_63_0
          have nn62 := tl_n hS k9_63_1
          refine Tr.iald (pc := 62) d_X1_paysInParts_62 (tl_tyI hS k9_63_1 (j := 1) (by decide) (by decide) bt58) (by omega) (by omega) ?_
          refine Tr.gen (P := fun v => 0 ≤ v ∧ v ≤ 5) (tl_eP hS k9_63_1 (j := 1) (by decide) (by decide) bt58 (by omega) (by omega)) (fun r62 er62 br62 => ?_)
          refine Tr.iconst (pc := 63) d_X1_paysInParts_63 (by decide) ?_
          refine Tr.imul (pc := 64) d_X1_paysInParts_64 ?_
          refine Tr.tp (4 * r62) ((w32_id (by omega)).trans (by omega)) ?_
          refine Tr.iconst (pc := 65) d_X1_paysInParts_65 (by decide) ?_
          refine Tr.iadd (pc := 66) d_X1_paysInParts_66 ?_
          refine Tr.tp (4 * r62 + 2) ((w32_id (by omega)).trans (by omega)) ?_
          refine Tr.iald (pc := 67) d_X1_paysInParts_67 (ty_9 hS.1.1) (by omega) (by omega) ?_
          refine Tr.gen (P := fun v => (-1) ≤ v ∧ v ≤ 999) (ar_9 hS.1.2.1 _) (fun r67 er67 br67 => ?_)
          refine Tr.imul (pc := 68) d_X1_paysInParts_68 ?_
          refine Tr.gen (P := fun v => (-2147483648) ≤ v ∧ v ≤ 2147483647) (w32_b _) (fun r68 er68 br68 => ?_)
          refine Tr.istore (pc := 69) (i := 4) (ls2 := [(4, (0, r68)), (0, (2, 56)), (1, (0, a1)), (2, (0, p9_2)), (3, (0, p9_3))]) d_X1_paysInParts_69 (by decide) rfl ?_
          refine Tr.iload_n (pc := 71) (i := 2) d_X1_paysInParts_71 rfl rfl ?_
          refine Tr.iload (pc := 72) (i := 4) d_X1_paysInParts_72 rfl ?_
          refine Tr.aload_n (pc := 74) (i := 0) d_X1_paysInParts_74 rfl rfl ?_
          refine Tr.getf (pc := 75) d_X1_paysInParts_75 f_1_33 (by decide) (by decide) (ty_56 hS.1.1) ?_
          refine Tr.tp 63 (fx_56_8 hS.1.1) ?_
          refine Tr.getf (pc := 78) d_X1_paysInParts_78 f_1_97 (by decide) (by decide) (ty_63 hS.1.1) ?_
          refine Tr.gen (P := fun v => v = tref g63_1 5) (tl_ref hS k9_63_1 (by decide)) (fun t78 et78 bt78 => ?_)
          refine Tr.iload_n (pc := 81) (i := 3) d_X1_paysInParts_81 rfl rfl ?_
          have nk82_0 : rd M 63 0 = g63_0 := k9_63_0
          have nn82 := tl_n hS k9_63_1
          refine Tr.lald (pc := 82) d_X1_paysInParts_82 (tl_tyL hS k9_63_1 bt78) (by omega) (by omega) ?_
          refine Tr.gen (P := fun v => (-9223372036854775808) ≤ v ∧ v ≤ 9223372036854775807) (tl_eL hS k9_63_1 bt78 (by omega) (by omega)) (fun r82 er82 br82 => ?_)
          refine Tr.iload_n (pc := 83) (i := 1) d_X1_paysInParts_83 rfl rfl ?_
          refine Tr.callS (pc := 84) (as := [_, _, _]) d_X1_paysInParts_84 s_1_107 ok_X1_part rfl rfl (Nat.le_of_ble_eq_true rfl) (Nat.le_of_ble_eq_true rfl) ?_
          refine Tr.imp (Tr.deep (by decide) (sp_X1_part hS.1 r68 (by omega) r82 (by omega) a1 (by omega))) ?_
          rintro M84 _ ⟨h84, r84, rfl, lr84, ur84⟩
          have hS := St.tr hS h84 (by decide) (by decide)
          refine Tr.sc [(0, r84), (0, p9_2)] rfl ?_
          refine Tr.iadd (pc := 87) d_X1_paysInParts_87 ?_
          refine Tr.gen (P := fun v => (-2147483648) ≤ v ∧ v ≤ 2147483647) (w32_b _) (fun r87 er87 br87 => ?_)
          refine Tr.istore_n (pc := 88) (i := 2) (ls2 := [(2, (0, r87)), (4, (0, r68)), (0, (2, 56)), (1, (0, a1)), (3, (0, p9_3))]) d_X1_paysInParts_88 rfl (by decide) rfl ?_
          refine Tr.pick [2, 3, 0, 4] (ls2 := [(0, (2, 56)), (1, (0, a1)), (2, (0, r87)), (3, (0, p9_3))]) rfl ?_
          exact J89 _ _ hS (by omega) ((St.ka h84 (by decide) (by decide) (by decide)).trans k9_60_a110) ((St.kp h84 (by decide) (by decide) (by decide)).trans k9_63_0) ((St.kp h84 (by decide) (by decide) (by decide)).trans k9_63_1)
  refine Tr.pick [2, 3, 1, 0] (ls2 := [(0, (2, 56)), (1, (0, a1)), (2, (0, r5)), (3, (0, 0))]) rfl ?_
  exact J9 _ _ _ _ hS (by omega) (by omega) er5 eg63_0 eg63_1 (Nat.lt_succ_self _)
end
/-! 30.01 -/
section
def ws_X1_paysAsLast_56 : List (Int × Int) := []
def as_X1_paysAsLast_56 : List Int := []
def q_X1_paysAsLast_56 (M0 M' : Mem) (r : Option PV) : Prop := St Tru ws_X1_paysAsLast_56 as_X1_paysAsLast_56 M0 M' ∧ ∃ v : Int, r = some (0, v) ∧ (-2147483648) ≤ v ∧ v ≤ 2147483647
set_option maxRecDepth 100000 in
set_option maxHeartbeats 4000000 in
theorem sp_X1_paysAsLast_56 {l : Launch} {K : EC} {M0 : Mem} (hI : In Tru M0)  (a1 : Int) (ha1 : 0 ≤ a1 ∧ a1 ≤ 59)  : Tr l K 0 mX1_paysAsLast 0 [(0, (2, 56)), (1, (0, a1))] [] M0 (q_X1_paysAsLast_56 M0) := by
  have hS : St Tru ws_X1_paysAsLast_56 as_X1_paysAsLast_56 M0 M0 := St.rf hI
  refine Tr.aload_n (pc := 0) (i := 0) d_X1_paysAsLast_0 rfl rfl ?_
  refine Tr.getf (pc := 1) d_X1_paysAsLast_1 f_1_21 (by decide) (by decide) (ty_56 hS.1.1) ?_
  refine Tr.tp 60 (fx_56_5 hS.1.1) ?_
  refine Tr.iload_n (pc := 4) (i := 1) d_X1_paysAsLast_4 rfl rfl ?_
  refine Tr.iald (pc := 5) d_X1_paysAsLast_5 (ty_60 hS.1.1) (by omega) (by omega) ?_
  refine Tr.gen (P := fun v => (-2147483648) ≤ v ∧ v ≤ 2147483647) (ar_60 hS.1.2.1 _) (fun r5 er5 br5 => ?_)
  refine Tr.aload_n (pc := 6) (i := 0) d_X1_paysAsLast_6 rfl rfl ?_
  refine Tr.getf (pc := 7) d_X1_paysAsLast_7 f_1_24 (by decide) (by decide) (ty_56 hS.1.1) ?_
  refine Tr.tp 61 (fx_56_6 hS.1.1) ?_
  refine Tr.iload_n (pc := 10) (i := 1) d_X1_paysAsLast_10 rfl rfl ?_
  refine Tr.iald (pc := 11) d_X1_paysAsLast_11 (ty_61 hS.1.1) (by omega) (by omega) ?_
  refine Tr.gen (P := fun v => (-2147483648) ≤ v ∧ v ≤ 2147483647) (ar_61 hS.1.2.1 _) (fun r11 er11 br11 => ?_)
  refine Tr.iadd (pc := 12) d_X1_paysAsLast_12 ?_
  refine Tr.gen (P := fun v => (-2147483648) ≤ v ∧ v ≤ 2147483647) (w32_b _) (fun r12 er12 br12 => ?_)
  exact Tr.iret (pc := 13) d_X1_paysAsLast_13 rfl ⟨hS, _, rfl, by omega, by omega⟩

def ws_X1_sippedAsleep_56 : List (Int × Int) := []
def as_X1_sippedAsleep_56 : List Int := []
def q_X1_sippedAsleep_56 (M0 M' : Mem) (r : Option PV) : Prop := St Tru ws_X1_sippedAsleep_56 as_X1_sippedAsleep_56 M0 M' ∧ ∃ v : Int, r = some (0, v) ∧ (-2147483648) ≤ v ∧ v ≤ 2147483647
set_option maxRecDepth 100000 in
set_option maxHeartbeats 4000000 in
theorem sp_X1_sippedAsleep_56 {l : Launch} {K : EC} {M0 : Mem} (hI : In Tru M0) (en_56_1 : rd M0 56 1 = 7)   : Tr l K 0 mX1_sippedAsleep 0 [(0, (2, 56))] [] M0 (q_X1_sippedAsleep_56 M0) := by
  have hS : St Tru ws_X1_sippedAsleep_56 as_X1_sippedAsleep_56 M0 M0 := St.rf hI
  refine Tr.iconst (pc := 0) d_X1_sippedAsleep_0 (by decide) ?_
  refine Tr.istore_n (pc := 1) (i := 1) (ls2 := [(1, (0, 0)), (0, (2, 56))]) d_X1_sippedAsleep_1 rfl (by decide) rfl ?_
  refine Tr.iconst (pc := 2) d_X1_sippedAsleep_2 (by decide) ?_
  refine Tr.istore_n (pc := 3) (i := 2) (ls2 := [(2, (0, 0)), (1, (0, 0)), (0, (2, 56))]) d_X1_sippedAsleep_3 rfl (by decide) rfl ?_
  have J4 : ∀ (n4 : Nat) (M : Mem) (p4_1 p4_2 : Int), St Tru ws_X1_sippedAsleep_56 as_X1_sippedAsleep_56 M0 M → ((-2147483648) ≤ p4_1 ∧ p4_1 ≤ 2147483647) → (0 ≤ p4_2 ∧ p4_2 ≤ 6) → (6 - p4_2).toNat < n4 → Tr l K 0 mX1_sippedAsleep 4 [(0, (2, 56)), (1, (0, p4_1)), (2, (0, p4_2))] [] M (q_X1_sippedAsleep_56 M0) := by
    intro n4
    induction n4 with
    | zero => intro M p4_1 p4_2 hS bp4_1 bp4_2  hm4; exact absurd hm4 (Nat.not_lt_zero _)
    | succ n4 J4 =>
      intro M p4_1 p4_2 hS bp4_1 bp4_2  hm4
      refine Tr.iload_n (pc := 4) (i := 2) d_X1_sippedAsleep_4 rfl rfl ?_
      refine Tr.aload_n (pc := 5) (i := 0) d_X1_sippedAsleep_5 rfl rfl ?_
      refine Tr.getf (pc := 6) d_X1_sippedAsleep_6 f_1_41 (by decide) (by decide) (ty_56 hS.1.1) ?_
      refine Tr.tp 7 ((St.kp hS (by decide) (by decide) (by decide)).trans en_56_1) ?_
      refine Tr.getf (pc := 9) d_X1_sippedAsleep_9 f_1_91 (by decide) (by decide) (ty_7 hS.1.1) ?_
      refine Tr.tp 8 (fx_7_4 hS.1.1) ?_
      refine Tr.iconst (pc := 12) d_X1_sippedAsleep_12 (by decide) ?_
      refine Tr.iald (pc := 13) d_X1_sippedAsleep_13 (ty_8 hS.1.1) (by omega) (by omega) ?_
      refine Tr.gen (P := fun v => 0 ≤ v ∧ v ≤ 6) (ir_8_0 hS.1.2.1) (fun r13 er13 br13 => ?_)
      refine Tr.icmp_ge (pc := 14) (tgt := 50) d_X1_sippedAsleep_14 rfl (fun c14 => ?_) (fun c14 => ?_)
      · refine Tr.iload_n (pc := 50) (i := 1) d_X1_sippedAsleep_50 rfl rfl ?_
        exact Tr.iret (pc := 51) d_X1_sippedAsleep_51 rfl ⟨hS, _, rfl, by omega, by omega⟩
      · refine Tr.iload_n (pc := 17) (i := 1) d_X1_sippedAsleep_17 rfl rfl ?_
        refine Tr.aload_n (pc := 18) (i := 0) d_X1_sippedAsleep_18 rfl rfl ?_
        refine Tr.getf (pc := 19) d_X1_sippedAsleep_19 f_1_9 (by decide) (by decide) (ty_56 hS.1.1) ?_
        refine Tr.tp 57 (fx_56_2 hS.1.1) ?_
        refine Tr.iload_n (pc := 22) (i := 2) d_X1_sippedAsleep_22 rfl rfl ?_
        refine Tr.iconst (pc := 23) d_X1_sippedAsleep_23 (by decide) ?_
        refine Tr.imul (pc := 24) d_X1_sippedAsleep_24 ?_
        refine Tr.tp (4 * p4_2) ((w32_id (by omega)).trans (by omega)) ?_
        refine Tr.iconst (pc := 25) d_X1_sippedAsleep_25 (by decide) ?_
        refine Tr.iadd (pc := 26) d_X1_sippedAsleep_26 ?_
        refine Tr.tp (4 * p4_2) ((w32_id (by omega)).trans (by omega)) ?_
        refine Tr.iald (pc := 27) d_X1_sippedAsleep_27 (ty_57 hS.1.1) (by omega) (by omega) ?_
        refine Tr.gen (P := fun v => (-2147483648) ≤ v ∧ v ≤ 2147483647) (ar_57 hS.1.2.1 _) (fun r27 er27 br27 => ?_)
        refine Tr.aload_n (pc := 28) (i := 0) d_X1_sippedAsleep_28 rfl rfl ?_
        refine Tr.getf (pc := 29) d_X1_sippedAsleep_29 f_1_41 (by decide) (by decide) (ty_56 hS.1.1) ?_
        refine Tr.tp 7 ((St.kp hS (by decide) (by decide) (by decide)).trans en_56_1) ?_
        refine Tr.getf (pc := 32) d_X1_sippedAsleep_32 f_1_71 (by decide) (by decide) (ty_7 hS.1.1) ?_
        refine Tr.tp 9 (fx_7_5 hS.1.1) ?_
        refine Tr.iload_n (pc := 35) (i := 2) d_X1_sippedAsleep_35 rfl rfl ?_
        refine Tr.iconst (pc := 36) d_X1_sippedAsleep_36 (by decide) ?_
        refine Tr.imul (pc := 37) d_X1_sippedAsleep_37 ?_
        refine Tr.tp (4 * p4_2) ((w32_id (by omega)).trans (by omega)) ?_
        refine Tr.iconst (pc := 38) d_X1_sippedAsleep_38 (by decide) ?_
        refine Tr.iadd (pc := 39) d_X1_sippedAsleep_39 ?_
        refine Tr.tp (4 * p4_2) ((w32_id (by omega)).trans (by omega)) ?_
        refine Tr.iald (pc := 40) d_X1_sippedAsleep_40 (ty_9 hS.1.1) (by omega) (by omega) ?_
        refine Tr.gen (P := fun v => (-1) ≤ v ∧ v ≤ 999) (ar_9 hS.1.2.1 _) (fun r40 er40 br40 => ?_)
        refine Tr.imul (pc := 41) d_X1_sippedAsleep_41 ?_
        refine Tr.gen (P := fun v => (-2147483648) ≤ v ∧ v ≤ 2147483647) (w32_b _) (fun r41 er41 br41 => ?_)
        refine Tr.iadd (pc := 42) d_X1_sippedAsleep_42 ?_
        refine Tr.gen (P := fun v => (-2147483648) ≤ v ∧ v ≤ 2147483647) (w32_b _) (fun r42 er42 br42 => ?_)
        refine Tr.istore_n (pc := 43) (i := 1) (ls2 := [(1, (0, r42)), (0, (2, 56)), (2, (0, p4_2))]) d_X1_sippedAsleep_43 rfl (by decide) rfl ?_
        refine Tr.iincV (pc := 44) (n2 := (p4_2 + 1)) (ls2 := [(2, (0, (p4_2 + 1))), (1, (0, r42)), (0, (2, 56))]) d_X1_sippedAsleep_44 rfl (by decide) ((w32_id (by omega)).trans (by omega)) rfl ?_
        refine Tr.goto (pc := 47) (tgt := 4) d_X1_sippedAsleep_47 rfl ?_
        refine Tr.pick [2, 1, 0] (ls2 := [(0, (2, 56)), (1, (0, r42)), (2, (0, (p4_2 + 1)))]) rfl ?_
        exact J4 _ _ _ hS (by omega) (by omega) (by omega)
  refine Tr.pick [2, 1, 0] (ls2 := [(0, (2, 56)), (1, (0, 0)), (2, (0, 0))]) rfl ?_
  exact J4 _ _ _ _ hS (by omega) (by omega) (Nat.lt_succ_self _)

def ws_X11_pays_0_w1 : List (Int × Int) := []
def as_X11_pays_0_w1 : List Int := []
def q_X11_pays_0_w1 (M0 M' : Mem) (r : Option PV) : Prop := St Tru ws_X11_pays_0_w1 as_X11_pays_0_w1 M0 M' ∧ ∃ v : Int, r = some (0, v) ∧ (-2147483648) ≤ v ∧ v ≤ 2147483647
set_option maxRecDepth 100000 in
set_option maxHeartbeats 4000000 in
theorem sp_X11_pays_0_w1 {l : Launch} {K : EC} {M0 : Mem} (hI : In Tru M0) (en_0_4 : rd M0 0 4 = 7) (en_0_9 : rd M0 0 9 = 1) (en_56_1 : rd M0 56 1 = 7) (a1 : Int) (ha1 : (-2147483648) ≤ a1 ∧ a1 ≤ 2147483647) (a2 : Int) (ha2 : (-2147483648) ≤ a2 ∧ a2 ≤ 2147483647)  : Tr l K 3 mX11_pays 0 [(0, (2, 0)), (1, (0, a1)), (2, (0, a2))] [] M0 (q_X11_pays_0_w1 M0) := by
  have hS : St Tru ws_X11_pays_0_w1 as_X11_pays_0_w1 M0 M0 := St.rf hI
  refine Tr.aload_n (pc := 0) (i := 0) d_X11_pays_0 rfl rfl ?_
  refine Tr.getz (pc := 1) d_X11_pays_1 f_11_109 (by decide) (ty_0 hS.1.1) ?_
  refine Tr.tp 1 ((St.kp hS (by decide) (by decide) (by decide)).trans en_0_9) ?_
  refine Tr.if_eq (pc := 4) (tgt := 16) d_X11_pays_4 rfl (fun hc => absurd hc (by omega)) (fun _ => ?_)
  refine Tr.iload_n (pc := 7) (i := 2) d_X11_pays_7 rfl rfl ?_
  refine Tr.if_lt (pc := 8) (tgt := 16) d_X11_pays_8 rfl (fun c8 => ?_) (fun c8 => ?_)
  · refine Tr.iconst (pc := 16) d_X11_pays_16 (by decide) ?_
    exact Tr.iret (pc := 17) d_X11_pays_17 rfl ⟨hS, _, rfl, by omega, by omega⟩
  · refine Tr.iload_n (pc := 11) (i := 2) d_X11_pays_11 rfl rfl ?_
    refine Tr.iconst (pc := 12) d_X11_pays_12 (by decide) ?_
    refine Tr.icmp_le (pc := 13) (tgt := 18) d_X11_pays_13 rfl (fun c13 => ?_) (fun c13 => ?_)
    · refine Tr.iload_n (pc := 18) (i := 1) d_X11_pays_18 rfl rfl ?_
      refine Tr.iconst (pc := 19) d_X11_pays_19 (by decide) ?_
      refine Tr.icmp_ne (pc := 20) (tgt := 34) d_X11_pays_20 rfl (fun c20 => ?_) (fun c20 => ?_)
      · refine Tr.aload_n (pc := 34) (i := 0) d_X11_pays_34 rfl rfl ?_
        refine Tr.iload_n (pc := 35) (i := 1) d_X11_pays_35 rfl rfl ?_
        refine Tr.callV (pc := 36) (as := [_]) d_X11_pays_36 s_11_191 ok_X11_isLine rfl rfl (Nat.le_of_ble_eq_true rfl) (Nat.le_of_ble_eq_true rfl) (by decide) (ty_0 hS.1.1) ?_
        refine Tr.imp (Tr.deep (by decide) (sp_X11_isLine_0 hS.1 ((St.kp hS (by decide) (by decide) (by decide)).trans en_0_4) a1 (by omega))) ?_
        rintro M36 _ ⟨h36, r36, rfl, lr36, ur36, wr36⟩
        have hS := St.tr hS h36 (by decide) (by decide)
        refine Tr.sc [(0, r36)] rfl ?_
        refine Tr.if_ne (pc := 39) (tgt := 44) d_X11_pays_39 rfl (fun c39 => ?_) (fun c39 => ?_)
        · refine Tr.iload_n (pc := 44) (i := 2) d_X11_pays_44 rfl rfl ?_
          refine Tr.if_ne (pc := 45) (tgt := 62) d_X11_pays_45 rfl (fun c45 => ?_) (fun c45 => ?_)
          · refine Tr.aload_n (pc := 62) (i := 0) d_X11_pays_62 rfl rfl ?_
            refine Tr.getf (pc := 63) d_X11_pays_63 f_11_46 (by decide) (by decide) (ty_0 hS.1.1) ?_
            refine Tr.tp 48 (fx_0_7 hS.1.1) ?_
            refine Tr.getf (pc := 66) d_X11_pays_66 f_11_178 (by decide) (by decide) (ty_48 hS.1.1) ?_
            refine Tr.tp 56 (fx_48_0 hS.1.1) ?_
            refine Tr.iload_n (pc := 69) (i := 1) d_X11_pays_69 rfl rfl ?_
            refine Tr.callV (pc := 70) (as := [_]) d_X11_pays_70 s_11_198 ok_X1_paysInParts rfl rfl (Nat.le_of_ble_eq_true rfl) (Nat.le_of_ble_eq_true rfl) (by decide) (ty_56 hS.1.1) ?_
            refine Tr.imp (Tr.deep (by decide) (sp_X1_paysInParts_56 hS.1 ((St.kp hS (by decide) (by decide) (by decide)).trans en_56_1) a1 (by omega))) ?_
            rintro M70 _ ⟨h70, r70, rfl, lr70, ur70⟩
            have hS := St.tr hS h70 (by decide) (by decide)
            refine Tr.sc [(0, r70)] rfl ?_
            exact Tr.iret (pc := 73) d_X11_pays_73 rfl ⟨hS, _, rfl, by omega, by omega⟩
          · refine Tr.aload_n (pc := 48) (i := 0) d_X11_pays_48 rfl rfl ?_
            refine Tr.getf (pc := 49) d_X11_pays_49 f_11_46 (by decide) (by decide) (ty_0 hS.1.1) ?_
            refine Tr.tp 48 (fx_0_7 hS.1.1) ?_
            refine Tr.getf (pc := 52) d_X11_pays_52 f_11_178 (by decide) (by decide) (ty_48 hS.1.1) ?_
            refine Tr.tp 56 (fx_48_0 hS.1.1) ?_
            refine Tr.iload_n (pc := 55) (i := 1) d_X11_pays_55 rfl rfl ?_
            refine Tr.callV (pc := 56) (as := [_]) d_X11_pays_56 s_11_194 ok_X1_paysAsLast rfl rfl (Nat.le_of_ble_eq_true rfl) (Nat.le_of_ble_eq_true rfl) (by decide) (ty_56 hS.1.1) ?_
            refine Tr.imp (Tr.deep (by decide) (sp_X1_paysAsLast_56 hS.1 a1 (by omega))) ?_
            rintro M56 _ ⟨h56, r56, rfl, lr56, ur56⟩
            have hS := St.tr hS h56 (by decide) (by decide)
            refine Tr.sc [(0, r56)] rfl ?_
            refine Tr.goto (pc := 59) (tgt := 73) d_X11_pays_59 rfl ?_
            exact Tr.iret (pc := 73) d_X11_pays_73 rfl ⟨hS, _, rfl, by omega, by omega⟩
        · refine Tr.iconst (pc := 42) d_X11_pays_42 (by decide) ?_
          exact Tr.iret (pc := 43) d_X11_pays_43 rfl ⟨hS, _, rfl, by omega, by omega⟩
      · refine Tr.aload_n (pc := 23) (i := 0) d_X11_pays_23 rfl rfl ?_
        refine Tr.getf (pc := 24) d_X11_pays_24 f_11_46 (by decide) (by decide) (ty_0 hS.1.1) ?_
        refine Tr.tp 48 (fx_0_7 hS.1.1) ?_
        refine Tr.getf (pc := 27) d_X11_pays_27 f_11_178 (by decide) (by decide) (ty_48 hS.1.1) ?_
        refine Tr.tp 56 (fx_48_0 hS.1.1) ?_
        refine Tr.callV (pc := 30) (as := []) d_X11_pays_30 s_11_187 ok_X1_sippedAsleep rfl rfl (Nat.le_of_ble_eq_true rfl) (Nat.le_of_ble_eq_true rfl) (by decide) (ty_56 hS.1.1) ?_
        refine Tr.imp (Tr.deep (by decide) (sp_X1_sippedAsleep_56 hS.1 ((St.kp hS (by decide) (by decide) (by decide)).trans en_56_1))) ?_
        rintro M30 _ ⟨h30, r30, rfl, lr30, ur30⟩
        have hS := St.tr hS h30 (by decide) (by decide)
        refine Tr.sc [(0, r30)] rfl ?_
        exact Tr.iret (pc := 33) d_X11_pays_33 rfl ⟨hS, _, rfl, by omega, by omega⟩
    · refine Tr.iconst (pc := 16) d_X11_pays_16 (by decide) ?_
      exact Tr.iret (pc := 17) d_X11_pays_17 rfl ⟨hS, _, rfl, by omega, by omega⟩

def ws_X11_stretches_0 : List (Int × Int) := []
def as_X11_stretches_0 : List Int := []
def q_X11_stretches_0 (M0 M' : Mem) (r : Option PV) : Prop := St Tru ws_X11_stretches_0 as_X11_stretches_0 M0 M' ∧ ∃ v : Int, r = some (0, v) ∧ (-1) ≤ v ∧ v ≤ (-1)
set_option maxRecDepth 100000 in
set_option maxHeartbeats 4000000 in
theorem sp_X11_stretches_0 {l : Launch} {K : EC} {M0 : Mem} (hI : In Tru M0) (en_0_9 : rd M0 0 9 = 0) (a1 : Int) (ha1 : (-2147483648) ≤ a1 ∧ a1 ≤ 2147483647)  : Tr l K 0 mX11_stretches 0 [(0, (2, 0)), (1, (0, a1))] [] M0 (q_X11_stretches_0 M0) := by
  have hS : St Tru ws_X11_stretches_0 as_X11_stretches_0 M0 M0 := St.rf hI
  refine Tr.aload_n (pc := 0) (i := 0) d_X11_stretches_0 rfl rfl ?_
  refine Tr.getz (pc := 1) d_X11_stretches_1 f_11_109 (by decide) (ty_0 hS.1.1) ?_
  refine Tr.tp 0 ((St.kp hS (by decide) (by decide) (by decide)).trans en_0_9) ?_
  refine Tr.if_eq (pc := 4) (tgt := 15) d_X11_stretches_4 rfl (fun _ => ?_) (fun hc => absurd (by omega) hc)
  refine Tr.iconst (pc := 15) d_X11_stretches_15 (by decide) ?_
  exact Tr.iret (pc := 16) d_X11_stretches_16 rfl ⟨hS, _, rfl, by omega, by omega⟩

def ws_X8_countOf_63 : List (Int × Int) := []
def as_X8_countOf_63 : List Int := []
def q_X8_countOf_63 (M0 M' : Mem) (r : Option PV) : Prop := St Tru ws_X8_countOf_63 as_X8_countOf_63 M0 M' ∧ ∃ v : Int, r = some (0, v) ∧ (-2147483648) ≤ v ∧ v ≤ 2147483647
set_option maxRecDepth 100000 in
set_option maxHeartbeats 4000000 in
theorem sp_X8_countOf_63 {l : Launch} {K : EC} {M0 : Mem} (hI : In Tru M0)  (a1 : Int) (ha1 : 0 ≤ a1 ∧ a1 ≤ 5)  : Tr l K 0 mX8_countOf 0 [(0, (2, 63)), (1, (0, a1))] [] M0 (q_X8_countOf_63 M0) := by
  have hS : St Tru ws_X8_countOf_63 as_X8_countOf_63 M0 M0 := St.rf hI
  obtain ⟨g63_1, eg63_1⟩ : ∃ v, rd M0 63 1 = v := ⟨_, rfl⟩
  have bg63_1 : (-1000000000) ≤ g63_1 ∧ g63_1 ≤ 1000000000 := by rw [← eg63_1]; exact ir_63_1 hI.2.1
  obtain ⟨g63_0, eg63_0⟩ : ∃ v, rd M0 63 0 = v := ⟨_, rfl⟩
  have bg63_0 : (-2147483648) ≤ g63_0 ∧ g63_0 ≤ 2147483647 := by rw [← eg63_0]; exact ir_63_0 hI.2.1
  refine Tr.iconst (pc := 0) d_X8_countOf_0 (by decide) ?_
  refine Tr.istore_n (pc := 1) (i := 2) (ls2 := [(2, (0, 0)), (0, (2, 63)), (1, (0, a1))]) d_X8_countOf_1 rfl (by decide) rfl ?_
  refine Tr.iconst (pc := 2) d_X8_countOf_2 (by decide) ?_
  refine Tr.istore_n (pc := 3) (i := 3) (ls2 := [(3, (0, 0)), (2, (0, 0)), (0, (2, 63)), (1, (0, a1))]) d_X8_countOf_3 rfl (by decide) rfl ?_
  have J4 : ∀ (n4 : Nat) (M : Mem) (p4_2 p4_3 : Int), St Tru ws_X8_countOf_63 as_X8_countOf_63 M0 M → ((-2147483648) ≤ p4_2 ∧ p4_2 ≤ 2147483647) → (0 ≤ p4_3 ∧ p4_3 ≤ 2016) → rd M 63 0 = g63_0 → rd M 63 1 = g63_1 → (2016 - p4_3).toNat < n4 → Tr l K 0 mX8_countOf 4 [(0, (2, 63)), (1, (0, a1)), (2, (0, p4_2)), (3, (0, p4_3))] [] M (q_X8_countOf_63 M0) := by
    intro n4
    induction n4 with
    | zero => intro M p4_2 p4_3 hS bp4_2 bp4_3 k4_63_0 k4_63_1 hm4; exact absurd hm4 (Nat.not_lt_zero _)
    | succ n4 J4 =>
      intro M p4_2 p4_3 hS bp4_2 bp4_3 k4_63_0 k4_63_1 hm4
      refine Tr.iload_n (pc := 4) (i := 3) d_X8_countOf_4 rfl rfl ?_
      refine Tr.aload_n (pc := 5) (i := 0) d_X8_countOf_5 rfl rfl ?_
      refine Tr.getf (pc := 6) d_X8_countOf_6 f_8_43 (by decide) (by decide) (ty_63 hS.1.1) ?_
      refine Tr.tp g63_0 k4_63_0 ?_
      refine Tr.icmp_ge (pc := 9) (tgt := 31) d_X8_countOf_9 rfl (fun c9 => ?_) (fun c9 => ?_)
      · refine Tr.iload_n (pc := 31) (i := 2) d_X8_countOf_31 rfl rfl ?_
        exact Tr.iret (pc := 32) d_X8_countOf_32 rfl ⟨hS, _, rfl, by omega, by omega⟩
      · refine Tr.aload_n (pc := 12) (i := 0) d_X8_countOf_12 rfl rfl ?_
        refine Tr.getf (pc := 13) d_X8_countOf_13 f_8_9 (by decide) (by decide) (ty_63 hS.1.1) ?_
        refine Tr.gen (P := fun v => v = tref g63_1 1) (tl_ref hS k4_63_1 (by decide)) (fun t13 et13 bt13 => ?_)
        refine Tr.iload_n (pc := 16) (i := 3) d_X8_countOf_16 rfl rfl ?_
        have nk17_0 : rd M 63 0 = g63_0 := k4_63_0
        have nn17 := tl_n hS k4_63_1
        refine Tr.iald (pc := 17) d_X8_countOf_17 (tl_tyI hS k4_63_1 (j := 1) (by decide) (by decide) bt13) (by omega) (by omega) ?_
        refine Tr.gen (P := fun v => 0 ≤ v ∧ v ≤ 5) (tl_eP hS k4_63_1 (j := 1) (by decide) (by decide) bt13 (by omega) (by omega)) (fun r17 er17 br17 => ?_)
        refine Tr.iload_n (pc := 18) (i := 1) d_X8_countOf_18 rfl rfl ?_
        have J25 : ∀ (M : Mem) (p25_2 : Int), St Tru ws_X8_countOf_63 as_X8_countOf_63 M0 M → ((-2147483648) ≤ p25_2 ∧ p25_2 ≤ 2147483647) → rd M 63 0 = g63_0 → rd M 63 1 = g63_1 → Tr l K 0 mX8_countOf 25 [(0, (2, 63)), (1, (0, a1)), (2, (0, p25_2)), (3, (0, p4_3))] [] M (q_X8_countOf_63 M0) := by
          intro M p25_2 hS bp25_2 k25_63_0 k25_63_1
          refine Tr.iincV (pc := 25) (n2 := (p4_3 + 1)) (ls2 := [(3, (0, (p4_3 + 1))), (0, (2, 63)), (1, (0, a1)), (2, (0, p25_2))]) d_X8_countOf_25 rfl (by decide) ((w32_id (by omega)).trans (by omega)) rfl ?_
          refine Tr.goto (pc := 28) (tgt := 4) d_X8_countOf_28 rfl ?_
          refine Tr.pick [1, 2, 3, 0] (ls2 := [(0, (2, 63)), (1, (0, a1)), (2, (0, p25_2)), (3, (0, (p4_3 + 1)))]) rfl ?_
          exact J4 _ _ _ hS (by omega) (by omega) k25_63_0 k25_63_1 (by omega)
        refine Tr.icmp_ne (pc := 19) (tgt := 25) d_X8_countOf_19 rfl (fun c19 => ?_) (fun c19 => ?_)
        · refine Tr.pick [0, 1, 2, 3] (ls2 := [(0, (2, 63)), (1, (0, a1)), (2, (0, p4_2)), (3, (0, p4_3))]) rfl ?_
          exact J25 _ _ hS (by omega) k4_63_0 k4_63_1
        · refine Tr.iincG (pc := 22) d_X8_countOf_22 rfl (by decide) (fun r22 br22 => ?_)
          refine Tr.lc [(2, (0, r22)), (0, (2, 63)), (1, (0, a1)), (3, (0, p4_3))] rfl ?_
          refine Tr.pick [1, 2, 0, 3] (ls2 := [(0, (2, 63)), (1, (0, a1)), (2, (0, r22)), (3, (0, p4_3))]) rfl ?_
          exact J25 _ _ hS (by omega) k4_63_0 k4_63_1
  refine Tr.pick [2, 3, 1, 0] (ls2 := [(0, (2, 63)), (1, (0, a1)), (2, (0, 0)), (3, (0, 0))]) rfl ?_
  exact J4 _ _ _ _ hS (by omega) (by omega) eg63_0 eg63_1 (Nat.lt_succ_self _)

def ws_X11_stretches_0_w1 : List (Int × Int) := []
def as_X11_stretches_0_w1 : List Int := []
def q_X11_stretches_0_w1 (M0 M' : Mem) (r : Option PV) : Prop := St Tru ws_X11_stretches_0_w1 as_X11_stretches_0_w1 M0 M' ∧ ∃ v : Int, r = some (0, v) ∧ (-2147483648) ≤ v ∧ v ≤ 2147483647
set_option maxRecDepth 100000 in
set_option maxHeartbeats 4000000 in
theorem sp_X11_stretches_0_w1 {l : Launch} {K : EC} {M0 : Mem} (hI : In Tru M0) (en_0_4 : rd M0 0 4 = 7) (en_0_9 : rd M0 0 9 = 1) (a1 : Int) (ha1 : (-2147483648) ≤ a1 ∧ a1 ≤ 2147483647)  : Tr l K 1 mX11_stretches 0 [(0, (2, 0)), (1, (0, a1))] [] M0 (q_X11_stretches_0_w1 M0) := by
  have hS : St Tru ws_X11_stretches_0_w1 as_X11_stretches_0_w1 M0 M0 := St.rf hI
  refine Tr.aload_n (pc := 0) (i := 0) d_X11_stretches_0 rfl rfl ?_
  refine Tr.getz (pc := 1) d_X11_stretches_1 f_11_109 (by decide) (ty_0 hS.1.1) ?_
  refine Tr.tp 1 ((St.kp hS (by decide) (by decide) (by decide)).trans en_0_9) ?_
  refine Tr.if_eq (pc := 4) (tgt := 15) d_X11_stretches_4 rfl (fun hc => absurd hc (by omega)) (fun _ => ?_)
  refine Tr.aload_n (pc := 7) (i := 0) d_X11_stretches_7 rfl rfl ?_
  refine Tr.iload_n (pc := 8) (i := 1) d_X11_stretches_8 rfl rfl ?_
  refine Tr.callV (pc := 9) (as := [_]) d_X11_stretches_9 s_11_174 ok_X11_isPart rfl rfl (Nat.le_of_ble_eq_true rfl) (Nat.le_of_ble_eq_true rfl) (by decide) (ty_0 hS.1.1) ?_
  refine Tr.imp (Tr.deep (by decide) (sp_X11_isPart_0 hS.1 ((St.kp hS (by decide) (by decide) (by decide)).trans en_0_4) a1 (by omega))) ?_
  rintro M9 _ ⟨h9, r9, rfl, lr9, ur9, wr9⟩
  have hS := St.tr hS h9 (by decide) (by decide)
  refine Tr.sc [(0, r9)] rfl ?_
  refine Tr.if_ne (pc := 12) (tgt := 17) d_X11_stretches_12 rfl (fun c12 => ?_) (fun c12 => ?_)
  · refine Tr.aload_n (pc := 17) (i := 0) d_X11_stretches_17 rfl rfl ?_
    refine Tr.getf (pc := 18) d_X11_stretches_18 f_11_46 (by decide) (by decide) (ty_0 hS.1.1) ?_
    refine Tr.tp 48 (fx_0_7 hS.1.1) ?_
    refine Tr.getf (pc := 21) d_X11_stretches_21 f_11_178 (by decide) (by decide) (ty_48 hS.1.1) ?_
    refine Tr.tp 56 (fx_48_0 hS.1.1) ?_
    refine Tr.getf (pc := 24) d_X11_stretches_24 f_11_201 (by decide) (by decide) (ty_56 hS.1.1) ?_
    refine Tr.tp 63 (fx_56_8 hS.1.1) ?_
    refine Tr.iload_n (pc := 27) (i := 1) d_X11_stretches_27 rfl rfl ?_
    refine Tr.callV (pc := 28) (as := [_]) d_X11_stretches_28 s_11_205 ok_X8_countOf rfl rfl (Nat.le_of_ble_eq_true rfl) (Nat.le_of_ble_eq_true rfl) (by decide) (ty_63 hS.1.1) ?_
    refine Tr.imp (Tr.deep (by decide) (sp_X8_countOf_63 hS.1 a1 (by omega))) ?_
    rintro M28 _ ⟨h28, r28, rfl, lr28, ur28⟩
    have hS := St.tr hS h28 (by decide) (by decide)
    refine Tr.sc [(0, r28)] rfl ?_
    exact Tr.iret (pc := 31) d_X11_stretches_31 rfl ⟨hS, _, rfl, by omega, by omega⟩
  · refine Tr.iconst (pc := 15) d_X11_stretches_15 (by decide) ?_
    exact Tr.iret (pc := 16) d_X11_stretches_16 rfl ⟨hS, _, rfl, by omega, by omega⟩

def ws_X11_stretchPlace_0 : List (Int × Int) := []
def as_X11_stretchPlace_0 : List Int := []
def q_X11_stretchPlace_0 (a1 : Int) (a2 : Int) (M0 M' : Mem) (r : Option PV) : Prop := St Tru ws_X11_stretchPlace_0 as_X11_stretchPlace_0 M0 M' ∧ ∃ v : Int, r = some (0, v) ∧ (-1) ≤ v ∧ v ≤ (-1) ∧ (v < rd M' 63 0 ∨ v = -1)
set_option maxRecDepth 100000 in
set_option maxHeartbeats 4000000 in
theorem sp_X11_stretchPlace_0 {l : Launch} {K : EC} {M0 : Mem} (hI : In Tru M0) (en_0_9 : rd M0 0 9 = 0) (a1 : Int) (ha1 : (-2147483648) ≤ a1 ∧ a1 ≤ 2147483647) (a2 : Int) (ha2 : (-2147483648) ≤ a2 ∧ a2 ≤ 2147483647)  : Tr l K 0 mX11_stretchPlace 0 [(0, (2, 0)), (1, (0, a1)), (2, (0, a2))] [] M0 (q_X11_stretchPlace_0 a1 a2 M0) := by
  have hS : St Tru ws_X11_stretchPlace_0 as_X11_stretchPlace_0 M0 M0 := St.rf hI
  obtain ⟨g63_1, eg63_1⟩ : ∃ v, rd M0 63 1 = v := ⟨_, rfl⟩
  have bg63_1 : (-1000000000) ≤ g63_1 ∧ g63_1 ≤ 1000000000 := by rw [← eg63_1]; exact ir_63_1 hI.2.1
  obtain ⟨g63_0, eg63_0⟩ : ∃ v, rd M0 63 0 = v := ⟨_, rfl⟩
  have bg63_0 : (-2147483648) ≤ g63_0 ∧ g63_0 ≤ 2147483647 := by rw [← eg63_0]; exact ir_63_0 hI.2.1
  refine Tr.aload_n (pc := 0) (i := 0) d_X11_stretchPlace_0 rfl rfl ?_
  refine Tr.getz (pc := 1) d_X11_stretchPlace_1 f_11_109 (by decide) (ty_0 hS.1.1) ?_
  refine Tr.tp 0 ((St.kp hS (by decide) (by decide) (by decide)).trans en_0_9) ?_
  refine Tr.if_eq (pc := 4) (tgt := 19) d_X11_stretchPlace_4 rfl (fun _ => ?_) (fun hc => absurd (by omega) hc)
  refine Tr.iconst (pc := 19) d_X11_stretchPlace_19 (by decide) ?_
  have kr_63_0 : rd M0 63 0 = g63_0 := eg63_0
  exact Tr.iret (pc := 20) d_X11_stretchPlace_20 rfl ⟨hS, _, rfl, by omega, by omega, by omega⟩

def ws_X11_stretch_0 : List (Int × Int) := []
def as_X11_stretch_0 : List Int := []
def q_X11_stretch_0 (M0 M' : Mem) (r : Option PV) : Prop := St Tru ws_X11_stretch_0 as_X11_stretch_0 M0 M' ∧ ∃ v : Int, r = some (0, v) ∧ (-1) ≤ v ∧ v ≤ (-1)
set_option maxRecDepth 100000 in
set_option maxHeartbeats 4000000 in
theorem sp_X11_stretch_0 {l : Launch} {K : EC} {M0 : Mem} (hI : In Tru M0) (en_0_9 : rd M0 0 9 = 0) (a1 : Int) (ha1 : (-2147483648) ≤ a1 ∧ a1 ≤ 2147483647) (a2 : Int) (ha2 : (-2147483648) ≤ a2 ∧ a2 ≤ 2147483647) (a3 : Int) (ha3 : (-2147483648) ≤ a3 ∧ a3 ≤ 2147483647)  : Tr l K 1 mX11_stretch 0 [(0, (2, 0)), (1, (0, a1)), (2, (0, a2)), (3, (0, a3))] [] M0 (q_X11_stretch_0 M0) := by
  have hS : St Tru ws_X11_stretch_0 as_X11_stretch_0 M0 M0 := St.rf hI
  obtain ⟨g63_1, eg63_1⟩ : ∃ v, rd M0 63 1 = v := ⟨_, rfl⟩
  have bg63_1 : (-1000000000) ≤ g63_1 ∧ g63_1 ≤ 1000000000 := by rw [← eg63_1]; exact ir_63_1 hI.2.1
  obtain ⟨g63_0, eg63_0⟩ : ∃ v, rd M0 63 0 = v := ⟨_, rfl⟩
  have bg63_0 : (-2147483648) ≤ g63_0 ∧ g63_0 ≤ 2147483647 := by rw [← eg63_0]; exact ir_63_0 hI.2.1
  refine Tr.aload_n (pc := 0) (i := 0) d_X11_stretch_0 rfl rfl ?_
  refine Tr.iload_n (pc := 1) (i := 1) d_X11_stretch_1 rfl rfl ?_
  refine Tr.iload_n (pc := 2) (i := 2) d_X11_stretch_2 rfl rfl ?_
  refine Tr.callV (pc := 3) (as := [_, _]) d_X11_stretch_3 s_11_214 ok_X11_stretchPlace rfl rfl (Nat.le_of_ble_eq_true rfl) (Nat.le_of_ble_eq_true rfl) (by decide) (ty_0 hS.1.1) ?_
  refine Tr.imp (Tr.deep (by decide) (sp_X11_stretchPlace_0 hS.1 ((St.kp hS (by decide) (by decide) (by decide)).trans en_0_9) a1 (by omega) a2 (by omega))) ?_
  rintro M3 _ ⟨h3, r3, rfl, lr3, ur3, z3_0⟩
  have hS := St.tr hS h3 (by decide) (by decide)
  have ka3_63_0 : rd M3 63 0 = g63_0 := ((St.kp h3 (by decide) (by decide) (by decide)).trans eg63_0)
  refine Tr.sc [(0, r3)] rfl ?_
  refine Tr.istore (pc := 6) (i := 4) (ls2 := [(4, (0, r3)), (0, (2, 0)), (1, (0, a1)), (2, (0, a2)), (3, (0, a3))]) d_X11_stretch_6 (by decide) rfl ?_
  refine Tr.iload (pc := 8) (i := 4) d_X11_stretch_8 rfl ?_
  refine Tr.tp (-1) (by omega) ?_
  refine Tr.if_ge (pc := 10) (tgt := 15) d_X11_stretch_10 rfl (fun hc => absurd hc (by omega)) (fun _ => ?_)
  refine Tr.iconst (pc := 13) d_X11_stretch_13 (by decide) ?_
  exact Tr.iret (pc := 14) d_X11_stretch_14 rfl ⟨hS, _, rfl, by omega, by omega⟩

def ws_X8_placeOf_63 : List (Int × Int) := []
def as_X8_placeOf_63 : List Int := []
def q_X8_placeOf_63 (a1 : Int) (a2 : Int) (M0 M' : Mem) (r : Option PV) : Prop := St Tru ws_X8_placeOf_63 as_X8_placeOf_63 M0 M' ∧ ∃ v : Int, r = some (0, v) ∧ (-1) ≤ v ∧ v ≤ 2015 ∧ (v < rd M' 63 0 ∨ v = -1)
set_option maxRecDepth 100000 in
set_option maxHeartbeats 4000000 in
theorem sp_X8_placeOf_63 {l : Launch} {K : EC} {M0 : Mem} (hI : In Tru M0)  (a1 : Int) (ha1 : 0 ≤ a1 ∧ a1 ≤ 5) (a2 : Int) (ha2 : 0 ≤ a2 ∧ a2 ≤ 2147483647)  : Tr l K 0 mX8_placeOf 0 [(0, (2, 63)), (1, (0, a1)), (2, (0, a2))] [] M0 (q_X8_placeOf_63 a1 a2 M0) := by
  have hS : St Tru ws_X8_placeOf_63 as_X8_placeOf_63 M0 M0 := St.rf hI
  obtain ⟨g63_1, eg63_1⟩ : ∃ v, rd M0 63 1 = v := ⟨_, rfl⟩
  have bg63_1 : (-1000000000) ≤ g63_1 ∧ g63_1 ≤ 1000000000 := by rw [← eg63_1]; exact ir_63_1 hI.2.1
  obtain ⟨g63_0, eg63_0⟩ : ∃ v, rd M0 63 0 = v := ⟨_, rfl⟩
  have bg63_0 : (-2147483648) ≤ g63_0 ∧ g63_0 ≤ 2147483647 := by rw [← eg63_0]; exact ir_63_0 hI.2.1
  refine Tr.iconst (pc := 0) d_X8_placeOf_0 (by decide) ?_
  refine Tr.istore_n (pc := 1) (i := 3) (ls2 := [(3, (0, 0)), (0, (2, 63)), (1, (0, a1)), (2, (0, a2))]) d_X8_placeOf_1 rfl (by decide) rfl ?_
  refine Tr.iconst (pc := 2) d_X8_placeOf_2 (by decide) ?_
  refine Tr.istore (pc := 3) (i := 4) (ls2 := [(4, (0, 0)), (3, (0, 0)), (0, (2, 63)), (1, (0, a1)), (2, (0, a2))]) d_X8_placeOf_3 (by decide) rfl ?_
  have J5 : ∀ (n5 : Nat) (M : Mem) (p5_3 p5_4 : Int), St Tru ws_X8_placeOf_63 as_X8_placeOf_63 M0 M → ((-2147483648) ≤ p5_3 ∧ p5_3 ≤ 2147483647) → (0 ≤ p5_4 ∧ p5_4 ≤ 2016) → rd M 63 0 = g63_0 → rd M 63 1 = g63_1 → (2016 - p5_4).toNat < n5 → Tr l K 0 mX8_placeOf 5 [(0, (2, 63)), (1, (0, a1)), (2, (0, a2)), (3, (0, p5_3)), (4, (0, p5_4))] [] M (q_X8_placeOf_63 a1 a2 M0) := by
    intro n5
    induction n5 with
    | zero => intro M p5_3 p5_4 hS bp5_3 bp5_4 k5_63_0 k5_63_1 hm5; exact absurd hm5 (Nat.not_lt_zero _)
    | succ n5 J5 =>
      intro M p5_3 p5_4 hS bp5_3 bp5_4 k5_63_0 k5_63_1 hm5
      refine Tr.iload (pc := 5) (i := 4) d_X8_placeOf_5 rfl ?_
      refine Tr.aload_n (pc := 7) (i := 0) d_X8_placeOf_7 rfl rfl ?_
      refine Tr.getf (pc := 8) d_X8_placeOf_8 f_8_43 (by decide) (by decide) (ty_63 hS.1.1) ?_
      refine Tr.tp g63_0 k5_63_0 ?_
      refine Tr.icmp_ge (pc := 11) (tgt := 42) d_X8_placeOf_11 rfl (fun c11 => ?_) (fun c11 => ?_)
      · refine Tr.iconst (pc := 42) d_X8_placeOf_42 (by decide) ?_
        have kr_63_0 : rd M 63 0 = g63_0 := k5_63_0
        exact Tr.iret (pc := 43) d_X8_placeOf_43 rfl ⟨hS, _, rfl, by omega, by omega, by omega⟩
      · refine Tr.aload_n (pc := 14) (i := 0) d_X8_placeOf_14 rfl rfl ?_
        refine Tr.getf (pc := 15) d_X8_placeOf_15 f_8_9 (by decide) (by decide) (ty_63 hS.1.1) ?_
        refine Tr.gen (P := fun v => v = tref g63_1 1) (tl_ref hS k5_63_1 (by decide)) (fun t15 et15 bt15 => ?_)
        refine Tr.iload (pc := 18) (i := 4) d_X8_placeOf_18 rfl ?_
        have nk20_0 : rd M 63 0 = g63_0 := k5_63_0
        have nn20 := tl_n hS k5_63_1
        refine Tr.iald (pc := 20) d_X8_placeOf_20 (tl_tyI hS k5_63_1 (j := 1) (by decide) (by decide) bt15) (by omega) (by omega) ?_
        refine Tr.gen (P := fun v => 0 ≤ v ∧ v ≤ 5) (tl_eP hS k5_63_1 (j := 1) (by decide) (by decide) bt15 (by omega) (by omega)) (fun r20 er20 br20 => ?_)
        refine Tr.iload_n (pc := 21) (i := 1) d_X8_placeOf_21 rfl rfl ?_
        have J36 : ∀ (M : Mem) (p36_3 : Int), St Tru ws_X8_placeOf_63 as_X8_placeOf_63 M0 M → ((-2147483648) ≤ p36_3 ∧ p36_3 ≤ 2147483647) → rd M 63 0 = g63_0 → rd M 63 1 = g63_1 → Tr l K 0 mX8_placeOf 36 [(0, (2, 63)), (1, (0, a1)), (2, (0, a2)), (3, (0, p36_3)), (4, (0, p5_4))] [] M (q_X8_placeOf_63 a1 a2 M0) := by
          intro M p36_3 hS bp36_3 k36_63_0 k36_63_1
          refine Tr.iincV (pc := 36) (n2 := (p5_4 + 1)) (ls2 := [(4, (0, (p5_4 + 1))), (0, (2, 63)), (1, (0, a1)), (2, (0, a2)), (3, (0, p36_3))]) d_X8_placeOf_36 rfl (by decide) ((w32_id (by omega)).trans (by omega)) rfl ?_
          refine Tr.goto (pc := 39) (tgt := 5) d_X8_placeOf_39 rfl ?_
          refine Tr.pick [1, 2, 3, 4, 0] (ls2 := [(0, (2, 63)), (1, (0, a1)), (2, (0, a2)), (3, (0, p36_3)), (4, (0, (p5_4 + 1)))]) rfl ?_
          exact J5 _ _ _ hS (by omega) (by omega) k36_63_0 k36_63_1 (by omega)
        refine Tr.icmp_ne (pc := 22) (tgt := 36) d_X8_placeOf_22 rfl (fun c22 => ?_) (fun c22 => ?_)
        · refine Tr.pick [0, 1, 2, 3, 4] (ls2 := [(0, (2, 63)), (1, (0, a1)), (2, (0, a2)), (3, (0, p5_3)), (4, (0, p5_4))]) rfl ?_
          exact J36 _ _ hS (by omega) k5_63_0 k5_63_1
        · refine Tr.iload_n (pc := 25) (i := 3) d_X8_placeOf_25 rfl rfl ?_
          refine Tr.iload_n (pc := 26) (i := 2) d_X8_placeOf_26 rfl rfl ?_
          refine Tr.icmp_ne (pc := 27) (tgt := 33) d_X8_placeOf_27 rfl (fun c27 => ?_) (fun c27 => ?_)
          · refine Tr.iincG (pc := 33) d_X8_placeOf_33 rfl (by decide) (fun r33 br33 => ?_)
            refine Tr.lc [(3, (0, r33)), (0, (2, 63)), (1, (0, a1)), (2, (0, a2)), (4, (0, p5_4))] rfl ?_
            refine Tr.pick [1, 2, 3, 0, 4] (ls2 := [(0, (2, 63)), (1, (0, a1)), (2, (0, a2)), (3, (0, r33)), (4, (0, p5_4))]) rfl ?_
            exact J36 _ _ hS (by omega) k5_63_0 k5_63_1
          · refine Tr.iload (pc := 30) (i := 4) d_X8_placeOf_30 rfl ?_
            have kr_63_0 : rd M 63 0 = g63_0 := k5_63_0
            exact Tr.iret (pc := 32) d_X8_placeOf_32 rfl ⟨hS, _, rfl, by omega, by omega, by omega⟩
  refine Tr.pick [2, 3, 4, 1, 0] (ls2 := [(0, (2, 63)), (1, (0, a1)), (2, (0, a2)), (3, (0, 0)), (4, (0, 0))]) rfl ?_
  exact J5 _ _ _ _ hS (by omega) (by omega) eg63_0 eg63_1 (Nat.lt_succ_self _)

def ws_X11_stretchPlace_0_w1 : List (Int × Int) := []
def as_X11_stretchPlace_0_w1 : List Int := []
def q_X11_stretchPlace_0_w1 (a1 : Int) (a2 : Int) (M0 M' : Mem) (r : Option PV) : Prop := St Tru ws_X11_stretchPlace_0_w1 as_X11_stretchPlace_0_w1 M0 M' ∧ ∃ v : Int, r = some (0, v) ∧ (-1) ≤ v ∧ v ≤ 2015 ∧ (v < rd M' 63 0 ∨ v = -1)
set_option maxRecDepth 100000 in
set_option maxHeartbeats 4000000 in
theorem sp_X11_stretchPlace_0_w1 {l : Launch} {K : EC} {M0 : Mem} (hI : In Tru M0) (en_0_4 : rd M0 0 4 = 7) (en_0_9 : rd M0 0 9 = 1) (a1 : Int) (ha1 : (-2147483648) ≤ a1 ∧ a1 ≤ 2147483647) (a2 : Int) (ha2 : (-2147483648) ≤ a2 ∧ a2 ≤ 2147483647)  : Tr l K 1 mX11_stretchPlace 0 [(0, (2, 0)), (1, (0, a1)), (2, (0, a2))] [] M0 (q_X11_stretchPlace_0_w1 a1 a2 M0) := by
  have hS : St Tru ws_X11_stretchPlace_0_w1 as_X11_stretchPlace_0_w1 M0 M0 := St.rf hI
  obtain ⟨g63_1, eg63_1⟩ : ∃ v, rd M0 63 1 = v := ⟨_, rfl⟩
  have bg63_1 : (-1000000000) ≤ g63_1 ∧ g63_1 ≤ 1000000000 := by rw [← eg63_1]; exact ir_63_1 hI.2.1
  obtain ⟨g63_0, eg63_0⟩ : ∃ v, rd M0 63 0 = v := ⟨_, rfl⟩
  have bg63_0 : (-2147483648) ≤ g63_0 ∧ g63_0 ≤ 2147483647 := by rw [← eg63_0]; exact ir_63_0 hI.2.1
  refine Tr.aload_n (pc := 0) (i := 0) d_X11_stretchPlace_0 rfl rfl ?_
  refine Tr.getz (pc := 1) d_X11_stretchPlace_1 f_11_109 (by decide) (ty_0 hS.1.1) ?_
  refine Tr.tp 1 ((St.kp hS (by decide) (by decide) (by decide)).trans en_0_9) ?_
  refine Tr.if_eq (pc := 4) (tgt := 19) d_X11_stretchPlace_4 rfl (fun hc => absurd hc (by omega)) (fun _ => ?_)
  refine Tr.aload_n (pc := 7) (i := 0) d_X11_stretchPlace_7 rfl rfl ?_
  refine Tr.iload_n (pc := 8) (i := 1) d_X11_stretchPlace_8 rfl rfl ?_
  refine Tr.callV (pc := 9) (as := [_]) d_X11_stretchPlace_9 s_11_174 ok_X11_isPart rfl rfl (Nat.le_of_ble_eq_true rfl) (Nat.le_of_ble_eq_true rfl) (by decide) (ty_0 hS.1.1) ?_
  refine Tr.imp (Tr.deep (by decide) (sp_X11_isPart_0 hS.1 ((St.kp hS (by decide) (by decide) (by decide)).trans en_0_4) a1 (by omega))) ?_
  rintro M9 _ ⟨h9, r9, rfl, lr9, ur9, wr9⟩
  have hS := St.tr hS h9 (by decide) (by decide)
  refine Tr.sc [(0, r9)] rfl ?_
  refine Tr.if_eq (pc := 12) (tgt := 19) d_X11_stretchPlace_12 rfl (fun c12 => ?_) (fun c12 => ?_)
  · refine Tr.iconst (pc := 19) d_X11_stretchPlace_19 (by decide) ?_
    have kr_63_0 : rd M9 63 0 = g63_0 := ((St.kp h9 (by decide) (by decide) (by decide)).trans eg63_0)
    exact Tr.iret (pc := 20) d_X11_stretchPlace_20 rfl ⟨hS, _, rfl, by omega, by omega, by omega⟩
  · refine Tr.iload_n (pc := 15) (i := 2) d_X11_stretchPlace_15 rfl rfl ?_
    refine Tr.if_ge (pc := 16) (tgt := 21) d_X11_stretchPlace_16 rfl (fun c16 => ?_) (fun c16 => ?_)
    · refine Tr.aload_n (pc := 21) (i := 0) d_X11_stretchPlace_21 rfl rfl ?_
      refine Tr.getf (pc := 22) d_X11_stretchPlace_22 f_11_46 (by decide) (by decide) (ty_0 hS.1.1) ?_
      refine Tr.tp 48 (fx_0_7 hS.1.1) ?_
      refine Tr.getf (pc := 25) d_X11_stretchPlace_25 f_11_178 (by decide) (by decide) (ty_48 hS.1.1) ?_
      refine Tr.tp 56 (fx_48_0 hS.1.1) ?_
      refine Tr.getf (pc := 28) d_X11_stretchPlace_28 f_11_201 (by decide) (by decide) (ty_56 hS.1.1) ?_
      refine Tr.tp 63 (fx_56_8 hS.1.1) ?_
      refine Tr.iload_n (pc := 31) (i := 1) d_X11_stretchPlace_31 rfl rfl ?_
      refine Tr.iload_n (pc := 32) (i := 2) d_X11_stretchPlace_32 rfl rfl ?_
      refine Tr.callV (pc := 33) (as := [_, _]) d_X11_stretchPlace_33 s_11_210 ok_X8_placeOf rfl rfl (Nat.le_of_ble_eq_true rfl) (Nat.le_of_ble_eq_true rfl) (by decide) (ty_63 hS.1.1) ?_
      refine Tr.imp (Tr.deep (by decide) (sp_X8_placeOf_63 hS.1 a1 (by omega) a2 (by omega))) ?_
      rintro M33 _ ⟨h33, r33, rfl, lr33, ur33, z33_0⟩
      have hS := St.tr hS h33 (by decide) (by decide)
      have ka33_63_0 : rd M33 63 0 = g63_0 := ((St.kp h33 (by decide) (by decide) (by decide)).trans ((St.kp h9 (by decide) (by decide) (by decide)).trans eg63_0))
      refine Tr.sc [(0, r33)] rfl ?_
      have kr_63_0 : rd M33 63 0 = g63_0 := ((St.kp h33 (by decide) (by decide) (by decide)).trans ((St.kp h9 (by decide) (by decide) (by decide)).trans eg63_0))
      exact Tr.iret (pc := 36) d_X11_stretchPlace_36 rfl ⟨hS, _, rfl, by omega, by omega, by omega⟩
    · refine Tr.iconst (pc := 19) d_X11_stretchPlace_19 (by decide) ?_
      have kr_63_0 : rd M9 63 0 = g63_0 := ((St.kp h9 (by decide) (by decide) (by decide)).trans eg63_0)
      exact Tr.iret (pc := 20) d_X11_stretchPlace_20 rfl ⟨hS, _, rfl, by omega, by omega, by omega⟩

def ws_X11_stretch_0_w1 : List (Int × Int) := []
def as_X11_stretch_0_w1 : List Int := []
def q_X11_stretch_0_w1 (M0 M' : Mem) (r : Option PV) : Prop := St Tru ws_X11_stretch_0_w1 as_X11_stretch_0_w1 M0 M' ∧ ∃ v : Int, r = some (0, v) ∧ (-2147483648) ≤ v ∧ v ≤ 2147483647
set_option maxRecDepth 100000 in
set_option maxHeartbeats 4000000 in
theorem sp_X11_stretch_0_w1 {l : Launch} {K : EC} {M0 : Mem} (hI : In Tru M0) (en_0_4 : rd M0 0 4 = 7) (en_0_9 : rd M0 0 9 = 1) (a1 : Int) (ha1 : (-2147483648) ≤ a1 ∧ a1 ≤ 2147483647) (a2 : Int) (ha2 : (-2147483648) ≤ a2 ∧ a2 ≤ 2147483647) (a3 : Int) (ha3 : (-2147483648) ≤ a3 ∧ a3 ≤ 2147483647)  : Tr l K 2 mX11_stretch 0 [(0, (2, 0)), (1, (0, a1)), (2, (0, a2)), (3, (0, a3))] [] M0 (q_X11_stretch_0_w1 M0) := by
  have hS : St Tru ws_X11_stretch_0_w1 as_X11_stretch_0_w1 M0 M0 := St.rf hI
  obtain ⟨g63_1, eg63_1⟩ : ∃ v, rd M0 63 1 = v := ⟨_, rfl⟩
  have bg63_1 : (-1000000000) ≤ g63_1 ∧ g63_1 ≤ 1000000000 := by rw [← eg63_1]; exact ir_63_1 hI.2.1
  obtain ⟨g63_0, eg63_0⟩ : ∃ v, rd M0 63 0 = v := ⟨_, rfl⟩
  have bg63_0 : (-2147483648) ≤ g63_0 ∧ g63_0 ≤ 2147483647 := by rw [← eg63_0]; exact ir_63_0 hI.2.1
  refine Tr.aload_n (pc := 0) (i := 0) d_X11_stretch_0 rfl rfl ?_
  refine Tr.iload_n (pc := 1) (i := 1) d_X11_stretch_1 rfl rfl ?_
  refine Tr.iload_n (pc := 2) (i := 2) d_X11_stretch_2 rfl rfl ?_
  refine Tr.callV (pc := 3) (as := [_, _]) d_X11_stretch_3 s_11_214 ok_X11_stretchPlace rfl rfl (Nat.le_of_ble_eq_true rfl) (Nat.le_of_ble_eq_true rfl) (by decide) (ty_0 hS.1.1) ?_
  refine Tr.imp (Tr.deep (by decide) (sp_X11_stretchPlace_0_w1 hS.1 ((St.kp hS (by decide) (by decide) (by decide)).trans en_0_4) ((St.kp hS (by decide) (by decide) (by decide)).trans en_0_9) a1 (by omega) a2 (by omega))) ?_
  rintro M3 _ ⟨h3, r3, rfl, lr3, ur3, z3_0⟩
  have hS := St.tr hS h3 (by decide) (by decide)
  have ka3_63_0 : rd M3 63 0 = g63_0 := ((St.kp h3 (by decide) (by decide) (by decide)).trans eg63_0)
  refine Tr.sc [(0, r3)] rfl ?_
  refine Tr.istore (pc := 6) (i := 4) (ls2 := [(4, (0, r3)), (0, (2, 0)), (1, (0, a1)), (2, (0, a2)), (3, (0, a3))]) d_X11_stretch_6 (by decide) rfl ?_
  refine Tr.iload (pc := 8) (i := 4) d_X11_stretch_8 rfl ?_
  refine Tr.if_ge (pc := 10) (tgt := 15) d_X11_stretch_10 rfl (fun c10 => ?_) (fun c10 => ?_)
  · refine Tr.aload_n (pc := 15) (i := 0) d_X11_stretch_15 rfl rfl ?_
    refine Tr.getf (pc := 16) d_X11_stretch_16 f_11_46 (by decide) (by decide) (ty_0 hS.1.1) ?_
    refine Tr.tp 48 (fx_0_7 hS.1.1) ?_
    refine Tr.getf (pc := 19) d_X11_stretch_19 f_11_178 (by decide) (by decide) (ty_48 hS.1.1) ?_
    refine Tr.tp 56 (fx_48_0 hS.1.1) ?_
    refine Tr.getf (pc := 22) d_X11_stretch_22 f_11_201 (by decide) (by decide) (ty_56 hS.1.1) ?_
    refine Tr.tp 63 (fx_56_8 hS.1.1) ?_
    refine Tr.astore (pc := 25) (i := 5) (ls2 := [(5, (2, 63)), (4, (0, r3)), (0, (2, 0)), (1, (0, a1)), (2, (0, a2)), (3, (0, a3))]) d_X11_stretch_25 (by decide) rfl ?_
    refine Tr.iload_n (pc := 27) (i := 3) d_X11_stretch_27 rfl rfl ?_
    rcases (show (a3 < 0 ∨ 2 < a3) ∨ a3 = 0 ∨ a3 = 1 ∨ a3 = 2 by omega) with c28 | c28 | c28 | c28
    · refine Tr.tswOut (pc := 28) (tgt := 83) d_X11_stretch_28 c28 rfl ?_
      refine Tr.iconst (pc := 83) d_X11_stretch_83 (by decide) ?_
      exact Tr.iret (pc := 84) d_X11_stretch_84 rfl ⟨hS, _, rfl, by omega, by omega⟩
    · refine Tr.tp 0 c28 ?_
      refine Tr.tswIn (pc := 28) (off := 28) (tgt := 56) d_X11_stretch_28 (by decide) (by decide) rfl rfl ?_
      refine Tr.aload (pc := 56) (i := 5) d_X11_stretch_56 rfl ?_
      refine Tr.getf (pc := 58) d_X11_stretch_58 f_11_217 (by decide) (by decide) (ty_63 hS.1.1) ?_
      refine Tr.gen (P := fun v => v = tref g63_1 2) (tl_ref hS ((St.kp h3 (by decide) (by decide) (by decide)).trans eg63_1) (by decide)) (fun t58 et58 bt58 => ?_)
      refine Tr.iload (pc := 61) (i := 4) d_X11_stretch_61 rfl ?_
      have nk63_0 : rd M3 63 0 = g63_0 := ((St.kp h3 (by decide) (by decide) (by decide)).trans eg63_0)
      have nn63 := tl_n hS ((St.kp h3 (by decide) (by decide) (by decide)).trans eg63_1)
      refine Tr.iald (pc := 63) d_X11_stretch_63 (tl_tyI hS ((St.kp h3 (by decide) (by decide) (by decide)).trans eg63_1) (j := 2) (by decide) (by decide) bt58) (by omega) (by omega) ?_
      refine Tr.gen (P := fun v => (-2147483648) ≤ v ∧ v ≤ 2147483647) (tl_eI hS ((St.kp h3 (by decide) (by decide) (by decide)).trans eg63_1) (j := 2) (by decide) (by decide) bt58 (by omega) (by omega)) (fun r63 er63 br63 => ?_)
      exact Tr.iret (pc := 64) d_X11_stretch_64 rfl ⟨hS, _, rfl, by omega, by omega⟩
    · refine Tr.tp 1 c28 ?_
      refine Tr.tswIn (pc := 28) (off := 37) (tgt := 65) d_X11_stretch_28 (by decide) (by decide) rfl rfl ?_
      refine Tr.aload (pc := 65) (i := 5) d_X11_stretch_65 rfl ?_
      refine Tr.getf (pc := 67) d_X11_stretch_67 f_11_220 (by decide) (by decide) (ty_63 hS.1.1) ?_
      refine Tr.gen (P := fun v => v = tref g63_1 3) (tl_ref hS ((St.kp h3 (by decide) (by decide) (by decide)).trans eg63_1) (by decide)) (fun t67 et67 bt67 => ?_)
      refine Tr.iload (pc := 70) (i := 4) d_X11_stretch_70 rfl ?_
      have nk72_0 : rd M3 63 0 = g63_0 := ((St.kp h3 (by decide) (by decide) (by decide)).trans eg63_0)
      have nn72 := tl_n hS ((St.kp h3 (by decide) (by decide) (by decide)).trans eg63_1)
      refine Tr.iald (pc := 72) d_X11_stretch_72 (tl_tyI hS ((St.kp h3 (by decide) (by decide) (by decide)).trans eg63_1) (j := 3) (by decide) (by decide) bt67) (by omega) (by omega) ?_
      refine Tr.gen (P := fun v => (-2147483648) ≤ v ∧ v ≤ 2147483647) (tl_eI hS ((St.kp h3 (by decide) (by decide) (by decide)).trans eg63_1) (j := 3) (by decide) (by decide) bt67 (by omega) (by omega)) (fun r72 er72 br72 => ?_)
      exact Tr.iret (pc := 73) d_X11_stretch_73 rfl ⟨hS, _, rfl, by omega, by omega⟩
    · refine Tr.tp 2 c28 ?_
      refine Tr.tswIn (pc := 28) (off := 46) (tgt := 74) d_X11_stretch_28 (by decide) (by decide) rfl rfl ?_
      refine Tr.aload (pc := 74) (i := 5) d_X11_stretch_74 rfl ?_
      refine Tr.getf (pc := 76) d_X11_stretch_76 f_11_223 (by decide) (by decide) (ty_63 hS.1.1) ?_
      refine Tr.gen (P := fun v => v = tref g63_1 4) (tl_ref hS ((St.kp h3 (by decide) (by decide) (by decide)).trans eg63_1) (by decide)) (fun t76 et76 bt76 => ?_)
      refine Tr.iload (pc := 79) (i := 4) d_X11_stretch_79 rfl ?_
      have nk81_0 : rd M3 63 0 = g63_0 := ((St.kp h3 (by decide) (by decide) (by decide)).trans eg63_0)
      have nn81 := tl_n hS ((St.kp h3 (by decide) (by decide) (by decide)).trans eg63_1)
      refine Tr.iald (pc := 81) d_X11_stretch_81 (tl_tyI hS ((St.kp h3 (by decide) (by decide) (by decide)).trans eg63_1) (j := 4) (by decide) (by decide) bt76) (by omega) (by omega) ?_
      refine Tr.gen (P := fun v => (-2147483648) ≤ v ∧ v ≤ 2147483647) (tl_eI hS ((St.kp h3 (by decide) (by decide) (by decide)).trans eg63_1) (j := 4) (by decide) (by decide) bt76 (by omega) (by omega)) (fun r81 er81 br81 => ?_)
      exact Tr.iret (pc := 82) d_X11_stretch_82 rfl ⟨hS, _, rfl, by omega, by omega⟩
  · refine Tr.iconst (pc := 13) d_X11_stretch_13 (by decide) ?_
    exact Tr.iret (pc := 14) d_X11_stretch_14 rfl ⟨hS, _, rfl, by omega, by omega⟩

def ws_X11_lines_0 : List (Int × Int) := []
def as_X11_lines_0 : List Int := []
def q_X11_lines_0 (M0 M' : Mem) (r : Option PV) : Prop := St Tru ws_X11_lines_0 as_X11_lines_0 M0 M' ∧ ∃ v : Int, r = some (1, v) ∧ 0 ≤ v ∧ v ≤ 0
set_option maxRecDepth 100000 in
set_option maxHeartbeats 4000000 in
theorem sp_X11_lines_0 {l : Launch} {K : EC} {M0 : Mem} (hI : In Tru M0) (en_0_9 : rd M0 0 9 = 0) (a1 : Int) (ha1 : (-2147483648) ≤ a1 ∧ a1 ≤ 2147483647) (a2 : Int) (ha2 : (-2147483648) ≤ a2 ∧ a2 ≤ 2147483647)  : Tr l K 1 mX11_lines 0 [(0, (2, 0)), (1, (0, a1)), (2, (0, a2))] [] M0 (q_X11_lines_0 M0) := by
  have hS : St Tru ws_X11_lines_0 as_X11_lines_0 M0 M0 := St.rf hI
  obtain ⟨g63_1, eg63_1⟩ : ∃ v, rd M0 63 1 = v := ⟨_, rfl⟩
  have bg63_1 : (-1000000000) ≤ g63_1 ∧ g63_1 ≤ 1000000000 := by rw [← eg63_1]; exact ir_63_1 hI.2.1
  obtain ⟨g63_0, eg63_0⟩ : ∃ v, rd M0 63 0 = v := ⟨_, rfl⟩
  have bg63_0 : (-2147483648) ≤ g63_0 ∧ g63_0 ≤ 2147483647 := by rw [← eg63_0]; exact ir_63_0 hI.2.1
  refine Tr.aload_n (pc := 0) (i := 0) d_X11_lines_0 rfl rfl ?_
  refine Tr.iload_n (pc := 1) (i := 1) d_X11_lines_1 rfl rfl ?_
  refine Tr.iload_n (pc := 2) (i := 2) d_X11_lines_2 rfl rfl ?_
  refine Tr.callV (pc := 3) (as := [_, _]) d_X11_lines_3 s_11_214 ok_X11_stretchPlace rfl rfl (Nat.le_of_ble_eq_true rfl) (Nat.le_of_ble_eq_true rfl) (by decide) (ty_0 hS.1.1) ?_
  refine Tr.imp (Tr.deep (by decide) (sp_X11_stretchPlace_0 hS.1 ((St.kp hS (by decide) (by decide) (by decide)).trans en_0_9) a1 (by omega) a2 (by omega))) ?_
  rintro M3 _ ⟨h3, r3, rfl, lr3, ur3, z3_0⟩
  have hS := St.tr hS h3 (by decide) (by decide)
  have ka3_63_0 : rd M3 63 0 = g63_0 := ((St.kp h3 (by decide) (by decide) (by decide)).trans eg63_0)
  refine Tr.sc [(0, r3)] rfl ?_
  refine Tr.istore_n (pc := 6) (i := 3) (ls2 := [(3, (0, r3)), (0, (2, 0)), (1, (0, a1)), (2, (0, a2))]) d_X11_lines_6 rfl (by decide) rfl ?_
  refine Tr.iload_n (pc := 7) (i := 3) d_X11_lines_7 rfl rfl ?_
  refine Tr.tp (-1) (by omega) ?_
  refine Tr.if_ge (pc := 8) (tgt := 15) d_X11_lines_8 rfl (fun hc => absurd hc (by omega)) (fun _ => ?_)
  refine Tr.lconst (pc := 11) (v := 0) d_X11_lines_11 rfl (by decide) ?_
  refine Tr.goto (pc := 12) (tgt := 30) d_X11_lines_12 rfl ?_
  exact Tr.lret (pc := 30) d_X11_lines_30 rfl ⟨hS, _, rfl, by omega, by omega⟩

def ws_X11_lines_0_w1 : List (Int × Int) := []
def as_X11_lines_0_w1 : List Int := []
def q_X11_lines_0_w1 (M0 M' : Mem) (r : Option PV) : Prop := St Tru ws_X11_lines_0_w1 as_X11_lines_0_w1 M0 M' ∧ ∃ v : Int, r = some (1, v) ∧ (-9223372036854775808) ≤ v ∧ v ≤ 9223372036854775807
set_option maxRecDepth 100000 in
set_option maxHeartbeats 4000000 in
theorem sp_X11_lines_0_w1 {l : Launch} {K : EC} {M0 : Mem} (hI : In Tru M0) (en_0_4 : rd M0 0 4 = 7) (en_0_9 : rd M0 0 9 = 1) (a1 : Int) (ha1 : (-2147483648) ≤ a1 ∧ a1 ≤ 2147483647) (a2 : Int) (ha2 : (-2147483648) ≤ a2 ∧ a2 ≤ 2147483647)  : Tr l K 2 mX11_lines 0 [(0, (2, 0)), (1, (0, a1)), (2, (0, a2))] [] M0 (q_X11_lines_0_w1 M0) := by
  have hS : St Tru ws_X11_lines_0_w1 as_X11_lines_0_w1 M0 M0 := St.rf hI
  obtain ⟨g63_1, eg63_1⟩ : ∃ v, rd M0 63 1 = v := ⟨_, rfl⟩
  have bg63_1 : (-1000000000) ≤ g63_1 ∧ g63_1 ≤ 1000000000 := by rw [← eg63_1]; exact ir_63_1 hI.2.1
  obtain ⟨g63_0, eg63_0⟩ : ∃ v, rd M0 63 0 = v := ⟨_, rfl⟩
  have bg63_0 : (-2147483648) ≤ g63_0 ∧ g63_0 ≤ 2147483647 := by rw [← eg63_0]; exact ir_63_0 hI.2.1
  refine Tr.aload_n (pc := 0) (i := 0) d_X11_lines_0 rfl rfl ?_
  refine Tr.iload_n (pc := 1) (i := 1) d_X11_lines_1 rfl rfl ?_
  refine Tr.iload_n (pc := 2) (i := 2) d_X11_lines_2 rfl rfl ?_
  refine Tr.callV (pc := 3) (as := [_, _]) d_X11_lines_3 s_11_214 ok_X11_stretchPlace rfl rfl (Nat.le_of_ble_eq_true rfl) (Nat.le_of_ble_eq_true rfl) (by decide) (ty_0 hS.1.1) ?_
  refine Tr.imp (Tr.deep (by decide) (sp_X11_stretchPlace_0_w1 hS.1 ((St.kp hS (by decide) (by decide) (by decide)).trans en_0_4) ((St.kp hS (by decide) (by decide) (by decide)).trans en_0_9) a1 (by omega) a2 (by omega))) ?_
  rintro M3 _ ⟨h3, r3, rfl, lr3, ur3, z3_0⟩
  have hS := St.tr hS h3 (by decide) (by decide)
  have ka3_63_0 : rd M3 63 0 = g63_0 := ((St.kp h3 (by decide) (by decide) (by decide)).trans eg63_0)
  refine Tr.sc [(0, r3)] rfl ?_
  refine Tr.istore_n (pc := 6) (i := 3) (ls2 := [(3, (0, r3)), (0, (2, 0)), (1, (0, a1)), (2, (0, a2))]) d_X11_lines_6 rfl (by decide) rfl ?_
  refine Tr.iload_n (pc := 7) (i := 3) d_X11_lines_7 rfl rfl ?_
  refine Tr.if_ge (pc := 8) (tgt := 15) d_X11_lines_8 rfl (fun c8 => ?_) (fun c8 => ?_)
  · refine Tr.aload_n (pc := 15) (i := 0) d_X11_lines_15 rfl rfl ?_
    refine Tr.getf (pc := 16) d_X11_lines_16 f_11_46 (by decide) (by decide) (ty_0 hS.1.1) ?_
    refine Tr.tp 48 (fx_0_7 hS.1.1) ?_
    refine Tr.getf (pc := 19) d_X11_lines_19 f_11_178 (by decide) (by decide) (ty_48 hS.1.1) ?_
    refine Tr.tp 56 (fx_48_0 hS.1.1) ?_
    refine Tr.getf (pc := 22) d_X11_lines_22 f_11_201 (by decide) (by decide) (ty_56 hS.1.1) ?_
    refine Tr.tp 63 (fx_56_8 hS.1.1) ?_
    refine Tr.getf (pc := 25) d_X11_lines_25 f_11_226 (by decide) (by decide) (ty_63 hS.1.1) ?_
    refine Tr.gen (P := fun v => v = tref g63_1 5) (tl_ref hS ((St.kp h3 (by decide) (by decide) (by decide)).trans eg63_1) (by decide)) (fun t25 et25 bt25 => ?_)
    refine Tr.iload_n (pc := 28) (i := 3) d_X11_lines_28 rfl rfl ?_
    have nk29_0 : rd M3 63 0 = g63_0 := ((St.kp h3 (by decide) (by decide) (by decide)).trans eg63_0)
    have nn29 := tl_n hS ((St.kp h3 (by decide) (by decide) (by decide)).trans eg63_1)
    refine Tr.lald (pc := 29) d_X11_lines_29 (tl_tyL hS ((St.kp h3 (by decide) (by decide) (by decide)).trans eg63_1) bt25) (by omega) (by omega) ?_
    refine Tr.gen (P := fun v => (-9223372036854775808) ≤ v ∧ v ≤ 9223372036854775807) (tl_eL hS ((St.kp h3 (by decide) (by decide) (by decide)).trans eg63_1) bt25 (by omega) (by omega)) (fun r29 er29 br29 => ?_)
    exact Tr.lret (pc := 30) d_X11_lines_30 rfl ⟨hS, _, rfl, by omega, by omega⟩
  · refine Tr.lconst (pc := 11) (v := 0) d_X11_lines_11 rfl (by decide) ?_
    refine Tr.goto (pc := 12) (tgt := 30) d_X11_lines_12 rfl ?_
    exact Tr.lret (pc := 30) d_X11_lines_30 rfl ⟨hS, _, rfl, by omega, by omega⟩

def ws_X11_byTurns_0 : List (Int × Int) := []
def as_X11_byTurns_0 : List Int := []
def q_X11_byTurns_0 (M0 M' : Mem) (r : Option PV) : Prop := St Tru ws_X11_byTurns_0 as_X11_byTurns_0 M0 M' ∧ ∃ v : Int, r = some (1, v) ∧ (-1000000000000000) ≤ v ∧ v ≤ (-1000000000000000)
set_option maxRecDepth 100000 in
set_option maxHeartbeats 4000000 in
theorem sp_X11_byTurns_0 {l : Launch} {K : EC} {M0 : Mem} (hI : In Tru M0) (en_0_9 : rd M0 0 9 = 0) (a1 : Int) (ha1 : (-2147483648) ≤ a1 ∧ a1 ≤ 2147483647) (a2 : Int) (ha2 : (-2147483648) ≤ a2 ∧ a2 ≤ 2147483647) (a3 : Int) (ha3 : (-2147483648) ≤ a3 ∧ a3 ≤ 2147483647) (a4 : Int) (ha4 : 0 ≤ a4 ∧ a4 ≤ 1)  : Tr l K 1 mX11_byTurns 0 [(0, (2, 0)), (1, (0, a1)), (2, (0, a2)), (3, (0, a3)), (4, (0, a4))] [] M0 (q_X11_byTurns_0 M0) := by
  have hS : St Tru ws_X11_byTurns_0 as_X11_byTurns_0 M0 M0 := St.rf hI
  obtain ⟨g63_1, eg63_1⟩ : ∃ v, rd M0 63 1 = v := ⟨_, rfl⟩
  have bg63_1 : (-1000000000) ≤ g63_1 ∧ g63_1 ≤ 1000000000 := by rw [← eg63_1]; exact ir_63_1 hI.2.1
  obtain ⟨g63_0, eg63_0⟩ : ∃ v, rd M0 63 0 = v := ⟨_, rfl⟩
  have bg63_0 : (-2147483648) ≤ g63_0 ∧ g63_0 ≤ 2147483647 := by rw [← eg63_0]; exact ir_63_0 hI.2.1
  refine Tr.aload_n (pc := 0) (i := 0) d_X11_byTurns_0 rfl rfl ?_
  refine Tr.iload_n (pc := 1) (i := 1) d_X11_byTurns_1 rfl rfl ?_
  refine Tr.iload_n (pc := 2) (i := 2) d_X11_byTurns_2 rfl rfl ?_
  refine Tr.callV (pc := 3) (as := [_, _]) d_X11_byTurns_3 s_11_214 ok_X11_stretchPlace rfl rfl (Nat.le_of_ble_eq_true rfl) (Nat.le_of_ble_eq_true rfl) (by decide) (ty_0 hS.1.1) ?_
  refine Tr.imp (Tr.deep (by decide) (sp_X11_stretchPlace_0 hS.1 ((St.kp hS (by decide) (by decide) (by decide)).trans en_0_9) a1 (by omega) a2 (by omega))) ?_
  rintro M3 _ ⟨h3, r3, rfl, lr3, ur3, z3_0⟩
  have hS := St.tr hS h3 (by decide) (by decide)
  have ka3_63_0 : rd M3 63 0 = g63_0 := ((St.kp h3 (by decide) (by decide) (by decide)).trans eg63_0)
  refine Tr.sc [(0, r3)] rfl ?_
  refine Tr.istore (pc := 6) (i := 5) (ls2 := [(5, (0, r3)), (0, (2, 0)), (1, (0, a1)), (2, (0, a2)), (3, (0, a3)), (4, (0, a4))]) d_X11_byTurns_6 (by decide) rfl ?_
  refine Tr.iload (pc := 8) (i := 5) d_X11_byTurns_8 rfl ?_
  refine Tr.tp (-1) (by omega) ?_
  refine Tr.if_lt (pc := 10) (tgt := 21) d_X11_byTurns_10 rfl (fun _ => ?_) (fun hc => absurd (by omega) hc)
  refine Tr.ldc2 (pc := 21) d_X11_byTurns_21 kl_11_230 (by decide) ?_
  exact Tr.lret (pc := 24) d_X11_byTurns_24 rfl ⟨hS, _, rfl, by omega, by omega⟩

def ws_X11_wasted_0 : List (Int × Int) := []
def as_X11_wasted_0 : List Int := []
def q_X11_wasted_0 (M0 M' : Mem) (r : Option PV) : Prop := St Tru ws_X11_wasted_0 as_X11_wasted_0 M0 M' ∧ ∃ v : Int, r = some (0, v) ∧ (-1) ≤ v ∧ v ≤ (-1)
set_option maxRecDepth 100000 in
set_option maxHeartbeats 4000000 in
theorem sp_X11_wasted_0 {l : Launch} {K : EC} {M0 : Mem} (hI : In Tru M0) (en_0_9 : rd M0 0 9 = 0) (a1 : Int) (ha1 : (-2147483648) ≤ a1 ∧ a1 ≤ 2147483647)  : Tr l K 0 mX11_wasted 0 [(0, (2, 0)), (1, (0, a1))] [] M0 (q_X11_wasted_0 M0) := by
  have hS : St Tru ws_X11_wasted_0 as_X11_wasted_0 M0 M0 := St.rf hI
  refine Tr.aload_n (pc := 0) (i := 0) d_X11_wasted_0 rfl rfl ?_
  refine Tr.getz (pc := 1) d_X11_wasted_1 f_11_109 (by decide) (ty_0 hS.1.1) ?_
  refine Tr.tp 0 ((St.kp hS (by decide) (by decide) (by decide)).trans en_0_9) ?_
  refine Tr.if_eq (pc := 4) (tgt := 15) d_X11_wasted_4 rfl (fun _ => ?_) (fun hc => absurd (by omega) hc)
  refine Tr.iconst (pc := 15) d_X11_wasted_15 (by decide) ?_
  exact Tr.iret (pc := 16) d_X11_wasted_16 rfl ⟨hS, _, rfl, by omega, by omega⟩

def ws_X11_wasted_0_w1 : List (Int × Int) := []
def as_X11_wasted_0_w1 : List Int := []
def q_X11_wasted_0_w1 (M0 M' : Mem) (r : Option PV) : Prop := St Tru ws_X11_wasted_0_w1 as_X11_wasted_0_w1 M0 M' ∧ ∃ v : Int, r = some (0, v) ∧ (-2147483648) ≤ v ∧ v ≤ 2147483647
set_option maxRecDepth 100000 in
set_option maxHeartbeats 4000000 in
theorem sp_X11_wasted_0_w1 {l : Launch} {K : EC} {M0 : Mem} (hI : In Tru M0) (en_0_4 : rd M0 0 4 = 7) (en_0_9 : rd M0 0 9 = 1) (a1 : Int) (ha1 : (-2147483648) ≤ a1 ∧ a1 ≤ 2147483647)  : Tr l K 1 mX11_wasted 0 [(0, (2, 0)), (1, (0, a1))] [] M0 (q_X11_wasted_0_w1 M0) := by
  have hS : St Tru ws_X11_wasted_0_w1 as_X11_wasted_0_w1 M0 M0 := St.rf hI
  refine Tr.aload_n (pc := 0) (i := 0) d_X11_wasted_0 rfl rfl ?_
  refine Tr.getz (pc := 1) d_X11_wasted_1 f_11_109 (by decide) (ty_0 hS.1.1) ?_
  refine Tr.tp 1 ((St.kp hS (by decide) (by decide) (by decide)).trans en_0_9) ?_
  refine Tr.if_eq (pc := 4) (tgt := 15) d_X11_wasted_4 rfl (fun hc => absurd hc (by omega)) (fun _ => ?_)
  refine Tr.aload_n (pc := 7) (i := 0) d_X11_wasted_7 rfl rfl ?_
  refine Tr.iload_n (pc := 8) (i := 1) d_X11_wasted_8 rfl rfl ?_
  refine Tr.callV (pc := 9) (as := [_]) d_X11_wasted_9 s_11_191 ok_X11_isLine rfl rfl (Nat.le_of_ble_eq_true rfl) (Nat.le_of_ble_eq_true rfl) (by decide) (ty_0 hS.1.1) ?_
  refine Tr.imp (Tr.deep (by decide) (sp_X11_isLine_0 hS.1 ((St.kp hS (by decide) (by decide) (by decide)).trans en_0_4) a1 (by omega))) ?_
  rintro M9 _ ⟨h9, r9, rfl, lr9, ur9, wr9⟩
  have hS := St.tr hS h9 (by decide) (by decide)
  refine Tr.sc [(0, r9)] rfl ?_
  refine Tr.if_ne (pc := 12) (tgt := 17) d_X11_wasted_12 rfl (fun c12 => ?_) (fun c12 => ?_)
  · refine Tr.aload_n (pc := 17) (i := 0) d_X11_wasted_17 rfl rfl ?_
    refine Tr.getf (pc := 18) d_X11_wasted_18 f_11_46 (by decide) (by decide) (ty_0 hS.1.1) ?_
    refine Tr.tp 48 (fx_0_7 hS.1.1) ?_
    refine Tr.getf (pc := 21) d_X11_wasted_21 f_11_178 (by decide) (by decide) (ty_48 hS.1.1) ?_
    refine Tr.tp 56 (fx_48_0 hS.1.1) ?_
    refine Tr.getf (pc := 24) d_X11_wasted_24 f_11_246 (by decide) (by decide) (ty_56 hS.1.1) ?_
    refine Tr.tp 62 (fx_56_7 hS.1.1) ?_
    refine Tr.iload_n (pc := 27) (i := 1) d_X11_wasted_27 rfl rfl ?_
    refine Tr.iald (pc := 28) d_X11_wasted_28 (ty_62 hS.1.1) (by omega) (by omega) ?_
    refine Tr.gen (P := fun v => (-2147483648) ≤ v ∧ v ≤ 2147483647) (ar_62 hS.1.2.1 _) (fun r28 er28 br28 => ?_)
    exact Tr.iret (pc := 29) d_X11_wasted_29 rfl ⟨hS, _, rfl, by omega, by omega⟩
  · refine Tr.iconst (pc := 15) d_X11_wasted_15 (by decide) ?_
    exact Tr.iret (pc := 16) d_X11_wasted_16 rfl ⟨hS, _, rfl, by omega, by omega⟩

def ws_X10_chosenInput_103 : List (Int × Int) := []
def as_X10_chosenInput_103 : List Int := []
def q_X10_chosenInput_103 (M0 M' : Mem) (r : Option PV) : Prop := St Tru ws_X10_chosenInput_103 as_X10_chosenInput_103 M0 M' ∧ ∃ v : Int, r = some (0, v) ∧ (-2147483648) ≤ v ∧ v ≤ 2147483647
set_option maxRecDepth 100000 in
set_option maxHeartbeats 4000000 in
theorem sp_X10_chosenInput_103 {l : Launch} {K : EC} {M0 : Mem} (hI : In Tru M0)  (a1 : Int) (ha1 : 0 ≤ a1 ∧ a1 ≤ 2)  : Tr l K 0 mX10_chosenInput 0 [(0, (2, 103)), (1, (0, a1))] [] M0 (q_X10_chosenInput_103 M0) := by
  have hS : St Tru ws_X10_chosenInput_103 as_X10_chosenInput_103 M0 M0 := St.rf hI
  refine Tr.aload_n (pc := 0) (i := 0) d_X10_chosenInput_0 rfl rfl ?_
  refine Tr.getz (pc := 1) d_X10_chosenInput_1 f_10_21 (by decide) (ty_103 hS.1.1) ?_
  refine Tr.gen (P := fun v => 0 ≤ v ∧ v ≤ 1) (ir_103_0 hS.1.2.1) (fun r1 er1 br1 => ?_)
  refine Tr.if_ne (pc := 4) (tgt := 9) d_X10_chosenInput_4 rfl (fun c4 => ?_) (fun c4 => ?_)
  · refine Tr.aload_n (pc := 9) (i := 0) d_X10_chosenInput_9 rfl rfl ?_
    refine Tr.getz (pc := 10) d_X10_chosenInput_10 f_10_52 (by decide) (ty_103 hS.1.1) ?_
    refine Tr.gen (P := fun v => 0 ≤ v ∧ v ≤ 1) (ir_103_1 hS.1.2.1) (fun r10 er10 br10 => ?_)
    refine Tr.if_eq (pc := 13) (tgt := 25) d_X10_chosenInput_13 rfl (fun c13 => ?_) (fun c13 => ?_)
    · refine Tr.aload_n (pc := 25) (i := 0) d_X10_chosenInput_25 rfl rfl ?_
      refine Tr.getf (pc := 26) d_X10_chosenInput_26 f_10_18 (by decide) (by decide) (ty_103 hS.1.1) ?_
      refine Tr.tp 106 (fx_103_6 hS.1.1) ?_
      refine Tr.iload_n (pc := 29) (i := 1) d_X10_chosenInput_29 rfl rfl ?_
      refine Tr.iald (pc := 30) d_X10_chosenInput_30 (ty_106 hS.1.1) (by omega) (by omega) ?_
      refine Tr.gen (P := fun v => (-2147483648) ≤ v ∧ v ≤ 2147483647) (ar_106 hS.1.2.1 _) (fun r30 er30 br30 => ?_)
      exact Tr.iret (pc := 31) d_X10_chosenInput_31 rfl ⟨hS, _, rfl, by omega, by omega⟩
    · refine Tr.aload_n (pc := 16) (i := 0) d_X10_chosenInput_16 rfl rfl ?_
      refine Tr.getf (pc := 17) d_X10_chosenInput_17 f_10_15 (by decide) (by decide) (ty_103 hS.1.1) ?_
      refine Tr.tp 105 (fx_103_5 hS.1.1) ?_
      refine Tr.iload_n (pc := 20) (i := 1) d_X10_chosenInput_20 rfl rfl ?_
      refine Tr.iald (pc := 21) d_X10_chosenInput_21 (ty_105 hS.1.1) (by omega) (by omega) ?_
      refine Tr.gen (P := fun v => (-2147483648) ≤ v ∧ v ≤ 2147483647) (ar_105 hS.1.2.1 _) (fun r21 er21 br21 => ?_)
      refine Tr.goto (pc := 22) (tgt := 31) d_X10_chosenInput_22 rfl ?_
      exact Tr.iret (pc := 31) d_X10_chosenInput_31 rfl ⟨hS, _, rfl, by omega, by omega⟩
  · refine Tr.iconst (pc := 7) d_X10_chosenInput_7 (by decide) ?_
    exact Tr.iret (pc := 8) d_X10_chosenInput_8 rfl ⟨hS, _, rfl, by omega, by omega⟩

def ws_X11_where_0 : List (Int × Int) := []
def as_X11_where_0 : List Int := []
def q_X11_where_0 (M0 M' : Mem) (r : Option PV) : Prop := St Tru ws_X11_where_0 as_X11_where_0 M0 M' ∧ ∃ v : Int, r = some (0, v) ∧ (-2147483648) ≤ v ∧ v ≤ 2147483647
set_option maxRecDepth 100000 in
set_option maxHeartbeats 4000000 in
theorem sp_X11_where_0 {l : Launch} {K : EC} {M0 : Mem} (hI : In Tru M0) (en_0_4 : rd M0 0 4 = 7) (a1 : Int) (ha1 : (-2147483648) ≤ a1 ∧ a1 ≤ 2147483647)  : Tr l K 1 mX11_where 0 [(0, (2, 0)), (1, (0, a1))] [] M0 (q_X11_where_0 M0) := by
  have hS : St Tru ws_X11_where_0 as_X11_where_0 M0 M0 := St.rf hI
  refine Tr.iload_n (pc := 0) (i := 1) d_X11_where_0 rfl rfl ?_
  refine Tr.if_lt (pc := 1) (tgt := 17) d_X11_where_1 rfl (fun c1 => ?_) (fun c1 => ?_)
  · refine Tr.iconst (pc := 17) d_X11_where_17 (by decide) ?_
    exact Tr.iret (pc := 18) d_X11_where_18 rfl ⟨hS, _, rfl, by omega, by omega⟩
  · refine Tr.iload_n (pc := 4) (i := 1) d_X11_where_4 rfl rfl ?_
    refine Tr.aload_n (pc := 5) (i := 0) d_X11_where_5 rfl rfl ?_
    refine Tr.getf (pc := 6) d_X11_where_6 f_11_30 (by decide) (by decide) (ty_0 hS.1.1) ?_
    refine Tr.tp 7 ((St.kp hS (by decide) (by decide) (by decide)).trans en_0_4) ?_
    refine Tr.getf (pc := 9) d_X11_where_9 f_11_130 (by decide) (by decide) (ty_7 hS.1.1) ?_
    refine Tr.tp 8 (fx_7_4 hS.1.1) ?_
    refine Tr.iconst (pc := 12) d_X11_where_12 (by decide) ?_
    refine Tr.iald (pc := 13) d_X11_where_13 (ty_8 hS.1.1) (by omega) (by omega) ?_
    refine Tr.gen (P := fun v => 0 ≤ v ∧ v ≤ 3) (ir_8_1 hS.1.2.1) (fun r13 er13 br13 => ?_)
    refine Tr.icmp_lt (pc := 14) (tgt := 19) d_X11_where_14 rfl (fun c14 => ?_) (fun c14 => ?_)
    · refine Tr.aload_n (pc := 19) (i := 0) d_X11_where_19 rfl rfl ?_
      refine Tr.getf (pc := 20) d_X11_where_20 f_11_63 (by decide) (by decide) (ty_0 hS.1.1) ?_
      refine Tr.tp 103 (fx_0_11 hS.1.1) ?_
      refine Tr.iload_n (pc := 23) (i := 1) d_X11_where_23 rfl rfl ?_
      refine Tr.callV (pc := 24) (as := [_]) d_X11_where_24 s_11_268 ok_X10_chosenInput rfl rfl (Nat.le_of_ble_eq_true rfl) (Nat.le_of_ble_eq_true rfl) (by decide) (ty_103 hS.1.1) ?_
      refine Tr.imp (Tr.deep (by decide) (sp_X10_chosenInput_103 hS.1 a1 (by omega))) ?_
      rintro M24 _ ⟨h24, r24, rfl, lr24, ur24⟩
      have hS := St.tr hS h24 (by decide) (by decide)
      refine Tr.sc [(0, r24)] rfl ?_
      exact Tr.iret (pc := 27) d_X11_where_27 rfl ⟨hS, _, rfl, by omega, by omega⟩
    · refine Tr.iconst (pc := 17) d_X11_where_17 (by decide) ?_
      exact Tr.iret (pc := 18) d_X11_where_18 rfl ⟨hS, _, rfl, by omega, by omega⟩

def ws_X2_ownSips_107_7 : List (Int × Int) := []
def as_X2_ownSips_107_7 : List Int := []
def q_X2_ownSips_107_7 (M0 M' : Mem) (r : Option PV) : Prop := St Tru ws_X2_ownSips_107_7 as_X2_ownSips_107_7 M0 M' ∧ ∃ v : Int, r = some (0, v) ∧ (-2147483648) ≤ v ∧ v ≤ 2147483647
set_option maxRecDepth 100000 in
set_option maxHeartbeats 4000000 in
theorem sp_X2_ownSips_107_7 {l : Launch} {K : EC} {M0 : Mem} (hI : In Tru M0)  (a2 : Int) (ha2 : 0 ≤ a2 ∧ a2 ≤ 5) (a3 : Int) (ha3 : 0 ≤ a3 ∧ a3 ≤ 11)  : Tr l K 0 mX2_ownSips 0 [(0, (2, 107)), (1, (2, 7)), (2, (0, a2)), (3, (0, a3))] [] M0 (q_X2_ownSips_107_7 M0) := by
  have hS : St Tru ws_X2_ownSips_107_7 as_X2_ownSips_107_7 M0 M0 := St.rf hI
  refine Tr.iconst (pc := 0) d_X2_ownSips_0 (by decide) ?_
  refine Tr.istore (pc := 1) (i := 4) (ls2 := [(4, (0, 0)), (0, (2, 107)), (1, (2, 7)), (2, (0, a2)), (3, (0, a3))]) d_X2_ownSips_1 (by decide) rfl ?_
  refine Tr.iconst (pc := 3) d_X2_ownSips_3 (by decide) ?_
  refine Tr.istore (pc := 4) (i := 5) (ls2 := [(5, (0, 0)), (4, (0, 0)), (0, (2, 107)), (1, (2, 7)), (2, (0, a2)), (3, (0, a3))]) d_X2_ownSips_4 (by decide) rfl ?_
  have J6 : ∀ (n6 : Nat) (M : Mem) (p6_4 p6_5 : Int), St Tru ws_X2_ownSips_107_7 as_X2_ownSips_107_7 M0 M → ((-2147483648) ≤ p6_4 ∧ p6_4 ≤ 2147483647) → (0 ≤ p6_5 ∧ p6_5 ≤ 4) → (4 - p6_5).toNat < n6 → Tr l K 0 mX2_ownSips 6 [(0, (2, 107)), (1, (2, 7)), (2, (0, a2)), (3, (0, a3)), (4, (0, p6_4)), (5, (0, p6_5))] [] M (q_X2_ownSips_107_7 M0) := by
    intro n6
    induction n6 with
    | zero => intro M p6_4 p6_5 hS bp6_4 bp6_5  hm6; exact absurd hm6 (Nat.not_lt_zero _)
    | succ n6 J6 =>
      intro M p6_4 p6_5 hS bp6_4 bp6_5  hm6
      refine Tr.iload (pc := 6) (i := 5) d_X2_ownSips_6 rfl ?_
      refine Tr.iconst (pc := 8) d_X2_ownSips_8 (by decide) ?_
      refine Tr.icmp_ge (pc := 9) (tgt := 57) d_X2_ownSips_9 rfl (fun c9 => ?_) (fun c9 => ?_)
      · refine Tr.iload (pc := 57) (i := 4) d_X2_ownSips_57 rfl ?_
        exact Tr.iret (pc := 59) d_X2_ownSips_59 rfl ⟨hS, _, rfl, by omega, by omega⟩
      · refine Tr.iload (pc := 12) (i := 5) d_X2_ownSips_12 rfl ?_
        refine Tr.iconst (pc := 14) d_X2_ownSips_14 (by decide) ?_
        have J51 : ∀ (M : Mem) (p51_4 : Int), St Tru ws_X2_ownSips_107_7 as_X2_ownSips_107_7 M0 M → ((-2147483648) ≤ p51_4 ∧ p51_4 ≤ 2147483647) → Tr l K 0 mX2_ownSips 51 [(0, (2, 107)), (1, (2, 7)), (2, (0, a2)), (3, (0, a3)), (4, (0, p51_4)), (5, (0, p6_5))] [] M (q_X2_ownSips_107_7 M0) := by
          intro M p51_4 hS bp51_4 
          refine Tr.iincV (pc := 51) (n2 := (p6_5 + 1)) (ls2 := [(5, (0, (p6_5 + 1))), (0, (2, 107)), (1, (2, 7)), (2, (0, a2)), (3, (0, a3)), (4, (0, p51_4))]) d_X2_ownSips_51 rfl (by decide) ((w32_id (by omega)).trans (by omega)) rfl ?_
          refine Tr.goto (pc := 54) (tgt := 6) d_X2_ownSips_54 rfl ?_
          refine Tr.pick [1, 2, 3, 4, 5, 0] (ls2 := [(0, (2, 107)), (1, (2, 7)), (2, (0, a2)), (3, (0, a3)), (4, (0, p51_4)), (5, (0, (p6_5 + 1)))]) rfl ?_
          exact J6 _ _ _ hS (by omega) (by omega) (by omega)
        refine Tr.icmp_eq (pc := 15) (tgt := 51) d_X2_ownSips_15 rfl (fun c15 => ?_) (fun c15 => ?_)
        · refine Tr.pick [0, 1, 2, 3, 4, 5] (ls2 := [(0, (2, 107)), (1, (2, 7)), (2, (0, a2)), (3, (0, a3)), (4, (0, p6_4)), (5, (0, p6_5))]) rfl ?_
          exact J51 _ _ hS (by omega)
        · refine Tr.iload (pc := 18) (i := 4) d_X2_ownSips_18 rfl ?_
          refine Tr.aload_n (pc := 20) (i := 1) d_X2_ownSips_20 rfl rfl ?_
          refine Tr.getf (pc := 21) d_X2_ownSips_21 f_2_62 (by decide) (by decide) (ty_7 hS.1.1) ?_
          refine Tr.tp 9 (fx_7_5 hS.1.1) ?_
          refine Tr.iload_n (pc := 24) (i := 2) d_X2_ownSips_24 rfl rfl ?_
          refine Tr.iconst (pc := 25) d_X2_ownSips_25 (by decide) ?_
          refine Tr.imul (pc := 26) d_X2_ownSips_26 ?_
          refine Tr.tp (4 * a2) ((w32_id (by omega)).trans (by omega)) ?_
          refine Tr.iload (pc := 27) (i := 5) d_X2_ownSips_27 rfl ?_
          refine Tr.iadd (pc := 29) d_X2_ownSips_29 ?_
          refine Tr.tp (4 * a2 + p6_5) ((w32_id (by omega)).trans (by omega)) ?_
          refine Tr.iald (pc := 30) d_X2_ownSips_30 (ty_9 hS.1.1) (by omega) (by omega) ?_
          refine Tr.gen (P := fun v => (-1) ≤ v ∧ v ≤ 999) (ar_9 hS.1.2.1 _) (fun r30 er30 br30 => ?_)
          refine Tr.aload_n (pc := 31) (i := 0) d_X2_ownSips_31 rfl rfl ?_
          refine Tr.getf (pc := 32) d_X2_ownSips_32 f_2_21 (by decide) (by decide) (ty_107 hS.1.1) ?_
          refine Tr.tp 111 (fx_107_5 hS.1.1) ?_
          refine Tr.iload_n (pc := 35) (i := 3) d_X2_ownSips_35 rfl rfl ?_
          refine Tr.bipush (pc := 36) d_X2_ownSips_36 rfl (by decide) ?_
          refine Tr.imul (pc := 38) d_X2_ownSips_38 ?_
          refine Tr.tp (24 * a3) ((w32_id (by omega)).trans (by omega)) ?_
          refine Tr.iload_n (pc := 39) (i := 2) d_X2_ownSips_39 rfl rfl ?_
          refine Tr.iconst (pc := 40) d_X2_ownSips_40 (by decide) ?_
          refine Tr.imul (pc := 41) d_X2_ownSips_41 ?_
          refine Tr.tp (4 * a2) ((w32_id (by omega)).trans (by omega)) ?_
          refine Tr.iadd (pc := 42) d_X2_ownSips_42 ?_
          refine Tr.tp (4 * a2 + 24 * a3) ((w32_id (by omega)).trans (by omega)) ?_
          refine Tr.iload (pc := 43) (i := 5) d_X2_ownSips_43 rfl ?_
          refine Tr.iadd (pc := 45) d_X2_ownSips_45 ?_
          refine Tr.tp (4 * a2 + 24 * a3 + p6_5) ((w32_id (by omega)).trans (by omega)) ?_
          refine Tr.iald (pc := 46) d_X2_ownSips_46 (ty_111 hS.1.1) (by omega) (by omega) ?_
          refine Tr.gen (P := fun v => (-2147483648) ≤ v ∧ v ≤ 2147483647) (ar_111 hS.1.2.1 _) (fun r46 er46 br46 => ?_)
          refine Tr.imul (pc := 47) d_X2_ownSips_47 ?_
          refine Tr.gen (P := fun v => (-2147483648) ≤ v ∧ v ≤ 2147483647) (w32_b _) (fun r47 er47 br47 => ?_)
          refine Tr.iadd (pc := 48) d_X2_ownSips_48 ?_
          refine Tr.gen (P := fun v => (-2147483648) ≤ v ∧ v ≤ 2147483647) (w32_b _) (fun r48 er48 br48 => ?_)
          refine Tr.istore (pc := 49) (i := 4) (ls2 := [(4, (0, r48)), (0, (2, 107)), (1, (2, 7)), (2, (0, a2)), (3, (0, a3)), (5, (0, p6_5))]) d_X2_ownSips_49 (by decide) rfl ?_
          refine Tr.pick [1, 2, 3, 4, 0, 5] (ls2 := [(0, (2, 107)), (1, (2, 7)), (2, (0, a2)), (3, (0, a3)), (4, (0, r48)), (5, (0, p6_5))]) rfl ?_
          exact J51 _ _ hS (by omega)
  refine Tr.pick [2, 3, 4, 5, 1, 0] (ls2 := [(0, (2, 107)), (1, (2, 7)), (2, (0, a2)), (3, (0, a3)), (4, (0, 0)), (5, (0, 0))]) rfl ?_
  exact J6 _ _ _ _ hS (by omega) (by omega) (Nat.lt_succ_self _)
end
/-! 30.02 -/
section
def ws_X2_differences_107_w20 : List (Int × Int) := []
def as_X2_differences_107_w20 : List Int := []
def q_X2_differences_107_w20 (M0 M' : Mem) (r : Option PV) : Prop := St Tru ws_X2_differences_107_w20 as_X2_differences_107_w20 M0 M' ∧ ∃ v : Int, r = some (0, v) ∧ (-2147483648) ≤ v ∧ v ≤ 2147483647
set_option maxRecDepth 100000 in
set_option maxHeartbeats 4000000 in
theorem sp_X2_differences_107_w20 {l : Launch} {K : EC} {M0 : Mem} (hI : In Tru M0)  (a1 : Int) (ha1 : 0 ≤ a1 ∧ a1 ≤ 5) (a2 : Int) (ha2 : 0 ≤ a2 ∧ a2 ≤ 15) (a3 : Int) (ha3 : 0 ≤ a3 ∧ a3 ≤ 15) (a4 : Int) (ha4 : 0 ≤ a4 ∧ a4 ≤ 15)  : Tr l K 1 mX2_differences 0 [(0, (2, 107)), (1, (0, a1)), (2, (0, a2)), (3, (0, a3)), (4, (0, a4))] [] M0 (q_X2_differences_107_w20 M0) := by
  have hS : St Tru ws_X2_differences_107_w20 as_X2_differences_107_w20 M0 M0 := St.rf hI
  refine Tr.iconst (pc := 0) d_X2_differences_0 (by decide) ?_
  refine Tr.istore (pc := 1) (i := 5) (ls2 := [(5, (0, 0)), (0, (2, 107)), (1, (0, a1)), (2, (0, a2)), (3, (0, a3)), (4, (0, a4))]) d_X2_differences_1 (by decide) rfl ?_
  refine Tr.iconst (pc := 3) d_X2_differences_3 (by decide) ?_
  refine Tr.istore (pc := 4) (i := 6) (ls2 := [(6, (0, 0)), (5, (0, 0)), (0, (2, 107)), (1, (0, a1)), (2, (0, a2)), (3, (0, a3)), (4, (0, a4))]) d_X2_differences_4 (by decide) rfl ?_
  have J6 : ∀ (n6 : Nat) (M : Mem) (p6_5 p6_6 : Int), St Tru ws_X2_differences_107_w20 as_X2_differences_107_w20 M0 M → ((-2147483648) ≤ p6_5 ∧ p6_5 ≤ 2147483647) → (0 ≤ p6_6 ∧ p6_6 ≤ 12) → (12 - p6_6).toNat < n6 → Tr l K 1 mX2_differences 6 [(0, (2, 107)), (1, (0, a1)), (2, (0, a2)), (3, (0, a3)), (4, (0, a4)), (5, (0, p6_5)), (6, (0, p6_6))] [] M (q_X2_differences_107_w20 M0) := by
    intro n6
    induction n6 with
    | zero => intro M p6_5 p6_6 hS bp6_5 bp6_6  hm6; exact absurd hm6 (Nat.not_lt_zero _)
    | succ n6 J6 =>
      intro M p6_5 p6_6 hS bp6_5 bp6_6  hm6
      refine Tr.iload (pc := 6) (i := 6) d_X2_differences_6 rfl ?_
      refine Tr.aload_n (pc := 8) (i := 0) d_X2_differences_8 rfl rfl ?_
      refine Tr.getf (pc := 9) d_X2_differences_9 f_2_27 (by decide) (by decide) (ty_107 hS.1.1) ?_
      refine Tr.gen (P := fun v => 0 ≤ v ∧ v ≤ 12) (ir_107_0 hS.1.2.1) (fun r9 er9 br9 => ?_)
      refine Tr.icmp_ge (pc := 12) (tgt := 84) d_X2_differences_12 rfl (fun c12 => ?_) (fun c12 => ?_)
      · refine Tr.iload (pc := 84) (i := 5) d_X2_differences_84 rfl ?_
        exact Tr.iret (pc := 86) d_X2_differences_86 rfl ⟨hS, _, rfl, by omega, by omega⟩
      · refine Tr.iload (pc := 15) (i := 6) d_X2_differences_15 rfl ?_
        refine Tr.bipush (pc := 17) d_X2_differences_17 rfl (by decide) ?_
        refine Tr.imul (pc := 19) d_X2_differences_19 ?_
        refine Tr.tp (24 * p6_6) ((w32_id (by omega)).trans (by omega)) ?_
        refine Tr.iload_n (pc := 20) (i := 1) d_X2_differences_20 rfl rfl ?_
        refine Tr.iconst (pc := 21) d_X2_differences_21 (by decide) ?_
        refine Tr.imul (pc := 22) d_X2_differences_22 ?_
        refine Tr.tp (4 * a1) ((w32_id (by omega)).trans (by omega)) ?_
        refine Tr.iadd (pc := 23) d_X2_differences_23 ?_
        refine Tr.tp (4 * a1 + 24 * p6_6) ((w32_id (by omega)).trans (by omega)) ?_
        refine Tr.istore (pc := 24) (i := 7) (ls2 := [(7, (0, (4 * a1 + 24 * p6_6))), (0, (2, 107)), (1, (0, a1)), (2, (0, a2)), (3, (0, a3)), (4, (0, a4)), (5, (0, p6_5)), (6, (0, p6_6))]) d_X2_differences_24 (by decide) rfl ?_
        refine Tr.iload (pc := 26) (i := 5) d_X2_differences_26 rfl ?_
        refine Tr.aload_n (pc := 28) (i := 0) d_X2_differences_28 rfl rfl ?_
        refine Tr.getf (pc := 29) d_X2_differences_29 f_2_24 (by decide) (by decide) (ty_107 hS.1.1) ?_
        refine Tr.tp 112 (fx_107_6 hS.1.1) ?_
        refine Tr.iload (pc := 32) (i := 6) d_X2_differences_32 rfl ?_
        refine Tr.iald (pc := 34) d_X2_differences_34 (ty_112 hS.1.1) (by omega) (by omega) ?_
        refine Tr.gen (P := fun v => (-2147483648) ≤ v ∧ v ≤ 2147483647) (ar_112 hS.1.2.1 _) (fun r34 er34 br34 => ?_)
        refine Tr.iload_n (pc := 35) (i := 2) d_X2_differences_35 rfl rfl ?_
        refine Tr.aload_n (pc := 36) (i := 0) d_X2_differences_36 rfl rfl ?_
        refine Tr.getf (pc := 37) d_X2_differences_37 f_2_21 (by decide) (by decide) (ty_107 hS.1.1) ?_
        refine Tr.tp 111 (fx_107_5 hS.1.1) ?_
        refine Tr.iload (pc := 40) (i := 7) d_X2_differences_40 rfl ?_
        refine Tr.iconst (pc := 42) d_X2_differences_42 (by decide) ?_
        refine Tr.iadd (pc := 43) d_X2_differences_43 ?_
        refine Tr.tp (4 * a1 + 24 * p6_6) ((w32_id (by omega)).trans (by omega)) ?_
        refine Tr.iald (pc := 44) d_X2_differences_44 (ty_111 hS.1.1) (by omega) (by omega) ?_
        refine Tr.gen (P := fun v => (-2147483648) ≤ v ∧ v ≤ 2147483647) (ar_111 hS.1.2.1 _) (fun r44 er44 br44 => ?_)
        refine Tr.imul (pc := 45) d_X2_differences_45 ?_
        refine Tr.gen (P := fun v => (-2147483648) ≤ v ∧ v ≤ 2147483647) (w32_b _) (fun r45 er45 br45 => ?_)
        refine Tr.iadd (pc := 46) d_X2_differences_46 ?_
        refine Tr.gen (P := fun v => (-2147483648) ≤ v ∧ v ≤ 2147483647) (w32_b _) (fun r46 er46 br46 => ?_)
        refine Tr.iload_n (pc := 47) (i := 3) d_X2_differences_47 rfl rfl ?_
        refine Tr.aload_n (pc := 48) (i := 0) d_X2_differences_48 rfl rfl ?_
        refine Tr.getf (pc := 49) d_X2_differences_49 f_2_21 (by decide) (by decide) (ty_107 hS.1.1) ?_
        refine Tr.tp 111 (fx_107_5 hS.1.1) ?_
        refine Tr.iload (pc := 52) (i := 7) d_X2_differences_52 rfl ?_
        refine Tr.iconst (pc := 54) d_X2_differences_54 (by decide) ?_
        refine Tr.iadd (pc := 55) d_X2_differences_55 ?_
        refine Tr.tp (4 * a1 + 24 * p6_6 + 2) ((w32_id (by omega)).trans (by omega)) ?_
        refine Tr.iald (pc := 56) d_X2_differences_56 (ty_111 hS.1.1) (by omega) (by omega) ?_
        refine Tr.gen (P := fun v => (-2147483648) ≤ v ∧ v ≤ 2147483647) (ar_111 hS.1.2.1 _) (fun r56 er56 br56 => ?_)
        refine Tr.imul (pc := 57) d_X2_differences_57 ?_
        refine Tr.gen (P := fun v => (-2147483648) ≤ v ∧ v ≤ 2147483647) (w32_b _) (fun r57 er57 br57 => ?_)
        refine Tr.iadd (pc := 58) d_X2_differences_58 ?_
        refine Tr.gen (P := fun v => (-2147483648) ≤ v ∧ v ≤ 2147483647) (w32_b _) (fun r58 er58 br58 => ?_)
        refine Tr.iload (pc := 59) (i := 4) d_X2_differences_59 rfl ?_
        refine Tr.aload_n (pc := 61) (i := 0) d_X2_differences_61 rfl rfl ?_
        refine Tr.getf (pc := 62) d_X2_differences_62 f_2_21 (by decide) (by decide) (ty_107 hS.1.1) ?_
        refine Tr.tp 111 (fx_107_5 hS.1.1) ?_
        refine Tr.iload (pc := 65) (i := 7) d_X2_differences_65 rfl ?_
        refine Tr.iconst (pc := 67) d_X2_differences_67 (by decide) ?_
        refine Tr.iadd (pc := 68) d_X2_differences_68 ?_
        refine Tr.tp (4 * a1 + 24 * p6_6 + 3) ((w32_id (by omega)).trans (by omega)) ?_
        refine Tr.iald (pc := 69) d_X2_differences_69 (ty_111 hS.1.1) (by omega) (by omega) ?_
        refine Tr.gen (P := fun v => (-2147483648) ≤ v ∧ v ≤ 2147483647) (ar_111 hS.1.2.1 _) (fun r69 er69 br69 => ?_)
        refine Tr.imul (pc := 70) d_X2_differences_70 ?_
        refine Tr.gen (P := fun v => (-2147483648) ≤ v ∧ v ≤ 2147483647) (w32_b _) (fun r70 er70 br70 => ?_)
        refine Tr.iadd (pc := 71) d_X2_differences_71 ?_
        refine Tr.gen (P := fun v => (-2147483648) ≤ v ∧ v ≤ 2147483647) (w32_b _) (fun r71 er71 br71 => ?_)
        refine Tr.mabs (pc := 72) d_X2_differences_72 ml_2_67 mw_mabs (Nat.le_of_ble_eq_true rfl) ?_
        refine Tr.gen (P := fun v => (-2147483648) ≤ v ∧ v ≤ 2147483647) (f_abs_b (by omega)) (fun r72 er72 br72 => ?_)
        refine Tr.iadd (pc := 75) d_X2_differences_75 ?_
        refine Tr.gen (P := fun v => (-2147483648) ≤ v ∧ v ≤ 2147483647) (w32_b _) (fun r75 er75 br75 => ?_)
        refine Tr.istore (pc := 76) (i := 5) (ls2 := [(5, (0, r75)), (7, (0, (4 * a1 + 24 * p6_6))), (0, (2, 107)), (1, (0, a1)), (2, (0, a2)), (3, (0, a3)), (4, (0, a4)), (6, (0, p6_6))]) d_X2_differences_76 (by decide) rfl ?_
        refine Tr.iincV (pc := 78) (n2 := (p6_6 + 1)) (ls2 := [(6, (0, (p6_6 + 1))), (5, (0, r75)), (7, (0, (4 * a1 + 24 * p6_6))), (0, (2, 107)), (1, (0, a1)), (2, (0, a2)), (3, (0, a3)), (4, (0, a4))]) d_X2_differences_78 rfl (by decide) ((w32_id (by omega)).trans (by omega)) rfl ?_
        refine Tr.goto (pc := 81) (tgt := 6) d_X2_differences_81 rfl ?_
        refine Tr.pick [3, 4, 5, 6, 7, 1, 0] (ls2 := [(0, (2, 107)), (1, (0, a1)), (2, (0, a2)), (3, (0, a3)), (4, (0, a4)), (5, (0, r75)), (6, (0, (p6_6 + 1)))]) rfl ?_
        exact J6 _ _ _ hS (by omega) (by omega) (by omega)
  refine Tr.pick [2, 3, 4, 5, 6, 1, 0] (ls2 := [(0, (2, 107)), (1, (0, a1)), (2, (0, a2)), (3, (0, a3)), (4, (0, a4)), (5, (0, 0)), (6, (0, 0))]) rfl ?_
  exact J6 _ _ _ _ hS (by omega) (by omega) (Nat.lt_succ_self _)

def ws_X2_search_107_7 : List (Int × Int) := [(107, 1)]
def as_X2_search_107_7 : List Int := [108, 112]
def q_X2_search_107_7 (M0 M' : Mem) (r : Option PV) : Prop := St Tru ws_X2_search_107_7 as_X2_search_107_7 M0 M' ∧ ∃ v : Int, r = some (0, v) ∧ (-2147483648) ≤ v ∧ v ≤ 2147483647
set_option maxRecDepth 100000 in
set_option maxHeartbeats 4000000 in
theorem sp_X2_search_107_7 {l : Launch} {K : EC} {M0 : Mem} (hI : In Tru M0)  (a2 : Int) (ha2 : 0 ≤ a2 ∧ a2 ≤ 5)  : Tr l K 2 mX2_search 0 [(0, (2, 107)), (1, (2, 7)), (2, (0, a2))] [] M0 (q_X2_search_107_7 M0) := by
  have hS : St Tru ws_X2_search_107_7 as_X2_search_107_7 M0 M0 := St.rf hI
  refine Tr.iconst (pc := 0) d_X2_search_0 (by decide) ?_
  refine Tr.istore_n (pc := 1) (i := 3) (ls2 := [(3, (0, 0)), (0, (2, 107)), (1, (2, 7)), (2, (0, a2))]) d_X2_search_1 rfl (by decide) rfl ?_
  have J2 : ∀ (n2 : Nat) (M : Mem) (p2_3 : Int), St Tru ws_X2_search_107_7 as_X2_search_107_7 M0 M → (0 ≤ p2_3 ∧ p2_3 ≤ 12) → (12 - p2_3).toNat < n2 → Tr l K 2 mX2_search 2 [(0, (2, 107)), (1, (2, 7)), (2, (0, a2)), (3, (0, p2_3))] [] M (q_X2_search_107_7 M0) := by
    intro n2
    induction n2 with
    | zero => intro M p2_3 hS bp2_3  hm2; exact absurd hm2 (Nat.not_lt_zero _)
    | succ n2 J2 =>
      intro M p2_3 hS bp2_3  hm2
      refine Tr.iload_n (pc := 2) (i := 3) d_X2_search_2 rfl rfl ?_
      refine Tr.aload_n (pc := 3) (i := 0) d_X2_search_3 rfl rfl ?_
      refine Tr.getf (pc := 4) d_X2_search_4 f_2_27 (by decide) (by decide) (ty_107 hS.1.1) ?_
      refine Tr.gen (P := fun v => 0 ≤ v ∧ v ≤ 12) (ir_107_0 hS.1.2.1) (fun r4 er4 br4 => ?_)
      refine Tr.icmp_ge (pc := 7) (tgt := 43) d_X2_search_7 rfl (fun c7 => ?_) (fun c7 => ?_)
      · refine Tr.iconst (pc := 43) d_X2_search_43 (by decide) ?_
        refine Tr.istore_n (pc := 44) (i := 3) (ls2 := [(3, (0, 0)), (0, (2, 107)), (1, (2, 7)), (2, (0, a2))]) d_X2_search_44 rfl (by decide) rfl ?_
        refine Tr.iconst (pc := 45) d_X2_search_45 (by decide) ?_
        refine Tr.istore (pc := 46) (i := 4) (ls2 := [(4, (0, 0)), (3, (0, 0)), (0, (2, 107)), (1, (2, 7)), (2, (0, a2))]) d_X2_search_46 (by decide) rfl ?_
        have J48 : ∀ (n48 : Nat) (M : Mem) (p48_3 p48_4 : Int), St Tru ws_X2_search_107_7 as_X2_search_107_7 M0 M → ((-2147483648) ≤ p48_3 ∧ p48_3 ≤ 2147483647) → (0 ≤ p48_4 ∧ p48_4 ≤ 4097) → rd M 107 0 = r4 → (4097 - p48_4).toNat < n48 → Tr l K 2 mX2_search 48 [(0, (2, 107)), (2, (0, a2)), (3, (0, p48_3)), (4, (0, p48_4))] [] M (q_X2_search_107_7 M0) := by
          intro n48
          induction n48 with
          | zero => intro M p48_3 p48_4 hS bp48_3 bp48_4 k48_107_0 hm48; exact absurd hm48 (Nat.not_lt_zero _)
          | succ n48 J48 =>
            intro M p48_3 p48_4 hS bp48_3 bp48_4 k48_107_0 hm48
            refine Tr.iload (pc := 48) (i := 4) d_X2_search_48 rfl ?_
            refine Tr.sipush (pc := 50) d_X2_search_50 rfl (by decide) ?_
            refine Tr.icmp_ge (pc := 53) (tgt := 162) d_X2_search_53 rfl (fun c53 => ?_) (fun c53 => ?_)
            · refine Tr.aload_n (pc := 162) (i := 0) d_X2_search_162 rfl rfl ?_
              refine Tr.iconst (pc := 163) d_X2_search_163 (by decide) ?_
              refine Tr.putzS (pc := 164) (P := St Tru ws_X2_search_107_7 as_X2_search_107_7 M0) d_X2_search_164 f_2_31 (by decide) (ty_107 hS.1.1) (by omega) (st_107_1 hS (by decide) (by omega) trivial) (fun M164 hS w164 => ?_)
              refine Tr.iload_n (pc := 167) (i := 3) d_X2_search_167 rfl rfl ?_
              exact Tr.iret (pc := 168) d_X2_search_168 rfl ⟨hS, _, rfl, by omega, by omega⟩
            · refine Tr.aload_n (pc := 56) (i := 0) d_X2_search_56 rfl rfl ?_
              refine Tr.iload_n (pc := 57) (i := 2) d_X2_search_57 rfl rfl ?_
              refine Tr.iload (pc := 58) (i := 4) d_X2_search_58 rfl ?_
              refine Tr.sipush (pc := 60) d_X2_search_60 rfl (by decide) ?_
              refine Tr.idiv (pc := 63) d_X2_search_63 (by omega) ?_
              refine Tr.gen (P := fun v => v = p48_4 / 256 ∧ (0 ≤ v ∧ v ≤ 15)) (div32_l (c := 256) (by omega) (by decide) (by omega) (by omega)) (fun r63 er63 br63 => ?_)
              refine Tr.iload (pc := 64) (i := 4) d_X2_search_64 rfl ?_
              refine Tr.bipush (pc := 66) d_X2_search_66 rfl (by decide) ?_
              refine Tr.idiv (pc := 68) d_X2_search_68 (by omega) ?_
              refine Tr.gen (P := fun v => v = p48_4 / 16 ∧ (0 ≤ v ∧ v ≤ 255)) (div32_l (c := 16) (by omega) (by decide) (by omega) (by omega)) (fun r68 er68 br68 => ?_)
              refine Tr.bipush (pc := 69) d_X2_search_69 rfl (by decide) ?_
              refine Tr.irem (pc := 71) d_X2_search_71 (by omega) ?_
              refine Tr.gen (P := fun v => v = r68 % 16 ∧ (0 ≤ v ∧ v ≤ 15)) (rem_l (c := 16) (by omega) (by decide) (by omega)) (fun r71 er71 br71 => ?_)
              refine Tr.iload (pc := 72) (i := 4) d_X2_search_72 rfl ?_
              refine Tr.bipush (pc := 74) d_X2_search_74 rfl (by decide) ?_
              refine Tr.irem (pc := 76) d_X2_search_76 (by omega) ?_
              refine Tr.gen (P := fun v => v = p48_4 % 16 ∧ (0 ≤ v ∧ v ≤ 15)) (rem_l (c := 16) (by omega) (by decide) (by omega)) (fun r76 er76 br76 => ?_)
              refine Tr.callV (pc := 77) (as := [_, _, _, _]) d_X2_search_77 s_2_58 ok_X2_differences rfl rfl (Nat.le_of_ble_eq_true rfl) (Nat.le_of_ble_eq_true rfl) (by decide) (ty_107 hS.1.1) ?_
              refine Tr.imp (Tr.deep (by decide) (sp_X2_differences_107_w20 hS.1 a2 (by omega) r63 (by omega) r71 (by omega) r76 (by omega))) ?_
              rintro M77 _ ⟨h77, r77, rfl, lr77, ur77⟩
              have hS := St.tr hS h77 (by decide) (by decide)
              refine Tr.sc [(0, r77)] rfl ?_
              refine Tr.istore (pc := 80) (i := 5) (ls2 := [(5, (0, r77)), (0, (2, 107)), (2, (0, a2)), (3, (0, p48_3)), (4, (0, p48_4))]) d_X2_search_80 (by decide) rfl ?_
              refine Tr.iload (pc := 82) (i := 4) d_X2_search_82 rfl ?_
              have J140 : ∀ (M : Mem) (p140_3 : Int), St Tru ws_X2_search_107_7 as_X2_search_107_7 M0 M → ((-2147483648) ≤ p140_3 ∧ p140_3 ≤ 2147483647) → rd M 107 0 = r4 → Tr l K 2 mX2_search 140 [(0, (2, 107)), (2, (0, a2)), (3, (0, p140_3)), (4, (0, p48_4)), (5, (0, r77))] [] M (q_X2_search_107_7 M0) := by
                intro M p140_3 hS bp140_3 k140_107_0
                refine Tr.iload (pc := 140) (i := 5) d_X2_search_140 rfl ?_
                refine Tr.iload_n (pc := 142) (i := 3) d_X2_search_142 rfl rfl ?_
                have J156 : ∀ (M : Mem), St Tru ws_X2_search_107_7 as_X2_search_107_7 M0 M → rd M 107 0 = r4 → Tr l K 2 mX2_search 156 [(0, (2, 107)), (2, (0, a2)), (3, (0, p140_3)), (4, (0, p48_4))] [] M (q_X2_search_107_7 M0) := by
                  intro M  hS  k156_107_0
                  refine Tr.iincV (pc := 156) (n2 := (p48_4 + 1)) (ls2 := [(4, (0, (p48_4 + 1))), (0, (2, 107)), (2, (0, a2)), (3, (0, p140_3))]) d_X2_search_156 rfl (by decide) ((w32_id (by omega)).trans (by omega)) rfl ?_
                  refine Tr.goto (pc := 159) (tgt := 48) d_X2_search_159 rfl ?_
                  refine Tr.pick [1, 2, 3, 0] (ls2 := [(0, (2, 107)), (2, (0, a2)), (3, (0, p140_3)), (4, (0, (p48_4 + 1)))]) rfl ?_
                  exact J48 _ _ _ hS (by omega) (by omega) k156_107_0 (by omega)
                refine Tr.icmp_ne (pc := 143) (tgt := 156) d_X2_search_143 rfl (fun c143 => ?_) (fun c143 => ?_)
                · refine Tr.pick [0, 1, 2, 3] (ls2 := [(0, (2, 107)), (2, (0, a2)), (3, (0, p140_3)), (4, (0, p48_4))]) rfl ?_
                  exact J156 _ hS k140_107_0
                · refine Tr.aload_n (pc := 146) (i := 0) d_X2_search_146 rfl rfl ?_
                  refine Tr.getf (pc := 147) d_X2_search_147 f_2_9 (by decide) (by decide) (ty_107 hS.1.1) ?_
                  refine Tr.tp 108 (fx_107_2 hS.1.1) ?_
                  refine Tr.iconst (pc := 150) d_X2_search_150 (by decide) ?_
                  refine Tr.dup2 (pc := 151) d_X2_search_151 ne01 ne21 ?_
                  refine Tr.iald (pc := 152) d_X2_search_152 (ty_108 hS.1.1) (by omega) (by omega) ?_
                  refine Tr.gen (P := fun v => (-2147483648) ≤ v ∧ v ≤ 2147483647) (ar_108 hS.1.2.1 _) (fun r152 er152 br152 => ?_)
                  refine Tr.iconst (pc := 153) d_X2_search_153 (by decide) ?_
                  refine Tr.iadd (pc := 154) d_X2_search_154 ?_
                  refine Tr.gen (P := fun v => (-2147483648) ≤ v ∧ v ≤ 2147483647) (w32_b _) (fun r154 er154 br154 => ?_)
                  refine Tr.iastS (pc := 155) (P := St Tru ws_X2_search_107_7 as_X2_search_107_7 M0) d_X2_search_155 (ty_108 hS.1.1) (by omega) (by omega) (sa_108 hS (by decide) (by omega) trivial) (fun M155 hS w155 => ?_)
                  refine Tr.pick [0, 1, 2, 3] (ls2 := [(0, (2, 107)), (2, (0, a2)), (3, (0, p140_3)), (4, (0, p48_4))]) rfl ?_
                  exact J156 _ hS ((Wr.b w155 rfl).trans k140_107_0)
              have J93 : ∀ (M : Mem), St Tru ws_X2_search_107_7 as_X2_search_107_7 M0 M → rd M 107 0 = r4 → Tr l K 2 mX2_search 93 [(0, (2, 107)), (2, (0, a2)), (4, (0, p48_4)), (5, (0, r77))] [] M (q_X2_search_107_7 M0) := by
                intro M  hS  k93_107_0
                refine Tr.iload (pc := 93) (i := 5) d_X2_search_93 rfl ?_
                refine Tr.istore_n (pc := 95) (i := 3) (ls2 := [(3, (0, r77)), (0, (2, 107)), (2, (0, a2)), (4, (0, p48_4)), (5, (0, r77))]) d_X2_search_95 rfl (by decide) rfl ?_
                refine Tr.aload_n (pc := 96) (i := 0) d_X2_search_96 rfl rfl ?_
                refine Tr.getf (pc := 97) d_X2_search_97 f_2_9 (by decide) (by decide) (ty_107 hS.1.1) ?_
                refine Tr.tp 108 (fx_107_2 hS.1.1) ?_
                refine Tr.iconst (pc := 100) d_X2_search_100 (by decide) ?_
                refine Tr.iload (pc := 101) (i := 4) d_X2_search_101 rfl ?_
                refine Tr.sipush (pc := 103) d_X2_search_103 rfl (by decide) ?_
                refine Tr.idiv (pc := 106) d_X2_search_106 (by omega) ?_
                refine Tr.gen (P := fun v => v = p48_4 / 256 ∧ (0 ≤ v ∧ v ≤ 15)) (div32_l (c := 256) (by omega) (by decide) (by omega) (by omega)) (fun r106 er106 br106 => ?_)
                refine Tr.iastS (pc := 107) (P := St Tru ws_X2_search_107_7 as_X2_search_107_7 M0) d_X2_search_107 (ty_108 hS.1.1) (by omega) (by omega) (sa_108 hS (by decide) (by omega) trivial) (fun M107 hS w107 => ?_)
                refine Tr.aload_n (pc := 108) (i := 0) d_X2_search_108 rfl rfl ?_
                refine Tr.getf (pc := 109) d_X2_search_109 f_2_9 (by decide) (by decide) (ty_107 hS.1.1) ?_
                refine Tr.tp 108 (fx_107_2 hS.1.1) ?_
                refine Tr.iconst (pc := 112) d_X2_search_112 (by decide) ?_
                refine Tr.iload (pc := 113) (i := 4) d_X2_search_113 rfl ?_
                refine Tr.bipush (pc := 115) d_X2_search_115 rfl (by decide) ?_
                refine Tr.idiv (pc := 117) d_X2_search_117 (by omega) ?_
                refine Tr.gen (P := fun v => v = p48_4 / 16 ∧ (0 ≤ v ∧ v ≤ 255)) (div32_l (c := 16) (by omega) (by decide) (by omega) (by omega)) (fun r117 er117 br117 => ?_)
                refine Tr.bipush (pc := 118) d_X2_search_118 rfl (by decide) ?_
                refine Tr.irem (pc := 120) d_X2_search_120 (by omega) ?_
                refine Tr.gen (P := fun v => v = r117 % 16 ∧ (0 ≤ v ∧ v ≤ 15)) (rem_l (c := 16) (by omega) (by decide) (by omega)) (fun r120 er120 br120 => ?_)
                refine Tr.iastS (pc := 121) (P := St Tru ws_X2_search_107_7 as_X2_search_107_7 M0) d_X2_search_121 (ty_108 hS.1.1) (by omega) (by omega) (sa_108 hS (by decide) (by omega) trivial) (fun M121 hS w121 => ?_)
                refine Tr.aload_n (pc := 122) (i := 0) d_X2_search_122 rfl rfl ?_
                refine Tr.getf (pc := 123) d_X2_search_123 f_2_9 (by decide) (by decide) (ty_107 hS.1.1) ?_
                refine Tr.tp 108 (fx_107_2 hS.1.1) ?_
                refine Tr.iconst (pc := 126) d_X2_search_126 (by decide) ?_
                refine Tr.iload (pc := 127) (i := 4) d_X2_search_127 rfl ?_
                refine Tr.bipush (pc := 129) d_X2_search_129 rfl (by decide) ?_
                refine Tr.irem (pc := 131) d_X2_search_131 (by omega) ?_
                refine Tr.gen (P := fun v => v = p48_4 % 16 ∧ (0 ≤ v ∧ v ≤ 15)) (rem_l (c := 16) (by omega) (by decide) (by omega)) (fun r131 er131 br131 => ?_)
                refine Tr.iastS (pc := 132) (P := St Tru ws_X2_search_107_7 as_X2_search_107_7 M0) d_X2_search_132 (ty_108 hS.1.1) (by omega) (by omega) (sa_108 hS (by decide) (by omega) trivial) (fun M132 hS w132 => ?_)
                refine Tr.aload_n (pc := 133) (i := 0) d_X2_search_133 rfl rfl ?_
                refine Tr.getf (pc := 134) d_X2_search_134 f_2_9 (by decide) (by decide) (ty_107 hS.1.1) ?_
                refine Tr.tp 108 (fx_107_2 hS.1.1) ?_
                refine Tr.iconst (pc := 137) d_X2_search_137 (by decide) ?_
                refine Tr.iconst (pc := 138) d_X2_search_138 (by decide) ?_
                refine Tr.iastS (pc := 139) (P := St Tru ws_X2_search_107_7 as_X2_search_107_7 M0) d_X2_search_139 (ty_108 hS.1.1) (by omega) (by omega) (sa_108 hS (by decide) (by omega) trivial) (fun M139 hS w139 => ?_)
                refine Tr.pick [1, 2, 0, 3, 4] (ls2 := [(0, (2, 107)), (2, (0, a2)), (3, (0, r77)), (4, (0, p48_4)), (5, (0, r77))]) rfl ?_
                exact J140 _ _ hS (by omega) ((Wr.b w139 rfl).trans ((Wr.b w132 rfl).trans ((Wr.b w121 rfl).trans ((Wr.b w107 rfl).trans k93_107_0))))
              refine Tr.if_eq (pc := 84) (tgt := 93) d_X2_search_84 rfl (fun c84 => ?_) (fun c84 => ?_)
              · refine Tr.pick [1, 2, 4, 0] (ls2 := [(0, (2, 107)), (2, (0, a2)), (4, (0, p48_4)), (5, (0, r77))]) rfl ?_
                exact J93 _ hS ((St.kp h77 (by decide) (by decide) (by decide)).trans k48_107_0)
              · refine Tr.iload (pc := 87) (i := 5) d_X2_search_87 rfl ?_
                refine Tr.iload_n (pc := 89) (i := 3) d_X2_search_89 rfl rfl ?_
                refine Tr.icmp_ge (pc := 90) (tgt := 140) d_X2_search_90 rfl (fun c90 => ?_) (fun c90 => ?_)
                · refine Tr.pick [1, 2, 3, 4, 0] (ls2 := [(0, (2, 107)), (2, (0, a2)), (3, (0, p48_3)), (4, (0, p48_4)), (5, (0, r77))]) rfl ?_
                  exact J140 _ _ hS (by omega) ((St.kp h77 (by decide) (by decide) (by decide)).trans k48_107_0)
                · refine Tr.pick [1, 2, 4, 0] (ls2 := [(0, (2, 107)), (2, (0, a2)), (4, (0, p48_4)), (5, (0, r77))]) rfl ?_
                  exact J93 _ hS ((St.kp h77 (by decide) (by decide) (by decide)).trans k48_107_0)
        refine Tr.pick [2, 4, 1, 0] (ls2 := [(0, (2, 107)), (2, (0, a2)), (3, (0, 0)), (4, (0, 0))]) rfl ?_
        exact J48 _ _ _ _ hS (by omega) (by omega) er4 (Nat.lt_succ_self _)
      · refine Tr.aload_n (pc := 10) (i := 0) d_X2_search_10 rfl rfl ?_
        refine Tr.getf (pc := 11) d_X2_search_11 f_2_24 (by decide) (by decide) (ty_107 hS.1.1) ?_
        refine Tr.tp 112 (fx_107_6 hS.1.1) ?_
        refine Tr.iload_n (pc := 14) (i := 3) d_X2_search_14 rfl rfl ?_
        refine Tr.aload_n (pc := 15) (i := 0) d_X2_search_15 rfl rfl ?_
        refine Tr.getf (pc := 16) d_X2_search_16 f_2_18 (by decide) (by decide) (ty_107 hS.1.1) ?_
        refine Tr.tp 110 (fx_107_4 hS.1.1) ?_
        refine Tr.iload_n (pc := 19) (i := 3) d_X2_search_19 rfl rfl ?_
        refine Tr.iald (pc := 20) d_X2_search_20 (ty_110 hS.1.1) (by omega) (by omega) ?_
        refine Tr.gen (P := fun v => (-2147483648) ≤ v ∧ v ≤ 2147483647) (ar_110 hS.1.2.1 _) (fun r20 er20 br20 => ?_)
        refine Tr.aload_n (pc := 21) (i := 0) d_X2_search_21 rfl rfl ?_
        refine Tr.getf (pc := 22) d_X2_search_22 f_2_15 (by decide) (by decide) (ty_107 hS.1.1) ?_
        refine Tr.tp 109 (fx_107_3 hS.1.1) ?_
        refine Tr.iload_n (pc := 25) (i := 3) d_X2_search_25 rfl rfl ?_
        refine Tr.iald (pc := 26) d_X2_search_26 (ty_109 hS.1.1) (by omega) (by omega) ?_
        refine Tr.gen (P := fun v => (-2147483648) ≤ v ∧ v ≤ 2147483647) (ar_109 hS.1.2.1 _) (fun r26 er26 br26 => ?_)
        refine Tr.isub (pc := 27) d_X2_search_27 ?_
        refine Tr.gen (P := fun v => (-2147483648) ≤ v ∧ v ≤ 2147483647) (w32_b _) (fun r27 er27 br27 => ?_)
        refine Tr.aload_n (pc := 28) (i := 0) d_X2_search_28 rfl rfl ?_
        refine Tr.aload_n (pc := 29) (i := 1) d_X2_search_29 rfl rfl ?_
        refine Tr.iload_n (pc := 30) (i := 2) d_X2_search_30 rfl rfl ?_
        refine Tr.iload_n (pc := 31) (i := 3) d_X2_search_31 rfl rfl ?_
        refine Tr.callV (pc := 32) (as := [_, _, _]) d_X2_search_32 s_2_54 ok_X2_ownSips rfl rfl (Nat.le_of_ble_eq_true rfl) (Nat.le_of_ble_eq_true rfl) (by decide) (ty_107 hS.1.1) ?_
        refine Tr.imp (Tr.deep (by decide) (sp_X2_ownSips_107_7 hS.1 a2 (by omega) p2_3 (by omega))) ?_
        rintro M32 _ ⟨h32, r32, rfl, lr32, ur32⟩
        have hS := St.tr hS h32 (by decide) (by decide)
        refine Tr.sc [(0, r32), (0, r27), (0, p2_3), (2, 112)] rfl ?_
        refine Tr.isub (pc := 35) d_X2_search_35 ?_
        refine Tr.gen (P := fun v => (-2147483648) ≤ v ∧ v ≤ 2147483647) (w32_b _) (fun r35 er35 br35 => ?_)
        refine Tr.iastS (pc := 36) (P := St Tru ws_X2_search_107_7 as_X2_search_107_7 M0) d_X2_search_36 (ty_112 hS.1.1) (by omega) (by omega) (sa_112 hS (by decide) (by omega) trivial) (fun M36 hS w36 => ?_)
        refine Tr.iincV (pc := 37) (n2 := (p2_3 + 1)) (ls2 := [(3, (0, (p2_3 + 1))), (0, (2, 107)), (1, (2, 7)), (2, (0, a2))]) d_X2_search_37 rfl (by decide) ((w32_id (by omega)).trans (by omega)) rfl ?_
        refine Tr.goto (pc := 40) (tgt := 2) d_X2_search_40 rfl ?_
        refine Tr.pick [1, 2, 3, 0] (ls2 := [(0, (2, 107)), (1, (2, 7)), (2, (0, a2)), (3, (0, (p2_3 + 1)))]) rfl ?_
        exact J2 _ _ hS (by omega) (by omega)
  refine Tr.pick [1, 2, 3, 0] (ls2 := [(0, (2, 107)), (1, (2, 7)), (2, (0, a2)), (3, (0, 0))]) rfl ?_
  exact J2 _ _ _ hS (by omega) (Nat.lt_succ_self _)

def ws_X11_fit_0 : List (Int × Int) := [(107, 1)]
def as_X11_fit_0 : List Int := [108, 112]
def q_X11_fit_0 (M0 M' : Mem) (r : Option PV) : Prop := St Tru ws_X11_fit_0 as_X11_fit_0 M0 M' ∧ ∃ v : Int, r = some (0, v) ∧ (-2147483648) ≤ v ∧ v ≤ 2147483647
set_option maxRecDepth 100000 in
set_option maxHeartbeats 4000000 in
theorem sp_X11_fit_0 {l : Launch} {K : EC} {M0 : Mem} (hI : In Tru M0) (en_0_4 : rd M0 0 4 = 7) (a1 : Int) (ha1 : (-2147483648) ≤ a1 ∧ a1 ≤ 2147483647)  : Tr l K 3 mX11_fit 0 [(0, (2, 0)), (1, (0, a1))] [] M0 (q_X11_fit_0 M0) := by
  have hS : St Tru ws_X11_fit_0 as_X11_fit_0 M0 M0 := St.rf hI
  refine Tr.aload_n (pc := 0) (i := 0) d_X11_fit_0 rfl rfl ?_
  refine Tr.iload_n (pc := 1) (i := 1) d_X11_fit_1 rfl rfl ?_
  refine Tr.callV (pc := 2) (as := [_]) d_X11_fit_2 s_11_174 ok_X11_isPart rfl rfl (Nat.le_of_ble_eq_true rfl) (Nat.le_of_ble_eq_true rfl) (by decide) (ty_0 hS.1.1) ?_
  refine Tr.imp (Tr.deep (by decide) (sp_X11_isPart_0 hS.1 ((St.kp hS (by decide) (by decide) (by decide)).trans en_0_4) a1 (by omega))) ?_
  rintro M2 _ ⟨h2, r2, rfl, lr2, ur2, wr2⟩
  have hS := St.tr hS h2 (by decide) (by decide)
  refine Tr.sc [(0, r2)] rfl ?_
  refine Tr.if_eq (pc := 5) (tgt := 18) d_X11_fit_5 rfl (fun c5 => ?_) (fun c5 => ?_)
  · refine Tr.iconst (pc := 18) d_X11_fit_18 (by decide) ?_
    exact Tr.iret (pc := 19) d_X11_fit_19 rfl ⟨hS, _, rfl, by omega, by omega⟩
  · refine Tr.aload_n (pc := 8) (i := 0) d_X11_fit_8 rfl rfl ?_
    refine Tr.getf (pc := 9) d_X11_fit_9 f_11_70 (by decide) (by decide) (ty_0 hS.1.1) ?_
    refine Tr.tp 107 (fx_0_12 hS.1.1) ?_
    refine Tr.getf (pc := 12) d_X11_fit_12 f_11_133 (by decide) (by decide) (ty_107 hS.1.1) ?_
    refine Tr.gen (P := fun v => 0 ≤ v ∧ v ≤ 12) (ir_107_0 hS.1.2.1) (fun r12 er12 br12 => ?_)
    refine Tr.if_ne (pc := 15) (tgt := 20) d_X11_fit_15 rfl (fun c15 => ?_) (fun c15 => ?_)
    · refine Tr.aload_n (pc := 20) (i := 0) d_X11_fit_20 rfl rfl ?_
      refine Tr.getf (pc := 21) d_X11_fit_21 f_11_70 (by decide) (by decide) (ty_0 hS.1.1) ?_
      refine Tr.tp 107 (fx_0_12 hS.1.1) ?_
      refine Tr.aload_n (pc := 24) (i := 0) d_X11_fit_24 rfl rfl ?_
      refine Tr.getf (pc := 25) d_X11_fit_25 f_11_30 (by decide) (by decide) (ty_0 hS.1.1) ?_
      refine Tr.tp 7 ((St.kp hS (by decide) (by decide) (by decide)).trans en_0_4) ?_
      refine Tr.iload_n (pc := 28) (i := 1) d_X11_fit_28 rfl rfl ?_
      refine Tr.callV (pc := 29) (as := [_, _]) d_X11_fit_29 s_11_276 ok_X2_search rfl rfl (Nat.le_of_ble_eq_true rfl) (Nat.le_of_ble_eq_true rfl) (by decide) (ty_107 hS.1.1) ?_
      refine Tr.imp (Tr.deep (by decide) (sp_X2_search_107_7 hS.1 a1 (by omega))) ?_
      rintro M29 _ ⟨h29, r29, rfl, lr29, ur29⟩
      have hS := St.tr hS h29 (by decide) (by decide)
      refine Tr.sc [(0, r29)] rfl ?_
      exact Tr.iret (pc := 32) d_X11_fit_32 rfl ⟨hS, _, rfl, by omega, by omega⟩
    · refine Tr.iconst (pc := 18) d_X11_fit_18 (by decide) ?_
      exact Tr.iret (pc := 19) d_X11_fit_19 rfl ⟨hS, _, rfl, by omega, by omega⟩

def ws_X11_fitted_0 : List (Int × Int) := []
def as_X11_fitted_0 : List Int := []
def q_X11_fitted_0 (M0 M' : Mem) (r : Option PV) : Prop := St Tru ws_X11_fitted_0 as_X11_fitted_0 M0 M' ∧ ∃ v : Int, r = some (0, v) ∧ (-2147483648) ≤ v ∧ v ≤ 2147483647
set_option maxRecDepth 100000 in
set_option maxHeartbeats 4000000 in
theorem sp_X11_fitted_0 {l : Launch} {K : EC} {M0 : Mem} (hI : In Tru M0)  (a1 : Int) (ha1 : (-2147483648) ≤ a1 ∧ a1 ≤ 2147483647)  : Tr l K 0 mX11_fitted 0 [(0, (2, 0)), (1, (0, a1))] [] M0 (q_X11_fitted_0 M0) := by
  have hS : St Tru ws_X11_fitted_0 as_X11_fitted_0 M0 M0 := St.rf hI
  refine Tr.aload_n (pc := 0) (i := 0) d_X11_fitted_0 rfl rfl ?_
  refine Tr.getf (pc := 1) d_X11_fitted_1 f_11_70 (by decide) (by decide) (ty_0 hS.1.1) ?_
  refine Tr.tp 107 (fx_0_12 hS.1.1) ?_
  refine Tr.getz (pc := 4) d_X11_fitted_4 f_11_280 (by decide) (ty_107 hS.1.1) ?_
  refine Tr.gen (P := fun v => 0 ≤ v ∧ v ≤ 1) (ir_107_1 hS.1.2.1) (fun r4 er4 br4 => ?_)
  refine Tr.if_eq (pc := 7) (tgt := 19) d_X11_fitted_7 rfl (fun c7 => ?_) (fun c7 => ?_)
  · refine Tr.iconst (pc := 19) d_X11_fitted_19 (by decide) ?_
    exact Tr.iret (pc := 20) d_X11_fitted_20 rfl ⟨hS, _, rfl, by omega, by omega⟩
  · refine Tr.iload_n (pc := 10) (i := 1) d_X11_fitted_10 rfl rfl ?_
    refine Tr.if_lt (pc := 11) (tgt := 19) d_X11_fitted_11 rfl (fun c11 => ?_) (fun c11 => ?_)
    · refine Tr.iconst (pc := 19) d_X11_fitted_19 (by decide) ?_
      exact Tr.iret (pc := 20) d_X11_fitted_20 rfl ⟨hS, _, rfl, by omega, by omega⟩
    · refine Tr.iload_n (pc := 14) (i := 1) d_X11_fitted_14 rfl rfl ?_
      refine Tr.iconst (pc := 15) d_X11_fitted_15 (by decide) ?_
      refine Tr.icmp_le (pc := 16) (tgt := 21) d_X11_fitted_16 rfl (fun c16 => ?_) (fun c16 => ?_)
      · refine Tr.aload_n (pc := 21) (i := 0) d_X11_fitted_21 rfl rfl ?_
        refine Tr.getf (pc := 22) d_X11_fitted_22 f_11_70 (by decide) (by decide) (ty_0 hS.1.1) ?_
        refine Tr.tp 107 (fx_0_12 hS.1.1) ?_
        refine Tr.getf (pc := 25) d_X11_fitted_25 f_11_283 (by decide) (by decide) (ty_107 hS.1.1) ?_
        refine Tr.tp 108 (fx_107_2 hS.1.1) ?_
        refine Tr.iload_n (pc := 28) (i := 1) d_X11_fitted_28 rfl rfl ?_
        refine Tr.iald (pc := 29) d_X11_fitted_29 (ty_108 hS.1.1) (by omega) (by omega) ?_
        refine Tr.gen (P := fun v => (-2147483648) ≤ v ∧ v ≤ 2147483647) (ar_108 hS.1.2.1 _) (fun r29 er29 br29 => ?_)
        exact Tr.iret (pc := 30) d_X11_fitted_30 rfl ⟨hS, _, rfl, by omega, by omega⟩
      · refine Tr.iconst (pc := 19) d_X11_fitted_19 (by decide) ?_
        exact Tr.iret (pc := 20) d_X11_fitted_20 rfl ⟨hS, _, rfl, by omega, by omega⟩

def ws_X0_add_113 : List (Int × Int) := [(113, 0)]
def as_X0_add_113 : List Int := [114, 115, 116]
def q_X0_add_113 (a1 : Int) (a2 : Int) (a3 : Int) (M0 M' : Mem) (r : Option PV) : Prop := St Tru ws_X0_add_113 as_X0_add_113 M0 M' ∧ ∃ v : Int, r = some (0, v) ∧ 0 ≤ v ∧ v ≤ 1 ∧ ((v = 1 ∧ rd M' 113 0 = rd M0 113 0 + 1 ∧ rd M0 113 0 ≤ 5) ∨ (v = 0 ∧ rd M' 113 0 = rd M0 113 0 ∧ 6 ≤ rd M0 113 0))
set_option maxRecDepth 100000 in
set_option maxHeartbeats 4000000 in
theorem sp_X0_add_113 {l : Launch} {K : EC} {M0 : Mem} (hI : In Tru M0)  (a1 : Int) (ha1 : 0 ≤ a1 ∧ a1 ≤ 200) (a2 : Int) (ha2 : 1 ≤ a2 ∧ a2 ≤ 20) (a3 : Int) (ha3 : 0 ≤ a3 ∧ a3 ≤ 5)  : Tr l K 0 mX0_add 0 [(0, (2, 113)), (1, (0, a1)), (2, (0, a2)), (3, (0, a3))] [] M0 (q_X0_add_113 a1 a2 a3 M0) := by
  have hS : St Tru ws_X0_add_113 as_X0_add_113 M0 M0 := St.rf hI
  obtain ⟨g113_0, eg113_0⟩ : ∃ v, rd M0 113 0 = v := ⟨_, rfl⟩
  have bg113_0 : 0 ≤ g113_0 ∧ g113_0 ≤ 6 := by rw [← eg113_0]; exact ir_113_0 hI.2.1
  refine Tr.aload_n (pc := 0) (i := 0) d_X0_add_0 rfl rfl ?_
  refine Tr.getf (pc := 1) d_X0_add_1 f_0_30 (by decide) (by decide) (ty_113 hS.1.1) ?_
  refine Tr.tp g113_0 eg113_0 ?_
  refine Tr.bipush (pc := 4) d_X0_add_4 rfl (by decide) ?_
  refine Tr.icmp_lt (pc := 6) (tgt := 11) d_X0_add_6 rfl (fun c6 => ?_) (fun c6 => ?_)
  · refine Tr.aload_n (pc := 11) (i := 0) d_X0_add_11 rfl rfl ?_
    refine Tr.getf (pc := 12) d_X0_add_12 f_0_11 (by decide) (by decide) (ty_113 hS.1.1) ?_
    refine Tr.tp 114 (fx_113_1 hS.1.1) ?_
    refine Tr.aload_n (pc := 15) (i := 0) d_X0_add_15 rfl rfl ?_
    refine Tr.getf (pc := 16) d_X0_add_16 f_0_30 (by decide) (by decide) (ty_113 hS.1.1) ?_
    refine Tr.tp g113_0 eg113_0 ?_
    refine Tr.iload_n (pc := 19) (i := 1) d_X0_add_19 rfl rfl ?_
    refine Tr.iastS (pc := 20) (P := St Tru ws_X0_add_113 as_X0_add_113 M0) d_X0_add_20 (ty_114 hS.1.1) (by omega) (by omega) (sa_114 hS (by decide) (by omega) trivial) (fun M20 hS w20 => ?_)
    refine Tr.aload_n (pc := 21) (i := 0) d_X0_add_21 rfl rfl ?_
    refine Tr.getf (pc := 22) d_X0_add_22 f_0_15 (by decide) (by decide) (ty_113 hS.1.1) ?_
    refine Tr.tp 115 (fx_113_2 hS.1.1) ?_
    refine Tr.aload_n (pc := 25) (i := 0) d_X0_add_25 rfl rfl ?_
    refine Tr.getf (pc := 26) d_X0_add_26 f_0_30 (by decide) (by decide) (ty_113 hS.1.1) ?_
    refine Tr.tp g113_0 ((Wr.b w20 rfl).trans eg113_0) ?_
    refine Tr.iload_n (pc := 29) (i := 2) d_X0_add_29 rfl rfl ?_
    refine Tr.iastS (pc := 30) (P := St Tru ws_X0_add_113 as_X0_add_113 M0) d_X0_add_30 (ty_115 hS.1.1) (by omega) (by omega) (sa_115 hS (by decide) (by omega) trivial) (fun M30 hS w30 => ?_)
    refine Tr.aload_n (pc := 31) (i := 0) d_X0_add_31 rfl rfl ?_
    refine Tr.getf (pc := 32) d_X0_add_32 f_0_18 (by decide) (by decide) (ty_113 hS.1.1) ?_
    refine Tr.tp 116 (fx_113_3 hS.1.1) ?_
    refine Tr.aload_n (pc := 35) (i := 0) d_X0_add_35 rfl rfl ?_
    refine Tr.getf (pc := 36) d_X0_add_36 f_0_30 (by decide) (by decide) (ty_113 hS.1.1) ?_
    refine Tr.tp g113_0 ((Wr.b w30 rfl).trans ((Wr.b w20 rfl).trans eg113_0)) ?_
    refine Tr.iload_n (pc := 39) (i := 3) d_X0_add_39 rfl rfl ?_
    refine Tr.iastS (pc := 40) (P := St Tru ws_X0_add_113 as_X0_add_113 M0) d_X0_add_40 (ty_116 hS.1.1) (by omega) (by omega) (sa_116 hS (by decide) (by omega) trivial) (fun M40 hS w40 => ?_)
    refine Tr.aload_n (pc := 41) (i := 0) d_X0_add_41 rfl rfl ?_
    refine Tr.dup (pc := 42) d_X0_add_42 ne21 ?_
    refine Tr.getf (pc := 43) d_X0_add_43 f_0_30 (by decide) (by decide) (ty_113 hS.1.1) ?_
    refine Tr.tp g113_0 ((Wr.b w40 rfl).trans ((Wr.b w30 rfl).trans ((Wr.b w20 rfl).trans eg113_0))) ?_
    refine Tr.iconst (pc := 46) d_X0_add_46 (by decide) ?_
    refine Tr.iadd (pc := 47) d_X0_add_47 ?_
    refine Tr.tp (g113_0 + 1) ((w32_id (by omega)).trans (by omega)) ?_
    refine Tr.putfS (pc := 48) (P := St Tru ws_X0_add_113 as_X0_add_113 M0) d_X0_add_48 f_0_30 (by decide) (by decide) (ty_113 hS.1.1) (st_113_0 hS (by decide) (by omega) trivial) (fun M48 hS w48 => ?_)
    refine Tr.iconst (pc := 51) d_X0_add_51 (by decide) ?_
    have kr_113_0 : rd M48 113 0 = (g113_0 + 1) := w48.1
    exact Tr.zret (pc := 52) d_X0_add_52 rfl (by omega) ⟨hS, _, rfl, by omega, by omega, by omega⟩
  · refine Tr.iconst (pc := 9) d_X0_add_9 (by decide) ?_
    have kr_113_0 : rd M0 113 0 = g113_0 := eg113_0
    exact Tr.zret (pc := 10) d_X0_add_10 rfl (by omega) ⟨hS, _, rfl, by omega, by omega, by omega⟩

def ws_X11_ask_0 : List (Int × Int) := [(113, 0)]
def as_X11_ask_0 : List Int := [114, 115, 116]
def q_X11_ask_0 (a1 : Int) (a2 : Int) (a3 : Int) (M0 M' : Mem) (r : Option PV) : Prop := St Tru ws_X11_ask_0 as_X11_ask_0 M0 M' ∧ ∃ v : Int, r = some (0, v) ∧ (-1) ≤ v ∧ v ≤ 6 ∧ ((v = rd M' 113 0 ∧ rd M' 113 0 = rd M0 113 0 + 1 ∧ 0 ≤ a1 ∧ a1 ≤ 200 ∧ 1 ≤ a2 ∧ a2 ≤ 20 ∧ 0 ≤ a3 ∧ a3 ≤ 5 ∧ rd M0 113 0 ≤ 5) ∨ (v = -1 ∧ rd M' 113 0 = rd M0 113 0 ∧ (a1 < 0 ∨ 200 < a1 ∨ a2 < 1 ∨ 20 < a2 ∨ a3 < 0 ∨ 5 < a3 ∨ 6 ≤ rd M0 113 0)))
set_option maxRecDepth 100000 in
set_option maxHeartbeats 4000000 in
theorem sp_X11_ask_0 {l : Launch} {K : EC} {M0 : Mem} (hI : In Tru M0)  (a1 : Int) (ha1 : (-2147483648) ≤ a1 ∧ a1 ≤ 2147483647) (a2 : Int) (ha2 : (-2147483648) ≤ a2 ∧ a2 ≤ 2147483647) (a3 : Int) (ha3 : (-2147483648) ≤ a3 ∧ a3 ≤ 2147483647)  : Tr l K 1 mX11_ask 0 [(0, (2, 0)), (1, (0, a1)), (2, (0, a2)), (3, (0, a3))] [] M0 (q_X11_ask_0 a1 a2 a3 M0) := by
  have hS : St Tru ws_X11_ask_0 as_X11_ask_0 M0 M0 := St.rf hI
  obtain ⟨g113_0, eg113_0⟩ : ∃ v, rd M0 113 0 = v := ⟨_, rfl⟩
  have bg113_0 : 0 ≤ g113_0 ∧ g113_0 ≤ 6 := by rw [← eg113_0]; exact ir_113_0 hI.2.1
  refine Tr.iload_n (pc := 0) (i := 1) d_X11_ask_0 rfl rfl ?_
  refine Tr.if_lt (pc := 1) (tgt := 31) d_X11_ask_1 rfl (fun c1 => ?_) (fun c1 => ?_)
  · refine Tr.iconst (pc := 31) d_X11_ask_31 (by decide) ?_
    have kr_113_0 : rd M0 113 0 = g113_0 := eg113_0
    exact Tr.iret (pc := 32) d_X11_ask_32 rfl ⟨hS, _, rfl, by omega, by omega, by omega⟩
  · refine Tr.iload_n (pc := 4) (i := 1) d_X11_ask_4 rfl rfl ?_
    refine Tr.sipush (pc := 5) d_X11_ask_5 rfl (by decide) ?_
    refine Tr.icmp_gt (pc := 8) (tgt := 31) d_X11_ask_8 rfl (fun c8 => ?_) (fun c8 => ?_)
    · refine Tr.iconst (pc := 31) d_X11_ask_31 (by decide) ?_
      have kr_113_0 : rd M0 113 0 = g113_0 := eg113_0
      exact Tr.iret (pc := 32) d_X11_ask_32 rfl ⟨hS, _, rfl, by omega, by omega, by omega⟩
    · refine Tr.iload_n (pc := 11) (i := 2) d_X11_ask_11 rfl rfl ?_
      refine Tr.iconst (pc := 12) d_X11_ask_12 (by decide) ?_
      refine Tr.icmp_lt (pc := 13) (tgt := 31) d_X11_ask_13 rfl (fun c13 => ?_) (fun c13 => ?_)
      · refine Tr.iconst (pc := 31) d_X11_ask_31 (by decide) ?_
        have kr_113_0 : rd M0 113 0 = g113_0 := eg113_0
        exact Tr.iret (pc := 32) d_X11_ask_32 rfl ⟨hS, _, rfl, by omega, by omega, by omega⟩
      · refine Tr.iload_n (pc := 16) (i := 2) d_X11_ask_16 rfl rfl ?_
        refine Tr.bipush (pc := 17) d_X11_ask_17 rfl (by decide) ?_
        refine Tr.icmp_gt (pc := 19) (tgt := 31) d_X11_ask_19 rfl (fun c19 => ?_) (fun c19 => ?_)
        · refine Tr.iconst (pc := 31) d_X11_ask_31 (by decide) ?_
          have kr_113_0 : rd M0 113 0 = g113_0 := eg113_0
          exact Tr.iret (pc := 32) d_X11_ask_32 rfl ⟨hS, _, rfl, by omega, by omega, by omega⟩
        · refine Tr.iload_n (pc := 22) (i := 3) d_X11_ask_22 rfl rfl ?_
          refine Tr.if_lt (pc := 23) (tgt := 31) d_X11_ask_23 rfl (fun c23 => ?_) (fun c23 => ?_)
          · refine Tr.iconst (pc := 31) d_X11_ask_31 (by decide) ?_
            have kr_113_0 : rd M0 113 0 = g113_0 := eg113_0
            exact Tr.iret (pc := 32) d_X11_ask_32 rfl ⟨hS, _, rfl, by omega, by omega, by omega⟩
          · refine Tr.iload_n (pc := 26) (i := 3) d_X11_ask_26 rfl rfl ?_
            refine Tr.iconst (pc := 27) d_X11_ask_27 (by decide) ?_
            refine Tr.icmp_le (pc := 28) (tgt := 33) d_X11_ask_28 rfl (fun c28 => ?_) (fun c28 => ?_)
            · refine Tr.aload_n (pc := 33) (i := 0) d_X11_ask_33 rfl rfl ?_
              refine Tr.getf (pc := 34) d_X11_ask_34 f_11_77 (by decide) (by decide) (ty_0 hS.1.1) ?_
              refine Tr.tp 113 (fx_0_13 hS.1.1) ?_
              refine Tr.iload_n (pc := 37) (i := 1) d_X11_ask_37 rfl rfl ?_
              refine Tr.iload_n (pc := 38) (i := 2) d_X11_ask_38 rfl rfl ?_
              refine Tr.iload_n (pc := 39) (i := 3) d_X11_ask_39 rfl rfl ?_
              refine Tr.callV (pc := 40) (as := [_, _, _]) d_X11_ask_40 s_11_286 ok_X0_add rfl rfl (Nat.le_of_ble_eq_true rfl) (Nat.le_of_ble_eq_true rfl) (by decide) (ty_113 hS.1.1) ?_
              have kb40_113_0 : rd M0 113 0 = g113_0 := eg113_0
              refine Tr.imp (Tr.deep (by decide) (sp_X0_add_113 hS.1 a1 (by omega) a2 (by omega) a3 (by omega))) ?_
              rintro M40 _ ⟨h40, r40, rfl, lr40, ur40, z40_0⟩
              have hS := St.tr hS h40 (by decide) (by decide)
              obtain ⟨s40_113_0, es40_113_0⟩ : ∃ v, rd M40 113 0 = v := ⟨_, rfl⟩
              have bs40_113_0 : 0 ≤ s40_113_0 ∧ s40_113_0 ≤ 6 := by rw [← es40_113_0]; exact ir_113_0 hS.1.2.1
              refine Tr.sc [(0, r40)] rfl ?_
              refine Tr.if_eq (pc := 43) (tgt := 56) d_X11_ask_43 rfl (fun c43 => ?_) (fun c43 => ?_)
              · refine Tr.iconst (pc := 56) d_X11_ask_56 (by decide) ?_
                have kr_113_0 : rd M40 113 0 = s40_113_0 := es40_113_0
                exact Tr.iret (pc := 57) d_X11_ask_57 rfl ⟨hS, _, rfl, by omega, by omega, by omega⟩
              · refine Tr.aload_n (pc := 46) (i := 0) d_X11_ask_46 rfl rfl ?_
                refine Tr.getf (pc := 47) d_X11_ask_47 f_11_77 (by decide) (by decide) (ty_0 hS.1.1) ?_
                refine Tr.tp 113 (fx_0_13 hS.1.1) ?_
                refine Tr.getf (pc := 50) d_X11_ask_50 f_11_136 (by decide) (by decide) (ty_113 hS.1.1) ?_
                refine Tr.tp s40_113_0 es40_113_0 ?_
                refine Tr.goto (pc := 53) (tgt := 57) d_X11_ask_53 rfl ?_
                have kr_113_0 : rd M40 113 0 = s40_113_0 := es40_113_0
                exact Tr.iret (pc := 57) d_X11_ask_57 rfl ⟨hS, _, rfl, by omega, by omega, by omega⟩
            · refine Tr.iconst (pc := 31) d_X11_ask_31 (by decide) ?_
              have kr_113_0 : rd M0 113 0 = g113_0 := eg113_0
              exact Tr.iret (pc := 32) d_X11_ask_32 rfl ⟨hS, _, rfl, by omega, by omega, by omega⟩

def ws_X11_forget_0 : List (Int × Int) := [(113, 0)]
def as_X11_forget_0 : List Int := []
def q_X11_forget_0 (M0 M' : Mem) (r : Option PV) : Prop := St Tru ws_X11_forget_0 as_X11_forget_0 M0 M' ∧ ∃ v : Int, r = some (0, v) ∧ 0 ≤ v ∧ v ≤ 6 ∧ (v = rd M0 113 0 ∧ rd M' 113 0 = 0)
set_option maxRecDepth 100000 in
set_option maxHeartbeats 4000000 in
theorem sp_X11_forget_0 {l : Launch} {K : EC} {M0 : Mem} (hI : In Tru M0)    : Tr l K 0 mX11_forget 0 [(0, (2, 0))] [] M0 (q_X11_forget_0 M0) := by
  have hS : St Tru ws_X11_forget_0 as_X11_forget_0 M0 M0 := St.rf hI
  obtain ⟨g113_0, eg113_0⟩ : ∃ v, rd M0 113 0 = v := ⟨_, rfl⟩
  have bg113_0 : 0 ≤ g113_0 ∧ g113_0 ≤ 6 := by rw [← eg113_0]; exact ir_113_0 hI.2.1
  refine Tr.aload_n (pc := 0) (i := 0) d_X11_forget_0 rfl rfl ?_
  refine Tr.getf (pc := 1) d_X11_forget_1 f_11_77 (by decide) (by decide) (ty_0 hS.1.1) ?_
  refine Tr.tp 113 (fx_0_13 hS.1.1) ?_
  refine Tr.getf (pc := 4) d_X11_forget_4 f_11_136 (by decide) (by decide) (ty_113 hS.1.1) ?_
  refine Tr.tp g113_0 eg113_0 ?_
  refine Tr.istore_n (pc := 7) (i := 1) (ls2 := [(1, (0, g113_0)), (0, (2, 0))]) d_X11_forget_7 rfl (by decide) rfl ?_
  refine Tr.aload_n (pc := 8) (i := 0) d_X11_forget_8 rfl rfl ?_
  refine Tr.getf (pc := 9) d_X11_forget_9 f_11_77 (by decide) (by decide) (ty_0 hS.1.1) ?_
  refine Tr.tp 113 (fx_0_13 hS.1.1) ?_
  refine Tr.iconst (pc := 12) d_X11_forget_12 (by decide) ?_
  refine Tr.putfS (pc := 13) (P := St Tru ws_X11_forget_0 as_X11_forget_0 M0) d_X11_forget_13 f_11_136 (by decide) (by decide) (ty_113 hS.1.1) (st_113_0 hS (by decide) (by omega) trivial) (fun M13 hS w13 => ?_)
  refine Tr.iload_n (pc := 16) (i := 1) d_X11_forget_16 rfl rfl ?_
  have kr_113_0 : rd M13 113 0 = 0 := w13.1
  exact Tr.iret (pc := 17) d_X11_forget_17 rfl ⟨hS, _, rfl, by omega, by omega, by omega⟩

def ws_X3_wakeCost_7 : List (Int × Int) := []
def as_X3_wakeCost_7 : List Int := []
def q_X3_wakeCost_7 (M0 M' : Mem) (r : Option PV) : Prop := St Tru ws_X3_wakeCost_7 as_X3_wakeCost_7 M0 M' ∧ ∃ v : Int, r = some (0, v) ∧ (-2147483648) ≤ v ∧ v ≤ 2147483647
set_option maxRecDepth 100000 in
set_option maxHeartbeats 4000000 in
theorem sp_X3_wakeCost_7 {l : Launch} {K : EC} {M0 : Mem} (hI : In Tru M0)  (a1 : Int) (ha1 : 0 ≤ a1 ∧ a1 ≤ 5)  : Tr l K 0 mX3_wakeCost 0 [(0, (2, 7)), (1, (0, a1))] [] M0 (q_X3_wakeCost_7 M0) := by
  have hS : St Tru ws_X3_wakeCost_7 as_X3_wakeCost_7 M0 M0 := St.rf hI
  refine Tr.aload_n (pc := 0) (i := 0) d_X3_wakeCost_0 rfl rfl ?_
  refine Tr.getf (pc := 1) d_X3_wakeCost_1 f_3_18 (by decide) (by decide) (ty_7 hS.1.1) ?_
  refine Tr.tp 10 (fx_7_6 hS.1.1) ?_
  refine Tr.iload_n (pc := 4) (i := 1) d_X3_wakeCost_4 rfl rfl ?_
  refine Tr.iald (pc := 5) d_X3_wakeCost_5 (ty_10 hS.1.1) (by omega) (by omega) ?_
  refine Tr.gen (P := fun v => (-1) ≤ v ∧ v ≤ 20) (ar_10 hS.1.2.1 _) (fun r5 er5 br5 => ?_)
  refine Tr.aload_n (pc := 6) (i := 0) d_X3_wakeCost_6 rfl rfl ?_
  refine Tr.getf (pc := 7) d_X3_wakeCost_7 f_3_15 (by decide) (by decide) (ty_7 hS.1.1) ?_
  refine Tr.tp 9 (fx_7_5 hS.1.1) ?_
  refine Tr.iload_n (pc := 10) (i := 1) d_X3_wakeCost_10 rfl rfl ?_
  refine Tr.iconst (pc := 11) d_X3_wakeCost_11 (by decide) ?_
  refine Tr.imul (pc := 12) d_X3_wakeCost_12 ?_
  refine Tr.tp (4 * a1) ((w32_id (by omega)).trans (by omega)) ?_
  refine Tr.iconst (pc := 13) d_X3_wakeCost_13 (by decide) ?_
  refine Tr.iadd (pc := 14) d_X3_wakeCost_14 ?_
  refine Tr.tp (4 * a1 + 1) ((w32_id (by omega)).trans (by omega)) ?_
  refine Tr.iald (pc := 15) d_X3_wakeCost_15 (ty_9 hS.1.1) (by omega) (by omega) ?_
  refine Tr.gen (P := fun v => (-1) ≤ v ∧ v ≤ 999) (ar_9 hS.1.2.1 _) (fun r15 er15 br15 => ?_)
  refine Tr.imul (pc := 16) d_X3_wakeCost_16 ?_
  refine Tr.gen (P := fun v => (-2147483648) ≤ v ∧ v ≤ 2147483647) (w32_b _) (fun r16 er16 br16 => ?_)
  exact Tr.iret (pc := 17) d_X3_wakeCost_17 rfl ⟨hS, _, rfl, by omega, by omega⟩

def ws_X0_sort_113 : List (Int × Int) := []
def as_X0_sort_113 : List Int := [118]
def q_X0_sort_113 (M0 M' : Mem) (r : Option PV) : Prop := St Tru ws_X0_sort_113 as_X0_sort_113 M0 M' ∧ r = none
set_option maxRecDepth 100000 in
set_option maxHeartbeats 4000000 in
theorem sp_X0_sort_113 {l : Launch} {K : EC} {M0 : Mem} (hI : In Tru M0)    : Tr l K 0 mX0_sort 0 [(0, (2, 113))] [] M0 (q_X0_sort_113 M0) := by
  have hS : St Tru ws_X0_sort_113 as_X0_sort_113 M0 M0 := St.rf hI
  refine Tr.iconst (pc := 0) d_X0_sort_0 (by decide) ?_
  refine Tr.istore_n (pc := 1) (i := 1) (ls2 := [(1, (0, 1)), (0, (2, 113))]) d_X0_sort_1 rfl (by decide) rfl ?_
  have J2 : ∀ (n2 : Nat) (M : Mem) (p2_1 : Int), St Tru ws_X0_sort_113 as_X0_sort_113 M0 M → (1 ≤ p2_1 ∧ p2_1 ≤ 6) → (6 - p2_1).toNat < n2 → Tr l K 0 mX0_sort 2 [(0, (2, 113)), (1, (0, p2_1))] [] M (q_X0_sort_113 M0) := by
    intro n2
    induction n2 with
    | zero => intro M p2_1 hS bp2_1  hm2; exact absurd hm2 (Nat.not_lt_zero _)
    | succ n2 J2 =>
      intro M p2_1 hS bp2_1  hm2
      refine Tr.iload_n (pc := 2) (i := 1) d_X0_sort_2 rfl rfl ?_
      refine Tr.aload_n (pc := 3) (i := 0) d_X0_sort_3 rfl rfl ?_
      refine Tr.getf (pc := 4) d_X0_sort_4 f_0_30 (by decide) (by decide) (ty_113 hS.1.1) ?_
      refine Tr.gen (P := fun v => 0 ≤ v ∧ v ≤ 6) (ir_113_0 hS.1.2.1) (fun r4 er4 br4 => ?_)
      refine Tr.icmp_ge (pc := 7) (tgt := 108) d_X0_sort_7 rfl (fun c7 => ?_) (fun c7 => ?_)
      · exact Tr.vret (pc := 108) d_X0_sort_108 rfl ⟨hS, rfl⟩
      · refine Tr.aload_n (pc := 10) (i := 0) d_X0_sort_10 rfl rfl ?_
        refine Tr.getf (pc := 11) d_X0_sort_11 f_0_24 (by decide) (by decide) (ty_113 hS.1.1) ?_
        refine Tr.tp 118 (fx_113_5 hS.1.1) ?_
        refine Tr.iload_n (pc := 14) (i := 1) d_X0_sort_14 rfl rfl ?_
        refine Tr.iald (pc := 15) d_X0_sort_15 (ty_118 hS.1.1) (by omega) (by omega) ?_
        refine Tr.gen (P := fun v => 0 ≤ v ∧ v ≤ 5) (ar_118 hS.1.2.1 _) (fun r15 er15 br15 => ?_)
        refine Tr.istore_n (pc := 16) (i := 2) (ls2 := [(2, (0, r15)), (0, (2, 113)), (1, (0, p2_1))]) d_X0_sort_16 rfl (by decide) rfl ?_
        refine Tr.aload_n (pc := 17) (i := 0) d_X0_sort_17 rfl rfl ?_
        refine Tr.getf (pc := 18) d_X0_sort_18 f_0_11 (by decide) (by decide) (ty_113 hS.1.1) ?_
        refine Tr.tp 114 (fx_113_1 hS.1.1) ?_
        refine Tr.iload_n (pc := 21) (i := 2) d_X0_sort_21 rfl rfl ?_
        refine Tr.iald (pc := 22) d_X0_sort_22 (ty_114 hS.1.1) (by omega) (by omega) ?_
        refine Tr.gen (P := fun v => 0 ≤ v ∧ v ≤ 200) (ar_114 hS.1.2.1 _) (fun r22 er22 br22 => ?_)
        refine Tr.aload_n (pc := 23) (i := 0) d_X0_sort_23 rfl rfl ?_
        refine Tr.getf (pc := 24) d_X0_sort_24 f_0_21 (by decide) (by decide) (ty_113 hS.1.1) ?_
        refine Tr.tp 117 (fx_113_4 hS.1.1) ?_
        refine Tr.iload_n (pc := 27) (i := 2) d_X0_sort_27 rfl rfl ?_
        refine Tr.iald (pc := 28) d_X0_sort_28 (ty_117 hS.1.1) (by omega) (by omega) ?_
        refine Tr.gen (P := fun v => 0 ≤ v ∧ v ≤ 5) (ar_117 hS.1.2.1 _) (fun r28 er28 br28 => ?_)
        refine Tr.iadd (pc := 29) d_X0_sort_29 ?_
        refine Tr.tp (r22 + r28) ((w32_id (by omega)).trans (by omega)) ?_
        refine Tr.istore_n (pc := 30) (i := 3) (ls2 := [(3, (0, (r22 + r28))), (2, (0, r15)), (0, (2, 113)), (1, (0, p2_1))]) d_X0_sort_30 rfl (by decide) rfl ?_
        refine Tr.iload_n (pc := 31) (i := 1) d_X0_sort_31 rfl rfl ?_
        refine Tr.istore (pc := 32) (i := 4) (ls2 := [(4, (0, p2_1)), (3, (0, (r22 + r28))), (2, (0, r15)), (0, (2, 113)), (1, (0, p2_1))]) d_X0_sort_32 (by decide) rfl ?_
        have J34 : ∀ (n34 : Nat) (M : Mem) (p34_4 : Int), St Tru ws_X0_sort_113 as_X0_sort_113 M0 M → (0 ≤ p34_4 ∧ p34_4 ≤ 5) → rd M 113 0 = r4 → rd M 114 r15 = r22 → rd M 117 r15 = r28 → (p34_4 - 0).toNat < n34 → Tr l K 0 mX0_sort 34 [(0, (2, 113)), (1, (0, p2_1)), (2, (0, r15)), (3, (0, (r22 + r28))), (4, (0, p34_4))] [] M (q_X0_sort_113 M0) := by
          intro n34
          induction n34 with
          | zero => intro M p34_4 hS bp34_4 k34_113_0 k34_114_r1510 k34_117_r1510 hm34; exact absurd hm34 (Nat.not_lt_zero _)
          | succ n34 J34 =>
            intro M p34_4 hS bp34_4 k34_113_0 k34_114_r1510 k34_117_r1510 hm34
            refine Tr.iload (pc := 34) (i := 4) d_X0_sort_34 rfl ?_
            have J94 : ∀ (M : Mem), St Tru ws_X0_sort_113 as_X0_sort_113 M0 M → rd M 113 0 = r4 → rd M 114 r15 = r22 → rd M 117 r15 = r28 → Tr l K 0 mX0_sort 94 [(0, (2, 113)), (1, (0, p2_1)), (2, (0, r15)), (4, (0, p34_4))] [] M (q_X0_sort_113 M0) := by
              intro M  hS  k94_113_0 k94_114_r1510 k94_117_r1510
              refine Tr.aload_n (pc := 94) (i := 0) d_X0_sort_94 rfl rfl ?_
              refine Tr.getf (pc := 95) d_X0_sort_95 f_0_24 (by decide) (by decide) (ty_113 hS.1.1) ?_
              refine Tr.tp 118 (fx_113_5 hS.1.1) ?_
              refine Tr.iload (pc := 98) (i := 4) d_X0_sort_98 rfl ?_
              refine Tr.iload_n (pc := 100) (i := 2) d_X0_sort_100 rfl rfl ?_
              refine Tr.iastS (pc := 101) (P := St Tru ws_X0_sort_113 as_X0_sort_113 M0) d_X0_sort_101 (ty_118 hS.1.1) (by omega) (by omega) (sa_118 hS (by decide) (by omega) trivial) (fun M101 hS w101 => ?_)
              refine Tr.iincV (pc := 102) (n2 := (p2_1 + 1)) (ls2 := [(1, (0, (p2_1 + 1))), (0, (2, 113)), (2, (0, r15)), (4, (0, p34_4))]) d_X0_sort_102 rfl (by decide) ((w32_id (by omega)).trans (by omega)) rfl ?_
              refine Tr.goto (pc := 105) (tgt := 2) d_X0_sort_105 rfl ?_
              refine Tr.pick [1, 0] (ls2 := [(0, (2, 113)), (1, (0, (p2_1 + 1)))]) rfl ?_
              exact J2 _ _ hS (by omega) (by omega)
            refine Tr.if_le (pc := 36) (tgt := 94) d_X0_sort_36 rfl (fun c36 => ?_) (fun c36 => ?_)
            · refine Tr.pick [0, 1, 2, 4] (ls2 := [(0, (2, 113)), (1, (0, p2_1)), (2, (0, r15)), (4, (0, p34_4))]) rfl ?_
              exact J94 _ hS k34_113_0 k34_114_r1510 k34_117_r1510
            · refine Tr.aload_n (pc := 39) (i := 0) d_X0_sort_39 rfl rfl ?_
              refine Tr.getf (pc := 40) d_X0_sort_40 f_0_11 (by decide) (by decide) (ty_113 hS.1.1) ?_
              refine Tr.tp 114 (fx_113_1 hS.1.1) ?_
              refine Tr.aload_n (pc := 43) (i := 0) d_X0_sort_43 rfl rfl ?_
              refine Tr.getf (pc := 44) d_X0_sort_44 f_0_24 (by decide) (by decide) (ty_113 hS.1.1) ?_
              refine Tr.tp 118 (fx_113_5 hS.1.1) ?_
              refine Tr.iload (pc := 47) (i := 4) d_X0_sort_47 rfl ?_
              refine Tr.iconst (pc := 49) d_X0_sort_49 (by decide) ?_
              refine Tr.isub (pc := 50) d_X0_sort_50 ?_
              refine Tr.tp (p34_4 - 1) ((w32_id (by omega)).trans (by omega)) ?_
              refine Tr.iald (pc := 51) d_X0_sort_51 (ty_118 hS.1.1) (by omega) (by omega) ?_
              refine Tr.gen (P := fun v => 0 ≤ v ∧ v ≤ 5) (ar_118 hS.1.2.1 _) (fun r51 er51 br51 => ?_)
              refine Tr.iald (pc := 52) d_X0_sort_52 (ty_114 hS.1.1) (by omega) (by omega) ?_
              refine Tr.gen (P := fun v => 0 ≤ v ∧ v ≤ 200) (ar_114 hS.1.2.1 _) (fun r52 er52 br52 => ?_)
              refine Tr.aload_n (pc := 53) (i := 0) d_X0_sort_53 rfl rfl ?_
              refine Tr.getf (pc := 54) d_X0_sort_54 f_0_21 (by decide) (by decide) (ty_113 hS.1.1) ?_
              refine Tr.tp 117 (fx_113_4 hS.1.1) ?_
              refine Tr.aload_n (pc := 57) (i := 0) d_X0_sort_57 rfl rfl ?_
              refine Tr.getf (pc := 58) d_X0_sort_58 f_0_24 (by decide) (by decide) (ty_113 hS.1.1) ?_
              refine Tr.tp 118 (fx_113_5 hS.1.1) ?_
              refine Tr.iload (pc := 61) (i := 4) d_X0_sort_61 rfl ?_
              refine Tr.iconst (pc := 63) d_X0_sort_63 (by decide) ?_
              refine Tr.isub (pc := 64) d_X0_sort_64 ?_
              refine Tr.tp (p34_4 - 1) ((w32_id (by omega)).trans (by omega)) ?_
              refine Tr.iald (pc := 65) d_X0_sort_65 (ty_118 hS.1.1) (by omega) (by omega) ?_
              refine Tr.tp r51 er51 ?_
              refine Tr.iald (pc := 66) d_X0_sort_66 (ty_117 hS.1.1) (by omega) (by omega) ?_
              refine Tr.gen (P := fun v => 0 ≤ v ∧ v ≤ 5) (ar_117 hS.1.2.1 _) (fun r66 er66 br66 => ?_)
              refine Tr.iadd (pc := 67) d_X0_sort_67 ?_
              refine Tr.tp (r52 + r66) ((w32_id (by omega)).trans (by omega)) ?_
              refine Tr.iload_n (pc := 68) (i := 3) d_X0_sort_68 rfl rfl ?_
              refine Tr.icmp_le (pc := 69) (tgt := 94) d_X0_sort_69 rfl (fun c69 => ?_) (fun c69 => ?_)
              · refine Tr.pick [0, 1, 2, 4] (ls2 := [(0, (2, 113)), (1, (0, p2_1)), (2, (0, r15)), (4, (0, p34_4))]) rfl ?_
                exact J94 _ hS k34_113_0 k34_114_r1510 k34_117_r1510
              · refine Tr.aload_n (pc := 72) (i := 0) d_X0_sort_72 rfl rfl ?_
                refine Tr.getf (pc := 73) d_X0_sort_73 f_0_24 (by decide) (by decide) (ty_113 hS.1.1) ?_
                refine Tr.tp 118 (fx_113_5 hS.1.1) ?_
                refine Tr.iload (pc := 76) (i := 4) d_X0_sort_76 rfl ?_
                refine Tr.aload_n (pc := 78) (i := 0) d_X0_sort_78 rfl rfl ?_
                refine Tr.getf (pc := 79) d_X0_sort_79 f_0_24 (by decide) (by decide) (ty_113 hS.1.1) ?_
                refine Tr.tp 118 (fx_113_5 hS.1.1) ?_
                refine Tr.iload (pc := 82) (i := 4) d_X0_sort_82 rfl ?_
                refine Tr.iconst (pc := 84) d_X0_sort_84 (by decide) ?_
                refine Tr.isub (pc := 85) d_X0_sort_85 ?_
                refine Tr.tp (p34_4 - 1) ((w32_id (by omega)).trans (by omega)) ?_
                refine Tr.iald (pc := 86) d_X0_sort_86 (ty_118 hS.1.1) (by omega) (by omega) ?_
                refine Tr.tp r51 er51 ?_
                refine Tr.iastS (pc := 87) (P := St Tru ws_X0_sort_113 as_X0_sort_113 M0) d_X0_sort_87 (ty_118 hS.1.1) (by omega) (by omega) (sa_118 hS (by decide) (by omega) trivial) (fun M87 hS w87 => ?_)
                refine Tr.iincV (pc := 88) (n2 := (p34_4 - 1)) (ls2 := [(4, (0, (p34_4 - 1))), (0, (2, 113)), (1, (0, p2_1)), (2, (0, r15)), (3, (0, (r22 + r28)))]) d_X0_sort_88 rfl (by decide) ((w32_id (by omega)).trans (by omega)) rfl ?_
                refine Tr.goto (pc := 91) (tgt := 34) d_X0_sort_91 rfl ?_
                refine Tr.pick [1, 2, 3, 4, 0] (ls2 := [(0, (2, 113)), (1, (0, p2_1)), (2, (0, r15)), (3, (0, (r22 + r28))), (4, (0, (p34_4 - 1)))]) rfl ?_
                exact J34 _ _ hS (by omega) ((Wr.b w87 rfl).trans k34_113_0) ((Wr.b w87 rfl).trans k34_114_r1510) ((Wr.b w87 rfl).trans k34_117_r1510) (by omega)
        refine Tr.pick [3, 4, 2, 1, 0] (ls2 := [(0, (2, 113)), (1, (0, p2_1)), (2, (0, r15)), (3, (0, (r22 + r28))), (4, (0, p2_1))]) rfl ?_
        exact J34 _ _ _ hS (by omega) er4 er22 er28 (Nat.lt_succ_self _)
  refine Tr.pick [1, 0] (ls2 := [(0, (2, 113)), (1, (0, 1))]) rfl ?_
  exact J2 _ _ _ hS (by omega) (Nat.lt_succ_self _)

def ws_X0_cost_113 : List (Int × Int) := []
def as_X0_cost_113 : List Int := [118]
def q_X0_cost_113 (M0 M' : Mem) (r : Option PV) : Prop := St Tru ws_X0_cost_113 as_X0_cost_113 M0 M' ∧ ∃ v : Int, r = some (0, v) ∧ (-2147483648) ≤ v ∧ v ≤ 2147483647
set_option maxRecDepth 100000 in
set_option maxHeartbeats 4000000 in
theorem sp_X0_cost_113 {l : Launch} {K : EC} {M0 : Mem} (hI : In Tru M0)  (a1 : Int) (ha1 : (-1) ≤ a1 ∧ a1 ≤ 999) (a2 : Int) (ha2 : (-2147483648) ≤ a2 ∧ a2 ≤ 2147483647) (a3 : Int) (ha3 : 0 ≤ a3 ∧ a3 ≤ 50)  : Tr l K 1 mX0_cost 0 [(0, (2, 113)), (1, (0, a1)), (2, (0, a2)), (3, (0, a3))] [] M0 (q_X0_cost_113 M0) := by
  have hS : St Tru ws_X0_cost_113 as_X0_cost_113 M0 M0 := St.rf hI
  refine Tr.aload_n (pc := 0) (i := 0) d_X0_cost_0 rfl rfl ?_
  refine Tr.callV (pc := 1) (as := []) d_X0_cost_1 s_0_56 ok_X0_sort rfl rfl (Nat.le_of_ble_eq_true rfl) (Nat.le_of_ble_eq_true rfl) (by decide) (ty_113 hS.1.1) ?_
  refine Tr.imp (Tr.deep (by decide) (sp_X0_sort_113 hS.1 )) ?_
  rintro M1 _ ⟨h1, rfl⟩
  have hS := St.tr hS h1 (by decide) (by decide)
  refine Tr.sc [] rfl ?_
  refine Tr.iconst (pc := 4) d_X0_cost_4 (by decide) ?_
  refine Tr.istore (pc := 5) (i := 4) (ls2 := [(4, (0, 0)), (0, (2, 113)), (1, (0, a1)), (2, (0, a2)), (3, (0, a3))]) d_X0_cost_5 (by decide) rfl ?_
  refine Tr.iconst (pc := 7) d_X0_cost_7 (by decide) ?_
  refine Tr.istore (pc := 8) (i := 5) (ls2 := [(5, (0, 0)), (4, (0, 0)), (0, (2, 113)), (1, (0, a1)), (2, (0, a2)), (3, (0, a3))]) d_X0_cost_8 (by decide) rfl ?_
  refine Tr.iconst (pc := 10) d_X0_cost_10 (by decide) ?_
  refine Tr.istore (pc := 11) (i := 6) (ls2 := [(6, (0, (-1))), (5, (0, 0)), (4, (0, 0)), (0, (2, 113)), (1, (0, a1)), (2, (0, a2)), (3, (0, a3))]) d_X0_cost_11 (by decide) rfl ?_
  refine Tr.iconst (pc := 13) d_X0_cost_13 (by decide) ?_
  refine Tr.istore (pc := 14) (i := 7) (ls2 := [(7, (0, 0)), (6, (0, (-1))), (5, (0, 0)), (4, (0, 0)), (0, (2, 113)), (1, (0, a1)), (2, (0, a2)), (3, (0, a3))]) d_X0_cost_14 (by decide) rfl ?_
  have J16 : ∀ (n16 : Nat) (M : Mem) (p16_4 p16_5 p16_6 p16_7 : Int), St Tru ws_X0_cost_113 as_X0_cost_113 M0 M → ((-2147483648) ≤ p16_4 ∧ p16_4 ≤ 2147483647) → ((-2147483648) ≤ p16_5 ∧ p16_5 ≤ 2147483647) → ((-1) ≤ p16_6 ∧ p16_6 ≤ 275) → (0 ≤ p16_7 ∧ p16_7 ≤ 6) → (6 - p16_7).toNat < n16 → Tr l K 1 mX0_cost 16 [(0, (2, 113)), (1, (0, a1)), (2, (0, a2)), (3, (0, a3)), (4, (0, p16_4)), (5, (0, p16_5)), (6, (0, p16_6)), (7, (0, p16_7))] [] M (q_X0_cost_113 M0) := by
    intro n16
    induction n16 with
    | zero => intro M p16_4 p16_5 p16_6 p16_7 hS bp16_4 bp16_5 bp16_6 bp16_7  hm16; exact absurd hm16 (Nat.not_lt_zero _)
    | succ n16 J16 =>
      intro M p16_4 p16_5 p16_6 p16_7 hS bp16_4 bp16_5 bp16_6 bp16_7  hm16
      refine Tr.iload (pc := 16) (i := 7) d_X0_cost_16 rfl ?_
      refine Tr.aload_n (pc := 18) (i := 0) d_X0_cost_18 rfl rfl ?_
      refine Tr.getf (pc := 19) d_X0_cost_19 f_0_30 (by decide) (by decide) (ty_113 hS.1.1) ?_
      refine Tr.gen (P := fun v => 0 ≤ v ∧ v ≤ 6) (ir_113_0 hS.1.2.1) (fun r19 er19 br19 => ?_)
      refine Tr.icmp_ge (pc := 22) (tgt := 119) d_X0_cost_22 rfl (fun c22 => ?_) (fun c22 => ?_)
      · refine Tr.iload (pc := 119) (i := 5) d_X0_cost_119 rfl ?_
        refine Tr.iload_n (pc := 121) (i := 2) d_X0_cost_121 rfl rfl ?_
        refine Tr.imul (pc := 122) d_X0_cost_122 ?_
        refine Tr.gen (P := fun v => (-2147483648) ≤ v ∧ v ≤ 2147483647) (w32_b _) (fun r122 er122 br122 => ?_)
        refine Tr.iload (pc := 123) (i := 4) d_X0_cost_123 rfl ?_
        refine Tr.iload_n (pc := 125) (i := 1) d_X0_cost_125 rfl rfl ?_
        refine Tr.imul (pc := 126) d_X0_cost_126 ?_
        refine Tr.gen (P := fun v => (-2147483648) ≤ v ∧ v ≤ 2147483647) (w32_b _) (fun r126 er126 br126 => ?_)
        refine Tr.iadd (pc := 127) d_X0_cost_127 ?_
        refine Tr.gen (P := fun v => (-2147483648) ≤ v ∧ v ≤ 2147483647) (w32_b _) (fun r127 er127 br127 => ?_)
        exact Tr.iret (pc := 128) d_X0_cost_128 rfl ⟨hS, _, rfl, by omega, by omega⟩
      · refine Tr.aload_n (pc := 25) (i := 0) d_X0_cost_25 rfl rfl ?_
        refine Tr.getf (pc := 26) d_X0_cost_26 f_0_24 (by decide) (by decide) (ty_113 hS.1.1) ?_
        refine Tr.tp 118 (fx_113_5 hS.1.1) ?_
        refine Tr.iload (pc := 29) (i := 7) d_X0_cost_29 rfl ?_
        refine Tr.iald (pc := 31) d_X0_cost_31 (ty_118 hS.1.1) (by omega) (by omega) ?_
        refine Tr.gen (P := fun v => 0 ≤ v ∧ v ≤ 5) (ar_118 hS.1.2.1 _) (fun r31 er31 br31 => ?_)
        refine Tr.istore (pc := 32) (i := 8) (ls2 := [(8, (0, r31)), (0, (2, 113)), (1, (0, a1)), (2, (0, a2)), (3, (0, a3)), (4, (0, p16_4)), (5, (0, p16_5)), (6, (0, p16_6)), (7, (0, p16_7))]) d_X0_cost_32 (by decide) rfl ?_
        refine Tr.aload_n (pc := 34) (i := 0) d_X0_cost_34 rfl rfl ?_
        refine Tr.getf (pc := 35) d_X0_cost_35 f_0_11 (by decide) (by decide) (ty_113 hS.1.1) ?_
        refine Tr.tp 114 (fx_113_1 hS.1.1) ?_
        refine Tr.iload (pc := 38) (i := 8) d_X0_cost_38 rfl ?_
        refine Tr.iald (pc := 40) d_X0_cost_40 (ty_114 hS.1.1) (by omega) (by omega) ?_
        refine Tr.gen (P := fun v => 0 ≤ v ∧ v ≤ 200) (ar_114 hS.1.2.1 _) (fun r40 er40 br40 => ?_)
        refine Tr.aload_n (pc := 41) (i := 0) d_X0_cost_41 rfl rfl ?_
        refine Tr.getf (pc := 42) d_X0_cost_42 f_0_21 (by decide) (by decide) (ty_113 hS.1.1) ?_
        refine Tr.tp 117 (fx_113_4 hS.1.1) ?_
        refine Tr.iload (pc := 45) (i := 8) d_X0_cost_45 rfl ?_
        refine Tr.iald (pc := 47) d_X0_cost_47 (ty_117 hS.1.1) (by omega) (by omega) ?_
        refine Tr.gen (P := fun v => 0 ≤ v ∧ v ≤ 5) (ar_117 hS.1.2.1 _) (fun r47 er47 br47 => ?_)
        refine Tr.iadd (pc := 48) d_X0_cost_48 ?_
        refine Tr.tp (r40 + r47) ((w32_id (by omega)).trans (by omega)) ?_
        refine Tr.istore (pc := 49) (i := 9) (ls2 := [(9, (0, (r40 + r47))), (8, (0, r31)), (0, (2, 113)), (1, (0, a1)), (2, (0, a2)), (3, (0, a3)), (4, (0, p16_4)), (5, (0, p16_5)), (6, (0, p16_6)), (7, (0, p16_7))]) d_X0_cost_49 (by decide) rfl ?_
        refine Tr.iload (pc := 51) (i := 9) d_X0_cost_51 rfl ?_
        refine Tr.aload_n (pc := 53) (i := 0) d_X0_cost_53 rfl rfl ?_
        refine Tr.getf (pc := 54) d_X0_cost_54 f_0_15 (by decide) (by decide) (ty_113 hS.1.1) ?_
        refine Tr.tp 115 (fx_113_2 hS.1.1) ?_
        refine Tr.iload (pc := 57) (i := 8) d_X0_cost_57 rfl ?_
        refine Tr.iald (pc := 59) d_X0_cost_59 (ty_115 hS.1.1) (by omega) (by omega) ?_
        refine Tr.gen (P := fun v => 0 ≤ v ∧ v ≤ 20) (ar_115 hS.1.2.1 _) (fun r59 er59 br59 => ?_)
        refine Tr.iadd (pc := 60) d_X0_cost_60 ?_
        refine Tr.tp (r40 + r47 + r59) ((w32_id (by omega)).trans (by omega)) ?_
        refine Tr.iload_n (pc := 61) (i := 3) d_X0_cost_61 rfl rfl ?_
        refine Tr.iadd (pc := 62) d_X0_cost_62 ?_
        refine Tr.tp (a3 + r40 + r47 + r59) ((w32_id (by omega)).trans (by omega)) ?_
        refine Tr.istore (pc := 63) (i := 10) (ls2 := [(10, (0, (a3 + r40 + r47 + r59))), (9, (0, (r40 + r47))), (8, (0, r31)), (0, (2, 113)), (1, (0, a1)), (2, (0, a2)), (3, (0, a3)), (4, (0, p16_4)), (5, (0, p16_5)), (6, (0, p16_6)), (7, (0, p16_7))]) d_X0_cost_63 (by decide) rfl ?_
        refine Tr.iload (pc := 65) (i := 9) d_X0_cost_65 rfl ?_
        refine Tr.iload (pc := 67) (i := 6) d_X0_cost_67 rfl ?_
        have J113 : ∀ (M : Mem) (p113_4 p113_5 p113_6 : Int), St Tru ws_X0_cost_113 as_X0_cost_113 M0 M → ((-2147483648) ≤ p113_4 ∧ p113_4 ≤ 2147483647) → ((-2147483648) ≤ p113_5 ∧ p113_5 ≤ 2147483647) → (0 ≤ p113_6 ∧ p113_6 ≤ 275) → rd M 113 0 = r19 → rd M 114 r31 = r40 → rd M 115 r31 = r59 → rd M 117 r31 = r47 → rd M 118 p16_7 = r31 → Tr l K 1 mX0_cost 113 [(0, (2, 113)), (1, (0, a1)), (2, (0, a2)), (3, (0, a3)), (4, (0, p113_4)), (5, (0, p113_5)), (6, (0, p113_6)), (7, (0, p16_7))] [] M (q_X0_cost_113 M0) := by
          intro M p113_4 p113_5 p113_6 hS bp113_4 bp113_5 bp113_6 k113_113_0 k113_114_r3110 k113_115_r3110 k113_117_r3110 k113_118_p16_710
          refine Tr.iincV (pc := 113) (n2 := (p16_7 + 1)) (ls2 := [(7, (0, (p16_7 + 1))), (0, (2, 113)), (1, (0, a1)), (2, (0, a2)), (3, (0, a3)), (4, (0, p113_4)), (5, (0, p113_5)), (6, (0, p113_6))]) d_X0_cost_113 rfl (by decide) ((w32_id (by omega)).trans (by omega)) rfl ?_
          refine Tr.goto (pc := 116) (tgt := 16) d_X0_cost_116 rfl ?_
          refine Tr.pick [1, 2, 3, 4, 5, 6, 7, 0] (ls2 := [(0, (2, 113)), (1, (0, a1)), (2, (0, a2)), (3, (0, a3)), (4, (0, p113_4)), (5, (0, p113_5)), (6, (0, p113_6)), (7, (0, (p16_7 + 1)))]) rfl ?_
          exact J16 _ _ _ _ _ hS (by omega) (by omega) (by omega) (by omega) (by omega)
        refine Tr.icmp_le (pc := 69) (tgt := 92) d_X0_cost_69 rfl (fun c69 => ?_) (fun c69 => ?_)
        · refine Tr.iload (pc := 92) (i := 10) d_X0_cost_92 rfl ?_
          refine Tr.iload (pc := 94) (i := 6) d_X0_cost_94 rfl ?_
          refine Tr.icmp_le (pc := 96) (tgt := 113) d_X0_cost_96 rfl (fun c96 => ?_) (fun c96 => ?_)
          · refine Tr.pick [3, 4, 5, 6, 7, 8, 9, 10] (ls2 := [(0, (2, 113)), (1, (0, a1)), (2, (0, a2)), (3, (0, a3)), (4, (0, p16_4)), (5, (0, p16_5)), (6, (0, p16_6)), (7, (0, p16_7))]) rfl ?_
            exact J113 _ _ _ _ hS (by omega) (by omega) (by omega) er19 er40 er59 er47 er31
          · refine Tr.iload (pc := 99) (i := 4) d_X0_cost_99 rfl ?_
            refine Tr.iload (pc := 101) (i := 10) d_X0_cost_101 rfl ?_
            refine Tr.iload (pc := 103) (i := 6) d_X0_cost_103 rfl ?_
            refine Tr.isub (pc := 105) d_X0_cost_105 ?_
            refine Tr.tp (a3 - p16_6 + r40 + r47 + r59) ((w32_id (by omega)).trans (by omega)) ?_
            refine Tr.iadd (pc := 106) d_X0_cost_106 ?_
            refine Tr.gen (P := fun v => (-2147483648) ≤ v ∧ v ≤ 2147483647) (w32_b _) (fun r106 er106 br106 => ?_)
            refine Tr.istore (pc := 107) (i := 4) (ls2 := [(4, (0, r106)), (10, (0, (a3 + r40 + r47 + r59))), (9, (0, (r40 + r47))), (8, (0, r31)), (0, (2, 113)), (1, (0, a1)), (2, (0, a2)), (3, (0, a3)), (5, (0, p16_5)), (6, (0, p16_6)), (7, (0, p16_7))]) d_X0_cost_107 (by decide) rfl ?_
            refine Tr.iload (pc := 109) (i := 10) d_X0_cost_109 rfl ?_
            refine Tr.istore (pc := 111) (i := 6) (ls2 := [(6, (0, (a3 + r40 + r47 + r59))), (4, (0, r106)), (10, (0, (a3 + r40 + r47 + r59))), (9, (0, (r40 + r47))), (8, (0, r31)), (0, (2, 113)), (1, (0, a1)), (2, (0, a2)), (3, (0, a3)), (5, (0, p16_5)), (7, (0, p16_7))]) d_X0_cost_111 (by decide) rfl ?_
            refine Tr.pick [5, 6, 7, 8, 1, 9, 0, 10] (ls2 := [(0, (2, 113)), (1, (0, a1)), (2, (0, a2)), (3, (0, a3)), (4, (0, r106)), (5, (0, p16_5)), (6, (0, (a3 + r40 + r47 + r59))), (7, (0, p16_7))]) rfl ?_
            exact J113 _ _ _ _ hS (by omega) (by omega) (by omega) er19 er40 er59 er47 er31
        · refine Tr.iincG (pc := 72) d_X0_cost_72 rfl (by decide) (fun r72 br72 => ?_)
          refine Tr.lc [(5, (0, r72)), (10, (0, (a3 + r40 + r47 + r59))), (9, (0, (r40 + r47))), (8, (0, r31)), (0, (2, 113)), (1, (0, a1)), (2, (0, a2)), (3, (0, a3)), (4, (0, p16_4)), (6, (0, p16_6)), (7, (0, p16_7))] rfl ?_
          refine Tr.iload (pc := 75) (i := 4) d_X0_cost_75 rfl ?_
          refine Tr.iload (pc := 77) (i := 10) d_X0_cost_77 rfl ?_
          refine Tr.iload (pc := 79) (i := 9) d_X0_cost_79 rfl ?_
          refine Tr.isub (pc := 81) d_X0_cost_81 ?_
          refine Tr.tp (a3 + r59) ((w32_id (by omega)).trans (by omega)) ?_
          refine Tr.iadd (pc := 82) d_X0_cost_82 ?_
          refine Tr.gen (P := fun v => (-2147483648) ≤ v ∧ v ≤ 2147483647) (w32_b _) (fun r82 er82 br82 => ?_)
          refine Tr.istore (pc := 83) (i := 4) (ls2 := [(4, (0, r82)), (5, (0, r72)), (10, (0, (a3 + r40 + r47 + r59))), (9, (0, (r40 + r47))), (8, (0, r31)), (0, (2, 113)), (1, (0, a1)), (2, (0, a2)), (3, (0, a3)), (6, (0, p16_6)), (7, (0, p16_7))]) d_X0_cost_83 (by decide) rfl ?_
          refine Tr.iload (pc := 85) (i := 10) d_X0_cost_85 rfl ?_
          refine Tr.istore (pc := 87) (i := 6) (ls2 := [(6, (0, (a3 + r40 + r47 + r59))), (4, (0, r82)), (5, (0, r72)), (10, (0, (a3 + r40 + r47 + r59))), (9, (0, (r40 + r47))), (8, (0, r31)), (0, (2, 113)), (1, (0, a1)), (2, (0, a2)), (3, (0, a3)), (7, (0, p16_7))]) d_X0_cost_87 (by decide) rfl ?_
          refine Tr.goto (pc := 89) (tgt := 113) d_X0_cost_89 rfl ?_
          refine Tr.pick [6, 7, 8, 9, 1, 2, 0, 10] (ls2 := [(0, (2, 113)), (1, (0, a1)), (2, (0, a2)), (3, (0, a3)), (4, (0, r82)), (5, (0, r72)), (6, (0, (a3 + r40 + r47 + r59))), (7, (0, p16_7))]) rfl ?_
          exact J113 _ _ _ _ hS (by omega) (by omega) (by omega) er19 er40 er59 er47 er31
  refine Tr.pick [4, 5, 6, 7, 3, 2, 1, 0] (ls2 := [(0, (2, 113)), (1, (0, a1)), (2, (0, a2)), (3, (0, a3)), (4, (0, 0)), (5, (0, 0)), (6, (0, (-1))), (7, (0, 0))]) rfl ?_
  exact J16 _ _ _ _ _ _ hS (by omega) (by omega) (by omega) (by omega) (Nat.lt_succ_self _)
end
/-! 30.02b.floor -/
section
/-! for Math.floorMod -/
theorem w32_c (x : Int) : (-2147483648 ≤ w32 x ∧ w32 x ≤ 2147483647) ∧ (-2147483648 ≤ x → x ≤ 2147483647 → w32 x = x) := ⟨w32_b x, fun h1 h2 => w32_id ⟨h1, h2⟩⟩
theorem rem32_s (a b : Int) (h : -2147483648 ≤ a ∧ a ≤ 2147483647) : (-2147483648 ≤ a.tmod b ∧ a.tmod b ≤ 2147483647) ∧ (0 < b → -b < a.tmod b ∧ a.tmod b < b) ∧ (0 ≤ a → 0 ≤ a.tmod b) ∧ (a ≤ 0 → a.tmod b ≤ 0) := by
  refine ⟨rem32_b a b h, fun hb => ⟨?_, Int.tmod_lt_of_pos a hb⟩, fun h0 => Int.tmod_nonneg b h0, fun h0 => ?_⟩
  · have h1 := Int.tmod_lt_of_pos (-a) hb
    rw [Int.neg_tmod] at h1
    omega
  · have h1 := Int.tmod_nonneg b (show 0 ≤ -a by omega)
    rw [Int.neg_tmod] at h1
    omega
end
/-! 30.03 -/
section
def ws_X0_shiftSum_113 : List (Int × Int) := []
def as_X0_shiftSum_113 : List Int := []
def q_X0_shiftSum_113 (M0 M' : Mem) (r : Option PV) : Prop := St Tru ws_X0_shiftSum_113 as_X0_shiftSum_113 M0 M' ∧ ∃ v : Int, r = some (0, v) ∧ (-2147483648) ≤ v ∧ v ≤ 2147483647
set_option maxRecDepth 100000 in
set_option maxHeartbeats 4000000 in
theorem sp_X0_shiftSum_113 {l : Launch} {K : EC} {M0 : Mem} (hI : In Tru M0)    : Tr l K 0 mX0_shiftSum 0 [(0, (2, 113))] [] M0 (q_X0_shiftSum_113 M0) := by
  have hS : St Tru ws_X0_shiftSum_113 as_X0_shiftSum_113 M0 M0 := St.rf hI
  refine Tr.iconst (pc := 0) d_X0_shiftSum_0 (by decide) ?_
  refine Tr.istore_n (pc := 1) (i := 1) (ls2 := [(1, (0, 0)), (0, (2, 113))]) d_X0_shiftSum_1 rfl (by decide) rfl ?_
  refine Tr.iconst (pc := 2) d_X0_shiftSum_2 (by decide) ?_
  refine Tr.istore_n (pc := 3) (i := 2) (ls2 := [(2, (0, 0)), (1, (0, 0)), (0, (2, 113))]) d_X0_shiftSum_3 rfl (by decide) rfl ?_
  have J4 : ∀ (n4 : Nat) (M : Mem) (p4_1 p4_2 : Int), St Tru ws_X0_shiftSum_113 as_X0_shiftSum_113 M0 M → ((-2147483648) ≤ p4_1 ∧ p4_1 ≤ 2147483647) → (0 ≤ p4_2 ∧ p4_2 ≤ 6) → (6 - p4_2).toNat < n4 → Tr l K 0 mX0_shiftSum 4 [(0, (2, 113)), (1, (0, p4_1)), (2, (0, p4_2))] [] M (q_X0_shiftSum_113 M0) := by
    intro n4
    induction n4 with
    | zero => intro M p4_1 p4_2 hS bp4_1 bp4_2  hm4; exact absurd hm4 (Nat.not_lt_zero _)
    | succ n4 J4 =>
      intro M p4_1 p4_2 hS bp4_1 bp4_2  hm4
      refine Tr.iload_n (pc := 4) (i := 2) d_X0_shiftSum_4 rfl rfl ?_
      refine Tr.aload_n (pc := 5) (i := 0) d_X0_shiftSum_5 rfl rfl ?_
      refine Tr.getf (pc := 6) d_X0_shiftSum_6 f_0_30 (by decide) (by decide) (ty_113 hS.1.1) ?_
      refine Tr.gen (P := fun v => 0 ≤ v ∧ v ≤ 6) (ir_113_0 hS.1.2.1) (fun r6 er6 br6 => ?_)
      refine Tr.icmp_ge (pc := 9) (tgt := 27) d_X0_shiftSum_9 rfl (fun c9 => ?_) (fun c9 => ?_)
      · refine Tr.iload_n (pc := 27) (i := 1) d_X0_shiftSum_27 rfl rfl ?_
        exact Tr.iret (pc := 28) d_X0_shiftSum_28 rfl ⟨hS, _, rfl, by omega, by omega⟩
      · refine Tr.iload_n (pc := 12) (i := 1) d_X0_shiftSum_12 rfl rfl ?_
        refine Tr.aload_n (pc := 13) (i := 0) d_X0_shiftSum_13 rfl rfl ?_
        refine Tr.getf (pc := 14) d_X0_shiftSum_14 f_0_21 (by decide) (by decide) (ty_113 hS.1.1) ?_
        refine Tr.tp 117 (fx_113_4 hS.1.1) ?_
        refine Tr.iload_n (pc := 17) (i := 2) d_X0_shiftSum_17 rfl rfl ?_
        refine Tr.iald (pc := 18) d_X0_shiftSum_18 (ty_117 hS.1.1) (by omega) (by omega) ?_
        refine Tr.gen (P := fun v => 0 ≤ v ∧ v ≤ 5) (ar_117 hS.1.2.1 _) (fun r18 er18 br18 => ?_)
        refine Tr.iadd (pc := 19) d_X0_shiftSum_19 ?_
        refine Tr.gen (P := fun v => (-2147483648) ≤ v ∧ v ≤ 2147483647) (w32_b _) (fun r19 er19 br19 => ?_)
        refine Tr.istore_n (pc := 20) (i := 1) (ls2 := [(1, (0, r19)), (0, (2, 113)), (2, (0, p4_2))]) d_X0_shiftSum_20 rfl (by decide) rfl ?_
        refine Tr.iincV (pc := 21) (n2 := (p4_2 + 1)) (ls2 := [(2, (0, (p4_2 + 1))), (1, (0, r19)), (0, (2, 113))]) d_X0_shiftSum_21 rfl (by decide) ((w32_id (by omega)).trans (by omega)) rfl ?_
        refine Tr.goto (pc := 24) (tgt := 4) d_X0_shiftSum_24 rfl ?_
        refine Tr.pick [2, 1, 0] (ls2 := [(0, (2, 113)), (1, (0, r19)), (2, (0, (p4_2 + 1)))]) rfl ?_
        exact J4 _ _ _ hS (by omega) (by omega) (by omega)
  refine Tr.pick [2, 1, 0] (ls2 := [(0, (2, 113)), (1, (0, 0)), (2, (0, 0))]) rfl ?_
  exact J4 _ _ _ _ hS (by omega) (by omega) (Nat.lt_succ_self _)

def ws_X0_turnOn_113 : List (Int × Int) := []
def as_X0_turnOn_113 : List Int := [117]
def q_X0_turnOn_113 (M0 M' : Mem) (r : Option PV) : Prop := St Tru ws_X0_turnOn_113 as_X0_turnOn_113 M0 M' ∧ ∃ v : Int, r = some (0, v) ∧ 0 ≤ v ∧ v ≤ 1
set_option maxRecDepth 100000 in
set_option maxHeartbeats 4000000 in
theorem sp_X0_turnOn_113 {l : Launch} {K : EC} {M0 : Mem} (hI : In Tru M0)    : Tr l K 0 mX0_turnOn 0 [(0, (2, 113))] [] M0 (q_X0_turnOn_113 M0) := by
  have hS : St Tru ws_X0_turnOn_113 as_X0_turnOn_113 M0 M0 := St.rf hI
  refine Tr.aload_n (pc := 0) (i := 0) d_X0_turnOn_0 rfl rfl ?_
  refine Tr.getf (pc := 1) d_X0_turnOn_1 f_0_30 (by decide) (by decide) (ty_113 hS.1.1) ?_
  refine Tr.gen (P := fun v => 0 ≤ v ∧ v ≤ 6) (ir_113_0 hS.1.2.1) (fun r1 er1 br1 => ?_)
  refine Tr.iconst (pc := 4) d_X0_turnOn_4 (by decide) ?_
  refine Tr.isub (pc := 5) d_X0_turnOn_5 ?_
  refine Tr.tp (r1 - 1) ((w32_id (by omega)).trans (by omega)) ?_
  refine Tr.istore_n (pc := 6) (i := 1) (ls2 := [(1, (0, (r1 - 1))), (0, (2, 113))]) d_X0_turnOn_6 rfl (by decide) rfl ?_
  have J7 : ∀ (n7 : Nat) (M : Mem) (p7_1 : Int), St Tru ws_X0_turnOn_113 as_X0_turnOn_113 M0 M → ((-1) ≤ p7_1 ∧ p7_1 ≤ 5) → rd M 113 0 = r1 → (p7_1 - (-1)).toNat < n7 → Tr l K 0 mX0_turnOn 7 [(0, (2, 113)), (1, (0, p7_1))] [] M (q_X0_turnOn_113 M0) := by
    intro n7
    induction n7 with
    | zero => intro M p7_1 hS bp7_1 k7_113_0 hm7; exact absurd hm7 (Nat.not_lt_zero _)
    | succ n7 J7 =>
      intro M p7_1 hS bp7_1 k7_113_0 hm7
      refine Tr.iload_n (pc := 7) (i := 1) d_X0_turnOn_7 rfl rfl ?_
      refine Tr.if_lt (pc := 8) (tgt := 51) d_X0_turnOn_8 rfl (fun c8 => ?_) (fun c8 => ?_)
      · refine Tr.iconst (pc := 51) d_X0_turnOn_51 (by decide) ?_
        exact Tr.zret (pc := 52) d_X0_turnOn_52 rfl (by omega) ⟨hS, _, rfl, by omega, by omega⟩
      · refine Tr.aload_n (pc := 11) (i := 0) d_X0_turnOn_11 rfl rfl ?_
        refine Tr.getf (pc := 12) d_X0_turnOn_12 f_0_21 (by decide) (by decide) (ty_113 hS.1.1) ?_
        refine Tr.tp 117 (fx_113_4 hS.1.1) ?_
        refine Tr.iload_n (pc := 15) (i := 1) d_X0_turnOn_15 rfl rfl ?_
        refine Tr.iald (pc := 16) d_X0_turnOn_16 (ty_117 hS.1.1) (by omega) (by omega) ?_
        refine Tr.gen (P := fun v => 0 ≤ v ∧ v ≤ 5) (ar_117 hS.1.2.1 _) (fun r16 er16 br16 => ?_)
        refine Tr.aload_n (pc := 17) (i := 0) d_X0_turnOn_17 rfl rfl ?_
        refine Tr.getf (pc := 18) d_X0_turnOn_18 f_0_18 (by decide) (by decide) (ty_113 hS.1.1) ?_
        refine Tr.tp 116 (fx_113_3 hS.1.1) ?_
        refine Tr.iload_n (pc := 21) (i := 1) d_X0_turnOn_21 rfl rfl ?_
        refine Tr.iald (pc := 22) d_X0_turnOn_22 (ty_116 hS.1.1) (by omega) (by omega) ?_
        refine Tr.gen (P := fun v => 0 ≤ v ∧ v ≤ 5) (ar_116 hS.1.2.1 _) (fun r22 er22 br22 => ?_)
        refine Tr.icmp_ge (pc := 23) (tgt := 38) d_X0_turnOn_23 rfl (fun c23 => ?_) (fun c23 => ?_)
        · refine Tr.aload_n (pc := 38) (i := 0) d_X0_turnOn_38 rfl rfl ?_
          refine Tr.getf (pc := 39) d_X0_turnOn_39 f_0_21 (by decide) (by decide) (ty_113 hS.1.1) ?_
          refine Tr.tp 117 (fx_113_4 hS.1.1) ?_
          refine Tr.iload_n (pc := 42) (i := 1) d_X0_turnOn_42 rfl rfl ?_
          refine Tr.iconst (pc := 43) d_X0_turnOn_43 (by decide) ?_
          refine Tr.iastS (pc := 44) (P := St Tru ws_X0_turnOn_113 as_X0_turnOn_113 M0) d_X0_turnOn_44 (ty_117 hS.1.1) (by omega) (by omega) (sa_117 hS (by decide) (by omega) trivial) (fun M44 hS w44 => ?_)
          refine Tr.iincV (pc := 45) (n2 := (p7_1 - 1)) (ls2 := [(1, (0, (p7_1 - 1))), (0, (2, 113))]) d_X0_turnOn_45 rfl (by decide) ((w32_id (by omega)).trans (by omega)) rfl ?_
          refine Tr.goto (pc := 48) (tgt := 7) d_X0_turnOn_48 rfl ?_
          refine Tr.pick [1, 0] (ls2 := [(0, (2, 113)), (1, (0, (p7_1 - 1)))]) rfl ?_
          exact J7 _ _ hS (by omega) ((Wr.b w44 rfl).trans k7_113_0) (by omega)
        · refine Tr.aload_n (pc := 26) (i := 0) d_X0_turnOn_26 rfl rfl ?_
          refine Tr.getf (pc := 27) d_X0_turnOn_27 f_0_21 (by decide) (by decide) (ty_113 hS.1.1) ?_
          refine Tr.tp 117 (fx_113_4 hS.1.1) ?_
          refine Tr.iload_n (pc := 30) (i := 1) d_X0_turnOn_30 rfl rfl ?_
          refine Tr.dup2 (pc := 31) d_X0_turnOn_31 ne01 ne21 ?_
          refine Tr.iald (pc := 32) d_X0_turnOn_32 (ty_117 hS.1.1) (by omega) (by omega) ?_
          refine Tr.tp r16 er16 ?_
          refine Tr.iconst (pc := 33) d_X0_turnOn_33 (by decide) ?_
          refine Tr.iadd (pc := 34) d_X0_turnOn_34 ?_
          refine Tr.tp (r16 + 1) ((w32_id (by omega)).trans (by omega)) ?_
          refine Tr.iastS (pc := 35) (P := St Tru ws_X0_turnOn_113 as_X0_turnOn_113 M0) d_X0_turnOn_35 (ty_117 hS.1.1) (by omega) (by omega) (sa_117 hS (by decide) (by omega) trivial) (fun M35 hS w35 => ?_)
          refine Tr.iconst (pc := 36) d_X0_turnOn_36 (by decide) ?_
          exact Tr.zret (pc := 37) d_X0_turnOn_37 rfl (by omega) ⟨hS, _, rfl, by omega, by omega⟩
  refine Tr.pick [1, 0] (ls2 := [(0, (2, 113)), (1, (0, (r1 - 1)))]) rfl ?_
  exact J7 _ _ _ hS (by omega) er1 (Nat.lt_succ_self _)

def ws_X0_arrange_113 : List (Int × Int) := [(113, 7)]
def as_X0_arrange_113 : List Int := [117, 118, 119]
def q_X0_arrange_113 (M0 M' : Mem) (r : Option PV) : Prop := St Tru ws_X0_arrange_113 as_X0_arrange_113 M0 M' ∧ ∃ v : Int, r = some (0, v) ∧ (-2147483648) ≤ v ∧ v ≤ 2147483647
set_option maxRecDepth 100000 in
set_option maxHeartbeats 4000000 in
theorem sp_X0_arrange_113 {l : Launch} {K : EC} {M0 : Mem} (hI : In Tru M0)  (a1 : Int) (ha1 : (-1) ≤ a1 ∧ a1 ≤ 999) (a2 : Int) (ha2 : (-2147483648) ≤ a2 ∧ a2 ≤ 2147483647) (a3 : Int) (ha3 : 0 ≤ a3 ∧ a3 ≤ 50)  : Tr l K 2 mX0_arrange 0 [(0, (2, 113)), (1, (0, a1)), (2, (0, a2)), (3, (0, a3))] [] M0 (q_X0_arrange_113 M0) := by
  have hS : St Tru ws_X0_arrange_113 as_X0_arrange_113 M0 M0 := St.rf hI
  refine Tr.iconst (pc := 0) d_X0_arrange_0 (by decide) ?_
  refine Tr.istore (pc := 1) (i := 4) (ls2 := [(4, (0, 0)), (0, (2, 113)), (1, (0, a1)), (2, (0, a2)), (3, (0, a3))]) d_X0_arrange_1 (by decide) rfl ?_
  have J3 : ∀ (n3 : Nat) (M : Mem) (p3_4 : Int), St Tru ws_X0_arrange_113 as_X0_arrange_113 M0 M → (0 ≤ p3_4 ∧ p3_4 ≤ 6) → (6 - p3_4).toNat < n3 → Tr l K 2 mX0_arrange 3 [(0, (2, 113)), (1, (0, a1)), (2, (0, a2)), (3, (0, a3)), (4, (0, p3_4))] [] M (q_X0_arrange_113 M0) := by
    intro n3
    induction n3 with
    | zero => intro M p3_4 hS bp3_4  hm3; exact absurd hm3 (Nat.not_lt_zero _)
    | succ n3 J3 =>
      intro M p3_4 hS bp3_4  hm3
      refine Tr.iload (pc := 3) (i := 4) d_X0_arrange_3 rfl ?_
      refine Tr.aload_n (pc := 5) (i := 0) d_X0_arrange_5 rfl rfl ?_
      refine Tr.getf (pc := 6) d_X0_arrange_6 f_0_30 (by decide) (by decide) (ty_113 hS.1.1) ?_
      refine Tr.gen (P := fun v => 0 ≤ v ∧ v ≤ 6) (ir_113_0 hS.1.2.1) (fun r6 er6 br6 => ?_)
      refine Tr.icmp_ge (pc := 9) (tgt := 35) d_X0_arrange_9 rfl (fun c9 => ?_) (fun c9 => ?_)
      · refine Tr.aload_n (pc := 35) (i := 0) d_X0_arrange_35 rfl rfl ?_
        refine Tr.aload_n (pc := 36) (i := 0) d_X0_arrange_36 rfl rfl ?_
        refine Tr.getf (pc := 37) d_X0_arrange_37 f_0_30 (by decide) (by decide) (ty_113 hS.1.1) ?_
        refine Tr.tp r6 er6 ?_
        refine Tr.putfS (pc := 40) (P := St Tru ws_X0_arrange_113 as_X0_arrange_113 M0) d_X0_arrange_40 f_0_34 (by decide) (by decide) (ty_113 hS.1.1) (st_113_7 hS (by decide) (by omega) trivial) (fun M40 hS w40 => ?_)
        refine Tr.iconst (pc := 43) d_X0_arrange_43 (by decide) ?_
        refine Tr.istore (pc := 44) (i := 4) (ls2 := [(4, (0, 0)), (0, (2, 113)), (1, (0, a1)), (2, (0, a2)), (3, (0, a3))]) d_X0_arrange_44 (by decide) rfl ?_
        refine Tr.iconst (pc := 46) d_X0_arrange_46 (by decide) ?_
        refine Tr.istore (pc := 47) (i := 5) (ls2 := [(5, (0, 0)), (4, (0, 0)), (0, (2, 113)), (1, (0, a1)), (2, (0, a2)), (3, (0, a3))]) d_X0_arrange_47 (by decide) rfl ?_
        refine Tr.iconst (pc := 49) d_X0_arrange_49 (by decide) ?_
        refine Tr.istore (pc := 50) (i := 6) (ls2 := [(6, (0, 1)), (5, (0, 0)), (4, (0, 0)), (0, (2, 113)), (1, (0, a1)), (2, (0, a2)), (3, (0, a3))]) d_X0_arrange_50 (by decide) rfl ?_
        refine Tr.iconst (pc := 52) d_X0_arrange_52 (by decide) ?_
        refine Tr.istore (pc := 53) (i := 7) (ls2 := [(7, (0, 0)), (6, (0, 1)), (5, (0, 0)), (4, (0, 0)), (0, (2, 113)), (1, (0, a1)), (2, (0, a2)), (3, (0, a3))]) d_X0_arrange_53 (by decide) rfl ?_
        have J55 : ∀ (n55 : Nat) (M : Mem) (p55_4 p55_5 p55_6 p55_7 : Int), St Tru ws_X0_arrange_113 as_X0_arrange_113 M0 M → ((-2147483648) ≤ p55_4 ∧ p55_4 ≤ 2147483647) → ((-2147483648) ≤ p55_5 ∧ p55_5 ≤ 2147483647) → (0 ≤ p55_6 ∧ p55_6 ≤ 1) → (0 ≤ p55_7 ∧ p55_7 ≤ 46656) → rd M 113 0 = r6 → rd M 113 7 = r6 → (46656 - p55_7).toNat < n55 → Tr l K 2 mX0_arrange 55 [(0, (2, 113)), (1, (0, a1)), (2, (0, a2)), (3, (0, a3)), (4, (0, p55_4)), (5, (0, p55_5)), (6, (0, p55_6)), (7, (0, p55_7))] [] M (q_X0_arrange_113 M0) := by
          intro n55
          induction n55 with
          | zero => intro M p55_4 p55_5 p55_6 p55_7 hS bp55_4 bp55_5 bp55_6 bp55_7 k55_113_0 k55_113_7 hm55; exact absurd hm55 (Nat.not_lt_zero _)
          | succ n55 J55 =>
            intro M p55_4 p55_5 p55_6 p55_7 hS bp55_4 bp55_5 bp55_6 bp55_7 k55_113_0 k55_113_7 hm55
            refine Tr.iload (pc := 55) (i := 7) d_X0_arrange_55 rfl ?_
            refine Tr.ldc (pc := 57) d_X0_arrange_57 k_0_37 (by decide) ?_
            refine Tr.icmp_ge (pc := 59) (tgt := 145) d_X0_arrange_59 rfl (fun c59 => ?_) (fun c59 => ?_)
            · refine Tr.iload (pc := 145) (i := 4) d_X0_arrange_145 rfl ?_
              exact Tr.iret (pc := 147) d_X0_arrange_147 rfl ⟨hS, _, rfl, by omega, by omega⟩
            · refine Tr.iload (pc := 62) (i := 6) d_X0_arrange_62 rfl ?_
              refine Tr.if_eq (pc := 64) (tgt := 145) d_X0_arrange_64 rfl (fun c64 => ?_) (fun c64 => ?_)
              · refine Tr.iload (pc := 145) (i := 4) d_X0_arrange_145 rfl ?_
                exact Tr.iret (pc := 147) d_X0_arrange_147 rfl ⟨hS, _, rfl, by omega, by omega⟩
              · refine Tr.aload_n (pc := 67) (i := 0) d_X0_arrange_67 rfl rfl ?_
                refine Tr.iload_n (pc := 68) (i := 1) d_X0_arrange_68 rfl rfl ?_
                refine Tr.iload_n (pc := 69) (i := 2) d_X0_arrange_69 rfl rfl ?_
                refine Tr.iload_n (pc := 70) (i := 3) d_X0_arrange_70 rfl rfl ?_
                refine Tr.callV (pc := 71) (as := [_, _, _]) d_X0_arrange_71 s_0_38 ok_X0_cost rfl rfl (Nat.le_of_ble_eq_true rfl) (Nat.le_of_ble_eq_true rfl) (by decide) (ty_113 hS.1.1) ?_
                refine Tr.imp (Tr.deep (by decide) (sp_X0_cost_113 hS.1 a1 (by omega) a2 (by omega) a3 (by omega))) ?_
                rintro M71 _ ⟨h71, r71, rfl, lr71, ur71⟩
                have hS := St.tr hS h71 (by decide) (by decide)
                refine Tr.sc [(0, r71)] rfl ?_
                refine Tr.istore (pc := 74) (i := 8) (ls2 := [(8, (0, r71)), (0, (2, 113)), (1, (0, a1)), (2, (0, a2)), (3, (0, a3)), (4, (0, p55_4)), (5, (0, p55_5)), (6, (0, p55_6)), (7, (0, p55_7))]) d_X0_arrange_74 (by decide) rfl ?_
                refine Tr.aload_n (pc := 76) (i := 0) d_X0_arrange_76 rfl rfl ?_
                refine Tr.callV (pc := 77) (as := []) d_X0_arrange_77 s_0_42 ok_X0_shiftSum rfl rfl (Nat.le_of_ble_eq_true rfl) (Nat.le_of_ble_eq_true rfl) (by decide) (ty_113 hS.1.1) ?_
                refine Tr.imp (Tr.deep (by decide) (sp_X0_shiftSum_113 hS.1 )) ?_
                rintro M77 _ ⟨h77, r77, rfl, lr77, ur77⟩
                have hS := St.tr hS h77 (by decide) (by decide)
                refine Tr.sc [(0, r77)] rfl ?_
                refine Tr.istore (pc := 80) (i := 9) (ls2 := [(9, (0, r77)), (8, (0, r71)), (0, (2, 113)), (1, (0, a1)), (2, (0, a2)), (3, (0, a3)), (4, (0, p55_4)), (5, (0, p55_5)), (6, (0, p55_6)), (7, (0, p55_7))]) d_X0_arrange_80 (by decide) rfl ?_
                refine Tr.iload (pc := 82) (i := 7) d_X0_arrange_82 rfl ?_
                have J133 : ∀ (M : Mem) (p133_4 p133_5 : Int), St Tru ws_X0_arrange_113 as_X0_arrange_113 M0 M → ((-2147483648) ≤ p133_4 ∧ p133_4 ≤ 2147483647) → ((-2147483648) ≤ p133_5 ∧ p133_5 ≤ 2147483647) → rd M 113 0 = r6 → rd M 113 7 = r6 → Tr l K 2 mX0_arrange 133 [(0, (2, 113)), (1, (0, a1)), (2, (0, a2)), (3, (0, a3)), (4, (0, p133_4)), (5, (0, p133_5)), (7, (0, p55_7))] [] M (q_X0_arrange_113 M0) := by
                  intro M p133_4 p133_5 hS bp133_4 bp133_5 k133_113_0 k133_113_7
                  refine Tr.aload_n (pc := 133) (i := 0) d_X0_arrange_133 rfl rfl ?_
                  refine Tr.callV (pc := 134) (as := []) d_X0_arrange_134 s_0_52 ok_X0_turnOn rfl rfl (Nat.le_of_ble_eq_true rfl) (Nat.le_of_ble_eq_true rfl) (by decide) (ty_113 hS.1.1) ?_
                  refine Tr.imp (Tr.deep (by decide) (sp_X0_turnOn_113 hS.1 )) ?_
                  rintro M134 _ ⟨h134, r134, rfl, lr134, ur134⟩
                  have hS := St.tr hS h134 (by decide) (by decide)
                  refine Tr.sc [(0, r134)] rfl ?_
                  refine Tr.istore (pc := 137) (i := 6) (ls2 := [(6, (0, r134)), (0, (2, 113)), (1, (0, a1)), (2, (0, a2)), (3, (0, a3)), (4, (0, p133_4)), (5, (0, p133_5)), (7, (0, p55_7))]) d_X0_arrange_137 (by decide) rfl ?_
                  refine Tr.iincV (pc := 139) (n2 := (p55_7 + 1)) (ls2 := [(7, (0, (p55_7 + 1))), (6, (0, r134)), (0, (2, 113)), (1, (0, a1)), (2, (0, a2)), (3, (0, a3)), (4, (0, p133_4)), (5, (0, p133_5))]) d_X0_arrange_139 rfl (by decide) ((w32_id (by omega)).trans (by omega)) rfl ?_
                  refine Tr.goto (pc := 142) (tgt := 55) d_X0_arrange_142 rfl ?_
                  refine Tr.pick [2, 3, 4, 5, 6, 7, 1, 0] (ls2 := [(0, (2, 113)), (1, (0, a1)), (2, (0, a2)), (3, (0, a3)), (4, (0, p133_4)), (5, (0, p133_5)), (6, (0, r134)), (7, (0, (p55_7 + 1)))]) rfl ?_
                  exact J55 _ _ _ _ _ hS (by omega) (by omega) (by omega) (by omega) ((St.kp h134 (by decide) (by decide) (by decide)).trans k133_113_0) ((St.kp h134 (by decide) (by decide) (by decide)).trans k133_113_7) (by omega)
                have J108 : ∀ (M : Mem), St Tru ws_X0_arrange_113 as_X0_arrange_113 M0 M → rd M 113 0 = r6 → rd M 113 7 = r6 → Tr l K 2 mX0_arrange 108 [(0, (2, 113)), (1, (0, a1)), (2, (0, a2)), (3, (0, a3)), (7, (0, p55_7)), (8, (0, r71)), (9, (0, r77))] [] M (q_X0_arrange_113 M0) := by
                  intro M  hS  k108_113_0 k108_113_7
                  refine Tr.iload (pc := 108) (i := 8) d_X0_arrange_108 rfl ?_
                  refine Tr.istore (pc := 110) (i := 4) (ls2 := [(4, (0, r71)), (0, (2, 113)), (1, (0, a1)), (2, (0, a2)), (3, (0, a3)), (7, (0, p55_7)), (8, (0, r71)), (9, (0, r77))]) d_X0_arrange_110 (by decide) rfl ?_
                  refine Tr.iload (pc := 112) (i := 9) d_X0_arrange_112 rfl ?_
                  refine Tr.istore (pc := 114) (i := 5) (ls2 := [(5, (0, r77)), (4, (0, r71)), (0, (2, 113)), (1, (0, a1)), (2, (0, a2)), (3, (0, a3)), (7, (0, p55_7)), (8, (0, r71)), (9, (0, r77))]) d_X0_arrange_114 (by decide) rfl ?_
                  refine Tr.aload_n (pc := 116) (i := 0) d_X0_arrange_116 rfl rfl ?_
                  refine Tr.getf (pc := 117) d_X0_arrange_117 f_0_21 (by decide) (by decide) (ty_113 hS.1.1) ?_
                  refine Tr.tp 117 (fx_113_4 hS.1.1) ?_
                  refine Tr.iconst (pc := 120) d_X0_arrange_120 (by decide) ?_
                  refine Tr.aload_n (pc := 121) (i := 0) d_X0_arrange_121 rfl rfl ?_
                  refine Tr.getf (pc := 122) d_X0_arrange_122 f_0_27 (by decide) (by decide) (ty_113 hS.1.1) ?_
                  refine Tr.tp 119 (fx_113_6 hS.1.1) ?_
                  refine Tr.iconst (pc := 125) d_X0_arrange_125 (by decide) ?_
                  refine Tr.aload_n (pc := 126) (i := 0) d_X0_arrange_126 rfl rfl ?_
                  refine Tr.getf (pc := 127) d_X0_arrange_127 f_0_30 (by decide) (by decide) (ty_113 hS.1.1) ?_
                  refine Tr.tp r6 k108_113_0 ?_
                  refine Tr.acopyS (pc := 130) (x := 117) (y := 119) (P := St Tru ws_X0_arrange_113 as_X0_arrange_113 M0) d_X0_arrange_130 ac_0_46 acw.1 acw.2.1 acw.2.2 (ty_117 hS.1.1) (ty_119 hS.1.1) (by omega) (by omega) (by omega) (by omega) (by omega) (Nat.le_of_ble_eq_true rfl) (sw_119 hS (by decide) rfl rfl rfl (fun z i hz => by rw [rd_cpy, if_neg (fun c => hz c.1)]) (fun i => by rw [rd_cpy]; split; exact And.intro (by have := ar_117 hS.1.2.1 (0 + (i - 0)); omega) (by have := ar_117 hS.1.2.1 (0 + (i - 0)); omega); exact ar_119 hS.1.2.1 i) trivial) (fun M130 hS w130 => ?_)
                  refine Tr.pick [2, 3, 4, 5, 1, 0, 6] (ls2 := [(0, (2, 113)), (1, (0, a1)), (2, (0, a2)), (3, (0, a3)), (4, (0, r71)), (5, (0, r77)), (7, (0, p55_7))]) rfl ?_
                  exact J133 _ _ _ hS (by omega) (by omega) ((Wa.b w130 rfl).trans k108_113_0) ((Wa.b w130 rfl).trans k108_113_7)
                refine Tr.if_eq (pc := 84) (tgt := 108) d_X0_arrange_84 rfl (fun c84 => ?_) (fun c84 => ?_)
                · refine Tr.pick [2, 3, 4, 5, 9, 1, 0] (ls2 := [(0, (2, 113)), (1, (0, a1)), (2, (0, a2)), (3, (0, a3)), (7, (0, p55_7)), (8, (0, r71)), (9, (0, r77))]) rfl ?_
                  exact J108 _ hS ((St.kp h77 (by decide) (by decide) (by decide)).trans ((St.kp h71 (by decide) (by decide) (by decide)).trans k55_113_0)) ((St.kp h77 (by decide) (by decide) (by decide)).trans ((St.kp h71 (by decide) (by decide) (by decide)).trans k55_113_7))
                · refine Tr.iload (pc := 87) (i := 8) d_X0_arrange_87 rfl ?_
                  refine Tr.iload (pc := 89) (i := 4) d_X0_arrange_89 rfl ?_
                  refine Tr.icmp_lt (pc := 91) (tgt := 108) d_X0_arrange_91 rfl (fun c91 => ?_) (fun c91 => ?_)
                  · refine Tr.pick [2, 3, 4, 5, 9, 1, 0] (ls2 := [(0, (2, 113)), (1, (0, a1)), (2, (0, a2)), (3, (0, a3)), (7, (0, p55_7)), (8, (0, r71)), (9, (0, r77))]) rfl ?_
                    exact J108 _ hS ((St.kp h77 (by decide) (by decide) (by decide)).trans ((St.kp h71 (by decide) (by decide) (by decide)).trans k55_113_0)) ((St.kp h77 (by decide) (by decide) (by decide)).trans ((St.kp h71 (by decide) (by decide) (by decide)).trans k55_113_7))
                  · refine Tr.iload (pc := 94) (i := 8) d_X0_arrange_94 rfl ?_
                    refine Tr.iload (pc := 96) (i := 4) d_X0_arrange_96 rfl ?_
                    refine Tr.icmp_ne (pc := 98) (tgt := 133) d_X0_arrange_98 rfl (fun c98 => ?_) (fun c98 => ?_)
                    · refine Tr.pick [2, 3, 4, 5, 6, 7, 9] (ls2 := [(0, (2, 113)), (1, (0, a1)), (2, (0, a2)), (3, (0, a3)), (4, (0, p55_4)), (5, (0, p55_5)), (7, (0, p55_7))]) rfl ?_
                      exact J133 _ _ _ hS (by omega) (by omega) ((St.kp h77 (by decide) (by decide) (by decide)).trans ((St.kp h71 (by decide) (by decide) (by decide)).trans k55_113_0)) ((St.kp h77 (by decide) (by decide) (by decide)).trans ((St.kp h71 (by decide) (by decide) (by decide)).trans k55_113_7))
                    · refine Tr.iload (pc := 101) (i := 9) d_X0_arrange_101 rfl ?_
                      refine Tr.iload (pc := 103) (i := 5) d_X0_arrange_103 rfl ?_
                      refine Tr.icmp_ge (pc := 105) (tgt := 133) d_X0_arrange_105 rfl (fun c105 => ?_) (fun c105 => ?_)
                      · refine Tr.pick [2, 3, 4, 5, 6, 7, 9] (ls2 := [(0, (2, 113)), (1, (0, a1)), (2, (0, a2)), (3, (0, a3)), (4, (0, p55_4)), (5, (0, p55_5)), (7, (0, p55_7))]) rfl ?_
                        exact J133 _ _ _ hS (by omega) (by omega) ((St.kp h77 (by decide) (by decide) (by decide)).trans ((St.kp h71 (by decide) (by decide) (by decide)).trans k55_113_0)) ((St.kp h77 (by decide) (by decide) (by decide)).trans ((St.kp h71 (by decide) (by decide) (by decide)).trans k55_113_7))
                      · refine Tr.pick [2, 3, 4, 5, 9, 1, 0] (ls2 := [(0, (2, 113)), (1, (0, a1)), (2, (0, a2)), (3, (0, a3)), (7, (0, p55_7)), (8, (0, r71)), (9, (0, r77))]) rfl ?_
                        exact J108 _ hS ((St.kp h77 (by decide) (by decide) (by decide)).trans ((St.kp h71 (by decide) (by decide) (by decide)).trans k55_113_0)) ((St.kp h77 (by decide) (by decide) (by decide)).trans ((St.kp h71 (by decide) (by decide) (by decide)).trans k55_113_7))
        refine Tr.pick [4, 5, 6, 7, 3, 2, 1, 0] (ls2 := [(0, (2, 113)), (1, (0, a1)), (2, (0, a2)), (3, (0, a3)), (4, (0, 0)), (5, (0, 0)), (6, (0, 1)), (7, (0, 0))]) rfl ?_
        exact J55 _ _ _ _ _ _ hS (by omega) (by omega) (by omega) (by omega) ((Wr.b w40 rfl).trans er6) w40.1 (Nat.lt_succ_self _)
      · refine Tr.aload_n (pc := 12) (i := 0) d_X0_arrange_12 rfl rfl ?_
        refine Tr.getf (pc := 13) d_X0_arrange_13 f_0_21 (by decide) (by decide) (ty_113 hS.1.1) ?_
        refine Tr.tp 117 (fx_113_4 hS.1.1) ?_
        refine Tr.iload (pc := 16) (i := 4) d_X0_arrange_16 rfl ?_
        refine Tr.iconst (pc := 18) d_X0_arrange_18 (by decide) ?_
        refine Tr.iastS (pc := 19) (P := St Tru ws_X0_arrange_113 as_X0_arrange_113 M0) d_X0_arrange_19 (ty_117 hS.1.1) (by omega) (by omega) (sa_117 hS (by decide) (by omega) trivial) (fun M19 hS w19 => ?_)
        refine Tr.aload_n (pc := 20) (i := 0) d_X0_arrange_20 rfl rfl ?_
        refine Tr.getf (pc := 21) d_X0_arrange_21 f_0_24 (by decide) (by decide) (ty_113 hS.1.1) ?_
        refine Tr.tp 118 (fx_113_5 hS.1.1) ?_
        refine Tr.iload (pc := 24) (i := 4) d_X0_arrange_24 rfl ?_
        refine Tr.iload (pc := 26) (i := 4) d_X0_arrange_26 rfl ?_
        refine Tr.iastS (pc := 28) (P := St Tru ws_X0_arrange_113 as_X0_arrange_113 M0) d_X0_arrange_28 (ty_118 hS.1.1) (by omega) (by omega) (sa_118 hS (by decide) (by omega) trivial) (fun M28 hS w28 => ?_)
        refine Tr.iincV (pc := 29) (n2 := (p3_4 + 1)) (ls2 := [(4, (0, (p3_4 + 1))), (0, (2, 113)), (1, (0, a1)), (2, (0, a2)), (3, (0, a3))]) d_X0_arrange_29 rfl (by decide) ((w32_id (by omega)).trans (by omega)) rfl ?_
        refine Tr.goto (pc := 32) (tgt := 3) d_X0_arrange_32 rfl ?_
        refine Tr.pick [1, 2, 3, 4, 0] (ls2 := [(0, (2, 113)), (1, (0, a1)), (2, (0, a2)), (3, (0, a3)), (4, (0, (p3_4 + 1)))]) rfl ?_
        exact J3 _ _ hS (by omega) (by omega)
  refine Tr.pick [1, 2, 3, 4, 0] (ls2 := [(0, (2, 113)), (1, (0, a1)), (2, (0, a2)), (3, (0, a3)), (4, (0, 0))]) rfl ?_
  exact J3 _ _ _ hS (by omega) (Nat.lt_succ_self _)

def ws_X11_together_0 : List (Int × Int) := [(113, 7)]
def as_X11_together_0 : List Int := [117, 118, 119]
def q_X11_together_0 (M0 M' : Mem) (r : Option PV) : Prop := St Tru ws_X11_together_0 as_X11_together_0 M0 M' ∧ ∃ v : Int, r = some (0, v) ∧ (-2147483648) ≤ v ∧ v ≤ 2147483647
set_option maxRecDepth 100000 in
set_option maxHeartbeats 4000000 in
theorem sp_X11_together_0 {l : Launch} {K : EC} {M0 : Mem} (hI : In Tru M0) (en_0_4 : rd M0 0 4 = 7) (a1 : Int) (ha1 : (-2147483648) ≤ a1 ∧ a1 ≤ 2147483647)  : Tr l K 3 mX11_together 0 [(0, (2, 0)), (1, (0, a1))] [] M0 (q_X11_together_0 M0) := by
  have hS : St Tru ws_X11_together_0 as_X11_together_0 M0 M0 := St.rf hI
  refine Tr.aload_n (pc := 0) (i := 0) d_X11_together_0 rfl rfl ?_
  refine Tr.iload_n (pc := 1) (i := 1) d_X11_together_1 rfl rfl ?_
  refine Tr.callV (pc := 2) (as := [_]) d_X11_together_2 s_11_174 ok_X11_isPart rfl rfl (Nat.le_of_ble_eq_true rfl) (Nat.le_of_ble_eq_true rfl) (by decide) (ty_0 hS.1.1) ?_
  refine Tr.imp (Tr.deep (by decide) (sp_X11_isPart_0 hS.1 ((St.kp hS (by decide) (by decide) (by decide)).trans en_0_4) a1 (by omega))) ?_
  rintro M2 _ ⟨h2, r2, rfl, lr2, ur2, wr2⟩
  have hS := St.tr hS h2 (by decide) (by decide)
  refine Tr.sc [(0, r2)] rfl ?_
  refine Tr.if_eq (pc := 5) (tgt := 18) d_X11_together_5 rfl (fun c5 => ?_) (fun c5 => ?_)
  · refine Tr.iconst (pc := 18) d_X11_together_18 (by decide) ?_
    exact Tr.iret (pc := 19) d_X11_together_19 rfl ⟨hS, _, rfl, by omega, by omega⟩
  · refine Tr.aload_n (pc := 8) (i := 0) d_X11_together_8 rfl rfl ?_
    refine Tr.getf (pc := 9) d_X11_together_9 f_11_77 (by decide) (by decide) (ty_0 hS.1.1) ?_
    refine Tr.tp 113 (fx_0_13 hS.1.1) ?_
    refine Tr.getf (pc := 12) d_X11_together_12 f_11_136 (by decide) (by decide) (ty_113 hS.1.1) ?_
    refine Tr.gen (P := fun v => 0 ≤ v ∧ v ≤ 6) (ir_113_0 hS.1.2.1) (fun r12 er12 br12 => ?_)
    refine Tr.if_ne (pc := 15) (tgt := 20) d_X11_together_15 rfl (fun c15 => ?_) (fun c15 => ?_)
    · refine Tr.aload_n (pc := 20) (i := 0) d_X11_together_20 rfl rfl ?_
      refine Tr.getf (pc := 21) d_X11_together_21 f_11_77 (by decide) (by decide) (ty_0 hS.1.1) ?_
      refine Tr.tp 113 (fx_0_13 hS.1.1) ?_
      refine Tr.aload_n (pc := 24) (i := 0) d_X11_together_24 rfl rfl ?_
      refine Tr.getf (pc := 25) d_X11_together_25 f_11_30 (by decide) (by decide) (ty_0 hS.1.1) ?_
      refine Tr.tp 7 ((St.kp hS (by decide) (by decide) (by decide)).trans en_0_4) ?_
      refine Tr.getf (pc := 28) d_X11_together_28 f_11_289 (by decide) (by decide) (ty_7 hS.1.1) ?_
      refine Tr.tp 9 (fx_7_5 hS.1.1) ?_
      refine Tr.iload_n (pc := 31) (i := 1) d_X11_together_31 rfl rfl ?_
      refine Tr.iconst (pc := 32) d_X11_together_32 (by decide) ?_
      refine Tr.imul (pc := 33) d_X11_together_33 ?_
      refine Tr.tp (4 * a1) ((w32_id (by omega)).trans (by omega)) ?_
      refine Tr.iconst (pc := 34) d_X11_together_34 (by decide) ?_
      refine Tr.iadd (pc := 35) d_X11_together_35 ?_
      refine Tr.tp (4 * a1 + 2) ((w32_id (by omega)).trans (by omega)) ?_
      refine Tr.iald (pc := 36) d_X11_together_36 (ty_9 hS.1.1) (by omega) (by omega) ?_
      refine Tr.gen (P := fun v => (-1) ≤ v ∧ v ≤ 999) (ar_9 hS.1.2.1 _) (fun r36 er36 br36 => ?_)
      refine Tr.aload_n (pc := 37) (i := 0) d_X11_together_37 rfl rfl ?_
      refine Tr.getf (pc := 38) d_X11_together_38 f_11_30 (by decide) (by decide) (ty_0 hS.1.1) ?_
      refine Tr.tp 7 ((St.kp hS (by decide) (by decide) (by decide)).trans en_0_4) ?_
      refine Tr.iload_n (pc := 41) (i := 1) d_X11_together_41 rfl rfl ?_
      refine Tr.callV (pc := 42) (as := [_]) d_X11_together_42 s_11_292 ok_X3_wakeCost rfl rfl (Nat.le_of_ble_eq_true rfl) (Nat.le_of_ble_eq_true rfl) (by decide) (ty_7 hS.1.1) ?_
      refine Tr.imp (Tr.deep (by decide) (sp_X3_wakeCost_7 hS.1 a1 (by omega))) ?_
      rintro M42 _ ⟨h42, r42, rfl, lr42, ur42⟩
      have hS := St.tr hS h42 (by decide) (by decide)
      refine Tr.sc [(0, r42), (0, r36), (2, 113)] rfl ?_
      refine Tr.aload_n (pc := 45) (i := 0) d_X11_together_45 rfl rfl ?_
      refine Tr.getf (pc := 46) d_X11_together_46 f_11_30 (by decide) (by decide) (ty_0 hS.1.1) ?_
      refine Tr.tp 7 ((St.kp hS (by decide) (by decide) (by decide)).trans en_0_4) ?_
      refine Tr.getf (pc := 49) d_X11_together_49 f_11_295 (by decide) (by decide) (ty_7 hS.1.1) ?_
      refine Tr.tp 11 (fx_7_7 hS.1.1) ?_
      refine Tr.iload_n (pc := 52) (i := 1) d_X11_together_52 rfl rfl ?_
      refine Tr.iald (pc := 53) d_X11_together_53 (ty_11 hS.1.1) (by omega) (by omega) ?_
      refine Tr.gen (P := fun v => 0 ≤ v ∧ v ≤ 50) (ar_11 hS.1.2.1 _) (fun r53 er53 br53 => ?_)
      refine Tr.callV (pc := 54) (as := [_, _, _]) d_X11_together_54 s_11_298 ok_X0_arrange rfl rfl (Nat.le_of_ble_eq_true rfl) (Nat.le_of_ble_eq_true rfl) (by decide) (ty_113 hS.1.1) ?_
      refine Tr.imp (Tr.deep (by decide) (sp_X0_arrange_113 hS.1 r36 (by omega) r42 (by omega) r53 (by omega))) ?_
      rintro M54 _ ⟨h54, r54, rfl, lr54, ur54⟩
      have hS := St.tr hS h54 (by decide) (by decide)
      refine Tr.sc [(0, r54)] rfl ?_
      exact Tr.iret (pc := 57) d_X11_together_57 rfl ⟨hS, _, rfl, by omega, by omega⟩
    · refine Tr.iconst (pc := 18) d_X11_together_18 (by decide) ?_
      exact Tr.iret (pc := 19) d_X11_together_19 rfl ⟨hS, _, rfl, by omega, by omega⟩

def ws_X11_later_0 : List (Int × Int) := []
def as_X11_later_0 : List Int := []
def q_X11_later_0 (M0 M' : Mem) (r : Option PV) : Prop := St Tru ws_X11_later_0 as_X11_later_0 M0 M' ∧ ∃ v : Int, r = some (0, v) ∧ (-1) ≤ v ∧ v ≤ 5
set_option maxRecDepth 100000 in
set_option maxHeartbeats 4000000 in
theorem sp_X11_later_0 {l : Launch} {K : EC} {M0 : Mem} (hI : In Tru M0)  (a1 : Int) (ha1 : (-2147483648) ≤ a1 ∧ a1 ≤ 2147483647)  : Tr l K 0 mX11_later 0 [(0, (2, 0)), (1, (0, a1))] [] M0 (q_X11_later_0 M0) := by
  have hS : St Tru ws_X11_later_0 as_X11_later_0 M0 M0 := St.rf hI
  refine Tr.iload_n (pc := 0) (i := 1) d_X11_later_0 rfl rfl ?_
  refine Tr.if_lt (pc := 1) (tgt := 15) d_X11_later_1 rfl (fun c1 => ?_) (fun c1 => ?_)
  · refine Tr.iconst (pc := 15) d_X11_later_15 (by decide) ?_
    exact Tr.iret (pc := 16) d_X11_later_16 rfl ⟨hS, _, rfl, by omega, by omega⟩
  · refine Tr.iload_n (pc := 4) (i := 1) d_X11_later_4 rfl rfl ?_
    refine Tr.aload_n (pc := 5) (i := 0) d_X11_later_5 rfl rfl ?_
    refine Tr.getf (pc := 6) d_X11_later_6 f_11_77 (by decide) (by decide) (ty_0 hS.1.1) ?_
    refine Tr.tp 113 (fx_0_13 hS.1.1) ?_
    refine Tr.getf (pc := 9) d_X11_later_9 f_11_301 (by decide) (by decide) (ty_113 hS.1.1) ?_
    refine Tr.gen (P := fun v => 0 ≤ v ∧ v ≤ 6) (ir_113_7 hS.1.2.1) (fun r9 er9 br9 => ?_)
    refine Tr.icmp_lt (pc := 12) (tgt := 17) d_X11_later_12 rfl (fun c12 => ?_) (fun c12 => ?_)
    · refine Tr.aload_n (pc := 17) (i := 0) d_X11_later_17 rfl rfl ?_
      refine Tr.getf (pc := 18) d_X11_later_18 f_11_77 (by decide) (by decide) (ty_0 hS.1.1) ?_
      refine Tr.tp 113 (fx_0_13 hS.1.1) ?_
      refine Tr.getf (pc := 21) d_X11_later_21 f_11_304 (by decide) (by decide) (ty_113 hS.1.1) ?_
      refine Tr.tp 119 (fx_113_6 hS.1.1) ?_
      refine Tr.iload_n (pc := 24) (i := 1) d_X11_later_24 rfl rfl ?_
      refine Tr.iald (pc := 25) d_X11_later_25 (ty_119 hS.1.1) (by omega) (by omega) ?_
      refine Tr.gen (P := fun v => 0 ≤ v ∧ v ≤ 5) (ar_119 hS.1.2.1 _) (fun r25 er25 br25 => ?_)
      exact Tr.iret (pc := 26) d_X11_later_26 rfl ⟨hS, _, rfl, by omega, by omega⟩
    · refine Tr.iconst (pc := 15) d_X11_later_15 (by decide) ?_
      exact Tr.iret (pc := 16) d_X11_later_16 rfl ⟨hS, _, rfl, by omega, by omega⟩

def ws_X4_spread_15 : List (Int × Int) := []
def as_X4_spread_15 : List Int := [26]
def q_X4_spread_15 (M0 M' : Mem) (r : Option PV) : Prop := St Tru ws_X4_spread_15 as_X4_spread_15 M0 M' ∧ ∃ v : Int, r = some (0, v) ∧ 0 ≤ v ∧ v ≤ 1
set_option maxRecDepth 100000 in
set_option maxHeartbeats 4000000 in
theorem sp_X4_spread_15 {l : Launch} {K : EC} {M0 : Mem} (hI : In Tru M0)  (a1 : Int) (ha1 : (-2147483648) ≤ a1 ∧ a1 ≤ 2147483647) (a2 : Int) (ha2 : (-2147483648) ≤ a2 ∧ a2 ≤ 2147483647)  : Tr l K 0 mX4_spread 0 [(0, (2, 15)), (1, (0, a1)), (2, (0, a2))] [] M0 (q_X4_spread_15 M0) := by
  have hS : St Tru ws_X4_spread_15 as_X4_spread_15 M0 M0 := St.rf hI
  refine Tr.iload_n (pc := 0) (i := 1) d_X4_spread_0 rfl rfl ?_
  refine Tr.if_lt (pc := 1) (tgt := 29) d_X4_spread_1 rfl (fun c1 => ?_) (fun c1 => ?_)
  · refine Tr.iconst (pc := 29) d_X4_spread_29 (by decide) ?_
    exact Tr.zret (pc := 30) d_X4_spread_30 rfl (by omega) ⟨hS, _, rfl, by omega, by omega⟩
  · refine Tr.iload_n (pc := 4) (i := 1) d_X4_spread_4 rfl rfl ?_
    refine Tr.aload_n (pc := 5) (i := 0) d_X4_spread_5 rfl rfl ?_
    refine Tr.getf (pc := 6) d_X4_spread_6 f_4_45 (by decide) (by decide) (ty_15 hS.1.1) ?_
    refine Tr.gen (P := fun v => 0 ≤ v ∧ v ≤ 60) (ir_15_0 hS.1.2.1) (fun r6 er6 br6 => ?_)
    refine Tr.icmp_gt (pc := 9) (tgt := 29) d_X4_spread_9 rfl (fun c9 => ?_) (fun c9 => ?_)
    · refine Tr.iconst (pc := 29) d_X4_spread_29 (by decide) ?_
      exact Tr.zret (pc := 30) d_X4_spread_30 rfl (by omega) ⟨hS, _, rfl, by omega, by omega⟩
    · refine Tr.aload_n (pc := 12) (i := 0) d_X4_spread_12 rfl rfl ?_
      refine Tr.getf (pc := 13) d_X4_spread_13 f_4_42 (by decide) (by decide) (ty_15 hS.1.1) ?_
      refine Tr.tp 26 (fx_15_12 hS.1.1) ?_
      refine Tr.iload_n (pc := 16) (i := 1) d_X4_spread_16 rfl rfl ?_
      refine Tr.iald (pc := 17) d_X4_spread_17 (ty_26 hS.1.1) (by omega) (by omega) ?_
      refine Tr.gen (P := fun v => (-2147483648) ≤ v ∧ v ≤ 2147483647) (ar_26 hS.1.2.1 _) (fun r17 er17 br17 => ?_)
      refine Tr.iload_n (pc := 18) (i := 2) d_X4_spread_18 rfl rfl ?_
      refine Tr.ior (pc := 19) d_X4_spread_19 ?_
      refine Tr.gen (P := fun v => (-2147483648) ≤ v ∧ v ≤ 2147483647) (i32_b _) (fun r19 er19 br19 => ?_)
      refine Tr.aload_n (pc := 20) (i := 0) d_X4_spread_20 rfl rfl ?_
      refine Tr.getf (pc := 21) d_X4_spread_21 f_4_42 (by decide) (by decide) (ty_15 hS.1.1) ?_
      refine Tr.tp 26 (fx_15_12 hS.1.1) ?_
      refine Tr.iload_n (pc := 24) (i := 1) d_X4_spread_24 rfl rfl ?_
      refine Tr.iald (pc := 25) d_X4_spread_25 (ty_26 hS.1.1) (by omega) (by omega) ?_
      refine Tr.tp r17 er17 ?_
      refine Tr.icmp_ne (pc := 26) (tgt := 31) d_X4_spread_26 rfl (fun c26 => ?_) (fun c26 => ?_)
      · refine Tr.aload_n (pc := 31) (i := 0) d_X4_spread_31 rfl rfl ?_
        refine Tr.getf (pc := 32) d_X4_spread_32 f_4_42 (by decide) (by decide) (ty_15 hS.1.1) ?_
        refine Tr.tp 26 (fx_15_12 hS.1.1) ?_
        refine Tr.iload_n (pc := 35) (i := 1) d_X4_spread_35 rfl rfl ?_
        refine Tr.dup2 (pc := 36) d_X4_spread_36 ne01 ne21 ?_
        refine Tr.iald (pc := 37) d_X4_spread_37 (ty_26 hS.1.1) (by omega) (by omega) ?_
        refine Tr.tp r17 er17 ?_
        refine Tr.iload_n (pc := 38) (i := 2) d_X4_spread_38 rfl rfl ?_
        refine Tr.ior (pc := 39) d_X4_spread_39 ?_
        refine Tr.gen (P := fun v => (-2147483648) ≤ v ∧ v ≤ 2147483647) (i32_b _) (fun r39 er39 br39 => ?_)
        refine Tr.iastS (pc := 40) (P := St Tru ws_X4_spread_15 as_X4_spread_15 M0) d_X4_spread_40 (ty_26 hS.1.1) (by omega) (by omega) (sa_26 hS (by decide) (by omega) trivial) (fun M40 hS w40 => ?_)
        refine Tr.iconst (pc := 41) d_X4_spread_41 (by decide) ?_
        exact Tr.zret (pc := 42) d_X4_spread_42 rfl (by omega) ⟨hS, _, rfl, by omega, by omega⟩
      · refine Tr.iconst (pc := 29) d_X4_spread_29 (by decide) ?_
        exact Tr.zret (pc := 30) d_X4_spread_30 rfl (by omega) ⟨hS, _, rfl, by omega, by omega⟩

def ws_X4_heldBehind_15_w13 : List (Int × Int) := []
def as_X4_heldBehind_15_w13 : List Int := []
def q_X4_heldBehind_15_w13 (M0 M' : Mem) (r : Option PV) : Prop := St Tru ws_X4_heldBehind_15_w13 as_X4_heldBehind_15_w13 M0 M' ∧ ∃ v : Int, r = some (0, v) ∧ (-2147483648) ≤ v ∧ v ≤ 2147483647
set_option maxRecDepth 100000 in
set_option maxHeartbeats 4000000 in
theorem sp_X4_heldBehind_15_w13 {l : Launch} {K : EC} {M0 : Mem} (hI : In Tru M0)  (a1 : Int) (ha1 : 0 ≤ a1 ∧ a1 ≤ 59)  : Tr l K 0 mX4_heldBehind 0 [(0, (2, 15)), (1, (0, a1))] [] M0 (q_X4_heldBehind_15_w13 M0) := by
  have hS : St Tru ws_X4_heldBehind_15_w13 as_X4_heldBehind_15_w13 M0 M0 := St.rf hI
  refine Tr.iconst (pc := 0) d_X4_heldBehind_0 (by decide) ?_
  refine Tr.aload_n (pc := 1) (i := 0) d_X4_heldBehind_1 rfl rfl ?_
  refine Tr.getf (pc := 2) d_X4_heldBehind_2 f_4_15 (by decide) (by decide) (ty_15 hS.1.1) ?_
  refine Tr.tp 17 (fx_15_2 hS.1.1) ?_
  refine Tr.iload_n (pc := 5) (i := 1) d_X4_heldBehind_5 rfl rfl ?_
  refine Tr.iald (pc := 6) d_X4_heldBehind_6 (ty_17 hS.1.1) (by omega) (by omega) ?_
  refine Tr.gen (P := fun v => 0 ≤ v ∧ v ≤ 5) (ar_17 hS.1.2.1 _) (fun r6 er6 br6 => ?_)
  refine Tr.ishl (pc := 7) d_X4_heldBehind_7 ?_
  refine Tr.gen (P := fun v => (-2147483648) ≤ v ∧ v ≤ 2147483647) (i32_b _) (fun r7 er7 br7 => ?_)
  refine Tr.istore_n (pc := 8) (i := 2) (ls2 := [(2, (0, r7)), (0, (2, 15)), (1, (0, a1))]) d_X4_heldBehind_8 rfl (by decide) rfl ?_
  refine Tr.aload_n (pc := 9) (i := 0) d_X4_heldBehind_9 rfl rfl ?_
  refine Tr.getf (pc := 10) d_X4_heldBehind_10 f_4_9 (by decide) (by decide) (ty_15 hS.1.1) ?_
  refine Tr.tp 16 (fx_15_1 hS.1.1) ?_
  refine Tr.iload_n (pc := 13) (i := 1) d_X4_heldBehind_13 rfl rfl ?_
  refine Tr.iald (pc := 14) d_X4_heldBehind_14 (ty_16 hS.1.1) (by omega) (by omega) ?_
  refine Tr.gen (P := fun v => (-2147483648) ≤ v ∧ v ≤ 2147483647) (ar_16 hS.1.2.1 _) (fun r14 er14 br14 => ?_)
  refine Tr.bipush (pc := 15) d_X4_heldBehind_15 rfl (by decide) ?_
  refine Tr.icmp_ne (pc := 17) (tgt := 29) d_X4_heldBehind_17 rfl (fun c17 => ?_) (fun c17 => ?_)
  · refine Tr.aload_n (pc := 29) (i := 0) d_X4_heldBehind_29 rfl rfl ?_
    refine Tr.getf (pc := 30) d_X4_heldBehind_30 f_4_9 (by decide) (by decide) (ty_15 hS.1.1) ?_
    refine Tr.tp 16 (fx_15_1 hS.1.1) ?_
    refine Tr.iload_n (pc := 33) (i := 1) d_X4_heldBehind_33 rfl rfl ?_
    refine Tr.iald (pc := 34) d_X4_heldBehind_34 (ty_16 hS.1.1) (by omega) (by omega) ?_
    refine Tr.tp r14 er14 ?_
    refine Tr.bipush (pc := 35) d_X4_heldBehind_35 rfl (by decide) ?_
    refine Tr.icmp_ne (pc := 37) (tgt := 53) d_X4_heldBehind_37 rfl (fun c37 => ?_) (fun c37 => ?_)
    · refine Tr.aload_n (pc := 53) (i := 0) d_X4_heldBehind_53 rfl rfl ?_
      refine Tr.getf (pc := 54) d_X4_heldBehind_54 f_4_42 (by decide) (by decide) (ty_15 hS.1.1) ?_
      refine Tr.tp 26 (fx_15_12 hS.1.1) ?_
      refine Tr.iload_n (pc := 57) (i := 1) d_X4_heldBehind_57 rfl rfl ?_
      refine Tr.iald (pc := 58) d_X4_heldBehind_58 (ty_26 hS.1.1) (by omega) (by omega) ?_
      refine Tr.gen (P := fun v => (-2147483648) ≤ v ∧ v ≤ 2147483647) (ar_26 hS.1.2.1 _) (fun r58 er58 br58 => ?_)
      exact Tr.iret (pc := 59) d_X4_heldBehind_59 rfl ⟨hS, _, rfl, by omega, by omega⟩
    · refine Tr.aload_n (pc := 40) (i := 0) d_X4_heldBehind_40 rfl rfl ?_
      refine Tr.getf (pc := 41) d_X4_heldBehind_41 f_4_42 (by decide) (by decide) (ty_15 hS.1.1) ?_
      refine Tr.tp 26 (fx_15_12 hS.1.1) ?_
      refine Tr.iload_n (pc := 44) (i := 1) d_X4_heldBehind_44 rfl rfl ?_
      refine Tr.iald (pc := 45) d_X4_heldBehind_45 (ty_26 hS.1.1) (by omega) (by omega) ?_
      refine Tr.gen (P := fun v => (-2147483648) ≤ v ∧ v ≤ 2147483647) (ar_26 hS.1.2.1 _) (fun r45 er45 br45 => ?_)
      refine Tr.iload_n (pc := 46) (i := 2) d_X4_heldBehind_46 rfl rfl ?_
      refine Tr.iconst (pc := 47) d_X4_heldBehind_47 (by decide) ?_
      refine Tr.ixor (pc := 48) d_X4_heldBehind_48 ?_
      refine Tr.gen (P := fun v => ((v < 0 ↔ ¬ (r7 < 0 ↔ (-1) < 0)) ∧ (-2147483648 ≤ v ∧ v ≤ 2147483647))) (f_ixor_s (by omega) (by omega)) (fun r48 er48 br48 => ?_)
      refine Tr.iand (pc := 49) d_X4_heldBehind_49 ?_
      refine Tr.gen (P := fun v => (-2147483648) ≤ v ∧ v ≤ 2147483647) (i32_b _) (fun r49 er49 br49 => ?_)
      refine Tr.goto (pc := 50) (tgt := 59) d_X4_heldBehind_50 rfl ?_
      exact Tr.iret (pc := 59) d_X4_heldBehind_59 rfl ⟨hS, _, rfl, by omega, by omega⟩
  · refine Tr.aload_n (pc := 20) (i := 0) d_X4_heldBehind_20 rfl rfl ?_
    refine Tr.getf (pc := 21) d_X4_heldBehind_21 f_4_42 (by decide) (by decide) (ty_15 hS.1.1) ?_
    refine Tr.tp 26 (fx_15_12 hS.1.1) ?_
    refine Tr.iload_n (pc := 24) (i := 1) d_X4_heldBehind_24 rfl rfl ?_
    refine Tr.iald (pc := 25) d_X4_heldBehind_25 (ty_26 hS.1.1) (by omega) (by omega) ?_
    refine Tr.gen (P := fun v => (-2147483648) ≤ v ∧ v ≤ 2147483647) (ar_26 hS.1.2.1 _) (fun r25 er25 br25 => ?_)
    refine Tr.iload_n (pc := 26) (i := 2) d_X4_heldBehind_26 rfl rfl ?_
    refine Tr.ior (pc := 27) d_X4_heldBehind_27 ?_
    refine Tr.gen (P := fun v => (-2147483648) ≤ v ∧ v ≤ 2147483647) (i32_b _) (fun r27 er27 br27 => ?_)
    exact Tr.iret (pc := 28) d_X4_heldBehind_28 rfl ⟨hS, _, rfl, by omega, by omega⟩

def ws_X4_heldAtEnd_15 : List (Int × Int) := []
def as_X4_heldAtEnd_15 : List Int := [26]
def q_X4_heldAtEnd_15 (M0 M' : Mem) (r : Option PV) : Prop := St Tru ws_X4_heldAtEnd_15 as_X4_heldAtEnd_15 M0 M' ∧ ∃ v : Int, r = some (0, v) ∧ (-2147483648) ≤ v ∧ v ≤ 2147483647
set_option maxRecDepth 100000 in
set_option maxHeartbeats 4000000 in
theorem sp_X4_heldAtEnd_15 {l : Launch} {K : EC} {M0 : Mem} (hI : In Tru M0)    : Tr l K 1 mX4_heldAtEnd 0 [(0, (2, 15))] [] M0 (q_X4_heldAtEnd_15 M0) := by
  have hS : St Tru ws_X4_heldAtEnd_15 as_X4_heldAtEnd_15 M0 M0 := St.rf hI
  refine Tr.aload_n (pc := 0) (i := 0) d_X4_heldAtEnd_0 rfl rfl ?_
  refine Tr.getf (pc := 1) d_X4_heldAtEnd_1 f_4_42 (by decide) (by decide) (ty_15 hS.1.1) ?_
  refine Tr.tp 26 (fx_15_12 hS.1.1) ?_
  refine Tr.iconst (pc := 4) d_X4_heldAtEnd_4 (by decide) ?_
  refine Tr.callS (pc := 5) (as := [_, _]) d_X4_heldAtEnd_5 s_4_58 ok_J7_fill_53178 rfl rfl (Nat.le_of_ble_eq_true rfl) (Nat.le_of_ble_eq_true rfl) ?_
  refine Tr.imp (sp_fill (N := 61) (ty_26 hS.1.1) (by decide)) ?_
  rintro _ _ ⟨rfl, rfl⟩
  refine Tr.nmA (P := St Tru ws_X4_heldAtEnd_15 as_X4_heldAtEnd_15 M0) (sf_26 (v := 0) 61 hS (by decide) (by omega) trivial) (fil_wa _ _ _ _) (fun M5 hS w5 => ?_)
  refine Tr.sc [] rfl ?_
  refine Tr.iconst (pc := 8) d_X4_heldAtEnd_8 (by decide) ?_
  refine Tr.istore_n (pc := 9) (i := 1) (ls2 := [(1, (0, 1)), (0, (2, 15))]) d_X4_heldAtEnd_9 rfl (by decide) rfl ?_
  refine Tr.iconst (pc := 10) d_X4_heldAtEnd_10 (by decide) ?_
  refine Tr.istore_n (pc := 11) (i := 2) (ls2 := [(2, (0, 0)), (1, (0, 1)), (0, (2, 15))]) d_X4_heldAtEnd_11 rfl (by decide) rfl ?_
  have J12 : ∀ (n12 : Nat) (M : Mem) (p12_1 p12_2 : Int), St Tru ws_X4_heldAtEnd_15 as_X4_heldAtEnd_15 M0 M → (0 ≤ p12_1 ∧ p12_1 ≤ 1) → (0 ≤ p12_2 ∧ p12_2 ≤ 400) → (400 - p12_2).toNat < n12 → Tr l K 1 mX4_heldAtEnd 12 [(0, (2, 15)), (1, (0, p12_1)), (2, (0, p12_2))] [] M (q_X4_heldAtEnd_15 M0) := by
    intro n12
    induction n12 with
    | zero => intro M p12_1 p12_2 hS bp12_1 bp12_2  hm12; exact absurd hm12 (Nat.not_lt_zero _)
    | succ n12 J12 =>
      intro M p12_1 p12_2 hS bp12_1 bp12_2  hm12
      refine Tr.iload_n (pc := 12) (i := 2) d_X4_heldAtEnd_12 rfl rfl ?_
      refine Tr.sipush (pc := 13) d_X4_heldAtEnd_13 rfl (by decide) ?_
      refine Tr.icmp_gt (pc := 16) (tgt := 102) d_X4_heldAtEnd_16 rfl (fun c16 => ?_) (fun c16 => ?_)
      · refine Tr.aload_n (pc := 102) (i := 0) d_X4_heldAtEnd_102 rfl rfl ?_
        refine Tr.getf (pc := 103) d_X4_heldAtEnd_103 f_4_42 (by decide) (by decide) (ty_15 hS.1.1) ?_
        refine Tr.tp 26 (fx_15_12 hS.1.1) ?_
        refine Tr.aload_n (pc := 106) (i := 0) d_X4_heldAtEnd_106 rfl rfl ?_
        refine Tr.getf (pc := 107) d_X4_heldAtEnd_107 f_4_45 (by decide) (by decide) (ty_15 hS.1.1) ?_
        refine Tr.gen (P := fun v => 0 ≤ v ∧ v ≤ 60) (ir_15_0 hS.1.2.1) (fun r107 er107 br107 => ?_)
        refine Tr.iald (pc := 110) d_X4_heldAtEnd_110 (ty_26 hS.1.1) (by omega) (by omega) ?_
        refine Tr.gen (P := fun v => (-2147483648) ≤ v ∧ v ≤ 2147483647) (ar_26 hS.1.2.1 _) (fun r110 er110 br110 => ?_)
        exact Tr.iret (pc := 111) d_X4_heldAtEnd_111 rfl ⟨hS, _, rfl, by omega, by omega⟩
      · refine Tr.iload_n (pc := 19) (i := 1) d_X4_heldAtEnd_19 rfl rfl ?_
        refine Tr.if_eq (pc := 20) (tgt := 102) d_X4_heldAtEnd_20 rfl (fun c20 => ?_) (fun c20 => ?_)
        · refine Tr.aload_n (pc := 102) (i := 0) d_X4_heldAtEnd_102 rfl rfl ?_
          refine Tr.getf (pc := 103) d_X4_heldAtEnd_103 f_4_42 (by decide) (by decide) (ty_15 hS.1.1) ?_
          refine Tr.tp 26 (fx_15_12 hS.1.1) ?_
          refine Tr.aload_n (pc := 106) (i := 0) d_X4_heldAtEnd_106 rfl rfl ?_
          refine Tr.getf (pc := 107) d_X4_heldAtEnd_107 f_4_45 (by decide) (by decide) (ty_15 hS.1.1) ?_
          refine Tr.gen (P := fun v => 0 ≤ v ∧ v ≤ 60) (ir_15_0 hS.1.2.1) (fun r107 er107 br107 => ?_)
          refine Tr.iald (pc := 110) d_X4_heldAtEnd_110 (ty_26 hS.1.1) (by omega) (by omega) ?_
          refine Tr.gen (P := fun v => (-2147483648) ≤ v ∧ v ≤ 2147483647) (ar_26 hS.1.2.1 _) (fun r110 er110 br110 => ?_)
          exact Tr.iret (pc := 111) d_X4_heldAtEnd_111 rfl ⟨hS, _, rfl, by omega, by omega⟩
        · refine Tr.iconst (pc := 23) d_X4_heldAtEnd_23 (by decide) ?_
          refine Tr.istore_n (pc := 24) (i := 1) (ls2 := [(1, (0, 0)), (0, (2, 15)), (2, (0, p12_2))]) d_X4_heldAtEnd_24 rfl (by decide) rfl ?_
          refine Tr.iconst (pc := 25) d_X4_heldAtEnd_25 (by decide) ?_
          refine Tr.istore_n (pc := 26) (i := 3) (ls2 := [(3, (0, 0)), (1, (0, 0)), (0, (2, 15)), (2, (0, p12_2))]) d_X4_heldAtEnd_26 rfl (by decide) rfl ?_
          have J27 : ∀ (n27 : Nat) (M : Mem) (p27_1 p27_3 : Int), St Tru ws_X4_heldAtEnd_15 as_X4_heldAtEnd_15 M0 M → (0 ≤ p27_1 ∧ p27_1 ≤ 1) → (0 ≤ p27_3 ∧ p27_3 ≤ 60) → (0 ≤ p12_2 ∧ p12_2 ≤ 399) → (60 - p27_3).toNat < n27 → Tr l K 1 mX4_heldAtEnd 27 [(0, (2, 15)), (1, (0, p27_1)), (2, (0, p12_2)), (3, (0, p27_3))] [] M (q_X4_heldAtEnd_15 M0) := by
            intro n27
            induction n27 with
            | zero => intro M p27_1 p27_3 hS bp27_1 bp27_3 z27p12_2  hm27; exact absurd hm27 (Nat.not_lt_zero _)
            | succ n27 J27 =>
              intro M p27_1 p27_3 hS bp27_1 bp27_3 z27p12_2  hm27
              refine Tr.iload_n (pc := 27) (i := 3) d_X4_heldAtEnd_27 rfl rfl ?_
              refine Tr.aload_n (pc := 28) (i := 0) d_X4_heldAtEnd_28 rfl rfl ?_
              refine Tr.getf (pc := 29) d_X4_heldAtEnd_29 f_4_45 (by decide) (by decide) (ty_15 hS.1.1) ?_
              refine Tr.gen (P := fun v => 0 ≤ v ∧ v ≤ 60) (ir_15_0 hS.1.2.1) (fun r29 er29 br29 => ?_)
              refine Tr.icmp_ge (pc := 32) (tgt := 96) d_X4_heldAtEnd_32 rfl (fun c32 => ?_) (fun c32 => ?_)
              · refine Tr.iincV (pc := 96) (n2 := (p12_2 + 1)) (ls2 := [(2, (0, (p12_2 + 1))), (0, (2, 15)), (1, (0, p27_1)), (3, (0, p27_3))]) d_X4_heldAtEnd_96 rfl (by decide) ((w32_id (by omega)).trans (by omega)) rfl ?_
                refine Tr.goto (pc := 99) (tgt := 12) d_X4_heldAtEnd_99 rfl ?_
                refine Tr.pick [1, 2, 0] (ls2 := [(0, (2, 15)), (1, (0, p27_1)), (2, (0, (p12_2 + 1)))]) rfl ?_
                exact J12 _ _ _ hS (by omega) (by omega) (by omega)
              · refine Tr.aload_n (pc := 35) (i := 0) d_X4_heldAtEnd_35 rfl rfl ?_
                refine Tr.iload_n (pc := 36) (i := 3) d_X4_heldAtEnd_36 rfl rfl ?_
                refine Tr.callV (pc := 37) (as := [_]) d_X4_heldAtEnd_37 s_4_64 ok_X4_heldBehind rfl rfl (Nat.le_of_ble_eq_true rfl) (Nat.le_of_ble_eq_true rfl) (by decide) (ty_15 hS.1.1) ?_
                refine Tr.imp (Tr.deep (by decide) (sp_X4_heldBehind_15_w13 hS.1 p27_3 (by omega))) ?_
                rintro M37 _ ⟨h37, r37, rfl, lr37, ur37⟩
                have hS := St.tr hS h37 (by decide) (by decide)
                refine Tr.sc [(0, r37)] rfl ?_
                refine Tr.istore (pc := 40) (i := 4) (ls2 := [(4, (0, r37)), (0, (2, 15)), (1, (0, p27_1)), (2, (0, p12_2)), (3, (0, p27_3))]) d_X4_heldAtEnd_40 (by decide) rfl ?_
                refine Tr.aload_n (pc := 42) (i := 0) d_X4_heldAtEnd_42 rfl rfl ?_
                refine Tr.aload_n (pc := 43) (i := 0) d_X4_heldAtEnd_43 rfl rfl ?_
                refine Tr.getf (pc := 44) d_X4_heldAtEnd_44 f_4_21 (by decide) (by decide) (ty_15 hS.1.1) ?_
                refine Tr.tp 19 (fx_15_4 hS.1.1) ?_
                refine Tr.iload_n (pc := 47) (i := 3) d_X4_heldAtEnd_47 rfl rfl ?_
                refine Tr.iald (pc := 48) d_X4_heldAtEnd_48 (ty_19 hS.1.1) (by omega) (by omega) ?_
                refine Tr.gen (P := fun v => (-2147483648) ≤ v ∧ v ≤ 2147483647) (ar_19 hS.1.2.1 _) (fun r48 er48 br48 => ?_)
                refine Tr.iload (pc := 49) (i := 4) d_X4_heldAtEnd_49 rfl ?_
                refine Tr.callV (pc := 51) (as := [_, _]) d_X4_heldAtEnd_51 s_4_67 ok_X4_spread rfl rfl (Nat.le_of_ble_eq_true rfl) (Nat.le_of_ble_eq_true rfl) (by decide) (ty_15 hS.1.1) ?_
                refine Tr.imp (Tr.deep (by decide) (sp_X4_spread_15 hS.1 r48 (by omega) r37 (by omega))) ?_
                rintro M51 _ ⟨h51, r51, rfl, lr51, ur51⟩
                have hS := St.tr hS h51 (by decide) (by decide)
                refine Tr.sc [(0, r51)] rfl ?_
                refine Tr.istore (pc := 54) (i := 5) (ls2 := [(5, (0, r51)), (4, (0, r37)), (0, (2, 15)), (1, (0, p27_1)), (2, (0, p12_2)), (3, (0, p27_3))]) d_X4_heldAtEnd_54 (by decide) rfl ?_
                refine Tr.aload_n (pc := 56) (i := 0) d_X4_heldAtEnd_56 rfl rfl ?_
                refine Tr.aload_n (pc := 57) (i := 0) d_X4_heldAtEnd_57 rfl rfl ?_
                refine Tr.getf (pc := 58) d_X4_heldAtEnd_58 f_4_24 (by decide) (by decide) (ty_15 hS.1.1) ?_
                refine Tr.tp 20 (fx_15_5 hS.1.1) ?_
                refine Tr.iload_n (pc := 61) (i := 3) d_X4_heldAtEnd_61 rfl rfl ?_
                refine Tr.iald (pc := 62) d_X4_heldAtEnd_62 (ty_20 hS.1.1) (by omega) (by omega) ?_
                refine Tr.gen (P := fun v => (-2147483648) ≤ v ∧ v ≤ 2147483647) (ar_20 hS.1.2.1 _) (fun r62 er62 br62 => ?_)
                refine Tr.iload (pc := 63) (i := 4) d_X4_heldAtEnd_63 rfl ?_
                refine Tr.callV (pc := 65) (as := [_, _]) d_X4_heldAtEnd_65 s_4_67 ok_X4_spread rfl rfl (Nat.le_of_ble_eq_true rfl) (Nat.le_of_ble_eq_true rfl) (by decide) (ty_15 hS.1.1) ?_
                refine Tr.imp (Tr.deep (by decide) (sp_X4_spread_15 hS.1 r62 (by omega) r37 (by omega))) ?_
                rintro M65 _ ⟨h65, r65, rfl, lr65, ur65⟩
                have hS := St.tr hS h65 (by decide) (by decide)
                refine Tr.sc [(0, r65)] rfl ?_
                refine Tr.istore (pc := 68) (i := 6) (ls2 := [(6, (0, r65)), (5, (0, r51)), (4, (0, r37)), (0, (2, 15)), (1, (0, p27_1)), (2, (0, p12_2)), (3, (0, p27_3))]) d_X4_heldAtEnd_68 (by decide) rfl ?_
                refine Tr.iload_n (pc := 70) (i := 1) d_X4_heldAtEnd_70 rfl rfl ?_
                have J89 : ∀ (M : Mem) (q89_0 : Int), St Tru ws_X4_heldAtEnd_15 as_X4_heldAtEnd_15 M0 M → (0 ≤ q89_0 ∧ q89_0 ≤ 1) → rd M 15 0 = r29 → rd M 19 p27_3 = r48 → rd M 20 p27_3 = r62 → Tr l K 1 mX4_heldAtEnd 89 [(0, (2, 15)), (2, (0, p12_2)), (3, (0, p27_3))] [(0, q89_0)] M (q_X4_heldAtEnd_15 M0) := by
                  intro M q89_0 hS bq89_0 k89_15_0 k89_19_p27_310 k89_20_p27_310
                  refine Tr.istore_n (pc := 89) (i := 1) (ls2 := [(1, (0, q89_0)), (0, (2, 15)), (2, (0, p12_2)), (3, (0, p27_3))]) d_X4_heldAtEnd_89 rfl (by decide) rfl ?_
                  refine Tr.iincV (pc := 90) (n2 := (p27_3 + 1)) (ls2 := [(3, (0, (p27_3 + 1))), (1, (0, q89_0)), (0, (2, 15)), (2, (0, p12_2))]) d_X4_heldAtEnd_90 rfl (by decide) ((w32_id (by omega)).trans (by omega)) rfl ?_
                  refine Tr.goto (pc := 93) (tgt := 27) d_X4_heldAtEnd_93 rfl ?_
                  refine Tr.pick [2, 1, 3, 0] (ls2 := [(0, (2, 15)), (1, (0, q89_0)), (2, (0, p12_2)), (3, (0, (p27_3 + 1)))]) rfl ?_
                  exact J27 _ _ _ hS (by omega) (by omega) (by omega) (by omega)
                have J84 : ∀ (M : Mem), St Tru ws_X4_heldAtEnd_15 as_X4_heldAtEnd_15 M0 M → rd M 15 0 = r29 → rd M 19 p27_3 = r48 → rd M 20 p27_3 = r62 → Tr l K 1 mX4_heldAtEnd 84 [(0, (2, 15)), (2, (0, p12_2)), (3, (0, p27_3))] [] M (q_X4_heldAtEnd_15 M0) := by
                  intro M  hS  k84_15_0 k84_19_p27_310 k84_20_p27_310
                  refine Tr.iconst (pc := 84) d_X4_heldAtEnd_84 (by decide) ?_
                  refine Tr.goto (pc := 85) (tgt := 89) d_X4_heldAtEnd_85 rfl ?_
                  refine Tr.pick [0, 1, 2] (ls2 := [(0, (2, 15)), (2, (0, p12_2)), (3, (0, p27_3))]) rfl ?_
                  exact J89 _ _ hS (by omega) k84_15_0 k84_19_p27_310 k84_20_p27_310
                refine Tr.if_ne (pc := 71) (tgt := 84) d_X4_heldAtEnd_71 rfl (fun c71 => ?_) (fun c71 => ?_)
                · refine Tr.pick [3, 5, 6] (ls2 := [(0, (2, 15)), (2, (0, p12_2)), (3, (0, p27_3))]) rfl ?_
                  exact J84 _ hS ((St.kp h65 (by decide) (by decide) (by decide)).trans ((St.kp h51 (by decide) (by decide) (by decide)).trans ((St.kp h37 (by decide) (by decide) (by decide)).trans er29))) ((St.ka h65 (by decide) (by decide) (by decide)).trans ((St.ka h51 (by decide) (by decide) (by decide)).trans er48)) ((St.ka h65 (by decide) (by decide) (by decide)).trans er62)
                · refine Tr.iload (pc := 74) (i := 5) d_X4_heldAtEnd_74 rfl ?_
                  refine Tr.if_ne (pc := 76) (tgt := 84) d_X4_heldAtEnd_76 rfl (fun c76 => ?_) (fun c76 => ?_)
                  · refine Tr.pick [3, 5, 6] (ls2 := [(0, (2, 15)), (2, (0, p12_2)), (3, (0, p27_3))]) rfl ?_
                    exact J84 _ hS ((St.kp h65 (by decide) (by decide) (by decide)).trans ((St.kp h51 (by decide) (by decide) (by decide)).trans ((St.kp h37 (by decide) (by decide) (by decide)).trans er29))) ((St.ka h65 (by decide) (by decide) (by decide)).trans ((St.ka h51 (by decide) (by decide) (by decide)).trans er48)) ((St.ka h65 (by decide) (by decide) (by decide)).trans er62)
                  · refine Tr.iload (pc := 79) (i := 6) d_X4_heldAtEnd_79 rfl ?_
                    refine Tr.if_eq (pc := 81) (tgt := 88) d_X4_heldAtEnd_81 rfl (fun c81 => ?_) (fun c81 => ?_)
                    · refine Tr.iconst (pc := 88) d_X4_heldAtEnd_88 (by decide) ?_
                      refine Tr.pick [3, 5, 6] (ls2 := [(0, (2, 15)), (2, (0, p12_2)), (3, (0, p27_3))]) rfl ?_
                      exact J89 _ _ hS (by omega) ((St.kp h65 (by decide) (by decide) (by decide)).trans ((St.kp h51 (by decide) (by decide) (by decide)).trans ((St.kp h37 (by decide) (by decide) (by decide)).trans er29))) ((St.ka h65 (by decide) (by decide) (by decide)).trans ((St.ka h51 (by decide) (by decide) (by decide)).trans er48)) ((St.ka h65 (by decide) (by decide) (by decide)).trans er62)
                    · refine Tr.pick [3, 5, 6] (ls2 := [(0, (2, 15)), (2, (0, p12_2)), (3, (0, p27_3))]) rfl ?_
                      exact J84 _ hS ((St.kp h65 (by decide) (by decide) (by decide)).trans ((St.kp h51 (by decide) (by decide) (by decide)).trans ((St.kp h37 (by decide) (by decide) (by decide)).trans er29))) ((St.ka h65 (by decide) (by decide) (by decide)).trans ((St.ka h51 (by decide) (by decide) (by decide)).trans er48)) ((St.ka h65 (by decide) (by decide) (by decide)).trans er62)
          refine Tr.pick [2, 1, 3, 0] (ls2 := [(0, (2, 15)), (1, (0, 0)), (2, (0, p12_2)), (3, (0, 0))]) rfl ?_
          exact J27 _ _ _ _ hS (by omega) (by omega) (by omega) (Nat.lt_succ_self _)
  refine Tr.pick [2, 1, 0] (ls2 := [(0, (2, 15)), (1, (0, 1)), (2, (0, 0))]) rfl ?_
  exact J12 _ _ _ _ hS (by omega) (by omega) (Nat.lt_succ_self _)

def ws_X11_never_0 : List (Int × Int) := []
def as_X11_never_0 : List Int := [26]
def q_X11_never_0 (M0 M' : Mem) (r : Option PV) : Prop := St Tru ws_X11_never_0 as_X11_never_0 M0 M' ∧ ∃ v : Int, r = some (0, v) ∧ (-2147483648) ≤ v ∧ v ≤ 2147483647
set_option maxRecDepth 100000 in
set_option maxHeartbeats 4000000 in
theorem sp_X11_never_0 {l : Launch} {K : EC} {M0 : Mem} (hI : In Tru M0) (en_0_4 : rd M0 0 4 = 7)   : Tr l K 2 mX11_never 0 [(0, (2, 0))] [] M0 (q_X11_never_0 M0) := by
  have hS : St Tru ws_X11_never_0 as_X11_never_0 M0 M0 := St.rf hI
  refine Tr.aload_n (pc := 0) (i := 0) d_X11_never_0 rfl rfl ?_
  refine Tr.getf (pc := 1) d_X11_never_1 f_11_30 (by decide) (by decide) (ty_0 hS.1.1) ?_
  refine Tr.tp 7 ((St.kp hS (by decide) (by decide) (by decide)).trans en_0_4) ?_
  refine Tr.getf (pc := 4) d_X11_never_4 f_11_115 (by decide) (by decide) (ty_7 hS.1.1) ?_
  refine Tr.tp 15 (fx_7_11 hS.1.1) ?_
  refine Tr.callV (pc := 7) (as := []) d_X11_never_7 s_11_307 ok_X4_heldAtEnd rfl rfl (Nat.le_of_ble_eq_true rfl) (Nat.le_of_ble_eq_true rfl) (by decide) (ty_15 hS.1.1) ?_
  refine Tr.imp (Tr.deep (by decide) (sp_X4_heldAtEnd_15 hS.1 )) ?_
  rintro M7 _ ⟨h7, r7, rfl, lr7, ur7⟩
  have hS := St.tr hS h7 (by decide) (by decide)
  refine Tr.sc [(0, r7)] rfl ?_
  exact Tr.iret (pc := 10) d_X11_never_10 rfl ⟨hS, _, rfl, by omega, by omega⟩

def ws_X11_lasts_0 : List (Int × Int) := []
def as_X11_lasts_0 : List Int := []
def q_X11_lasts_0 (M0 M' : Mem) (r : Option PV) : Prop := St Tru ws_X11_lasts_0 as_X11_lasts_0 M0 M' ∧ ∃ v : Int, r = some (0, v) ∧ (-1) ≤ v ∧ v ≤ (-1)
set_option maxRecDepth 100000 in
set_option maxHeartbeats 4000000 in
theorem sp_X11_lasts_0 {l : Launch} {K : EC} {M0 : Mem} (hI : In Tru M0) (en_0_9 : rd M0 0 9 = 0) (a1 : Int) (ha1 : (-2147483648) ≤ a1 ∧ a1 ≤ 2147483647) (a2 : Int) (ha2 : (-2147483648) ≤ a2 ∧ a2 ≤ 2147483647) (a3 : Int) (ha3 : (-2147483648) ≤ a3 ∧ a3 ≤ 2147483647)  : Tr l K 0 mX11_lasts 0 [(0, (2, 0)), (1, (0, a1)), (2, (0, a2)), (3, (0, a3))] [] M0 (q_X11_lasts_0 M0) := by
  have hS : St Tru ws_X11_lasts_0 as_X11_lasts_0 M0 M0 := St.rf hI
  refine Tr.aload_n (pc := 0) (i := 0) d_X11_lasts_0 rfl rfl ?_
  refine Tr.getz (pc := 1) d_X11_lasts_1 f_11_109 (by decide) (ty_0 hS.1.1) ?_
  refine Tr.tp 0 ((St.kp hS (by decide) (by decide) (by decide)).trans en_0_9) ?_
  refine Tr.if_eq (pc := 4) (tgt := 18) d_X11_lasts_4 rfl (fun _ => ?_) (fun hc => absurd (by omega) hc)
  refine Tr.iconst (pc := 18) d_X11_lasts_18 (by decide) ?_
  exact Tr.iret (pc := 19) d_X11_lasts_19 rfl ⟨hS, _, rfl, by omega, by omega⟩

def ws_X3_sleepOfAll_7 : List (Int × Int) := []
def as_X3_sleepOfAll_7 : List Int := []
def q_X3_sleepOfAll_7 (M0 M' : Mem) (r : Option PV) : Prop := St Tru ws_X3_sleepOfAll_7 as_X3_sleepOfAll_7 M0 M' ∧ ∃ v : Int, r = some (0, v) ∧ (-2147483648) ≤ v ∧ v ≤ 2147483647
set_option maxRecDepth 100000 in
set_option maxHeartbeats 4000000 in
theorem sp_X3_sleepOfAll_7 {l : Launch} {K : EC} {M0 : Mem} (hI : In Tru M0)    : Tr l K 0 mX3_sleepOfAll 0 [(0, (2, 7))] [] M0 (q_X3_sleepOfAll_7 M0) := by
  have hS : St Tru ws_X3_sleepOfAll_7 as_X3_sleepOfAll_7 M0 M0 := St.rf hI
  refine Tr.iconst (pc := 0) d_X3_sleepOfAll_0 (by decide) ?_
  refine Tr.istore_n (pc := 1) (i := 1) (ls2 := [(1, (0, 0)), (0, (2, 7))]) d_X3_sleepOfAll_1 rfl (by decide) rfl ?_
  refine Tr.iconst (pc := 2) d_X3_sleepOfAll_2 (by decide) ?_
  refine Tr.istore_n (pc := 3) (i := 2) (ls2 := [(2, (0, 0)), (1, (0, 0)), (0, (2, 7))]) d_X3_sleepOfAll_3 rfl (by decide) rfl ?_
  have J4 : ∀ (n4 : Nat) (M : Mem) (p4_1 p4_2 : Int), St Tru ws_X3_sleepOfAll_7 as_X3_sleepOfAll_7 M0 M → ((-2147483648) ≤ p4_1 ∧ p4_1 ≤ 2147483647) → (0 ≤ p4_2 ∧ p4_2 ≤ 6) → (6 - p4_2).toNat < n4 → Tr l K 0 mX3_sleepOfAll 4 [(0, (2, 7)), (1, (0, p4_1)), (2, (0, p4_2))] [] M (q_X3_sleepOfAll_7 M0) := by
    intro n4
    induction n4 with
    | zero => intro M p4_1 p4_2 hS bp4_1 bp4_2  hm4; exact absurd hm4 (Nat.not_lt_zero _)
    | succ n4 J4 =>
      intro M p4_1 p4_2 hS bp4_1 bp4_2  hm4
      refine Tr.iload_n (pc := 4) (i := 2) d_X3_sleepOfAll_4 rfl rfl ?_
      refine Tr.aload_n (pc := 5) (i := 0) d_X3_sleepOfAll_5 rfl rfl ?_
      refine Tr.getf (pc := 6) d_X3_sleepOfAll_6 f_3_11 (by decide) (by decide) (ty_7 hS.1.1) ?_
      refine Tr.tp 8 (fx_7_4 hS.1.1) ?_
      refine Tr.iconst (pc := 9) d_X3_sleepOfAll_9 (by decide) ?_
      refine Tr.iald (pc := 10) d_X3_sleepOfAll_10 (ty_8 hS.1.1) (by omega) (by omega) ?_
      refine Tr.gen (P := fun v => 0 ≤ v ∧ v ≤ 6) (ir_8_0 hS.1.2.1) (fun r10 er10 br10 => ?_)
      refine Tr.icmp_ge (pc := 11) (tgt := 33) d_X3_sleepOfAll_11 rfl (fun c11 => ?_) (fun c11 => ?_)
      · refine Tr.iload_n (pc := 33) (i := 1) d_X3_sleepOfAll_33 rfl rfl ?_
        exact Tr.iret (pc := 34) d_X3_sleepOfAll_34 rfl ⟨hS, _, rfl, by omega, by omega⟩
      · refine Tr.iload_n (pc := 14) (i := 1) d_X3_sleepOfAll_14 rfl rfl ?_
        refine Tr.aload_n (pc := 15) (i := 0) d_X3_sleepOfAll_15 rfl rfl ?_
        refine Tr.getf (pc := 16) d_X3_sleepOfAll_16 f_3_15 (by decide) (by decide) (ty_7 hS.1.1) ?_
        refine Tr.tp 9 (fx_7_5 hS.1.1) ?_
        refine Tr.iload_n (pc := 19) (i := 2) d_X3_sleepOfAll_19 rfl rfl ?_
        refine Tr.iconst (pc := 20) d_X3_sleepOfAll_20 (by decide) ?_
        refine Tr.imul (pc := 21) d_X3_sleepOfAll_21 ?_
        refine Tr.tp (4 * p4_2) ((w32_id (by omega)).trans (by omega)) ?_
        refine Tr.iconst (pc := 22) d_X3_sleepOfAll_22 (by decide) ?_
        refine Tr.iadd (pc := 23) d_X3_sleepOfAll_23 ?_
        refine Tr.tp (4 * p4_2) ((w32_id (by omega)).trans (by omega)) ?_
        refine Tr.iald (pc := 24) d_X3_sleepOfAll_24 (ty_9 hS.1.1) (by omega) (by omega) ?_
        refine Tr.gen (P := fun v => (-1) ≤ v ∧ v ≤ 999) (ar_9 hS.1.2.1 _) (fun r24 er24 br24 => ?_)
        refine Tr.iadd (pc := 25) d_X3_sleepOfAll_25 ?_
        refine Tr.gen (P := fun v => (-2147483648) ≤ v ∧ v ≤ 2147483647) (w32_b _) (fun r25 er25 br25 => ?_)
        refine Tr.istore_n (pc := 26) (i := 1) (ls2 := [(1, (0, r25)), (0, (2, 7)), (2, (0, p4_2))]) d_X3_sleepOfAll_26 rfl (by decide) rfl ?_
        refine Tr.iincV (pc := 27) (n2 := (p4_2 + 1)) (ls2 := [(2, (0, (p4_2 + 1))), (1, (0, r25)), (0, (2, 7))]) d_X3_sleepOfAll_27 rfl (by decide) ((w32_id (by omega)).trans (by omega)) rfl ?_
        refine Tr.goto (pc := 30) (tgt := 4) d_X3_sleepOfAll_30 rfl ?_
        refine Tr.pick [2, 1, 0] (ls2 := [(0, (2, 7)), (1, (0, r25)), (2, (0, (p4_2 + 1)))]) rfl ?_
        exact J4 _ _ _ hS (by omega) (by omega) (by omega)
  refine Tr.pick [2, 1, 0] (ls2 := [(0, (2, 7)), (1, (0, 0)), (2, (0, 0))]) rfl ?_
  exact J4 _ _ _ _ hS (by omega) (by omega) (Nat.lt_succ_self _)

def ws_X11_lasts_0_w1 : List (Int × Int) := []
def as_X11_lasts_0_w1 : List Int := []
def q_X11_lasts_0_w1 (M0 M' : Mem) (r : Option PV) : Prop := St Tru ws_X11_lasts_0_w1 as_X11_lasts_0_w1 M0 M' ∧ ∃ v : Int, r = some (0, v) ∧ (-2147483648) ≤ v ∧ v ≤ 2147483647
set_option maxRecDepth 100000 in
set_option maxHeartbeats 4000000 in
theorem sp_X11_lasts_0_w1 {l : Launch} {K : EC} {M0 : Mem} (hI : In Tru M0) (en_0_4 : rd M0 0 4 = 7) (en_0_9 : rd M0 0 9 = 1) (a1 : Int) (ha1 : (-2147483648) ≤ a1 ∧ a1 ≤ 2147483647) (a2 : Int) (ha2 : (-2147483648) ≤ a2 ∧ a2 ≤ 2147483647) (a3 : Int) (ha3 : (-2147483648) ≤ a3 ∧ a3 ≤ 2147483647)  : Tr l K 1 mX11_lasts 0 [(0, (2, 0)), (1, (0, a1)), (2, (0, a2)), (3, (0, a3))] [] M0 (q_X11_lasts_0_w1 M0) := by
  have hS : St Tru ws_X11_lasts_0_w1 as_X11_lasts_0_w1 M0 M0 := St.rf hI
  refine Tr.aload_n (pc := 0) (i := 0) d_X11_lasts_0 rfl rfl ?_
  refine Tr.getz (pc := 1) d_X11_lasts_1 f_11_109 (by decide) (ty_0 hS.1.1) ?_
  refine Tr.tp 1 ((St.kp hS (by decide) (by decide) (by decide)).trans en_0_9) ?_
  refine Tr.if_eq (pc := 4) (tgt := 18) d_X11_lasts_4 rfl (fun hc => absurd hc (by omega)) (fun _ => ?_)
  refine Tr.iload_n (pc := 7) (i := 1) d_X11_lasts_7 rfl rfl ?_
  refine Tr.if_lt (pc := 8) (tgt := 18) d_X11_lasts_8 rfl (fun c8 => ?_) (fun c8 => ?_)
  · refine Tr.iconst (pc := 18) d_X11_lasts_18 (by decide) ?_
    exact Tr.iret (pc := 19) d_X11_lasts_19 rfl ⟨hS, _, rfl, by omega, by omega⟩
  · refine Tr.iload_n (pc := 11) (i := 1) d_X11_lasts_11 rfl rfl ?_
    refine Tr.ldcw (pc := 12) d_X11_lasts_12 k_11_310 (by decide) ?_
    refine Tr.icmp_le (pc := 15) (tgt := 20) d_X11_lasts_15 rfl (fun c15 => ?_) (fun c15 => ?_)
    · refine Tr.iload_n (pc := 20) (i := 2) d_X11_lasts_20 rfl rfl ?_
      refine Tr.if_lt (pc := 21) (tgt := 42) d_X11_lasts_21 rfl (fun c21 => ?_) (fun c21 => ?_)
      · refine Tr.iconst (pc := 42) d_X11_lasts_42 (by decide) ?_
        exact Tr.iret (pc := 43) d_X11_lasts_43 rfl ⟨hS, _, rfl, by omega, by omega⟩
      · refine Tr.iload_n (pc := 24) (i := 2) d_X11_lasts_24 rfl rfl ?_
        refine Tr.sipush (pc := 25) d_X11_lasts_25 rfl (by decide) ?_
        refine Tr.icmp_gt (pc := 28) (tgt := 42) d_X11_lasts_28 rfl (fun c28 => ?_) (fun c28 => ?_)
        · refine Tr.iconst (pc := 42) d_X11_lasts_42 (by decide) ?_
          exact Tr.iret (pc := 43) d_X11_lasts_43 rfl ⟨hS, _, rfl, by omega, by omega⟩
        · refine Tr.iload_n (pc := 31) (i := 3) d_X11_lasts_31 rfl rfl ?_
          refine Tr.if_lt (pc := 32) (tgt := 42) d_X11_lasts_32 rfl (fun c32 => ?_) (fun c32 => ?_)
          · refine Tr.iconst (pc := 42) d_X11_lasts_42 (by decide) ?_
            exact Tr.iret (pc := 43) d_X11_lasts_43 rfl ⟨hS, _, rfl, by omega, by omega⟩
          · refine Tr.iload_n (pc := 35) (i := 3) d_X11_lasts_35 rfl rfl ?_
            refine Tr.ldcw (pc := 36) d_X11_lasts_36 k_11_311 (by decide) ?_
            refine Tr.icmp_le (pc := 39) (tgt := 44) d_X11_lasts_39 rfl (fun c39 => ?_) (fun c39 => ?_)
            · refine Tr.iload_n (pc := 44) (i := 2) d_X11_lasts_44 rfl rfl ?_
              refine Tr.i2l (pc := 45) d_X11_lasts_45 ?_
              refine Tr.aload_n (pc := 46) (i := 0) d_X11_lasts_46 rfl rfl ?_
              refine Tr.getf (pc := 47) d_X11_lasts_47 f_11_46 (by decide) (by decide) (ty_0 hS.1.1) ?_
              refine Tr.tp 48 (fx_0_7 hS.1.1) ?_
              refine Tr.getf (pc := 50) d_X11_lasts_50 f_11_155 (by decide) (by decide) (ty_48 hS.1.1) ?_
              refine Tr.gen (P := fun v => (-2147483648) ≤ v ∧ v ≤ 2147483647) (ir_48_10 hS.1.2.1) (fun r50 er50 br50 => ?_)
              refine Tr.i2l (pc := 53) d_X11_lasts_53 ?_
              refine Tr.lmul (pc := 54) d_X11_lasts_54 ?_
              refine Tr.gen (P := fun v => (-9223372036854775808) ≤ v ∧ v ≤ 9223372036854775807) (w64_b _) (fun r54 er54 br54 => ?_)
              refine Tr.iload_n (pc := 55) (i := 3) d_X11_lasts_55 rfl rfl ?_
              refine Tr.i2l (pc := 56) d_X11_lasts_56 ?_
              refine Tr.aload_n (pc := 57) (i := 0) d_X11_lasts_57 rfl rfl ?_
              refine Tr.getf (pc := 58) d_X11_lasts_58 f_11_30 (by decide) (by decide) (ty_0 hS.1.1) ?_
              refine Tr.tp 7 ((St.kp hS (by decide) (by decide) (by decide)).trans en_0_4) ?_
              refine Tr.callV (pc := 61) (as := []) d_X11_lasts_61 s_11_312 ok_X3_sleepOfAll rfl rfl (Nat.le_of_ble_eq_true rfl) (Nat.le_of_ble_eq_true rfl) (by decide) (ty_7 hS.1.1) ?_
              refine Tr.imp (Tr.deep (by decide) (sp_X3_sleepOfAll_7 hS.1 )) ?_
              rintro M61 _ ⟨h61, r61, rfl, lr61, ur61⟩
              have hS := St.tr hS h61 (by decide) (by decide)
              refine Tr.sc [(0, r61), (1, a3), (1, r54)] rfl ?_
              refine Tr.i2l (pc := 64) d_X11_lasts_64 ?_
              refine Tr.lmul (pc := 65) d_X11_lasts_65 ?_
              refine Tr.gen (P := fun v => (-9223372036854775808) ≤ v ∧ v ≤ 9223372036854775807) (w64_b _) (fun r65 er65 br65 => ?_)
              refine Tr.ladd (pc := 66) d_X11_lasts_66 ?_
              refine Tr.gen (P := fun v => (-9223372036854775808) ≤ v ∧ v ≤ 9223372036854775807) (w64_b _) (fun r66 er66 br66 => ?_)
              refine Tr.lstore (pc := 67) (i := 4) (ls2 := [(4, (1, r66)), (0, (2, 0)), (1, (0, a1)), (2, (0, a2)), (3, (0, a3))]) d_X11_lasts_67 (by decide) rfl ?_
              refine Tr.lload (pc := 69) (i := 4) d_X11_lasts_69 rfl ?_
              refine Tr.lconst (pc := 71) (v := 0) d_X11_lasts_71 rfl (by decide) ?_
              refine Tr.lcmp (pc := 72) d_X11_lasts_72 ?_
              refine Tr.gen (P := fun v => (v = 1 ∧ 0 < r66) ∨ (v = 0 ∧ r66 = 0) ∨ (v = -1 ∧ r66 < 0)) (f_lcmp_c _ _) (fun r72 er72 br72 => ?_)
              refine Tr.if_gt (pc := 73) (tgt := 80) d_X11_lasts_73 rfl (fun c73 => ?_) (fun c73 => ?_)
              · refine Tr.iload_n (pc := 80) (i := 1) d_X11_lasts_80 rfl rfl ?_
                refine Tr.i2l (pc := 81) d_X11_lasts_81 ?_
                refine Tr.lload (pc := 82) (i := 4) d_X11_lasts_82 rfl ?_
                refine Tr.ldiv (pc := 84) d_X11_lasts_84 (by omega) ?_
                refine Tr.gen (P := fun v => (-9223372036854775808) ≤ v ∧ v ≤ 9223372036854775807) (w64_b _) (fun r84 er84 br84 => ?_)
                refine Tr.l2i (pc := 85) d_X11_lasts_85 ?_
                refine Tr.gen (P := fun v => (-2147483648) ≤ v ∧ v ≤ 2147483647) (w32_b _) (fun r85 er85 br85 => ?_)
                exact Tr.iret (pc := 86) d_X11_lasts_86 rfl ⟨hS, _, rfl, by omega, by omega⟩
              · refine Tr.iconst (pc := 76) d_X11_lasts_76 (by decide) ?_
                refine Tr.goto (pc := 77) (tgt := 86) d_X11_lasts_77 rfl ?_
                exact Tr.iret (pc := 86) d_X11_lasts_86 rfl ⟨hS, _, rfl, by omega, by omega⟩
            · refine Tr.iconst (pc := 42) d_X11_lasts_42 (by decide) ?_
              exact Tr.iret (pc := 43) d_X11_lasts_43 rfl ⟨hS, _, rfl, by omega, by omega⟩
    · refine Tr.iconst (pc := 18) d_X11_lasts_18 (by decide) ?_
      exact Tr.iret (pc := 19) d_X11_lasts_19 rfl ⟨hS, _, rfl, by omega, by omega⟩
end
/-! 30.04 -/
section
def ws_X1_begin_82_7 : List (Int × Int) := [(82, 1)]
def as_X1_begin_82_7 : List Int := [83]
def q_X1_begin_82_7 (M0 M' : Mem) (r : Option PV) : Prop := St Tru ws_X1_begin_82_7 as_X1_begin_82_7 M0 M' ∧ rd M' 82 1 = 7 ∧ r = none
set_option maxRecDepth 100000 in
set_option maxHeartbeats 4000000 in
theorem sp_X1_begin_82_7 {l : Launch} {K : EC} {M0 : Mem} (hI : In Tru M0)    : Tr l K 1 mX1_begin 0 [(0, (2, 82)), (1, (2, 7))] [] M0 (q_X1_begin_82_7 M0) := by
  have hS : St Tru ws_X1_begin_82_7 as_X1_begin_82_7 M0 M0 := St.rf hI
  refine Tr.aload_n (pc := 0) (i := 0) d_X1_begin_0 rfl rfl ?_
  refine Tr.aload_n (pc := 1) (i := 1) d_X1_begin_1 rfl rfl ?_
  refine Tr.putfS (pc := 2) (P := St Tru ws_X1_begin_82_7 as_X1_begin_82_7 M0) d_X1_begin_2 f_1_41 (by decide) (by decide) (ty_82 hS.1.1) (st_82_1 hS (by decide) (by omega) trivial) (fun M2 hS w2 => ?_)
  refine Tr.aload_n (pc := 5) (i := 0) d_X1_begin_5 rfl rfl ?_
  refine Tr.getf (pc := 6) d_X1_begin_6 f_1_9 (by decide) (by decide) (ty_82 hS.1.1) ?_
  refine Tr.tp 83 (fx_82_2 hS.1.1) ?_
  refine Tr.iconst (pc := 9) d_X1_begin_9 (by decide) ?_
  refine Tr.callS (pc := 10) (as := [_, _]) d_X1_begin_10 s_1_45 ok_J7_fill_53178 rfl rfl (Nat.le_of_ble_eq_true rfl) (Nat.le_of_ble_eq_true rfl) ?_
  refine Tr.imp (sp_fill (N := 24) (ty_83 hS.1.1) (by decide)) ?_
  rintro _ _ ⟨rfl, rfl⟩
  refine Tr.nmA (P := St Tru ws_X1_begin_82_7 as_X1_begin_82_7 M0) (sf_83 (v := 0) 24 hS (by decide) (by omega) trivial) (fil_wa _ _ _ _) (fun M10 hS w10 => ?_)
  refine Tr.sc [] rfl ?_
  refine Tr.aload_n (pc := 13) (i := 0) d_X1_begin_13 rfl rfl ?_
  refine Tr.getz (pc := 14) d_X1_begin_14 f_1_37 (by decide) (ty_82 hS.1.1) ?_
  refine Tr.tp 0 (fx_82_0 hS.1.1) ?_
  refine Tr.if_eq (pc := 17) (tgt := 67) d_X1_begin_17 rfl (fun _ => ?_) (fun hc => absurd (by omega) hc)
  exact Tr.vret (pc := 67) d_X1_begin_67 rfl ⟨hS, ((Wa.b w10 rfl).trans w2.1), rfl⟩

def ws_X6_begin_74_7_47 : List (Int × Int) := [(74, 1), (74, 9), (74, 11), (74, 12), (74, 13), (74, 14), (74, 15), (74, 16), (74, 17), (82, 1)]
def as_X6_begin_74_7_47 : List Int := [75, 76, 78, 79, 80, 81, 83]
def q_X6_begin_74_7_47 (a3 : Int) (M0 M' : Mem) (r : Option PV) : Prop := St Tru ws_X6_begin_74_7_47 as_X6_begin_74_7_47 M0 M' ∧ rd M' 74 1 = 7 ∧ rd M' 82 1 = 7 ∧ r = none
set_option maxRecDepth 100000 in
set_option maxHeartbeats 4000000 in
theorem sp_X6_begin_74_7_47 {l : Launch} {K : EC} {M0 : Mem} (hI : In Tru M0)  (a3 : Int) (ha3 : (-1) ≤ a3 ∧ a3 ≤ (-1))  : Tr l K 2 mX6_begin 0 [(0, (2, 74)), (1, (2, 7)), (2, (2, 47)), (3, (0, a3))] [] M0 (q_X6_begin_74_7_47 a3 M0) := by
  have hS : St Tru ws_X6_begin_74_7_47 as_X6_begin_74_7_47 M0 M0 := St.rf hI
  refine Tr.aload_n (pc := 0) (i := 0) d_X6_begin_0 rfl rfl ?_
  refine Tr.aload_n (pc := 1) (i := 1) d_X6_begin_1 rfl rfl ?_
  refine Tr.putfS (pc := 2) (P := St Tru ws_X6_begin_74_7_47 as_X6_begin_74_7_47 M0) d_X6_begin_2 f_6_46 (by decide) (by decide) (ty_74 hS.1.1) (st_74_1 hS (by decide) (by omega) trivial) (fun M2 hS w2 => ?_)
  refine Tr.aload_n (pc := 5) (i := 2) d_X6_begin_5 rfl rfl ?_
  refine Tr.iconst (pc := 6) d_X6_begin_6 (by decide) ?_
  refine Tr.aload_n (pc := 7) (i := 0) d_X6_begin_7 rfl rfl ?_
  refine Tr.getf (pc := 8) d_X6_begin_8 f_6_9 (by decide) (by decide) (ty_74 hS.1.1) ?_
  refine Tr.tp 75 (fx_74_2 hS.1.1) ?_
  refine Tr.iconst (pc := 11) d_X6_begin_11 (by decide) ?_
  refine Tr.iconst (pc := 12) d_X6_begin_12 (by decide) ?_
  refine Tr.acopyS (pc := 13) (x := 47) (y := 75) (P := St Tru ws_X6_begin_74_7_47 as_X6_begin_74_7_47 M0) d_X6_begin_13 ac_6_85 acw.1 acw.2.1 acw.2.2 (ty_47 hS.1.1) (ty_75 hS.1.1) (by omega) (by omega) (by omega) (by omega) (by omega) (Nat.le_of_ble_eq_true rfl) (sw_75 hS (by decide) rfl rfl rfl (fun z i hz => by rw [rd_cpy, if_neg (fun c => hz c.1)]) (fun i => by rw [rd_cpy]; split; exact And.intro (by have := ar_47 hS.1.2.1 (0 + (i - 0)); omega) (by have := ar_47 hS.1.2.1 (0 + (i - 0)); omega); exact ar_75 hS.1.2.1 i) trivial) (fun M13 hS w13 => ?_)
  refine Tr.aload_n (pc := 16) (i := 0) d_X6_begin_16 rfl rfl ?_
  refine Tr.getf (pc := 17) d_X6_begin_17 f_6_15 (by decide) (by decide) (ty_74 hS.1.1) ?_
  refine Tr.tp 76 (fx_74_3 hS.1.1) ?_
  refine Tr.iconst (pc := 20) d_X6_begin_20 (by decide) ?_
  refine Tr.callS (pc := 21) (as := [_, _]) d_X6_begin_21 s_6_91 ok_J7_fill_53178 rfl rfl (Nat.le_of_ble_eq_true rfl) (Nat.le_of_ble_eq_true rfl) ?_
  refine Tr.imp (sp_fill (N := 6) (ty_76 hS.1.1) (by decide)) ?_
  rintro _ _ ⟨rfl, rfl⟩
  refine Tr.nmA (P := St Tru ws_X6_begin_74_7_47 as_X6_begin_74_7_47 M0) (sf_76 (v := 0) 6 hS (by decide) (by omega) trivial) (fil_wa _ _ _ _) (fun M21 hS w21 => ?_)
  refine Tr.sc [] rfl ?_
  refine Tr.aload_n (pc := 24) (i := 0) d_X6_begin_24 rfl rfl ?_
  refine Tr.getf (pc := 25) d_X6_begin_25 f_6_21 (by decide) (by decide) (ty_74 hS.1.1) ?_
  refine Tr.tp 78 (fx_74_5 hS.1.1) ?_
  refine Tr.iconst (pc := 28) d_X6_begin_28 (by decide) ?_
  refine Tr.callS (pc := 29) (as := [_, _]) d_X6_begin_29 s_6_91 ok_J7_fill_53178 rfl rfl (Nat.le_of_ble_eq_true rfl) (Nat.le_of_ble_eq_true rfl) ?_
  refine Tr.imp (sp_fill (N := 8) (ty_78 hS.1.1) (by decide)) ?_
  rintro _ _ ⟨rfl, rfl⟩
  refine Tr.nmA (P := St Tru ws_X6_begin_74_7_47 as_X6_begin_74_7_47 M0) (sf_78 (v := (-1)) 8 hS (by decide) (by omega) trivial) (fil_wa _ _ _ _) (fun M29 hS w29 => ?_)
  refine Tr.sc [] rfl ?_
  refine Tr.aload_n (pc := 32) (i := 0) d_X6_begin_32 rfl rfl ?_
  refine Tr.getf (pc := 33) d_X6_begin_33 f_6_24 (by decide) (by decide) (ty_74 hS.1.1) ?_
  refine Tr.tp 79 (fx_74_6 hS.1.1) ?_
  refine Tr.iconst (pc := 36) d_X6_begin_36 (by decide) ?_
  refine Tr.callS (pc := 37) (as := [_, _]) d_X6_begin_37 s_6_91 ok_J7_fill_53178 rfl rfl (Nat.le_of_ble_eq_true rfl) (Nat.le_of_ble_eq_true rfl) ?_
  refine Tr.imp (sp_fill (N := 6) (ty_79 hS.1.1) (by decide)) ?_
  rintro _ _ ⟨rfl, rfl⟩
  refine Tr.nmA (P := St Tru ws_X6_begin_74_7_47 as_X6_begin_74_7_47 M0) (sf_79 (v := 0) 6 hS (by decide) (by omega) trivial) (fil_wa _ _ _ _) (fun M37 hS w37 => ?_)
  refine Tr.sc [] rfl ?_
  refine Tr.aload_n (pc := 40) (i := 0) d_X6_begin_40 rfl rfl ?_
  refine Tr.getf (pc := 41) d_X6_begin_41 f_6_27 (by decide) (by decide) (ty_74 hS.1.1) ?_
  refine Tr.tp 80 (fx_74_7 hS.1.1) ?_
  refine Tr.iconst (pc := 44) d_X6_begin_44 (by decide) ?_
  refine Tr.callS (pc := 45) (as := [_, _]) d_X6_begin_45 s_6_91 ok_J7_fill_53178 rfl rfl (Nat.le_of_ble_eq_true rfl) (Nat.le_of_ble_eq_true rfl) ?_
  refine Tr.imp (sp_fill (N := 6) (ty_80 hS.1.1) (by decide)) ?_
  rintro _ _ ⟨rfl, rfl⟩
  refine Tr.nmA (P := St Tru ws_X6_begin_74_7_47 as_X6_begin_74_7_47 M0) (sf_80 (v := 0) 6 hS (by decide) (by omega) trivial) (fil_wa _ _ _ _) (fun M45 hS w45 => ?_)
  refine Tr.sc [] rfl ?_
  refine Tr.aload_n (pc := 48) (i := 0) d_X6_begin_48 rfl rfl ?_
  refine Tr.getf (pc := 49) d_X6_begin_49 f_6_30 (by decide) (by decide) (ty_74 hS.1.1) ?_
  refine Tr.tp 81 (fx_74_8 hS.1.1) ?_
  refine Tr.iconst (pc := 52) d_X6_begin_52 (by decide) ?_
  refine Tr.callS (pc := 53) (as := [_, _]) d_X6_begin_53 s_6_91 ok_J7_fill_53178 rfl rfl (Nat.le_of_ble_eq_true rfl) (Nat.le_of_ble_eq_true rfl) ?_
  refine Tr.imp (sp_fill (N := 6) (ty_81 hS.1.1) (by decide)) ?_
  rintro _ _ ⟨rfl, rfl⟩
  refine Tr.nmA (P := St Tru ws_X6_begin_74_7_47 as_X6_begin_74_7_47 M0) (sf_81 (v := 0) 6 hS (by decide) (by omega) trivial) (fil_wa _ _ _ _) (fun M53 hS w53 => ?_)
  refine Tr.sc [] rfl ?_
  refine Tr.aload_n (pc := 56) (i := 0) d_X6_begin_56 rfl rfl ?_
  refine Tr.iconst (pc := 57) d_X6_begin_57 (by decide) ?_
  refine Tr.putfS (pc := 58) (P := St Tru ws_X6_begin_74_7_47 as_X6_begin_74_7_47 M0) d_X6_begin_58 f_6_68 (by decide) (by decide) (ty_74 hS.1.1) (st_74_9 hS (by decide) (by omega) trivial) (fun M58 hS w58 => ?_)
  refine Tr.aload_n (pc := 61) (i := 0) d_X6_begin_61 rfl rfl ?_
  refine Tr.iconst (pc := 62) d_X6_begin_62 (by decide) ?_
  refine Tr.putfS (pc := 63) (P := St Tru ws_X6_begin_74_7_47 as_X6_begin_74_7_47 M0) d_X6_begin_63 f_6_97 (by decide) (by decide) (ty_74 hS.1.1) (st_74_11 hS (by decide) (by omega) trivial) (fun M63 hS w63 => ?_)
  refine Tr.aload_n (pc := 66) (i := 0) d_X6_begin_66 rfl rfl ?_
  refine Tr.iconst (pc := 67) d_X6_begin_67 (by decide) ?_
  refine Tr.putfS (pc := 68) (P := St Tru ws_X6_begin_74_7_47 as_X6_begin_74_7_47 M0) d_X6_begin_68 f_6_100 (by decide) (by decide) (ty_74 hS.1.1) (st_74_12 hS (by decide) (by omega) trivial) (fun M68 hS w68 => ?_)
  refine Tr.aload_n (pc := 71) (i := 0) d_X6_begin_71 rfl rfl ?_
  refine Tr.iconst (pc := 72) d_X6_begin_72 (by decide) ?_
  refine Tr.putfS (pc := 73) (P := St Tru ws_X6_begin_74_7_47 as_X6_begin_74_7_47 M0) d_X6_begin_73 f_6_103 (by decide) (by decide) (ty_74 hS.1.1) (st_74_13 hS (by decide) (by omega) trivial) (fun M73 hS w73 => ?_)
  refine Tr.aload_n (pc := 76) (i := 0) d_X6_begin_76 rfl rfl ?_
  refine Tr.iconst (pc := 77) d_X6_begin_77 (by decide) ?_
  refine Tr.putfS (pc := 78) (P := St Tru ws_X6_begin_74_7_47 as_X6_begin_74_7_47 M0) d_X6_begin_78 f_6_62 (by decide) (by decide) (ty_74 hS.1.1) (st_74_14 hS (by decide) (by omega) trivial) (fun M78 hS w78 => ?_)
  refine Tr.aload_n (pc := 81) (i := 0) d_X6_begin_81 rfl rfl ?_
  refine Tr.iconst (pc := 82) d_X6_begin_82 (by decide) ?_
  refine Tr.putfS (pc := 83) (P := St Tru ws_X6_begin_74_7_47 as_X6_begin_74_7_47 M0) d_X6_begin_83 f_6_79 (by decide) (by decide) (ty_74 hS.1.1) (st_74_15 hS (by decide) (by omega) trivial) (fun M83 hS w83 => ?_)
  refine Tr.aload_n (pc := 86) (i := 0) d_X6_begin_86 rfl rfl ?_
  refine Tr.iload_n (pc := 87) (i := 3) d_X6_begin_87 rfl rfl ?_
  refine Tr.tp (-1) (by omega) ?_
  refine Tr.if_lt (pc := 88) (tgt := 95) d_X6_begin_88 rfl (fun _ => ?_) (fun hc => absurd (by omega) hc)
  refine Tr.iconst (pc := 95) d_X6_begin_95 (by decide) ?_
  refine Tr.putzS (pc := 96) (P := St Tru ws_X6_begin_74_7_47 as_X6_begin_74_7_47 M0) d_X6_begin_96 f_6_106 (by decide) (ty_74 hS.1.1) (by omega) (st_74_16 hS (by decide) (by omega) trivial) (fun M96 hS w96 => ?_)
  refine Tr.aload_n (pc := 99) (i := 0) d_X6_begin_99 rfl rfl ?_
  refine Tr.iload_n (pc := 100) (i := 3) d_X6_begin_100 rfl rfl ?_
  refine Tr.tp (-1) (by omega) ?_
  refine Tr.putfS (pc := 101) (P := St Tru ws_X6_begin_74_7_47 as_X6_begin_74_7_47 M0) d_X6_begin_101 f_6_110 (by decide) (by decide) (ty_74 hS.1.1) (st_74_17 hS (by decide) (by omega) trivial) (fun M101 hS w101 => ?_)
  refine Tr.aload_n (pc := 104) (i := 0) d_X6_begin_104 rfl rfl ?_
  refine Tr.getf (pc := 105) d_X6_begin_105 f_6_38 (by decide) (by decide) (ty_74 hS.1.1) ?_
  refine Tr.tp 82 (fx_74_0 hS.1.1) ?_
  refine Tr.aload_n (pc := 108) (i := 1) d_X6_begin_108 rfl rfl ?_
  refine Tr.callV (pc := 109) (as := [_]) d_X6_begin_109 s_6_113 ok_X1_begin rfl rfl (Nat.le_of_ble_eq_true rfl) (Nat.le_of_ble_eq_true rfl) (by decide) (ty_82 hS.1.1) ?_
  refine Tr.imp (Tr.deep (by decide) (sp_X1_begin_82_7 hS.1 )) ?_
  rintro M109 _ ⟨h109, o109_82_1, rfl⟩
  have hS := St.tr hS h109 (by decide) (by decide)
  refine Tr.sc [] rfl ?_
  exact Tr.vret (pc := 112) d_X6_begin_112 rfl ⟨hS, ((St.kp h109 (by decide) (by decide) (by decide)).trans ((Wr.b w101 rfl).trans ((Wr.b w96 rfl).trans ((Wr.b w83 rfl).trans ((Wr.b w78 rfl).trans ((Wr.b w73 rfl).trans ((Wr.b w68 rfl).trans ((Wr.b w63 rfl).trans ((Wr.b w58 rfl).trans ((Wa.b w53 rfl).trans ((Wa.b w45 rfl).trans ((Wa.b w37 rfl).trans ((Wa.b w29 rfl).trans ((Wa.b w21 rfl).trans ((Wa.b w13 rfl).trans w2.1))))))))))))))), o109_82_1, rfl⟩

def ws_X1_makeRoom_82 : List (Int × Int) := []
def as_X1_makeRoom_82 : List Int := []
def q_X1_makeRoom_82 (M0 M' : Mem) (r : Option PV) : Prop := St Tru ws_X1_makeRoom_82 as_X1_makeRoom_82 M0 M' ∧ r = none
set_option maxRecDepth 100000 in
set_option maxHeartbeats 4000000 in
theorem sp_X1_makeRoom_82 {l : Launch} {K : EC} {M0 : Mem} (hI : In Tru M0)    : Tr l K 0 mX1_makeRoom 0 [(0, (2, 82))] [] M0 (q_X1_makeRoom_82 M0) := by
  have hS : St Tru ws_X1_makeRoom_82 as_X1_makeRoom_82 M0 M0 := St.rf hI
  refine Tr.aload_n (pc := 0) (i := 0) d_X1_makeRoom_0 rfl rfl ?_
  refine Tr.getz (pc := 1) d_X1_makeRoom_1 f_1_37 (by decide) (ty_82 hS.1.1) ?_
  refine Tr.tp 0 (fx_82_0 hS.1.1) ?_
  refine Tr.if_eq (pc := 4) (tgt := 14) d_X1_makeRoom_4 rfl (fun _ => ?_) (fun hc => absurd (by omega) hc)
  exact Tr.vret (pc := 14) d_X1_makeRoom_14 rfl ⟨hS, rfl⟩

def ws_X6_sipsAt_74 : List (Int × Int) := []
def as_X6_sipsAt_74 : List Int := []
def q_X6_sipsAt_74 (M0 M' : Mem) (r : Option PV) : Prop := St Tru ws_X6_sipsAt_74 as_X6_sipsAt_74 M0 M' ∧ ∃ v : Int, r = some (0, v) ∧ (-2147483648) ≤ v ∧ v ≤ 2147483647
set_option maxRecDepth 100000 in
set_option maxHeartbeats 4000000 in
theorem sp_X6_sipsAt_74 {l : Launch} {K : EC} {M0 : Mem} (hI : In Tru M0) (en_74_1 : rd M0 74 1 = 7) (a1 : Int) (ha1 : (-2147483648) ≤ a1 ∧ a1 ≤ 2147483647) (a2 : Int) (ha2 : (-1) ≤ a2 ∧ a2 ≤ (-1)) (a3 : Int) (ha3 : 0 ≤ a3 ∧ a3 ≤ 0)  : Tr l K 0 mX6_sipsAt 0 [(0, (2, 74)), (1, (0, a1)), (2, (0, a2)), (3, (0, a3))] [] M0 (q_X6_sipsAt_74 M0) := by
  have hS : St Tru ws_X6_sipsAt_74 as_X6_sipsAt_74 M0 M0 := St.rf hI
  refine Tr.aload_n (pc := 0) (i := 0) d_X6_sipsAt_0 rfl rfl ?_
  refine Tr.getf (pc := 1) d_X6_sipsAt_1 f_6_46 (by decide) (by decide) (ty_74 hS.1.1) ?_
  refine Tr.tp 7 ((St.kp hS (by decide) (by decide) (by decide)).trans en_74_1) ?_
  refine Tr.getf (pc := 4) d_X6_sipsAt_4 f_6_135 (by decide) (by decide) (ty_7 hS.1.1) ?_
  refine Tr.gen (P := fun v => (-1) ≤ v ∧ v ≤ 999) (ir_7_0 hS.1.2.1) (fun r4 er4 br4 => ?_)
  refine Tr.istore (pc := 7) (i := 4) (ls2 := [(4, (0, r4)), (0, (2, 74)), (1, (0, a1)), (2, (0, a2)), (3, (0, a3))]) d_X6_sipsAt_7 (by decide) rfl ?_
  refine Tr.iconst (pc := 9) d_X6_sipsAt_9 (by decide) ?_
  refine Tr.istore (pc := 10) (i := 5) (ls2 := [(5, (0, 0)), (4, (0, r4)), (0, (2, 74)), (1, (0, a1)), (2, (0, a2)), (3, (0, a3))]) d_X6_sipsAt_10 (by decide) rfl ?_
  have J12 : ∀ (n12 : Nat) (M : Mem) (p12_4 p12_5 : Int), St Tru ws_X6_sipsAt_74 as_X6_sipsAt_74 M0 M → ((-2147483648) ≤ p12_4 ∧ p12_4 ≤ 2147483647) → (0 ≤ p12_5 ∧ p12_5 ≤ 6) → rd M 7 0 = r4 → (6 - p12_5).toNat < n12 → Tr l K 0 mX6_sipsAt 12 [(0, (2, 74)), (1, (0, a1)), (2, (0, a2)), (3, (0, a3)), (4, (0, p12_4)), (5, (0, p12_5))] [] M (q_X6_sipsAt_74 M0) := by
    intro n12
    induction n12 with
    | zero => intro M p12_4 p12_5 hS bp12_4 bp12_5 k12_7_0 hm12; exact absurd hm12 (Nat.not_lt_zero _)
    | succ n12 J12 =>
      intro M p12_4 p12_5 hS bp12_4 bp12_5 k12_7_0 hm12
      refine Tr.iload (pc := 12) (i := 5) d_X6_sipsAt_12 rfl ?_
      refine Tr.aload_n (pc := 14) (i := 0) d_X6_sipsAt_14 rfl rfl ?_
      refine Tr.getf (pc := 15) d_X6_sipsAt_15 f_6_46 (by decide) (by decide) (ty_74 hS.1.1) ?_
      refine Tr.tp 7 ((St.kp hS (by decide) (by decide) (by decide)).trans en_74_1) ?_
      refine Tr.getf (pc := 18) d_X6_sipsAt_18 f_6_116 (by decide) (by decide) (ty_7 hS.1.1) ?_
      refine Tr.tp 8 (fx_7_4 hS.1.1) ?_
      refine Tr.iconst (pc := 21) d_X6_sipsAt_21 (by decide) ?_
      refine Tr.iald (pc := 22) d_X6_sipsAt_22 (ty_8 hS.1.1) (by omega) (by omega) ?_
      refine Tr.gen (P := fun v => 0 ≤ v ∧ v ≤ 6) (ir_8_0 hS.1.2.1) (fun r22 er22 br22 => ?_)
      refine Tr.icmp_ge (pc := 23) (tgt := 91) d_X6_sipsAt_23 rfl (fun c23 => ?_) (fun c23 => ?_)
      · refine Tr.iload (pc := 91) (i := 4) d_X6_sipsAt_91 rfl ?_
        exact Tr.iret (pc := 93) d_X6_sipsAt_93 rfl ⟨hS, _, rfl, by omega, by omega⟩
      · refine Tr.aload_n (pc := 26) (i := 0) d_X6_sipsAt_26 rfl rfl ?_
        refine Tr.getf (pc := 27) d_X6_sipsAt_27 f_6_24 (by decide) (by decide) (ty_74 hS.1.1) ?_
        refine Tr.tp 79 (fx_74_6 hS.1.1) ?_
        refine Tr.iload (pc := 30) (i := 5) d_X6_sipsAt_30 rfl ?_
        refine Tr.iald (pc := 32) d_X6_sipsAt_32 (ty_79 hS.1.1) (by omega) (by omega) ?_
        refine Tr.gen (P := fun v => 0 ≤ v ∧ v ≤ 1) (ar_79 hS.1.2.1 _) (fun r32 er32 br32 => ?_)
        refine Tr.iconst (pc := 33) d_X6_sipsAt_33 (by decide) ?_
        have J53 : ∀ (M : Mem) (q53_0 : Int), St Tru ws_X6_sipsAt_74 as_X6_sipsAt_74 M0 M → (0 ≤ q53_0 ∧ q53_0 ≤ 2) → rd M 7 0 = r4 → rd M 79 p12_5 = r32 → rd M 8 0 = r22 → Tr l K 0 mX6_sipsAt 53 [(0, (2, 74)), (1, (0, a1)), (2, (0, a2)), (3, (0, a3)), (4, (0, p12_4)), (5, (0, p12_5))] [(0, q53_0)] M (q_X6_sipsAt_74 M0) := by
          intro M q53_0 hS bq53_0 k53_7_0 k53_79_p12_510 k53_8_0
          refine Tr.istore (pc := 53) (i := 6) (ls2 := [(6, (0, q53_0)), (0, (2, 74)), (1, (0, a1)), (2, (0, a2)), (3, (0, a3)), (4, (0, p12_4)), (5, (0, p12_5))]) d_X6_sipsAt_53 (by decide) rfl ?_
          refine Tr.iload (pc := 55) (i := 4) d_X6_sipsAt_55 rfl ?_
          refine Tr.aload_n (pc := 57) (i := 0) d_X6_sipsAt_57 rfl rfl ?_
          refine Tr.getf (pc := 58) d_X6_sipsAt_58 f_6_46 (by decide) (by decide) (ty_74 hS.1.1) ?_
          refine Tr.tp 7 ((St.kp hS (by decide) (by decide) (by decide)).trans en_74_1) ?_
          refine Tr.getf (pc := 61) d_X6_sipsAt_61 f_6_189 (by decide) (by decide) (ty_7 hS.1.1) ?_
          refine Tr.tp 9 (fx_7_5 hS.1.1) ?_
          refine Tr.iload (pc := 64) (i := 5) d_X6_sipsAt_64 rfl ?_
          refine Tr.iconst (pc := 66) d_X6_sipsAt_66 (by decide) ?_
          refine Tr.imul (pc := 67) d_X6_sipsAt_67 ?_
          refine Tr.tp (4 * p12_5) ((w32_id (by omega)).trans (by omega)) ?_
          refine Tr.iload (pc := 68) (i := 5) d_X6_sipsAt_68 rfl ?_
          refine Tr.iload_n (pc := 70) (i := 2) d_X6_sipsAt_70 rfl rfl ?_
          refine Tr.tp (-1) (by omega) ?_
          refine Tr.icmp_ne (pc := 71) (tgt := 78) d_X6_sipsAt_71 rfl (fun _ => ?_) (fun hc => absurd hc (by omega))
          refine Tr.iload (pc := 78) (i := 6) d_X6_sipsAt_78 rfl ?_
          refine Tr.iadd (pc := 80) d_X6_sipsAt_80 ?_
          refine Tr.tp (4 * p12_5 + q53_0) ((w32_id (by omega)).trans (by omega)) ?_
          refine Tr.iald (pc := 81) d_X6_sipsAt_81 (ty_9 hS.1.1) (by omega) (by omega) ?_
          refine Tr.gen (P := fun v => (-1) ≤ v ∧ v ≤ 999) (ar_9 hS.1.2.1 _) (fun r81 er81 br81 => ?_)
          refine Tr.iadd (pc := 82) d_X6_sipsAt_82 ?_
          refine Tr.gen (P := fun v => (-2147483648) ≤ v ∧ v ≤ 2147483647) (w32_b _) (fun r82 er82 br82 => ?_)
          refine Tr.istore (pc := 83) (i := 4) (ls2 := [(4, (0, r82)), (6, (0, q53_0)), (0, (2, 74)), (1, (0, a1)), (2, (0, a2)), (3, (0, a3)), (5, (0, p12_5))]) d_X6_sipsAt_83 (by decide) rfl ?_
          refine Tr.iincV (pc := 85) (n2 := (p12_5 + 1)) (ls2 := [(5, (0, (p12_5 + 1))), (4, (0, r82)), (6, (0, q53_0)), (0, (2, 74)), (1, (0, a1)), (2, (0, a2)), (3, (0, a3))]) d_X6_sipsAt_85 rfl (by decide) ((w32_id (by omega)).trans (by omega)) rfl ?_
          refine Tr.goto (pc := 88) (tgt := 12) d_X6_sipsAt_88 rfl ?_
          refine Tr.pick [3, 4, 5, 6, 1, 0] (ls2 := [(0, (2, 74)), (1, (0, a1)), (2, (0, a2)), (3, (0, a3)), (4, (0, r82)), (5, (0, (p12_5 + 1)))]) rfl ?_
          exact J12 _ _ _ hS (by omega) (by omega) k53_7_0 (by omega)
        have J48 : ∀ (M : Mem), St Tru ws_X6_sipsAt_74 as_X6_sipsAt_74 M0 M → rd M 7 0 = r4 → rd M 79 p12_5 = r32 → rd M 8 0 = r22 → Tr l K 0 mX6_sipsAt 48 [(0, (2, 74)), (1, (0, a1)), (2, (0, a2)), (3, (0, a3)), (4, (0, p12_4)), (5, (0, p12_5))] [] M (q_X6_sipsAt_74 M0) := by
          intro M  hS  k48_7_0 k48_79_p12_510 k48_8_0
          refine Tr.iconst (pc := 48) d_X6_sipsAt_48 (by decide) ?_
          refine Tr.goto (pc := 49) (tgt := 53) d_X6_sipsAt_49 rfl ?_
          refine Tr.pick [0, 1, 2, 3, 4, 5] (ls2 := [(0, (2, 74)), (1, (0, a1)), (2, (0, a2)), (3, (0, a3)), (4, (0, p12_4)), (5, (0, p12_5))]) rfl ?_
          exact J53 _ _ hS (by omega) k48_7_0 k48_79_p12_510 k48_8_0
        refine Tr.icmp_eq (pc := 34) (tgt := 48) d_X6_sipsAt_34 rfl (fun c34 => ?_) (fun c34 => ?_)
        · refine Tr.pick [0, 1, 2, 3, 4, 5] (ls2 := [(0, (2, 74)), (1, (0, a1)), (2, (0, a2)), (3, (0, a3)), (4, (0, p12_4)), (5, (0, p12_5))]) rfl ?_
          exact J48 _ hS k12_7_0 er32 er22
        · refine Tr.iload_n (pc := 37) (i := 1) d_X6_sipsAt_37 rfl rfl ?_
          refine Tr.aload_n (pc := 38) (i := 0) d_X6_sipsAt_38 rfl rfl ?_
          refine Tr.getf (pc := 39) d_X6_sipsAt_39 f_6_27 (by decide) (by decide) (ty_74 hS.1.1) ?_
          refine Tr.tp 80 (fx_74_7 hS.1.1) ?_
          refine Tr.iload (pc := 42) (i := 5) d_X6_sipsAt_42 rfl ?_
          refine Tr.iald (pc := 44) d_X6_sipsAt_44 (ty_80 hS.1.1) (by omega) (by omega) ?_
          refine Tr.gen (P := fun v => (-2147483648) ≤ v ∧ v ≤ 2147483647) (ar_80 hS.1.2.1 _) (fun r44 er44 br44 => ?_)
          refine Tr.icmp_ge (pc := 45) (tgt := 52) d_X6_sipsAt_45 rfl (fun c45 => ?_) (fun c45 => ?_)
          · refine Tr.iconst (pc := 52) d_X6_sipsAt_52 (by decide) ?_
            refine Tr.pick [0, 1, 2, 3, 4, 5] (ls2 := [(0, (2, 74)), (1, (0, a1)), (2, (0, a2)), (3, (0, a3)), (4, (0, p12_4)), (5, (0, p12_5))]) rfl ?_
            exact J53 _ _ hS (by omega) k12_7_0 er32 er22
          · refine Tr.pick [0, 1, 2, 3, 4, 5] (ls2 := [(0, (2, 74)), (1, (0, a1)), (2, (0, a2)), (3, (0, a3)), (4, (0, p12_4)), (5, (0, p12_5))]) rfl ?_
            exact J48 _ hS k12_7_0 er32 er22
  refine Tr.pick [2, 3, 4, 5, 1, 0] (ls2 := [(0, (2, 74)), (1, (0, a1)), (2, (0, a2)), (3, (0, a3)), (4, (0, r4)), (5, (0, 0))]) rfl ?_
  exact J12 _ _ _ _ hS (by omega) (by omega) er4 (Nat.lt_succ_self _)

def ws_X6_afforded_74 : List (Int × Int) := [(74, 17)]
def as_X6_afforded_74 : List Int := []
def q_X6_afforded_74 (M0 M' : Mem) (r : Option PV) : Prop := St Tru ws_X6_afforded_74 as_X6_afforded_74 M0 M' ∧ ∃ v : Int, r = some (0, v) ∧ (-2147483648) ≤ v ∧ v ≤ 1
set_option maxRecDepth 100000 in
set_option maxHeartbeats 4000000 in
theorem sp_X6_afforded_74 {l : Launch} {K : EC} {M0 : Mem} (hI : In Tru M0) (en_74_1 : rd M0 74 1 = 7) (a1 : Int) (ha1 : (-2147483648) ≤ a1 ∧ a1 ≤ 1) (a2 : Int) (ha2 : (-1) ≤ a2 ∧ a2 ≤ (-1)) (a3 : Int) (ha3 : 0 ≤ a3 ∧ a3 ≤ 0)  : Tr l K 1 mX6_afforded 0 [(0, (2, 74)), (1, (0, a1)), (2, (0, a2)), (3, (0, a3))] [] M0 (q_X6_afforded_74 M0) := by
  have hS : St Tru ws_X6_afforded_74 as_X6_afforded_74 M0 M0 := St.rf hI
  refine Tr.iconst (pc := 0) d_X6_afforded_0 (by decide) ?_
  refine Tr.istore (pc := 1) (i := 4) (ls2 := [(4, (0, 0)), (0, (2, 74)), (1, (0, a1)), (2, (0, a2)), (3, (0, a3))]) d_X6_afforded_1 (by decide) rfl ?_
  have J3 : ∀ (n3 : Nat) (M : Mem) (p3_4 : Int), St Tru ws_X6_afforded_74 as_X6_afforded_74 M0 M → (0 ≤ p3_4 ∧ p3_4 ≤ 1) → (1 - p3_4).toNat < n3 → Tr l K 1 mX6_afforded 3 [(0, (2, 74)), (1, (0, a1)), (2, (0, a2)), (3, (0, a3)), (4, (0, p3_4))] [] M (q_X6_afforded_74 M0) := by
    intro n3
    induction n3 with
    | zero => intro M p3_4 hS bp3_4  hm3; exact absurd hm3 (Nat.not_lt_zero _)
    | succ n3 J3 =>
      intro M p3_4 hS bp3_4  hm3
      refine Tr.iload (pc := 3) (i := 4) d_X6_afforded_3 rfl ?_
      refine Tr.iload_n (pc := 5) (i := 1) d_X6_afforded_5 rfl rfl ?_
      refine Tr.icmp_ge (pc := 6) (tgt := 53) d_X6_afforded_6 rfl (fun c6 => ?_) (fun c6 => ?_)
      · refine Tr.iload_n (pc := 53) (i := 1) d_X6_afforded_53 rfl rfl ?_
        exact Tr.iret (pc := 54) d_X6_afforded_54 rfl ⟨hS, _, rfl, by omega, by omega⟩
      · refine Tr.aload_n (pc := 9) (i := 0) d_X6_afforded_9 rfl rfl ?_
        refine Tr.aload_n (pc := 10) (i := 0) d_X6_afforded_10 rfl rfl ?_
        refine Tr.getf (pc := 11) d_X6_afforded_11 f_6_68 (by decide) (by decide) (ty_74 hS.1.1) ?_
        refine Tr.gen (P := fun v => (-2147483648) ≤ v ∧ v ≤ 2147483647) (ir_74_9 hS.1.2.1) (fun r11 er11 br11 => ?_)
        refine Tr.iload (pc := 14) (i := 4) d_X6_afforded_14 rfl ?_
        refine Tr.iadd (pc := 16) d_X6_afforded_16 ?_
        refine Tr.tp (p3_4 + r11) ((w32_id (by omega)).trans (by omega)) ?_
        refine Tr.iload_n (pc := 17) (i := 2) d_X6_afforded_17 rfl rfl ?_
        refine Tr.tp (-1) (by omega) ?_
        refine Tr.iload_n (pc := 18) (i := 3) d_X6_afforded_18 rfl rfl ?_
        refine Tr.tp 0 (by omega) ?_
        refine Tr.callV (pc := 19) (as := [_, _, _]) d_X6_afforded_19 s_6_186 ok_X6_sipsAt rfl rfl (Nat.le_of_ble_eq_true rfl) (Nat.le_of_ble_eq_true rfl) (by decide) (ty_74 hS.1.1) ?_
        refine Tr.imp (Tr.deep (by decide) (sp_X6_sipsAt_74 hS.1 ((St.kp hS (by decide) (by decide) (by decide)).trans en_74_1) (p3_4 + r11) (by omega) (-1) (by omega) 0 (by omega))) ?_
        rintro M19 _ ⟨h19, r19, rfl, lr19, ur19⟩
        have hS := St.tr hS h19 (by decide) (by decide)
        refine Tr.sc [(0, r19)] rfl ?_
        refine Tr.istore (pc := 22) (i := 5) (ls2 := [(5, (0, r19)), (0, (2, 74)), (1, (0, a1)), (2, (0, a2)), (3, (0, a3)), (4, (0, p3_4))]) d_X6_afforded_22 (by decide) rfl ?_
        refine Tr.iload (pc := 24) (i := 5) d_X6_afforded_24 rfl ?_
        refine Tr.aload_n (pc := 26) (i := 0) d_X6_afforded_26 rfl rfl ?_
        refine Tr.getf (pc := 27) d_X6_afforded_27 f_6_110 (by decide) (by decide) (ty_74 hS.1.1) ?_
        refine Tr.gen (P := fun v => (-2147483648) ≤ v ∧ v ≤ 2147483647) (ir_74_17 hS.1.2.1) (fun r27 er27 br27 => ?_)
        refine Tr.icmp_le (pc := 30) (tgt := 36) d_X6_afforded_30 rfl (fun c30 => ?_) (fun c30 => ?_)
        · refine Tr.aload_n (pc := 36) (i := 0) d_X6_afforded_36 rfl rfl ?_
          refine Tr.dup (pc := 37) d_X6_afforded_37 ne21 ?_
          refine Tr.getf (pc := 38) d_X6_afforded_38 f_6_110 (by decide) (by decide) (ty_74 hS.1.1) ?_
          refine Tr.tp r27 er27 ?_
          refine Tr.iload (pc := 41) (i := 5) d_X6_afforded_41 rfl ?_
          refine Tr.isub (pc := 43) d_X6_afforded_43 ?_
          refine Tr.gen (P := fun v => (-2147483648) ≤ v ∧ v ≤ 2147483647) (w32_b _) (fun r43 er43 br43 => ?_)
          refine Tr.putfS (pc := 44) (P := St Tru ws_X6_afforded_74 as_X6_afforded_74 M0) d_X6_afforded_44 f_6_110 (by decide) (by decide) (ty_74 hS.1.1) (st_74_17 hS (by decide) (by omega) trivial) (fun M44 hS w44 => ?_)
          refine Tr.iincV (pc := 47) (n2 := (p3_4 + 1)) (ls2 := [(4, (0, (p3_4 + 1))), (5, (0, r19)), (0, (2, 74)), (1, (0, a1)), (2, (0, a2)), (3, (0, a3))]) d_X6_afforded_47 rfl (by decide) ((w32_id (by omega)).trans (by omega)) rfl ?_
          refine Tr.goto (pc := 50) (tgt := 3) d_X6_afforded_50 rfl ?_
          refine Tr.pick [2, 3, 4, 5, 0] (ls2 := [(0, (2, 74)), (1, (0, a1)), (2, (0, a2)), (3, (0, a3)), (4, (0, (p3_4 + 1)))]) rfl ?_
          exact J3 _ _ hS (by omega) (by omega)
        · refine Tr.iload (pc := 33) (i := 4) d_X6_afforded_33 rfl ?_
          exact Tr.iret (pc := 35) d_X6_afforded_35 rfl ⟨hS, _, rfl, by omega, by omega⟩
  refine Tr.pick [1, 2, 3, 4, 0] (ls2 := [(0, (2, 74)), (1, (0, a1)), (2, (0, a2)), (3, (0, a3)), (4, (0, 0))]) rfl ?_
  exact J3 _ _ _ hS (by omega) (Nat.lt_succ_self _)

def ws_X6_pass_74 : List (Int × Int) := [(74, 9), (74, 14), (74, 17)]
def as_X6_pass_74 : List Int := []
def q_X6_pass_74 (M0 M' : Mem) (r : Option PV) : Prop := St Tru ws_X6_pass_74 as_X6_pass_74 M0 M' ∧ ∃ v : Int, r = some (0, v) ∧ (-2147483648) ≤ v ∧ v ≤ 1
set_option maxRecDepth 100000 in
set_option maxHeartbeats 4000000 in
theorem sp_X6_pass_74 {l : Launch} {K : EC} {M0 : Mem} (hI : In Tru M0) (en_74_1 : rd M0 74 1 = 7) (a1 : Int) (ha1 : 1 ≤ a1 ∧ a1 ≤ 1) (a2 : Int) (ha2 : (-1) ≤ a2 ∧ a2 ≤ (-1)) (a3 : Int) (ha3 : 0 ≤ a3 ∧ a3 ≤ 0)  : Tr l K 2 mX6_pass 0 [(0, (2, 74)), (1, (0, a1)), (2, (0, a2)), (3, (0, a3))] [] M0 (q_X6_pass_74 M0) := by
  have hS : St Tru ws_X6_pass_74 as_X6_pass_74 M0 M0 := St.rf hI
  refine Tr.iload_n (pc := 0) (i := 1) d_X6_pass_0 rfl rfl ?_
  refine Tr.tp 1 (by omega) ?_
  refine Tr.sipush (pc := 1) d_X6_pass_1 rfl (by decide) ?_
  refine Tr.aload_n (pc := 4) (i := 0) d_X6_pass_4 rfl rfl ?_
  refine Tr.getf (pc := 5) d_X6_pass_5 f_6_68 (by decide) (by decide) (ty_74 hS.1.1) ?_
  refine Tr.gen (P := fun v => (-2147483648) ≤ v ∧ v ≤ 2147483647) (ir_74_9 hS.1.2.1) (fun r5 er5 br5 => ?_)
  refine Tr.isub (pc := 8) d_X6_pass_8 ?_
  refine Tr.gen (P := fun v => (-2147483648) ≤ v ∧ v ≤ 2147483647) (w32_b _) (fun r8 er8 br8 => ?_)
  refine Tr.mmin (pc := 9) d_X6_pass_9 ml_6_158 mw_mmin (Nat.le_of_ble_eq_true rfl) ?_
  refine Tr.gen (P := fun v => (v = 1 ∧ 1 ≤ r8) ∨ (v = r8 ∧ r8 ≤ 1)) (f_min_p _ _) (fun r9 er9 br9 => ?_)
  refine Tr.istore (pc := 12) (i := 4) (ls2 := [(4, (0, r9)), (0, (2, 74)), (1, (0, a1)), (2, (0, a2)), (3, (0, a3))]) d_X6_pass_12 (by decide) rfl ?_
  refine Tr.aload_n (pc := 14) (i := 0) d_X6_pass_14 rfl rfl ?_
  refine Tr.getz (pc := 15) d_X6_pass_15 f_6_106 (by decide) (ty_74 hS.1.1) ?_
  refine Tr.gen (P := fun v => 0 ≤ v ∧ v ≤ 1) (ir_74_16 hS.1.2.1) (fun r15 er15 br15 => ?_)
  have J34 : ∀ (M : Mem) (q34_0 : Int), St Tru ws_X6_pass_74 as_X6_pass_74 M0 M → ((-2147483648) ≤ q34_0 ∧ q34_0 ≤ 1) → rd M 74 16 = r15 → rd M 74 9 = r5 → Tr l K 2 mX6_pass 34 [(0, (2, 74)), (1, (0, a1)), (4, (0, r9))] [(0, q34_0)] M (q_X6_pass_74 M0) := by
    intro M q34_0 hS bq34_0 k34_74_16 k34_74_9
    refine Tr.istore (pc := 34) (i := 5) (ls2 := [(5, (0, q34_0)), (0, (2, 74)), (1, (0, a1)), (4, (0, r9))]) d_X6_pass_34 (by decide) rfl ?_
    refine Tr.aload_n (pc := 36) (i := 0) d_X6_pass_36 rfl rfl ?_
    refine Tr.dup (pc := 37) d_X6_pass_37 ne21 ?_
    refine Tr.getf (pc := 38) d_X6_pass_38 f_6_68 (by decide) (by decide) (ty_74 hS.1.1) ?_
    refine Tr.tp r5 k34_74_9 ?_
    refine Tr.iload (pc := 41) (i := 5) d_X6_pass_41 rfl ?_
    refine Tr.iadd (pc := 43) d_X6_pass_43 ?_
    refine Tr.gen (P := fun v => (-2147483648) ≤ v ∧ v ≤ 2147483647) (w32_b _) (fun r43 er43 br43 => ?_)
    refine Tr.putfS (pc := 44) (P := St Tru ws_X6_pass_74 as_X6_pass_74 M0) d_X6_pass_44 f_6_68 (by decide) (by decide) (ty_74 hS.1.1) (st_74_9 hS (by decide) (by omega) trivial) (fun M44 hS w44 => ?_)
    refine Tr.iload (pc := 47) (i := 5) d_X6_pass_47 rfl ?_
    refine Tr.iload_n (pc := 49) (i := 1) d_X6_pass_49 rfl rfl ?_
    refine Tr.tp 1 (by omega) ?_
    refine Tr.icmp_ge (pc := 50) (tgt := 69) d_X6_pass_50 rfl (fun c50 => ?_) (fun c50 => ?_)
    · refine Tr.iload (pc := 69) (i := 5) d_X6_pass_69 rfl ?_
      refine Tr.tp 1 (by omega) ?_
      exact Tr.iret (pc := 71) d_X6_pass_71 rfl ⟨hS, _, rfl, by omega, by omega⟩
    · refine Tr.aload_n (pc := 53) (i := 0) d_X6_pass_53 rfl rfl ?_
      refine Tr.iload (pc := 54) (i := 5) d_X6_pass_54 rfl ?_
      refine Tr.iload (pc := 56) (i := 4) d_X6_pass_56 rfl ?_
      refine Tr.icmp_ne (pc := 58) (tgt := 65) d_X6_pass_58 rfl (fun c58 => ?_) (fun c58 => ?_)
      · refine Tr.iconst (pc := 65) d_X6_pass_65 (by decide) ?_
        refine Tr.putfS (pc := 66) (P := St Tru ws_X6_pass_74 as_X6_pass_74 M0) d_X6_pass_66 f_6_62 (by decide) (by decide) (ty_74 hS.1.1) (st_74_14 hS (by decide) (by omega) trivial) (fun M66 hS w66 => ?_)
        refine Tr.iload (pc := 69) (i := 5) d_X6_pass_69 rfl ?_
        exact Tr.iret (pc := 71) d_X6_pass_71 rfl ⟨hS, _, rfl, by omega, by omega⟩
      · refine Tr.iconst (pc := 61) d_X6_pass_61 (by decide) ?_
        refine Tr.goto (pc := 62) (tgt := 66) d_X6_pass_62 rfl ?_
        refine Tr.putfS (pc := 66) (P := St Tru ws_X6_pass_74 as_X6_pass_74 M0) d_X6_pass_66 f_6_62 (by decide) (by decide) (ty_74 hS.1.1) (st_74_14 hS (by decide) (by omega) trivial) (fun M66 hS w66 => ?_)
        refine Tr.iload (pc := 69) (i := 5) d_X6_pass_69 rfl ?_
        exact Tr.iret (pc := 71) d_X6_pass_71 rfl ⟨hS, _, rfl, by omega, by omega⟩
  refine Tr.if_eq (pc := 18) (tgt := 32) d_X6_pass_18 rfl (fun c18 => ?_) (fun c18 => ?_)
  · refine Tr.iload (pc := 32) (i := 4) d_X6_pass_32 rfl ?_
    refine Tr.pick [1, 2, 0] (ls2 := [(0, (2, 74)), (1, (0, a1)), (4, (0, r9))]) rfl ?_
    exact J34 _ _ hS (by omega) er15 er5
  · refine Tr.aload_n (pc := 21) (i := 0) d_X6_pass_21 rfl rfl ?_
    refine Tr.iload (pc := 22) (i := 4) d_X6_pass_22 rfl ?_
    refine Tr.iload_n (pc := 24) (i := 2) d_X6_pass_24 rfl rfl ?_
    refine Tr.tp (-1) (by omega) ?_
    refine Tr.iload_n (pc := 25) (i := 3) d_X6_pass_25 rfl rfl ?_
    refine Tr.tp 0 (by omega) ?_
    refine Tr.callV (pc := 26) (as := [_, _, _]) d_X6_pass_26 s_6_183 ok_X6_afforded rfl rfl (Nat.le_of_ble_eq_true rfl) (Nat.le_of_ble_eq_true rfl) (by decide) (ty_74 hS.1.1) ?_
    refine Tr.imp (Tr.deep (by decide) (sp_X6_afforded_74 hS.1 ((St.kp hS (by decide) (by decide) (by decide)).trans en_74_1) r9 (by omega) (-1) (by omega) 0 (by omega))) ?_
    rintro M26 _ ⟨h26, r26, rfl, lr26, ur26⟩
    have hS := St.tr hS h26 (by decide) (by decide)
    refine Tr.sc [(0, r26)] rfl ?_
    refine Tr.goto (pc := 29) (tgt := 34) d_X6_pass_29 rfl ?_
    refine Tr.pick [1, 2, 0] (ls2 := [(0, (2, 74)), (1, (0, a1)), (4, (0, r9))]) rfl ?_
    exact J34 _ _ hS (by omega) ((St.kp h26 (by decide) (by decide) (by decide)).trans er15) ((St.kp h26 (by decide) (by decide) (by decide)).trans er5)

def ws_X6_single_74 : List (Int × Int) := []
def as_X6_single_74 : List Int := []
def q_X6_single_74 (M0 M' : Mem) (r : Option PV) : Prop := St Tru ws_X6_single_74 as_X6_single_74 M0 M' ∧ ∃ v : Int, r = some (0, v) ∧ (-2147483648) ≤ v ∧ v ≤ 2147483647
set_option maxRecDepth 100000 in
set_option maxHeartbeats 4000000 in
theorem sp_X6_single_74 {l : Launch} {K : EC} {M0 : Mem} (hI : In Tru M0)  (a1 : Int) (ha1 : (-2147483648) ≤ a1 ∧ a1 ≤ 5) (a2 : Int) (ha2 : (-2147483648) ≤ a2 ∧ a2 ≤ 2147483647) (hp0 : (a1 = 1 → 0 ≤ a2 ∧ a2 ≤ 2) ∧ (a1 = 2 ∨ a1 = 4 → 0 ≤ a2 ∧ a2 ≤ 5)) : Tr l K 0 mX6_single 0 [(0, (2, 74)), (1, (0, a1)), (2, (0, a2))] [] M0 (q_X6_single_74 M0) := by
  have hS : St Tru ws_X6_single_74 as_X6_single_74 M0 M0 := St.rf hI
  refine Tr.iload_n (pc := 0) (i := 1) d_X6_single_0 rfl rfl ?_
  rcases (show (a1 < 1 ∨ 4 < a1) ∨ a1 = 1 ∨ a1 = 2 ∨ a1 = 3 ∨ a1 = 4 by omega) with c1 | c1 | c1 | c1 | c1
  · refine Tr.tswOut (pc := 1) (tgt := 58) d_X6_single_1 c1 rfl ?_
    refine Tr.iload_n (pc := 58) (i := 2) d_X6_single_58 rfl rfl ?_
    exact Tr.iret (pc := 59) d_X6_single_59 rfl ⟨hS, _, rfl, by omega, by omega⟩
  · refine Tr.tp 1 c1 ?_
    refine Tr.tswIn (pc := 1) (off := 31) (tgt := 32) d_X6_single_1 (by decide) (by decide) rfl rfl ?_
    refine Tr.aload_n (pc := 32) (i := 0) d_X6_single_32 rfl rfl ?_
    refine Tr.getf (pc := 33) d_X6_single_33 f_6_9 (by decide) (by decide) (ty_74 hS.1.1) ?_
    refine Tr.tp 75 (fx_74_2 hS.1.1) ?_
    refine Tr.iload_n (pc := 36) (i := 2) d_X6_single_36 rfl rfl ?_
    refine Tr.iald (pc := 37) d_X6_single_37 (ty_75 hS.1.1) (by omega) (by omega) ?_
    refine Tr.gen (P := fun v => (-2147483648) ≤ v ∧ v ≤ 2147483647) (ar_75 hS.1.2.1 _) (fun r37 er37 br37 => ?_)
    exact Tr.iret (pc := 38) d_X6_single_38 rfl ⟨hS, _, rfl, by omega, by omega⟩
  · refine Tr.tp 2 c1 ?_
    refine Tr.tswIn (pc := 1) (off := 38) (tgt := 39) d_X6_single_1 (by decide) (by decide) rfl rfl ?_
    refine Tr.aload_n (pc := 39) (i := 0) d_X6_single_39 rfl rfl ?_
    refine Tr.getf (pc := 40) d_X6_single_40 f_6_15 (by decide) (by decide) (ty_74 hS.1.1) ?_
    refine Tr.tp 76 (fx_74_3 hS.1.1) ?_
    refine Tr.iload_n (pc := 43) (i := 2) d_X6_single_43 rfl rfl ?_
    refine Tr.iald (pc := 44) d_X6_single_44 (ty_76 hS.1.1) (by omega) (by omega) ?_
    refine Tr.gen (P := fun v => (-2147483648) ≤ v ∧ v ≤ 2147483647) (ar_76 hS.1.2.1 _) (fun r44 er44 br44 => ?_)
    exact Tr.iret (pc := 45) d_X6_single_45 rfl ⟨hS, _, rfl, by omega, by omega⟩
  · refine Tr.tp 3 c1 ?_
    refine Tr.tswIn (pc := 1) (off := 45) (tgt := 46) d_X6_single_1 (by decide) (by decide) rfl rfl ?_
    refine Tr.aload_n (pc := 46) (i := 0) d_X6_single_46 rfl rfl ?_
    refine Tr.getf (pc := 47) d_X6_single_47 f_6_68 (by decide) (by decide) (ty_74 hS.1.1) ?_
    refine Tr.gen (P := fun v => (-2147483648) ≤ v ∧ v ≤ 2147483647) (ir_74_9 hS.1.2.1) (fun r47 er47 br47 => ?_)
    exact Tr.iret (pc := 50) d_X6_single_50 rfl ⟨hS, _, rfl, by omega, by omega⟩
  · refine Tr.tp 4 c1 ?_
    refine Tr.tswIn (pc := 1) (off := 50) (tgt := 51) d_X6_single_1 (by decide) (by decide) rfl rfl ?_
    refine Tr.aload_n (pc := 51) (i := 0) d_X6_single_51 rfl rfl ?_
    refine Tr.getf (pc := 52) d_X6_single_52 f_6_24 (by decide) (by decide) (ty_74 hS.1.1) ?_
    refine Tr.tp 79 (fx_74_6 hS.1.1) ?_
    refine Tr.iload_n (pc := 55) (i := 2) d_X6_single_55 rfl rfl ?_
    refine Tr.iald (pc := 56) d_X6_single_56 (ty_79 hS.1.1) (by omega) (by omega) ?_
    refine Tr.gen (P := fun v => 0 ≤ v ∧ v ≤ 1) (ar_79 hS.1.2.1 _) (fun r56 er56 br56 => ?_)
    exact Tr.iret (pc := 57) d_X6_single_57 rfl ⟨hS, _, rfl, by omega, by omega⟩

def ws_J9_floorMod_7cf53 : List (Int × Int) := []
def as_J9_floorMod_7cf53 : List Int := []
def q_J9_floorMod_7cf53 (a0 : Int) (a1 : Int) (M0 M' : Mem) (r : Option PV) : Prop := St Tru ws_J9_floorMod_7cf53 as_J9_floorMod_7cf53 M0 M' ∧ ∃ v : Int, r = some (0, v) ∧ (-2147483648) ≤ v ∧ v ≤ 2147483647 ∧ (0 < a1 → 0 ≤ v ∧ v < a1)
set_option maxRecDepth 100000 in
set_option maxHeartbeats 4000000 in
theorem sp_J9_floorMod_7cf53 {l : Launch} {K : EC} {M0 : Mem} (hI : In Tru M0)  (a0 : Int) (ha0 : (-2147483648) ≤ a0 ∧ a0 ≤ 2147483647) (a1 : Int) (ha1 : (-2147483648) ≤ a1 ∧ a1 ≤ 2147483647) (hp0 : a1 ≠ 0) : Tr l K 0 mJ9_floorMod_7cf53 0 [(0, (0, a0)), (1, (0, a1))] [] M0 (q_J9_floorMod_7cf53 a0 a1 M0) := by
  have hS : St Tru ws_J9_floorMod_7cf53 as_J9_floorMod_7cf53 M0 M0 := St.rf hI
  refine Tr.iload_n (pc := 0) (i := 0) d_J9_floorMod_7cf53_0 rfl rfl ?_
  refine Tr.iload_n (pc := 1) (i := 1) d_J9_floorMod_7cf53_1 rfl rfl ?_
  refine Tr.irem (pc := 2) d_J9_floorMod_7cf53_2 (by omega) ?_
  refine Tr.gen (P := fun v => (-2147483648 ≤ v ∧ v ≤ 2147483647) ∧ (0 < a1 → -a1 < v ∧ v < a1) ∧ (0 ≤ a0 → 0 ≤ v) ∧ (a0 ≤ 0 → v ≤ 0)) (rem32_s _ _ (by omega)) (fun r2 er2 br2 => ?_)
  refine Tr.istore_n (pc := 3) (i := 2) (ls2 := [(2, (0, r2)), (0, (0, a0)), (1, (0, a1))]) d_J9_floorMod_7cf53_3 rfl (by decide) rfl ?_
  refine Tr.iload_n (pc := 4) (i := 0) d_J9_floorMod_7cf53_4 rfl rfl ?_
  refine Tr.iload_n (pc := 5) (i := 1) d_J9_floorMod_7cf53_5 rfl rfl ?_
  refine Tr.ixor (pc := 6) d_J9_floorMod_7cf53_6 ?_
  refine Tr.gen (P := fun v => ((v < 0 ↔ ¬ (a0 < 0 ↔ a1 < 0)) ∧ (-2147483648 ≤ v ∧ v ≤ 2147483647))) (f_ixor_s (by omega) (by omega)) (fun r6 er6 br6 => ?_)
  refine Tr.if_ge (pc := 7) (tgt := 18) d_J9_floorMod_7cf53_7 rfl (fun c7 => ?_) (fun c7 => ?_)
  · refine Tr.iload_n (pc := 18) (i := 2) d_J9_floorMod_7cf53_18 rfl rfl ?_
    exact Tr.iret (pc := 19) d_J9_floorMod_7cf53_19 rfl ⟨hS, _, rfl, by omega, by omega, by omega⟩
  · refine Tr.iload_n (pc := 10) (i := 2) d_J9_floorMod_7cf53_10 rfl rfl ?_
    refine Tr.if_eq (pc := 11) (tgt := 18) d_J9_floorMod_7cf53_11 rfl (fun c11 => ?_) (fun c11 => ?_)
    · refine Tr.iload_n (pc := 18) (i := 2) d_J9_floorMod_7cf53_18 rfl rfl ?_
      refine Tr.tp 0 (by omega) ?_
      exact Tr.iret (pc := 19) d_J9_floorMod_7cf53_19 rfl ⟨hS, _, rfl, by omega, by omega, by omega⟩
    · refine Tr.iload_n (pc := 14) (i := 2) d_J9_floorMod_7cf53_14 rfl rfl ?_
      refine Tr.iload_n (pc := 15) (i := 1) d_J9_floorMod_7cf53_15 rfl rfl ?_
      refine Tr.iadd (pc := 16) d_J9_floorMod_7cf53_16 ?_
      refine Tr.gen (P := fun v => (-2147483648 ≤ v ∧ v ≤ 2147483647) ∧ (-2147483648 ≤ (a1 + r2) → (a1 + r2) ≤ 2147483647 → v = (a1 + r2))) ⟨w32_b _, fun _ _ => (w32_id (by omega)).trans (by omega)⟩ (fun r16 er16 br16 => ?_)
      exact Tr.iret (pc := 17) d_J9_floorMod_7cf53_17 rfl ⟨hS, _, rfl, by omega, by omega, by omega⟩

def ws_J9_floorDiv_7cf53 : List (Int × Int) := []
def as_J9_floorDiv_7cf53 : List Int := []
def q_J9_floorDiv_7cf53 (M0 M' : Mem) (r : Option PV) : Prop := St Tru ws_J9_floorDiv_7cf53 as_J9_floorDiv_7cf53 M0 M' ∧ ∃ v : Int, r = some (0, v) ∧ (-2147483648) ≤ v ∧ v ≤ 2147483647
set_option maxRecDepth 100000 in
set_option maxHeartbeats 4000000 in
theorem sp_J9_floorDiv_7cf53 {l : Launch} {K : EC} {M0 : Mem} (hI : In Tru M0)  (a0 : Int) (ha0 : (-2147483648) ≤ a0 ∧ a0 ≤ 2147483647) (a1 : Int) (ha1 : (-2147483648) ≤ a1 ∧ a1 ≤ 2147483647) (hp0 : a1 ≠ 0) : Tr l K 0 mJ9_floorDiv_7cf53 0 [(0, (0, a0)), (1, (0, a1))] [] M0 (q_J9_floorDiv_7cf53 M0) := by
  have hS : St Tru ws_J9_floorDiv_7cf53 as_J9_floorDiv_7cf53 M0 M0 := St.rf hI
  refine Tr.iload_n (pc := 0) (i := 0) d_J9_floorDiv_7cf53_0 rfl rfl ?_
  refine Tr.iload_n (pc := 1) (i := 1) d_J9_floorDiv_7cf53_1 rfl rfl ?_
  refine Tr.idiv (pc := 2) d_J9_floorDiv_7cf53_2 (by omega) ?_
  refine Tr.gen (P := fun v => (-2147483648) ≤ v ∧ v ≤ 2147483647) (w32_b _) (fun r2 er2 br2 => ?_)
  refine Tr.istore_n (pc := 3) (i := 2) (ls2 := [(2, (0, r2)), (0, (0, a0)), (1, (0, a1))]) d_J9_floorDiv_7cf53_3 rfl (by decide) rfl ?_
  refine Tr.iload_n (pc := 4) (i := 0) d_J9_floorDiv_7cf53_4 rfl rfl ?_
  refine Tr.iload_n (pc := 5) (i := 1) d_J9_floorDiv_7cf53_5 rfl rfl ?_
  refine Tr.ixor (pc := 6) d_J9_floorDiv_7cf53_6 ?_
  refine Tr.gen (P := fun v => ((v < 0 ↔ ¬ (a0 < 0 ↔ a1 < 0)) ∧ (-2147483648 ≤ v ∧ v ≤ 2147483647))) (f_ixor_s (by omega) (by omega)) (fun r6 er6 br6 => ?_)
  refine Tr.if_ge (pc := 7) (tgt := 21) d_J9_floorDiv_7cf53_7 rfl (fun c7 => ?_) (fun c7 => ?_)
  · refine Tr.iload_n (pc := 21) (i := 2) d_J9_floorDiv_7cf53_21 rfl rfl ?_
    exact Tr.iret (pc := 22) d_J9_floorDiv_7cf53_22 rfl ⟨hS, _, rfl, by omega, by omega⟩
  · refine Tr.iload_n (pc := 10) (i := 2) d_J9_floorDiv_7cf53_10 rfl rfl ?_
    refine Tr.iload_n (pc := 11) (i := 1) d_J9_floorDiv_7cf53_11 rfl rfl ?_
    refine Tr.imul (pc := 12) d_J9_floorDiv_7cf53_12 ?_
    refine Tr.gen (P := fun v => (-2147483648) ≤ v ∧ v ≤ 2147483647) (w32_b _) (fun r12 er12 br12 => ?_)
    refine Tr.iload_n (pc := 13) (i := 0) d_J9_floorDiv_7cf53_13 rfl rfl ?_
    refine Tr.icmp_eq (pc := 14) (tgt := 21) d_J9_floorDiv_7cf53_14 rfl (fun c14 => ?_) (fun c14 => ?_)
    · refine Tr.iload_n (pc := 21) (i := 2) d_J9_floorDiv_7cf53_21 rfl rfl ?_
      exact Tr.iret (pc := 22) d_J9_floorDiv_7cf53_22 rfl ⟨hS, _, rfl, by omega, by omega⟩
    · refine Tr.iload_n (pc := 17) (i := 2) d_J9_floorDiv_7cf53_17 rfl rfl ?_
      refine Tr.iconst (pc := 18) d_J9_floorDiv_7cf53_18 (by decide) ?_
      refine Tr.isub (pc := 19) d_J9_floorDiv_7cf53_19 ?_
      refine Tr.gen (P := fun v => (-2147483648) ≤ v ∧ v ≤ 2147483647) (w32_b _) (fun r19 er19 br19 => ?_)
      exact Tr.iret (pc := 20) d_J9_floorDiv_7cf53_20 rfl ⟨hS, _, rfl, by omega, by omega⟩

def ws_X6_bounded : List (Int × Int) := []
def as_X6_bounded : List Int := []
def q_X6_bounded (M0 M' : Mem) (r : Option PV) : Prop := St Tru ws_X6_bounded as_X6_bounded M0 M' ∧ ∃ v : Int, r = some (0, v) ∧ (-1000000) ≤ v ∧ v ≤ 1000000
set_option maxRecDepth 100000 in
set_option maxHeartbeats 4000000 in
theorem sp_X6_bounded {l : Launch} {K : EC} {M0 : Mem} (hI : In Tru M0)  (a0 : Int) (ha0 : (-9223372036854775808) ≤ a0 ∧ a0 ≤ 9223372036854775807)  : Tr l K 1 mX6_bounded 0 [(0, (1, a0))] [] M0 (q_X6_bounded M0) := by
  have hS : St Tru ws_X6_bounded as_X6_bounded M0 M0 := St.rf hI
  refine Tr.lload_n (pc := 0) (i := 0) d_X6_bounded_0 rfl rfl ?_
  refine Tr.ldc2 (pc := 1) d_X6_bounded_1 kl_6_248 (by decide) ?_
  refine Tr.mmaxL (pc := 4) d_X6_bounded_4 ml_6_250 mw_mmaxL (Nat.le_of_ble_eq_true rfl) ?_
  refine Tr.gen (P := fun v => (v = a0 ∧ (-1000000) ≤ a0) ∨ (v = (-1000000) ∧ a0 ≤ (-1000000))) (f_maxL_p _ _) (fun r4 er4 br4 => ?_)
  refine Tr.ldc2 (pc := 7) d_X6_bounded_7 kl_6_253 (by decide) ?_
  refine Tr.mminL (pc := 10) d_X6_bounded_10 ml_6_255 mw_mminL (Nat.le_of_ble_eq_true rfl) ?_
  refine Tr.gen (P := fun v => (v = r4 ∧ r4 ≤ 1000000) ∨ (v = 1000000 ∧ 1000000 ≤ r4)) (f_min_p _ _) (fun r10 er10 br10 => ?_)
  refine Tr.l2i (pc := 13) d_X6_bounded_13 ?_
  refine Tr.tp r10 (w32_id (by omega)) ?_
  exact Tr.iret (pc := 14) d_X6_bounded_14 rfl ⟨hS, _, rfl, by omega, by omega⟩

def ws_X6_joined : List (Int × Int) := []
def as_X6_joined : List Int := []
def q_X6_joined (M0 M' : Mem) (r : Option PV) : Prop := St Tru ws_X6_joined as_X6_joined M0 M' ∧ ∃ v : Int, r = some (0, v) ∧ (-2147483648) ≤ v ∧ v ≤ 2147483647
set_option maxRecDepth 100000 in
set_option maxHeartbeats 4000000 in
theorem sp_X6_joined {l : Launch} {K : EC} {M0 : Mem} (hI : In Tru M0)  (a0 : Int) (ha0 : 6 ≤ a0 ∧ a0 ≤ 2147483647) (a1 : Int) (ha1 : (-2147483648) ≤ a1 ∧ a1 ≤ 2147483647) (a2 : Int) (ha2 : (-2147483648) ≤ a2 ∧ a2 ≤ 2147483647)  : Tr l K 2 mX6_joined 0 [(0, (0, a0)), (1, (0, a1)), (2, (0, a2))] [] M0 (q_X6_joined M0) := by
  have hS : St Tru ws_X6_joined as_X6_joined M0 M0 := St.rf hI
  refine Tr.iload_n (pc := 0) (i := 0) d_X6_joined_0 rfl rfl ?_
  rcases (show (a0 < 6 ∨ 16 < a0) ∨ a0 = 6 ∨ a0 = 7 ∨ a0 = 8 ∨ a0 = 9 ∨ a0 = 10 ∨ a0 = 11 ∨ a0 = 12 ∨ a0 = 13 ∨ a0 = 14 ∨ a0 = 15 ∨ a0 = 16 by omega) with c1 | c1 | c1 | c1 | c1 | c1 | c1 | c1 | c1 | c1 | c1 | c1
  · refine Tr.tswOut (pc := 1) (tgt := 164) d_X6_joined_1 c1 rfl ?_
    refine Tr.iload_n (pc := 164) (i := 1) d_X6_joined_164 rfl rfl ?_
    refine Tr.iload_n (pc := 165) (i := 2) d_X6_joined_165 rfl rfl ?_
    refine Tr.ior (pc := 166) d_X6_joined_166 ?_
    refine Tr.gen (P := fun v => (-2147483648) ≤ v ∧ v ≤ 2147483647) (i32_b _) (fun r166 er166 br166 => ?_)
    exact Tr.iret (pc := 167) d_X6_joined_167 rfl ⟨hS, _, rfl, by omega, by omega⟩
  · refine Tr.tp 6 c1 ?_
    refine Tr.tswIn (pc := 1) (off := 59) (tgt := 60) d_X6_joined_1 (by decide) (by decide) rfl rfl ?_
    refine Tr.iload_n (pc := 60) (i := 1) d_X6_joined_60 rfl rfl ?_
    refine Tr.i2l (pc := 61) d_X6_joined_61 ?_
    refine Tr.iload_n (pc := 62) (i := 2) d_X6_joined_62 rfl rfl ?_
    refine Tr.i2l (pc := 63) d_X6_joined_63 ?_
    refine Tr.ladd (pc := 64) d_X6_joined_64 ?_
    refine Tr.tp (a1 + a2) ((w64_id (by omega)).trans (by omega)) ?_
    refine Tr.callS (pc := 65) (as := [_]) d_X6_joined_65 s_6_241 ok_X6_bounded rfl rfl (Nat.le_of_ble_eq_true rfl) (Nat.le_of_ble_eq_true rfl) ?_
    refine Tr.imp (Tr.deep (by decide) (sp_X6_bounded hS.1 (a1 + a2) (by omega))) ?_
    rintro M65 _ ⟨h65, r65, rfl, lr65, ur65⟩
    have hS := St.tr hS h65 (by decide) (by decide)
    refine Tr.sc [(0, r65)] rfl ?_
    exact Tr.iret (pc := 68) d_X6_joined_68 rfl ⟨hS, _, rfl, by omega, by omega⟩
  · refine Tr.tp 7 c1 ?_
    refine Tr.tswIn (pc := 1) (off := 68) (tgt := 69) d_X6_joined_1 (by decide) (by decide) rfl rfl ?_
    refine Tr.iload_n (pc := 69) (i := 1) d_X6_joined_69 rfl rfl ?_
    refine Tr.i2l (pc := 70) d_X6_joined_70 ?_
    refine Tr.iload_n (pc := 71) (i := 2) d_X6_joined_71 rfl rfl ?_
    refine Tr.i2l (pc := 72) d_X6_joined_72 ?_
    refine Tr.lsub (pc := 73) d_X6_joined_73 ?_
    refine Tr.tp (a1 - a2) ((w64_id (by omega)).trans (by omega)) ?_
    refine Tr.callS (pc := 74) (as := [_]) d_X6_joined_74 s_6_241 ok_X6_bounded rfl rfl (Nat.le_of_ble_eq_true rfl) (Nat.le_of_ble_eq_true rfl) ?_
    refine Tr.imp (Tr.deep (by decide) (sp_X6_bounded hS.1 (a1 - a2) (by omega))) ?_
    rintro M74 _ ⟨h74, r74, rfl, lr74, ur74⟩
    have hS := St.tr hS h74 (by decide) (by decide)
    refine Tr.sc [(0, r74)] rfl ?_
    exact Tr.iret (pc := 77) d_X6_joined_77 rfl ⟨hS, _, rfl, by omega, by omega⟩
  · refine Tr.tp 8 c1 ?_
    refine Tr.tswIn (pc := 1) (off := 77) (tgt := 78) d_X6_joined_1 (by decide) (by decide) rfl rfl ?_
    refine Tr.iload_n (pc := 78) (i := 1) d_X6_joined_78 rfl rfl ?_
    refine Tr.i2l (pc := 79) d_X6_joined_79 ?_
    refine Tr.iload_n (pc := 80) (i := 2) d_X6_joined_80 rfl rfl ?_
    refine Tr.i2l (pc := 81) d_X6_joined_81 ?_
    refine Tr.lmul (pc := 82) d_X6_joined_82 ?_
    refine Tr.gen (P := fun v => (-9223372036854775808) ≤ v ∧ v ≤ 9223372036854775807) (w64_b _) (fun r82 er82 br82 => ?_)
    refine Tr.callS (pc := 83) (as := [_]) d_X6_joined_83 s_6_241 ok_X6_bounded rfl rfl (Nat.le_of_ble_eq_true rfl) (Nat.le_of_ble_eq_true rfl) ?_
    refine Tr.imp (Tr.deep (by decide) (sp_X6_bounded hS.1 r82 (by omega))) ?_
    rintro M83 _ ⟨h83, r83, rfl, lr83, ur83⟩
    have hS := St.tr hS h83 (by decide) (by decide)
    refine Tr.sc [(0, r83)] rfl ?_
    exact Tr.iret (pc := 86) d_X6_joined_86 rfl ⟨hS, _, rfl, by omega, by omega⟩
  · refine Tr.tp 9 c1 ?_
    refine Tr.tswIn (pc := 1) (off := 86) (tgt := 87) d_X6_joined_1 (by decide) (by decide) rfl rfl ?_
    refine Tr.iload_n (pc := 87) (i := 2) d_X6_joined_87 rfl rfl ?_
    refine Tr.if_ne (pc := 88) (tgt := 95) d_X6_joined_88 rfl (fun c88 => ?_) (fun c88 => ?_)
    · refine Tr.iload_n (pc := 95) (i := 1) d_X6_joined_95 rfl rfl ?_
      refine Tr.iload_n (pc := 96) (i := 2) d_X6_joined_96 rfl rfl ?_
      refine Tr.callS (pc := 97) (as := [_, _]) d_X6_joined_97 s_6_245 ok_J9_floorDiv_7cf53 rfl rfl (Nat.le_of_ble_eq_true rfl) (Nat.le_of_ble_eq_true rfl) ?_
      refine Tr.imp (Tr.deep (by decide) (sp_J9_floorDiv_7cf53 hS.1 a1 (by omega) a2 (by omega) (by omega))) ?_
      rintro M97 _ ⟨h97, r97, rfl, lr97, ur97⟩
      have hS := St.tr hS h97 (by decide) (by decide)
      refine Tr.sc [(0, r97)] rfl ?_
      exact Tr.iret (pc := 100) d_X6_joined_100 rfl ⟨hS, _, rfl, by omega, by omega⟩
    · refine Tr.iconst (pc := 91) d_X6_joined_91 (by decide) ?_
      refine Tr.goto (pc := 92) (tgt := 100) d_X6_joined_92 rfl ?_
      exact Tr.iret (pc := 100) d_X6_joined_100 rfl ⟨hS, _, rfl, by omega, by omega⟩
  · refine Tr.tp 10 c1 ?_
    refine Tr.tswIn (pc := 1) (off := 100) (tgt := 101) d_X6_joined_1 (by decide) (by decide) rfl rfl ?_
    refine Tr.iload_n (pc := 101) (i := 2) d_X6_joined_101 rfl rfl ?_
    refine Tr.if_ne (pc := 102) (tgt := 109) d_X6_joined_102 rfl (fun c102 => ?_) (fun c102 => ?_)
    · refine Tr.iload_n (pc := 109) (i := 1) d_X6_joined_109 rfl rfl ?_
      refine Tr.iload_n (pc := 110) (i := 2) d_X6_joined_110 rfl rfl ?_
      refine Tr.callS (pc := 111) (as := [_, _]) d_X6_joined_111 s_6_171 ok_J9_floorMod_7cf53 rfl rfl (Nat.le_of_ble_eq_true rfl) (Nat.le_of_ble_eq_true rfl) ?_
      refine Tr.imp (Tr.deep (by decide) (sp_J9_floorMod_7cf53 hS.1 a1 (by omega) a2 (by omega) (by omega))) ?_
      rintro M111 _ ⟨h111, r111, rfl, lr111, ur111, wr111⟩
      have hS := St.tr hS h111 (by decide) (by decide)
      refine Tr.sc [(0, r111)] rfl ?_
      exact Tr.iret (pc := 114) d_X6_joined_114 rfl ⟨hS, _, rfl, by omega, by omega⟩
    · refine Tr.iconst (pc := 105) d_X6_joined_105 (by decide) ?_
      refine Tr.goto (pc := 106) (tgt := 114) d_X6_joined_106 rfl ?_
      exact Tr.iret (pc := 114) d_X6_joined_114 rfl ⟨hS, _, rfl, by omega, by omega⟩
  · refine Tr.tp 11 c1 ?_
    refine Tr.tswIn (pc := 1) (off := 114) (tgt := 115) d_X6_joined_1 (by decide) (by decide) rfl rfl ?_
    refine Tr.iload_n (pc := 115) (i := 1) d_X6_joined_115 rfl rfl ?_
    refine Tr.iload_n (pc := 116) (i := 2) d_X6_joined_116 rfl rfl ?_
    refine Tr.mmin (pc := 117) d_X6_joined_117 ml_6_158 mw_mmin (Nat.le_of_ble_eq_true rfl) ?_
    refine Tr.gen (P := fun v => (v = a1 ∧ a1 ≤ a2) ∨ (v = a2 ∧ a2 ≤ a1)) (f_min_p _ _) (fun r117 er117 br117 => ?_)
    exact Tr.iret (pc := 120) d_X6_joined_120 rfl ⟨hS, _, rfl, by omega, by omega⟩
  · refine Tr.tp 12 c1 ?_
    refine Tr.tswIn (pc := 1) (off := 120) (tgt := 121) d_X6_joined_1 (by decide) (by decide) rfl rfl ?_
    refine Tr.iload_n (pc := 121) (i := 1) d_X6_joined_121 rfl rfl ?_
    refine Tr.iload_n (pc := 122) (i := 2) d_X6_joined_122 rfl rfl ?_
    refine Tr.mmax (pc := 123) d_X6_joined_123 ml_6_119 mw_mmax (Nat.le_of_ble_eq_true rfl) ?_
    refine Tr.gen (P := fun v => (v = a1 ∧ a2 ≤ a1) ∨ (v = a2 ∧ a1 ≤ a2)) (f_max_p _ _) (fun r123 er123 br123 => ?_)
    exact Tr.iret (pc := 126) d_X6_joined_126 rfl ⟨hS, _, rfl, by omega, by omega⟩
  · refine Tr.tp 13 c1 ?_
    refine Tr.tswIn (pc := 1) (off := 126) (tgt := 127) d_X6_joined_1 (by decide) (by decide) rfl rfl ?_
    refine Tr.iload_n (pc := 127) (i := 1) d_X6_joined_127 rfl rfl ?_
    refine Tr.iload_n (pc := 128) (i := 2) d_X6_joined_128 rfl rfl ?_
    refine Tr.icmp_ge (pc := 129) (tgt := 136) d_X6_joined_129 rfl (fun c129 => ?_) (fun c129 => ?_)
    · refine Tr.iconst (pc := 136) d_X6_joined_136 (by decide) ?_
      exact Tr.iret (pc := 137) d_X6_joined_137 rfl ⟨hS, _, rfl, by omega, by omega⟩
    · refine Tr.iconst (pc := 132) d_X6_joined_132 (by decide) ?_
      refine Tr.goto (pc := 133) (tgt := 137) d_X6_joined_133 rfl ?_
      exact Tr.iret (pc := 137) d_X6_joined_137 rfl ⟨hS, _, rfl, by omega, by omega⟩
  · refine Tr.tp 14 c1 ?_
    refine Tr.tswIn (pc := 1) (off := 137) (tgt := 138) d_X6_joined_1 (by decide) (by decide) rfl rfl ?_
    refine Tr.iload_n (pc := 138) (i := 1) d_X6_joined_138 rfl rfl ?_
    refine Tr.iload_n (pc := 139) (i := 2) d_X6_joined_139 rfl rfl ?_
    refine Tr.icmp_le (pc := 140) (tgt := 147) d_X6_joined_140 rfl (fun c140 => ?_) (fun c140 => ?_)
    · refine Tr.iconst (pc := 147) d_X6_joined_147 (by decide) ?_
      exact Tr.iret (pc := 148) d_X6_joined_148 rfl ⟨hS, _, rfl, by omega, by omega⟩
    · refine Tr.iconst (pc := 143) d_X6_joined_143 (by decide) ?_
      refine Tr.goto (pc := 144) (tgt := 148) d_X6_joined_144 rfl ?_
      exact Tr.iret (pc := 148) d_X6_joined_148 rfl ⟨hS, _, rfl, by omega, by omega⟩
  · refine Tr.tp 15 c1 ?_
    refine Tr.tswIn (pc := 1) (off := 148) (tgt := 149) d_X6_joined_1 (by decide) (by decide) rfl rfl ?_
    refine Tr.iload_n (pc := 149) (i := 1) d_X6_joined_149 rfl rfl ?_
    refine Tr.iload_n (pc := 150) (i := 2) d_X6_joined_150 rfl rfl ?_
    refine Tr.icmp_ne (pc := 151) (tgt := 158) d_X6_joined_151 rfl (fun c151 => ?_) (fun c151 => ?_)
    · refine Tr.iconst (pc := 158) d_X6_joined_158 (by decide) ?_
      exact Tr.iret (pc := 159) d_X6_joined_159 rfl ⟨hS, _, rfl, by omega, by omega⟩
    · refine Tr.iconst (pc := 154) d_X6_joined_154 (by decide) ?_
      refine Tr.goto (pc := 155) (tgt := 159) d_X6_joined_155 rfl ?_
      exact Tr.iret (pc := 159) d_X6_joined_159 rfl ⟨hS, _, rfl, by omega, by omega⟩
  · refine Tr.tp 16 c1 ?_
    refine Tr.tswIn (pc := 1) (off := 159) (tgt := 160) d_X6_joined_1 (by decide) (by decide) rfl rfl ?_
    refine Tr.iload_n (pc := 160) (i := 1) d_X6_joined_160 rfl rfl ?_
    refine Tr.iload_n (pc := 161) (i := 2) d_X6_joined_161 rfl rfl ?_
    refine Tr.iand (pc := 162) d_X6_joined_162 ?_
    refine Tr.gen (P := fun v => (-2147483648) ≤ v ∧ v ≤ 2147483647) (i32_b _) (fun r162 er162 br162 => ?_)
    exact Tr.iret (pc := 163) d_X6_joined_163 rfl ⟨hS, _, rfl, by omega, by omega⟩

def ws_X6_afforded_74_w1 : List (Int × Int) := [(74, 17)]
def as_X6_afforded_74_w1 : List Int := []
def q_X6_afforded_74_w1 (M0 M' : Mem) (r : Option PV) : Prop := St Tru ws_X6_afforded_74_w1 as_X6_afforded_74_w1 M0 M' ∧ ∃ v : Int, r = some (0, v) ∧ (-2147483648) ≤ v ∧ v ≤ 20
set_option maxRecDepth 100000 in
set_option maxHeartbeats 4000000 in
theorem sp_X6_afforded_74_w1 {l : Launch} {K : EC} {M0 : Mem} (hI : In Tru M0) (en_74_1 : rd M0 74 1 = 7) (a1 : Int) (ha1 : (-2147483648) ≤ a1 ∧ a1 ≤ 20) (a2 : Int) (ha2 : (-1) ≤ a2 ∧ a2 ≤ (-1)) (a3 : Int) (ha3 : 0 ≤ a3 ∧ a3 ≤ 0)  : Tr l K 1 mX6_afforded 0 [(0, (2, 74)), (1, (0, a1)), (2, (0, a2)), (3, (0, a3))] [] M0 (q_X6_afforded_74_w1 M0) := by
  have hS : St Tru ws_X6_afforded_74_w1 as_X6_afforded_74_w1 M0 M0 := St.rf hI
  refine Tr.iconst (pc := 0) d_X6_afforded_0 (by decide) ?_
  refine Tr.istore (pc := 1) (i := 4) (ls2 := [(4, (0, 0)), (0, (2, 74)), (1, (0, a1)), (2, (0, a2)), (3, (0, a3))]) d_X6_afforded_1 (by decide) rfl ?_
  have J3 : ∀ (n3 : Nat) (M : Mem) (p3_4 : Int), St Tru ws_X6_afforded_74_w1 as_X6_afforded_74_w1 M0 M → (0 ≤ p3_4 ∧ p3_4 ≤ 20) → (20 - p3_4).toNat < n3 → Tr l K 1 mX6_afforded 3 [(0, (2, 74)), (1, (0, a1)), (2, (0, a2)), (3, (0, a3)), (4, (0, p3_4))] [] M (q_X6_afforded_74_w1 M0) := by
    intro n3
    induction n3 with
    | zero => intro M p3_4 hS bp3_4  hm3; exact absurd hm3 (Nat.not_lt_zero _)
    | succ n3 J3 =>
      intro M p3_4 hS bp3_4  hm3
      refine Tr.iload (pc := 3) (i := 4) d_X6_afforded_3 rfl ?_
      refine Tr.iload_n (pc := 5) (i := 1) d_X6_afforded_5 rfl rfl ?_
      refine Tr.icmp_ge (pc := 6) (tgt := 53) d_X6_afforded_6 rfl (fun c6 => ?_) (fun c6 => ?_)
      · refine Tr.iload_n (pc := 53) (i := 1) d_X6_afforded_53 rfl rfl ?_
        exact Tr.iret (pc := 54) d_X6_afforded_54 rfl ⟨hS, _, rfl, by omega, by omega⟩
      · refine Tr.aload_n (pc := 9) (i := 0) d_X6_afforded_9 rfl rfl ?_
        refine Tr.aload_n (pc := 10) (i := 0) d_X6_afforded_10 rfl rfl ?_
        refine Tr.getf (pc := 11) d_X6_afforded_11 f_6_68 (by decide) (by decide) (ty_74 hS.1.1) ?_
        refine Tr.gen (P := fun v => (-2147483648) ≤ v ∧ v ≤ 2147483647) (ir_74_9 hS.1.2.1) (fun r11 er11 br11 => ?_)
        refine Tr.iload (pc := 14) (i := 4) d_X6_afforded_14 rfl ?_
        refine Tr.iadd (pc := 16) d_X6_afforded_16 ?_
        refine Tr.gen (P := fun v => (-2147483648) ≤ v ∧ v ≤ 2147483647) (w32_b _) (fun r16 er16 br16 => ?_)
        refine Tr.iload_n (pc := 17) (i := 2) d_X6_afforded_17 rfl rfl ?_
        refine Tr.tp (-1) (by omega) ?_
        refine Tr.iload_n (pc := 18) (i := 3) d_X6_afforded_18 rfl rfl ?_
        refine Tr.tp 0 (by omega) ?_
        refine Tr.callV (pc := 19) (as := [_, _, _]) d_X6_afforded_19 s_6_186 ok_X6_sipsAt rfl rfl (Nat.le_of_ble_eq_true rfl) (Nat.le_of_ble_eq_true rfl) (by decide) (ty_74 hS.1.1) ?_
        refine Tr.imp (Tr.deep (by decide) (sp_X6_sipsAt_74 hS.1 ((St.kp hS (by decide) (by decide) (by decide)).trans en_74_1) r16 (by omega) (-1) (by omega) 0 (by omega))) ?_
        rintro M19 _ ⟨h19, r19, rfl, lr19, ur19⟩
        have hS := St.tr hS h19 (by decide) (by decide)
        refine Tr.sc [(0, r19)] rfl ?_
        refine Tr.istore (pc := 22) (i := 5) (ls2 := [(5, (0, r19)), (0, (2, 74)), (1, (0, a1)), (2, (0, a2)), (3, (0, a3)), (4, (0, p3_4))]) d_X6_afforded_22 (by decide) rfl ?_
        refine Tr.iload (pc := 24) (i := 5) d_X6_afforded_24 rfl ?_
        refine Tr.aload_n (pc := 26) (i := 0) d_X6_afforded_26 rfl rfl ?_
        refine Tr.getf (pc := 27) d_X6_afforded_27 f_6_110 (by decide) (by decide) (ty_74 hS.1.1) ?_
        refine Tr.gen (P := fun v => (-2147483648) ≤ v ∧ v ≤ 2147483647) (ir_74_17 hS.1.2.1) (fun r27 er27 br27 => ?_)
        refine Tr.icmp_le (pc := 30) (tgt := 36) d_X6_afforded_30 rfl (fun c30 => ?_) (fun c30 => ?_)
        · refine Tr.aload_n (pc := 36) (i := 0) d_X6_afforded_36 rfl rfl ?_
          refine Tr.dup (pc := 37) d_X6_afforded_37 ne21 ?_
          refine Tr.getf (pc := 38) d_X6_afforded_38 f_6_110 (by decide) (by decide) (ty_74 hS.1.1) ?_
          refine Tr.tp r27 er27 ?_
          refine Tr.iload (pc := 41) (i := 5) d_X6_afforded_41 rfl ?_
          refine Tr.isub (pc := 43) d_X6_afforded_43 ?_
          refine Tr.gen (P := fun v => (-2147483648) ≤ v ∧ v ≤ 2147483647) (w32_b _) (fun r43 er43 br43 => ?_)
          refine Tr.putfS (pc := 44) (P := St Tru ws_X6_afforded_74_w1 as_X6_afforded_74_w1 M0) d_X6_afforded_44 f_6_110 (by decide) (by decide) (ty_74 hS.1.1) (st_74_17 hS (by decide) (by omega) trivial) (fun M44 hS w44 => ?_)
          refine Tr.iincV (pc := 47) (n2 := (p3_4 + 1)) (ls2 := [(4, (0, (p3_4 + 1))), (5, (0, r19)), (0, (2, 74)), (1, (0, a1)), (2, (0, a2)), (3, (0, a3))]) d_X6_afforded_47 rfl (by decide) ((w32_id (by omega)).trans (by omega)) rfl ?_
          refine Tr.goto (pc := 50) (tgt := 3) d_X6_afforded_50 rfl ?_
          refine Tr.pick [2, 3, 4, 5, 0] (ls2 := [(0, (2, 74)), (1, (0, a1)), (2, (0, a2)), (3, (0, a3)), (4, (0, (p3_4 + 1)))]) rfl ?_
          exact J3 _ _ hS (by omega) (by omega)
        · refine Tr.iload (pc := 33) (i := 4) d_X6_afforded_33 rfl ?_
          exact Tr.iret (pc := 35) d_X6_afforded_35 rfl ⟨hS, _, rfl, by omega, by omega⟩
  refine Tr.pick [1, 2, 3, 4, 0] (ls2 := [(0, (2, 74)), (1, (0, a1)), (2, (0, a2)), (3, (0, a3)), (4, (0, 0))]) rfl ?_
  exact J3 _ _ _ hS (by omega) (Nat.lt_succ_self _)

def ws_X6_pass_74_w1 : List (Int × Int) := [(74, 9), (74, 14), (74, 17)]
def as_X6_pass_74_w1 : List Int := []
def q_X6_pass_74_w1 (M0 M' : Mem) (r : Option PV) : Prop := St Tru ws_X6_pass_74_w1 as_X6_pass_74_w1 M0 M' ∧ ∃ v : Int, r = some (0, v) ∧ (-2147483648) ≤ v ∧ v ≤ 20
set_option maxRecDepth 100000 in
set_option maxHeartbeats 4000000 in
theorem sp_X6_pass_74_w1 {l : Launch} {K : EC} {M0 : Mem} (hI : In Tru M0) (en_74_1 : rd M0 74 1 = 7) (a1 : Int) (ha1 : (-1) ≤ a1 ∧ a1 ≤ 20) (a2 : Int) (ha2 : (-1) ≤ a2 ∧ a2 ≤ (-1)) (a3 : Int) (ha3 : 0 ≤ a3 ∧ a3 ≤ 0)  : Tr l K 2 mX6_pass 0 [(0, (2, 74)), (1, (0, a1)), (2, (0, a2)), (3, (0, a3))] [] M0 (q_X6_pass_74_w1 M0) := by
  have hS : St Tru ws_X6_pass_74_w1 as_X6_pass_74_w1 M0 M0 := St.rf hI
  refine Tr.iload_n (pc := 0) (i := 1) d_X6_pass_0 rfl rfl ?_
  refine Tr.sipush (pc := 1) d_X6_pass_1 rfl (by decide) ?_
  refine Tr.aload_n (pc := 4) (i := 0) d_X6_pass_4 rfl rfl ?_
  refine Tr.getf (pc := 5) d_X6_pass_5 f_6_68 (by decide) (by decide) (ty_74 hS.1.1) ?_
  refine Tr.gen (P := fun v => (-2147483648) ≤ v ∧ v ≤ 2147483647) (ir_74_9 hS.1.2.1) (fun r5 er5 br5 => ?_)
  refine Tr.isub (pc := 8) d_X6_pass_8 ?_
  refine Tr.gen (P := fun v => (-2147483648) ≤ v ∧ v ≤ 2147483647) (w32_b _) (fun r8 er8 br8 => ?_)
  refine Tr.mmin (pc := 9) d_X6_pass_9 ml_6_158 mw_mmin (Nat.le_of_ble_eq_true rfl) ?_
  refine Tr.gen (P := fun v => (v = a1 ∧ a1 ≤ r8) ∨ (v = r8 ∧ r8 ≤ a1)) (f_min_p _ _) (fun r9 er9 br9 => ?_)
  refine Tr.istore (pc := 12) (i := 4) (ls2 := [(4, (0, r9)), (0, (2, 74)), (1, (0, a1)), (2, (0, a2)), (3, (0, a3))]) d_X6_pass_12 (by decide) rfl ?_
  refine Tr.aload_n (pc := 14) (i := 0) d_X6_pass_14 rfl rfl ?_
  refine Tr.getz (pc := 15) d_X6_pass_15 f_6_106 (by decide) (ty_74 hS.1.1) ?_
  refine Tr.gen (P := fun v => 0 ≤ v ∧ v ≤ 1) (ir_74_16 hS.1.2.1) (fun r15 er15 br15 => ?_)
  have J34 : ∀ (M : Mem) (q34_0 : Int), St Tru ws_X6_pass_74_w1 as_X6_pass_74_w1 M0 M → ((-2147483648) ≤ q34_0 ∧ q34_0 ≤ 20) → rd M 74 16 = r15 → rd M 74 9 = r5 → Tr l K 2 mX6_pass 34 [(0, (2, 74)), (1, (0, a1)), (4, (0, r9))] [(0, q34_0)] M (q_X6_pass_74_w1 M0) := by
    intro M q34_0 hS bq34_0 k34_74_16 k34_74_9
    refine Tr.istore (pc := 34) (i := 5) (ls2 := [(5, (0, q34_0)), (0, (2, 74)), (1, (0, a1)), (4, (0, r9))]) d_X6_pass_34 (by decide) rfl ?_
    refine Tr.aload_n (pc := 36) (i := 0) d_X6_pass_36 rfl rfl ?_
    refine Tr.dup (pc := 37) d_X6_pass_37 ne21 ?_
    refine Tr.getf (pc := 38) d_X6_pass_38 f_6_68 (by decide) (by decide) (ty_74 hS.1.1) ?_
    refine Tr.tp r5 k34_74_9 ?_
    refine Tr.iload (pc := 41) (i := 5) d_X6_pass_41 rfl ?_
    refine Tr.iadd (pc := 43) d_X6_pass_43 ?_
    refine Tr.gen (P := fun v => (-2147483648) ≤ v ∧ v ≤ 2147483647) (w32_b _) (fun r43 er43 br43 => ?_)
    refine Tr.putfS (pc := 44) (P := St Tru ws_X6_pass_74_w1 as_X6_pass_74_w1 M0) d_X6_pass_44 f_6_68 (by decide) (by decide) (ty_74 hS.1.1) (st_74_9 hS (by decide) (by omega) trivial) (fun M44 hS w44 => ?_)
    refine Tr.iload (pc := 47) (i := 5) d_X6_pass_47 rfl ?_
    refine Tr.iload_n (pc := 49) (i := 1) d_X6_pass_49 rfl rfl ?_
    refine Tr.icmp_ge (pc := 50) (tgt := 69) d_X6_pass_50 rfl (fun c50 => ?_) (fun c50 => ?_)
    · refine Tr.iload (pc := 69) (i := 5) d_X6_pass_69 rfl ?_
      exact Tr.iret (pc := 71) d_X6_pass_71 rfl ⟨hS, _, rfl, by omega, by omega⟩
    · refine Tr.aload_n (pc := 53) (i := 0) d_X6_pass_53 rfl rfl ?_
      refine Tr.iload (pc := 54) (i := 5) d_X6_pass_54 rfl ?_
      refine Tr.iload (pc := 56) (i := 4) d_X6_pass_56 rfl ?_
      refine Tr.icmp_ne (pc := 58) (tgt := 65) d_X6_pass_58 rfl (fun c58 => ?_) (fun c58 => ?_)
      · refine Tr.iconst (pc := 65) d_X6_pass_65 (by decide) ?_
        refine Tr.putfS (pc := 66) (P := St Tru ws_X6_pass_74_w1 as_X6_pass_74_w1 M0) d_X6_pass_66 f_6_62 (by decide) (by decide) (ty_74 hS.1.1) (st_74_14 hS (by decide) (by omega) trivial) (fun M66 hS w66 => ?_)
        refine Tr.iload (pc := 69) (i := 5) d_X6_pass_69 rfl ?_
        exact Tr.iret (pc := 71) d_X6_pass_71 rfl ⟨hS, _, rfl, by omega, by omega⟩
      · refine Tr.iconst (pc := 61) d_X6_pass_61 (by decide) ?_
        refine Tr.goto (pc := 62) (tgt := 66) d_X6_pass_62 rfl ?_
        refine Tr.putfS (pc := 66) (P := St Tru ws_X6_pass_74_w1 as_X6_pass_74_w1 M0) d_X6_pass_66 f_6_62 (by decide) (by decide) (ty_74 hS.1.1) (st_74_14 hS (by decide) (by omega) trivial) (fun M66 hS w66 => ?_)
        refine Tr.iload (pc := 69) (i := 5) d_X6_pass_69 rfl ?_
        exact Tr.iret (pc := 71) d_X6_pass_71 rfl ⟨hS, _, rfl, by omega, by omega⟩
  refine Tr.if_eq (pc := 18) (tgt := 32) d_X6_pass_18 rfl (fun c18 => ?_) (fun c18 => ?_)
  · refine Tr.iload (pc := 32) (i := 4) d_X6_pass_32 rfl ?_
    refine Tr.pick [1, 2, 0] (ls2 := [(0, (2, 74)), (1, (0, a1)), (4, (0, r9))]) rfl ?_
    exact J34 _ _ hS (by omega) er15 er5
  · refine Tr.aload_n (pc := 21) (i := 0) d_X6_pass_21 rfl rfl ?_
    refine Tr.iload (pc := 22) (i := 4) d_X6_pass_22 rfl ?_
    refine Tr.iload_n (pc := 24) (i := 2) d_X6_pass_24 rfl rfl ?_
    refine Tr.tp (-1) (by omega) ?_
    refine Tr.iload_n (pc := 25) (i := 3) d_X6_pass_25 rfl rfl ?_
    refine Tr.tp 0 (by omega) ?_
    refine Tr.callV (pc := 26) (as := [_, _, _]) d_X6_pass_26 s_6_183 ok_X6_afforded rfl rfl (Nat.le_of_ble_eq_true rfl) (Nat.le_of_ble_eq_true rfl) (by decide) (ty_74 hS.1.1) ?_
    refine Tr.imp (Tr.deep (by decide) (sp_X6_afforded_74_w1 hS.1 ((St.kp hS (by decide) (by decide) (by decide)).trans en_74_1) r9 (by omega) (-1) (by omega) 0 (by omega))) ?_
    rintro M26 _ ⟨h26, r26, rfl, lr26, ur26⟩
    have hS := St.tr hS h26 (by decide) (by decide)
    refine Tr.sc [(0, r26)] rfl ?_
    refine Tr.goto (pc := 29) (tgt := 34) d_X6_pass_29 rfl ?_
    refine Tr.pick [1, 2, 0] (ls2 := [(0, (2, 74)), (1, (0, a1)), (4, (0, r9))]) rfl ?_
    exact J34 _ _ hS (by omega) ((St.kp h26 (by decide) (by decide) (by decide)).trans er15) ((St.kp h26 (by decide) (by decide) (by decide)).trans er5)
end
/-! 30.05 -/
section
def ws_X6_touch_74 : List (Int × Int) := [(74, 9), (74, 12), (74, 13), (74, 14), (74, 17)]
def as_X6_touch_74 : List Int := [78]
def q_X6_touch_74 (M0 M' : Mem) (r : Option PV) : Prop := St Tru ws_X6_touch_74 as_X6_touch_74 M0 M' ∧ r = none
set_option maxRecDepth 100000 in
set_option maxHeartbeats 4000000 in
theorem sp_X6_touch_74 {l : Launch} {K : EC} {M0 : Mem} (hI : In Tru M0) (en_74_1 : rd M0 74 1 = 7) (a1 : Int) (ha1 : 0 ≤ a1 ∧ a1 ≤ 999)  : Tr l K 3 mX6_touch 0 [(0, (2, 74)), (1, (0, a1))] [] M0 (q_X6_touch_74 M0) := by
  have hS : St Tru ws_X6_touch_74 as_X6_touch_74 M0 M0 := St.rf hI
  refine Tr.aload_n (pc := 0) (i := 0) d_X6_touch_0 rfl rfl ?_
  refine Tr.dup (pc := 1) d_X6_touch_1 ne21 ?_
  refine Tr.getf (pc := 2) d_X6_touch_2 f_6_103 (by decide) (by decide) (ty_74 hS.1.1) ?_
  refine Tr.gen (P := fun v => (-2147483648) ≤ v ∧ v ≤ 2147483647) (ir_74_13 hS.1.2.1) (fun r2 er2 br2 => ?_)
  refine Tr.iconst (pc := 5) d_X6_touch_5 (by decide) ?_
  refine Tr.iadd (pc := 6) d_X6_touch_6 ?_
  refine Tr.gen (P := fun v => (-2147483648) ≤ v ∧ v ≤ 2147483647) (w32_b _) (fun r6 er6 br6 => ?_)
  refine Tr.putfS (pc := 7) (P := St Tru ws_X6_touch_74 as_X6_touch_74 M0) d_X6_touch_7 f_6_103 (by decide) (by decide) (ty_74 hS.1.1) (st_74_13 hS (by decide) (by omega) trivial) (fun M7 hS w7 => ?_)
  refine Tr.aload_n (pc := 10) (i := 0) d_X6_touch_10 rfl rfl ?_
  refine Tr.getf (pc := 11) d_X6_touch_11 f_6_46 (by decide) (by decide) (ty_74 hS.1.1) ?_
  refine Tr.tp 7 ((St.kp hS (by decide) (by decide) (by decide)).trans en_74_1) ?_
  refine Tr.getf (pc := 14) d_X6_touch_14 f_6_217 (by decide) (by decide) (ty_7 hS.1.1) ?_
  refine Tr.gen (P := fun v => (-1) ≤ v ∧ v ≤ 8) (ir_7_2 hS.1.2.1) (fun r14 er14 br14 => ?_)
  refine Tr.if_le (pc := 17) (tgt := 42) d_X6_touch_17 rfl (fun c17 => ?_) (fun c17 => ?_)
  · exact Tr.vret (pc := 42) d_X6_touch_42 rfl ⟨hS, rfl⟩
  · refine Tr.aload_n (pc := 20) (i := 0) d_X6_touch_20 rfl rfl ?_
    refine Tr.getf (pc := 21) d_X6_touch_21 f_6_46 (by decide) (by decide) (ty_74 hS.1.1) ?_
    refine Tr.tp 7 ((St.kp hS (by decide) (by decide) (by decide)).trans en_74_1) ?_
    refine Tr.getf (pc := 24) d_X6_touch_24 f_6_220 (by decide) (by decide) (ty_7 hS.1.1) ?_
    refine Tr.gen (P := fun v => (-1) ≤ v ∧ v ≤ 8) (ir_7_1 hS.1.2.1) (fun r24 er24 br24 => ?_)
    refine Tr.if_le (pc := 27) (tgt := 42) d_X6_touch_27 rfl (fun c27 => ?_) (fun c27 => ?_)
    · exact Tr.vret (pc := 42) d_X6_touch_42 rfl ⟨hS, rfl⟩
    · refine Tr.aload_n (pc := 30) (i := 0) d_X6_touch_30 rfl rfl ?_
      refine Tr.getf (pc := 31) d_X6_touch_31 f_6_46 (by decide) (by decide) (ty_74 hS.1.1) ?_
      refine Tr.tp 7 ((St.kp hS (by decide) (by decide) (by decide)).trans en_74_1) ?_
      refine Tr.getf (pc := 34) d_X6_touch_34 f_6_220 (by decide) (by decide) (ty_7 hS.1.1) ?_
      refine Tr.tp r24 er24 ?_
      refine Tr.bipush (pc := 37) d_X6_touch_37 rfl (by decide) ?_
      refine Tr.icmp_le (pc := 39) (tgt := 43) d_X6_touch_39 rfl (fun _ => ?_) (fun hc => absurd (by omega) hc)
      refine Tr.iload_n (pc := 43) (i := 1) d_X6_touch_43 rfl rfl ?_
      refine Tr.aload_n (pc := 44) (i := 0) d_X6_touch_44 rfl rfl ?_
      refine Tr.getf (pc := 45) d_X6_touch_45 f_6_46 (by decide) (by decide) (ty_74 hS.1.1) ?_
      refine Tr.tp 7 ((St.kp hS (by decide) (by decide) (by decide)).trans en_74_1) ?_
      refine Tr.getf (pc := 48) d_X6_touch_48 f_6_217 (by decide) (by decide) (ty_7 hS.1.1) ?_
      refine Tr.tp r14 er14 ?_
      refine Tr.idiv (pc := 51) d_X6_touch_51 (by omega) ?_
      refine Tr.gen (P := fun v => 0 ≤ v ∧ v ≤ 999) (div32_p (A := 999) (by omega) (by omega) (by omega) (by omega)) (fun r51 er51 br51 => ?_)
      refine Tr.istore_n (pc := 52) (i := 2) (ls2 := [(2, (0, r51)), (0, (2, 74)), (1, (0, a1))]) d_X6_touch_52 rfl (by decide) rfl ?_
      refine Tr.iload_n (pc := 53) (i := 2) d_X6_touch_53 rfl rfl ?_
      refine Tr.aload_n (pc := 54) (i := 0) d_X6_touch_54 rfl rfl ?_
      refine Tr.getf (pc := 55) d_X6_touch_55 f_6_46 (by decide) (by decide) (ty_74 hS.1.1) ?_
      refine Tr.tp 7 ((St.kp hS (by decide) (by decide) (by decide)).trans en_74_1) ?_
      refine Tr.getf (pc := 58) d_X6_touch_58 f_6_220 (by decide) (by decide) (ty_7 hS.1.1) ?_
      refine Tr.tp r24 er24 ?_
      refine Tr.irem (pc := 61) d_X6_touch_61 (by omega) ?_
      refine Tr.gen (P := fun v => 0 ≤ v ∧ v ≤ 7) (rem_p (A := 7) (by omega) (by omega) (by omega)) (fun r61 er61 br61 => ?_)
      refine Tr.istore_n (pc := 62) (i := 3) (ls2 := [(3, (0, r61)), (2, (0, r51)), (0, (2, 74)), (1, (0, a1))]) d_X6_touch_62 rfl (by decide) rfl ?_
      refine Tr.aload_n (pc := 63) (i := 0) d_X6_touch_63 rfl rfl ?_
      refine Tr.getf (pc := 64) d_X6_touch_64 f_6_21 (by decide) (by decide) (ty_74 hS.1.1) ?_
      refine Tr.tp 78 (fx_74_5 hS.1.1) ?_
      refine Tr.iload_n (pc := 67) (i := 3) d_X6_touch_67 rfl rfl ?_
      refine Tr.iald (pc := 68) d_X6_touch_68 (ty_78 hS.1.1) (by omega) (by omega) ?_
      refine Tr.gen (P := fun v => (-2147483648) ≤ v ∧ v ≤ 2147483647) (ar_78 hS.1.2.1 _) (fun r68 er68 br68 => ?_)
      refine Tr.iload_n (pc := 69) (i := 2) d_X6_touch_69 rfl rfl ?_
      refine Tr.icmp_eq (pc := 70) (tgt := 104) d_X6_touch_70 rfl (fun c70 => ?_) (fun c70 => ?_)
      · exact Tr.vret (pc := 104) d_X6_touch_104 rfl ⟨hS, rfl⟩
      · refine Tr.aload_n (pc := 73) (i := 0) d_X6_touch_73 rfl rfl ?_
        refine Tr.dup (pc := 74) d_X6_touch_74 ne21 ?_
        refine Tr.getf (pc := 75) d_X6_touch_75 f_6_100 (by decide) (by decide) (ty_74 hS.1.1) ?_
        refine Tr.gen (P := fun v => (-2147483648) ≤ v ∧ v ≤ 2147483647) (ir_74_12 hS.1.2.1) (fun r75 er75 br75 => ?_)
        refine Tr.iconst (pc := 78) d_X6_touch_78 (by decide) ?_
        refine Tr.iadd (pc := 79) d_X6_touch_79 ?_
        refine Tr.gen (P := fun v => (-2147483648) ≤ v ∧ v ≤ 2147483647) (w32_b _) (fun r79 er79 br79 => ?_)
        refine Tr.putfS (pc := 80) (P := St Tru ws_X6_touch_74 as_X6_touch_74 M0) d_X6_touch_80 f_6_100 (by decide) (by decide) (ty_74 hS.1.1) (st_74_12 hS (by decide) (by omega) trivial) (fun M80 hS w80 => ?_)
        refine Tr.aload_n (pc := 83) (i := 0) d_X6_touch_83 rfl rfl ?_
        refine Tr.getf (pc := 84) d_X6_touch_84 f_6_21 (by decide) (by decide) (ty_74 hS.1.1) ?_
        refine Tr.tp 78 (fx_74_5 hS.1.1) ?_
        refine Tr.iload_n (pc := 87) (i := 3) d_X6_touch_87 rfl rfl ?_
        refine Tr.iload_n (pc := 88) (i := 2) d_X6_touch_88 rfl rfl ?_
        refine Tr.iastS (pc := 89) (P := St Tru ws_X6_touch_74 as_X6_touch_74 M0) d_X6_touch_89 (ty_78 hS.1.1) (by omega) (by omega) (sa_78 hS (by decide) (by omega) trivial) (fun M89 hS w89 => ?_)
        refine Tr.aload_n (pc := 90) (i := 0) d_X6_touch_90 rfl rfl ?_
        refine Tr.aload_n (pc := 91) (i := 0) d_X6_touch_91 rfl rfl ?_
        refine Tr.getf (pc := 92) d_X6_touch_92 f_6_46 (by decide) (by decide) (ty_74 hS.1.1) ?_
        refine Tr.tp 7 ((St.kp hS (by decide) (by decide) (by decide)).trans en_74_1) ?_
        refine Tr.getf (pc := 95) d_X6_touch_95 f_6_223 (by decide) (by decide) (ty_7 hS.1.1) ?_
        refine Tr.gen (P := fun v => (-1) ≤ v ∧ v ≤ 20) (ir_7_3 hS.1.2.1) (fun r95 er95 br95 => ?_)
        refine Tr.iconst (pc := 98) d_X6_touch_98 (by decide) ?_
        refine Tr.iconst (pc := 99) d_X6_touch_99 (by decide) ?_
        refine Tr.callV (pc := 100) (as := [_, _, _]) d_X6_touch_100 s_6_145 ok_X6_pass rfl rfl (Nat.le_of_ble_eq_true rfl) (Nat.le_of_ble_eq_true rfl) (by decide) (ty_74 hS.1.1) ?_
        refine Tr.imp (Tr.deep (by decide) (sp_X6_pass_74_w1 hS.1 ((St.kp hS (by decide) (by decide) (by decide)).trans en_74_1) r95 (by omega) (-1) (by omega) 0 (by omega))) ?_
        rintro M100 _ ⟨h100, r100, rfl, lr100, ur100⟩
        have hS := St.tr hS h100 (by decide) (by decide)
        refine Tr.sc [(0, r100)] rfl ?_
        refine Tr.pop (pc := 103) d_X6_touch_103 ne01 ?_
        exact Tr.vret (pc := 104) d_X6_touch_104 rfl ⟨hS, rfl⟩

def ws_X6_afforded_74_w2 : List (Int × Int) := [(74, 17)]
def as_X6_afforded_74_w2 : List Int := []
def q_X6_afforded_74_w2 (M0 M' : Mem) (r : Option PV) : Prop := St Tru ws_X6_afforded_74_w2 as_X6_afforded_74_w2 M0 M' ∧ ∃ v : Int, r = some (0, v) ∧ (-2147483648) ≤ v ∧ v ≤ 100
set_option maxRecDepth 100000 in
set_option maxHeartbeats 4000000 in
theorem sp_X6_afforded_74_w2 {l : Launch} {K : EC} {M0 : Mem} (hI : In Tru M0) (en_74_1 : rd M0 74 1 = 7) (a1 : Int) (ha1 : (-2147483648) ≤ a1 ∧ a1 ≤ 100) (a2 : Int) (ha2 : (-1) ≤ a2 ∧ a2 ≤ (-1)) (a3 : Int) (ha3 : 0 ≤ a3 ∧ a3 ≤ 0)  : Tr l K 1 mX6_afforded 0 [(0, (2, 74)), (1, (0, a1)), (2, (0, a2)), (3, (0, a3))] [] M0 (q_X6_afforded_74_w2 M0) := by
  have hS : St Tru ws_X6_afforded_74_w2 as_X6_afforded_74_w2 M0 M0 := St.rf hI
  refine Tr.iconst (pc := 0) d_X6_afforded_0 (by decide) ?_
  refine Tr.istore (pc := 1) (i := 4) (ls2 := [(4, (0, 0)), (0, (2, 74)), (1, (0, a1)), (2, (0, a2)), (3, (0, a3))]) d_X6_afforded_1 (by decide) rfl ?_
  have J3 : ∀ (n3 : Nat) (M : Mem) (p3_4 : Int), St Tru ws_X6_afforded_74_w2 as_X6_afforded_74_w2 M0 M → (0 ≤ p3_4 ∧ p3_4 ≤ 100) → (100 - p3_4).toNat < n3 → Tr l K 1 mX6_afforded 3 [(0, (2, 74)), (1, (0, a1)), (2, (0, a2)), (3, (0, a3)), (4, (0, p3_4))] [] M (q_X6_afforded_74_w2 M0) := by
    intro n3
    induction n3 with
    | zero => intro M p3_4 hS bp3_4  hm3; exact absurd hm3 (Nat.not_lt_zero _)
    | succ n3 J3 =>
      intro M p3_4 hS bp3_4  hm3
      refine Tr.iload (pc := 3) (i := 4) d_X6_afforded_3 rfl ?_
      refine Tr.iload_n (pc := 5) (i := 1) d_X6_afforded_5 rfl rfl ?_
      refine Tr.icmp_ge (pc := 6) (tgt := 53) d_X6_afforded_6 rfl (fun c6 => ?_) (fun c6 => ?_)
      · refine Tr.iload_n (pc := 53) (i := 1) d_X6_afforded_53 rfl rfl ?_
        exact Tr.iret (pc := 54) d_X6_afforded_54 rfl ⟨hS, _, rfl, by omega, by omega⟩
      · refine Tr.aload_n (pc := 9) (i := 0) d_X6_afforded_9 rfl rfl ?_
        refine Tr.aload_n (pc := 10) (i := 0) d_X6_afforded_10 rfl rfl ?_
        refine Tr.getf (pc := 11) d_X6_afforded_11 f_6_68 (by decide) (by decide) (ty_74 hS.1.1) ?_
        refine Tr.gen (P := fun v => (-2147483648) ≤ v ∧ v ≤ 2147483647) (ir_74_9 hS.1.2.1) (fun r11 er11 br11 => ?_)
        refine Tr.iload (pc := 14) (i := 4) d_X6_afforded_14 rfl ?_
        refine Tr.iadd (pc := 16) d_X6_afforded_16 ?_
        refine Tr.gen (P := fun v => (-2147483648) ≤ v ∧ v ≤ 2147483647) (w32_b _) (fun r16 er16 br16 => ?_)
        refine Tr.iload_n (pc := 17) (i := 2) d_X6_afforded_17 rfl rfl ?_
        refine Tr.tp (-1) (by omega) ?_
        refine Tr.iload_n (pc := 18) (i := 3) d_X6_afforded_18 rfl rfl ?_
        refine Tr.tp 0 (by omega) ?_
        refine Tr.callV (pc := 19) (as := [_, _, _]) d_X6_afforded_19 s_6_186 ok_X6_sipsAt rfl rfl (Nat.le_of_ble_eq_true rfl) (Nat.le_of_ble_eq_true rfl) (by decide) (ty_74 hS.1.1) ?_
        refine Tr.imp (Tr.deep (by decide) (sp_X6_sipsAt_74 hS.1 ((St.kp hS (by decide) (by decide) (by decide)).trans en_74_1) r16 (by omega) (-1) (by omega) 0 (by omega))) ?_
        rintro M19 _ ⟨h19, r19, rfl, lr19, ur19⟩
        have hS := St.tr hS h19 (by decide) (by decide)
        refine Tr.sc [(0, r19)] rfl ?_
        refine Tr.istore (pc := 22) (i := 5) (ls2 := [(5, (0, r19)), (0, (2, 74)), (1, (0, a1)), (2, (0, a2)), (3, (0, a3)), (4, (0, p3_4))]) d_X6_afforded_22 (by decide) rfl ?_
        refine Tr.iload (pc := 24) (i := 5) d_X6_afforded_24 rfl ?_
        refine Tr.aload_n (pc := 26) (i := 0) d_X6_afforded_26 rfl rfl ?_
        refine Tr.getf (pc := 27) d_X6_afforded_27 f_6_110 (by decide) (by decide) (ty_74 hS.1.1) ?_
        refine Tr.gen (P := fun v => (-2147483648) ≤ v ∧ v ≤ 2147483647) (ir_74_17 hS.1.2.1) (fun r27 er27 br27 => ?_)
        refine Tr.icmp_le (pc := 30) (tgt := 36) d_X6_afforded_30 rfl (fun c30 => ?_) (fun c30 => ?_)
        · refine Tr.aload_n (pc := 36) (i := 0) d_X6_afforded_36 rfl rfl ?_
          refine Tr.dup (pc := 37) d_X6_afforded_37 ne21 ?_
          refine Tr.getf (pc := 38) d_X6_afforded_38 f_6_110 (by decide) (by decide) (ty_74 hS.1.1) ?_
          refine Tr.tp r27 er27 ?_
          refine Tr.iload (pc := 41) (i := 5) d_X6_afforded_41 rfl ?_
          refine Tr.isub (pc := 43) d_X6_afforded_43 ?_
          refine Tr.gen (P := fun v => (-2147483648) ≤ v ∧ v ≤ 2147483647) (w32_b _) (fun r43 er43 br43 => ?_)
          refine Tr.putfS (pc := 44) (P := St Tru ws_X6_afforded_74_w2 as_X6_afforded_74_w2 M0) d_X6_afforded_44 f_6_110 (by decide) (by decide) (ty_74 hS.1.1) (st_74_17 hS (by decide) (by omega) trivial) (fun M44 hS w44 => ?_)
          refine Tr.iincV (pc := 47) (n2 := (p3_4 + 1)) (ls2 := [(4, (0, (p3_4 + 1))), (5, (0, r19)), (0, (2, 74)), (1, (0, a1)), (2, (0, a2)), (3, (0, a3))]) d_X6_afforded_47 rfl (by decide) ((w32_id (by omega)).trans (by omega)) rfl ?_
          refine Tr.goto (pc := 50) (tgt := 3) d_X6_afforded_50 rfl ?_
          refine Tr.pick [2, 3, 4, 5, 0] (ls2 := [(0, (2, 74)), (1, (0, a1)), (2, (0, a2)), (3, (0, a3)), (4, (0, (p3_4 + 1)))]) rfl ?_
          exact J3 _ _ hS (by omega) (by omega)
        · refine Tr.iload (pc := 33) (i := 4) d_X6_afforded_33 rfl ?_
          exact Tr.iret (pc := 35) d_X6_afforded_35 rfl ⟨hS, _, rfl, by omega, by omega⟩
  refine Tr.pick [1, 2, 3, 4, 0] (ls2 := [(0, (2, 74)), (1, (0, a1)), (2, (0, a2)), (3, (0, a3)), (4, (0, 0))]) rfl ?_
  exact J3 _ _ _ hS (by omega) (Nat.lt_succ_self _)

def ws_X6_pass_74_w2 : List (Int × Int) := [(74, 9), (74, 14), (74, 17)]
def as_X6_pass_74_w2 : List Int := []
def q_X6_pass_74_w2 (M0 M' : Mem) (r : Option PV) : Prop := St Tru ws_X6_pass_74_w2 as_X6_pass_74_w2 M0 M' ∧ ∃ v : Int, r = some (0, v) ∧ (-2147483648) ≤ v ∧ v ≤ 100
set_option maxRecDepth 100000 in
set_option maxHeartbeats 4000000 in
theorem sp_X6_pass_74_w2 {l : Launch} {K : EC} {M0 : Mem} (hI : In Tru M0) (en_74_1 : rd M0 74 1 = 7) (a1 : Int) (ha1 : 0 ≤ a1 ∧ a1 ≤ 100) (a2 : Int) (ha2 : (-1) ≤ a2 ∧ a2 ≤ (-1)) (a3 : Int) (ha3 : 0 ≤ a3 ∧ a3 ≤ 0)  : Tr l K 2 mX6_pass 0 [(0, (2, 74)), (1, (0, a1)), (2, (0, a2)), (3, (0, a3))] [] M0 (q_X6_pass_74_w2 M0) := by
  have hS : St Tru ws_X6_pass_74_w2 as_X6_pass_74_w2 M0 M0 := St.rf hI
  refine Tr.iload_n (pc := 0) (i := 1) d_X6_pass_0 rfl rfl ?_
  refine Tr.sipush (pc := 1) d_X6_pass_1 rfl (by decide) ?_
  refine Tr.aload_n (pc := 4) (i := 0) d_X6_pass_4 rfl rfl ?_
  refine Tr.getf (pc := 5) d_X6_pass_5 f_6_68 (by decide) (by decide) (ty_74 hS.1.1) ?_
  refine Tr.gen (P := fun v => (-2147483648) ≤ v ∧ v ≤ 2147483647) (ir_74_9 hS.1.2.1) (fun r5 er5 br5 => ?_)
  refine Tr.isub (pc := 8) d_X6_pass_8 ?_
  refine Tr.gen (P := fun v => (-2147483648) ≤ v ∧ v ≤ 2147483647) (w32_b _) (fun r8 er8 br8 => ?_)
  refine Tr.mmin (pc := 9) d_X6_pass_9 ml_6_158 mw_mmin (Nat.le_of_ble_eq_true rfl) ?_
  refine Tr.gen (P := fun v => (v = a1 ∧ a1 ≤ r8) ∨ (v = r8 ∧ r8 ≤ a1)) (f_min_p _ _) (fun r9 er9 br9 => ?_)
  refine Tr.istore (pc := 12) (i := 4) (ls2 := [(4, (0, r9)), (0, (2, 74)), (1, (0, a1)), (2, (0, a2)), (3, (0, a3))]) d_X6_pass_12 (by decide) rfl ?_
  refine Tr.aload_n (pc := 14) (i := 0) d_X6_pass_14 rfl rfl ?_
  refine Tr.getz (pc := 15) d_X6_pass_15 f_6_106 (by decide) (ty_74 hS.1.1) ?_
  refine Tr.gen (P := fun v => 0 ≤ v ∧ v ≤ 1) (ir_74_16 hS.1.2.1) (fun r15 er15 br15 => ?_)
  have J34 : ∀ (M : Mem) (q34_0 : Int), St Tru ws_X6_pass_74_w2 as_X6_pass_74_w2 M0 M → ((-2147483648) ≤ q34_0 ∧ q34_0 ≤ 100) → rd M 74 16 = r15 → rd M 74 9 = r5 → Tr l K 2 mX6_pass 34 [(0, (2, 74)), (1, (0, a1)), (4, (0, r9))] [(0, q34_0)] M (q_X6_pass_74_w2 M0) := by
    intro M q34_0 hS bq34_0 k34_74_16 k34_74_9
    refine Tr.istore (pc := 34) (i := 5) (ls2 := [(5, (0, q34_0)), (0, (2, 74)), (1, (0, a1)), (4, (0, r9))]) d_X6_pass_34 (by decide) rfl ?_
    refine Tr.aload_n (pc := 36) (i := 0) d_X6_pass_36 rfl rfl ?_
    refine Tr.dup (pc := 37) d_X6_pass_37 ne21 ?_
    refine Tr.getf (pc := 38) d_X6_pass_38 f_6_68 (by decide) (by decide) (ty_74 hS.1.1) ?_
    refine Tr.tp r5 k34_74_9 ?_
    refine Tr.iload (pc := 41) (i := 5) d_X6_pass_41 rfl ?_
    refine Tr.iadd (pc := 43) d_X6_pass_43 ?_
    refine Tr.gen (P := fun v => (-2147483648) ≤ v ∧ v ≤ 2147483647) (w32_b _) (fun r43 er43 br43 => ?_)
    refine Tr.putfS (pc := 44) (P := St Tru ws_X6_pass_74_w2 as_X6_pass_74_w2 M0) d_X6_pass_44 f_6_68 (by decide) (by decide) (ty_74 hS.1.1) (st_74_9 hS (by decide) (by omega) trivial) (fun M44 hS w44 => ?_)
    refine Tr.iload (pc := 47) (i := 5) d_X6_pass_47 rfl ?_
    refine Tr.iload_n (pc := 49) (i := 1) d_X6_pass_49 rfl rfl ?_
    refine Tr.icmp_ge (pc := 50) (tgt := 69) d_X6_pass_50 rfl (fun c50 => ?_) (fun c50 => ?_)
    · refine Tr.iload (pc := 69) (i := 5) d_X6_pass_69 rfl ?_
      exact Tr.iret (pc := 71) d_X6_pass_71 rfl ⟨hS, _, rfl, by omega, by omega⟩
    · refine Tr.aload_n (pc := 53) (i := 0) d_X6_pass_53 rfl rfl ?_
      refine Tr.iload (pc := 54) (i := 5) d_X6_pass_54 rfl ?_
      refine Tr.iload (pc := 56) (i := 4) d_X6_pass_56 rfl ?_
      refine Tr.icmp_ne (pc := 58) (tgt := 65) d_X6_pass_58 rfl (fun c58 => ?_) (fun c58 => ?_)
      · refine Tr.iconst (pc := 65) d_X6_pass_65 (by decide) ?_
        refine Tr.putfS (pc := 66) (P := St Tru ws_X6_pass_74_w2 as_X6_pass_74_w2 M0) d_X6_pass_66 f_6_62 (by decide) (by decide) (ty_74 hS.1.1) (st_74_14 hS (by decide) (by omega) trivial) (fun M66 hS w66 => ?_)
        refine Tr.iload (pc := 69) (i := 5) d_X6_pass_69 rfl ?_
        exact Tr.iret (pc := 71) d_X6_pass_71 rfl ⟨hS, _, rfl, by omega, by omega⟩
      · refine Tr.iconst (pc := 61) d_X6_pass_61 (by decide) ?_
        refine Tr.goto (pc := 62) (tgt := 66) d_X6_pass_62 rfl ?_
        refine Tr.putfS (pc := 66) (P := St Tru ws_X6_pass_74_w2 as_X6_pass_74_w2 M0) d_X6_pass_66 f_6_62 (by decide) (by decide) (ty_74 hS.1.1) (st_74_14 hS (by decide) (by omega) trivial) (fun M66 hS w66 => ?_)
        refine Tr.iload (pc := 69) (i := 5) d_X6_pass_69 rfl ?_
        exact Tr.iret (pc := 71) d_X6_pass_71 rfl ⟨hS, _, rfl, by omega, by omega⟩
  refine Tr.if_eq (pc := 18) (tgt := 32) d_X6_pass_18 rfl (fun c18 => ?_) (fun c18 => ?_)
  · refine Tr.iload (pc := 32) (i := 4) d_X6_pass_32 rfl ?_
    refine Tr.pick [1, 2, 0] (ls2 := [(0, (2, 74)), (1, (0, a1)), (4, (0, r9))]) rfl ?_
    exact J34 _ _ hS (by omega) er15 er5
  · refine Tr.aload_n (pc := 21) (i := 0) d_X6_pass_21 rfl rfl ?_
    refine Tr.iload (pc := 22) (i := 4) d_X6_pass_22 rfl ?_
    refine Tr.iload_n (pc := 24) (i := 2) d_X6_pass_24 rfl rfl ?_
    refine Tr.tp (-1) (by omega) ?_
    refine Tr.iload_n (pc := 25) (i := 3) d_X6_pass_25 rfl rfl ?_
    refine Tr.tp 0 (by omega) ?_
    refine Tr.callV (pc := 26) (as := [_, _, _]) d_X6_pass_26 s_6_183 ok_X6_afforded rfl rfl (Nat.le_of_ble_eq_true rfl) (Nat.le_of_ble_eq_true rfl) (by decide) (ty_74 hS.1.1) ?_
    refine Tr.imp (Tr.deep (by decide) (sp_X6_afforded_74_w2 hS.1 ((St.kp hS (by decide) (by decide) (by decide)).trans en_74_1) r9 (by omega) (-1) (by omega) 0 (by omega))) ?_
    rintro M26 _ ⟨h26, r26, rfl, lr26, ur26⟩
    have hS := St.tr hS h26 (by decide) (by decide)
    refine Tr.sc [(0, r26)] rfl ?_
    refine Tr.goto (pc := 29) (tgt := 34) d_X6_pass_29 rfl ?_
    refine Tr.pick [1, 2, 0] (ls2 := [(0, (2, 74)), (1, (0, a1)), (4, (0, r9))]) rfl ?_
    exact J34 _ _ hS (by omega) ((St.kp h26 (by decide) (by decide) (by decide)).trans er15) ((St.kp h26 (by decide) (by decide) (by decide)).trans er5)

def ws_X1_note_82 : List (Int × Int) := []
def as_X1_note_82 : List Int := [83]
def q_X1_note_82 (M0 M' : Mem) (r : Option PV) : Prop := St Tru ws_X1_note_82 as_X1_note_82 M0 M' ∧ r = none
set_option maxRecDepth 100000 in
set_option maxHeartbeats 4000000 in
theorem sp_X1_note_82 {l : Launch} {K : EC} {M0 : Mem} (hI : In Tru M0)  (a1 : Int) (ha1 : 0 ≤ a1 ∧ a1 ≤ 5) (a2 : Int) (ha2 : 2 ≤ a2 ∧ a2 ≤ 2) (a3 : Int) (ha3 : (-2147483648) ≤ a3 ∧ a3 ≤ 2147483647) (a4 : Int) (ha4 : (-2147483648) ≤ a4 ∧ a4 ≤ 2147483647)  : Tr l K 0 mX1_note 0 [(0, (2, 82)), (1, (0, a1)), (2, (0, a2)), (3, (0, a3)), (4, (0, a4))] [] M0 (q_X1_note_82 M0) := by
  have hS : St Tru ws_X1_note_82 as_X1_note_82 M0 M0 := St.rf hI
  refine Tr.iload_n (pc := 0) (i := 3) d_X1_note_0 rfl rfl ?_
  refine Tr.iload (pc := 1) (i := 4) d_X1_note_1 rfl ?_
  refine Tr.icmp_lt (pc := 3) (tgt := 7) d_X1_note_3 rfl (fun c3 => ?_) (fun c3 => ?_)
  · refine Tr.aload_n (pc := 7) (i := 0) d_X1_note_7 rfl rfl ?_
    refine Tr.getf (pc := 8) d_X1_note_8 f_1_9 (by decide) (by decide) (ty_82 hS.1.1) ?_
    refine Tr.tp 83 (fx_82_2 hS.1.1) ?_
    refine Tr.iload_n (pc := 11) (i := 1) d_X1_note_11 rfl rfl ?_
    refine Tr.iconst (pc := 12) d_X1_note_12 (by decide) ?_
    refine Tr.imul (pc := 13) d_X1_note_13 ?_
    refine Tr.tp (4 * a1) ((w32_id (by omega)).trans (by omega)) ?_
    refine Tr.iload_n (pc := 14) (i := 2) d_X1_note_14 rfl rfl ?_
    refine Tr.tp 2 (by omega) ?_
    refine Tr.iadd (pc := 15) d_X1_note_15 ?_
    refine Tr.tp (4 * a1 + 2) ((w32_id (by omega)).trans (by omega)) ?_
    refine Tr.dup2 (pc := 16) d_X1_note_16 ne01 ne21 ?_
    refine Tr.iald (pc := 17) d_X1_note_17 (ty_83 hS.1.1) (by omega) (by omega) ?_
    refine Tr.gen (P := fun v => (-2147483648) ≤ v ∧ v ≤ 2147483647) (ar_83 hS.1.2.1 _) (fun r17 er17 br17 => ?_)
    refine Tr.iload (pc := 18) (i := 4) d_X1_note_18 rfl ?_
    refine Tr.iload_n (pc := 20) (i := 3) d_X1_note_20 rfl rfl ?_
    refine Tr.isub (pc := 21) d_X1_note_21 ?_
    refine Tr.gen (P := fun v => (-2147483648) ≤ v ∧ v ≤ 2147483647) (w32_b _) (fun r21 er21 br21 => ?_)
    refine Tr.iadd (pc := 22) d_X1_note_22 ?_
    refine Tr.gen (P := fun v => (-2147483648) ≤ v ∧ v ≤ 2147483647) (w32_b _) (fun r22 er22 br22 => ?_)
    refine Tr.iastS (pc := 23) (P := St Tru ws_X1_note_82 as_X1_note_82 M0) d_X1_note_23 (ty_83 hS.1.1) (by omega) (by omega) (sa_83 hS (by decide) (by omega) trivial) (fun M23 hS w23 => ?_)
    refine Tr.aload_n (pc := 24) (i := 0) d_X1_note_24 rfl rfl ?_
    refine Tr.getz (pc := 25) d_X1_note_25 f_1_37 (by decide) (ty_82 hS.1.1) ?_
    refine Tr.tp 0 (fx_82_0 hS.1.1) ?_
    refine Tr.if_ne (pc := 28) (tgt := 32) d_X1_note_28 rfl (fun hc => absurd (by omega) hc) (fun _ => ?_)
    exact Tr.vret (pc := 31) d_X1_note_31 rfl ⟨hS, rfl⟩
  · exact Tr.vret (pc := 6) d_X1_note_6 rfl ⟨hS, rfl⟩

def ws_X1_note_82_w1 : List (Int × Int) := []
def as_X1_note_82_w1 : List Int := [83]
def q_X1_note_82_w1 (M0 M' : Mem) (r : Option PV) : Prop := St Tru ws_X1_note_82_w1 as_X1_note_82_w1 M0 M' ∧ r = none
set_option maxRecDepth 100000 in
set_option maxHeartbeats 4000000 in
theorem sp_X1_note_82_w1 {l : Launch} {K : EC} {M0 : Mem} (hI : In Tru M0)  (a1 : Int) (ha1 : 0 ≤ a1 ∧ a1 ≤ 5) (a2 : Int) (ha2 : 0 ≤ a2 ∧ a2 ≤ 0) (a3 : Int) (ha3 : (-2147483648) ≤ a3 ∧ a3 ≤ 2147483647) (a4 : Int) (ha4 : (-2147483648) ≤ a4 ∧ a4 ≤ 2147483647)  : Tr l K 0 mX1_note 0 [(0, (2, 82)), (1, (0, a1)), (2, (0, a2)), (3, (0, a3)), (4, (0, a4))] [] M0 (q_X1_note_82_w1 M0) := by
  have hS : St Tru ws_X1_note_82_w1 as_X1_note_82_w1 M0 M0 := St.rf hI
  refine Tr.iload_n (pc := 0) (i := 3) d_X1_note_0 rfl rfl ?_
  refine Tr.iload (pc := 1) (i := 4) d_X1_note_1 rfl ?_
  refine Tr.icmp_lt (pc := 3) (tgt := 7) d_X1_note_3 rfl (fun c3 => ?_) (fun c3 => ?_)
  · refine Tr.aload_n (pc := 7) (i := 0) d_X1_note_7 rfl rfl ?_
    refine Tr.getf (pc := 8) d_X1_note_8 f_1_9 (by decide) (by decide) (ty_82 hS.1.1) ?_
    refine Tr.tp 83 (fx_82_2 hS.1.1) ?_
    refine Tr.iload_n (pc := 11) (i := 1) d_X1_note_11 rfl rfl ?_
    refine Tr.iconst (pc := 12) d_X1_note_12 (by decide) ?_
    refine Tr.imul (pc := 13) d_X1_note_13 ?_
    refine Tr.tp (4 * a1) ((w32_id (by omega)).trans (by omega)) ?_
    refine Tr.iload_n (pc := 14) (i := 2) d_X1_note_14 rfl rfl ?_
    refine Tr.tp 0 (by omega) ?_
    refine Tr.iadd (pc := 15) d_X1_note_15 ?_
    refine Tr.tp (4 * a1) ((w32_id (by omega)).trans (by omega)) ?_
    refine Tr.dup2 (pc := 16) d_X1_note_16 ne01 ne21 ?_
    refine Tr.iald (pc := 17) d_X1_note_17 (ty_83 hS.1.1) (by omega) (by omega) ?_
    refine Tr.gen (P := fun v => (-2147483648) ≤ v ∧ v ≤ 2147483647) (ar_83 hS.1.2.1 _) (fun r17 er17 br17 => ?_)
    refine Tr.iload (pc := 18) (i := 4) d_X1_note_18 rfl ?_
    refine Tr.iload_n (pc := 20) (i := 3) d_X1_note_20 rfl rfl ?_
    refine Tr.isub (pc := 21) d_X1_note_21 ?_
    refine Tr.gen (P := fun v => (-2147483648) ≤ v ∧ v ≤ 2147483647) (w32_b _) (fun r21 er21 br21 => ?_)
    refine Tr.iadd (pc := 22) d_X1_note_22 ?_
    refine Tr.gen (P := fun v => (-2147483648) ≤ v ∧ v ≤ 2147483647) (w32_b _) (fun r22 er22 br22 => ?_)
    refine Tr.iastS (pc := 23) (P := St Tru ws_X1_note_82_w1 as_X1_note_82_w1 M0) d_X1_note_23 (ty_83 hS.1.1) (by omega) (by omega) (sa_83 hS (by decide) (by omega) trivial) (fun M23 hS w23 => ?_)
    refine Tr.aload_n (pc := 24) (i := 0) d_X1_note_24 rfl rfl ?_
    refine Tr.getz (pc := 25) d_X1_note_25 f_1_37 (by decide) (ty_82 hS.1.1) ?_
    refine Tr.tp 0 (fx_82_0 hS.1.1) ?_
    refine Tr.if_ne (pc := 28) (tgt := 32) d_X1_note_28 rfl (fun hc => absurd (by omega) hc) (fun _ => ?_)
    exact Tr.vret (pc := 31) d_X1_note_31 rfl ⟨hS, rfl⟩
  · exact Tr.vret (pc := 6) d_X1_note_6 rfl ⟨hS, rfl⟩

def ws_X6_settle_74 : List (Int × Int) := []
def as_X6_settle_74 : List Int := [81, 83]
def q_X6_settle_74 (M0 M' : Mem) (r : Option PV) : Prop := St Tru ws_X6_settle_74 as_X6_settle_74 M0 M' ∧ r = none
set_option maxRecDepth 100000 in
set_option maxHeartbeats 4000000 in
theorem sp_X6_settle_74 {l : Launch} {K : EC} {M0 : Mem} (hI : In Tru M0)  (a1 : Int) (ha1 : 0 ≤ a1 ∧ a1 ≤ 5) (a2 : Int) (ha2 : (-2147483648) ≤ a2 ∧ a2 ≤ 2147483647)  : Tr l K 1 mX6_settle 0 [(0, (2, 74)), (1, (0, a1)), (2, (0, a2))] [] M0 (q_X6_settle_74 M0) := by
  have hS : St Tru ws_X6_settle_74 as_X6_settle_74 M0 M0 := St.rf hI
  refine Tr.aload_n (pc := 0) (i := 0) d_X6_settle_0 rfl rfl ?_
  refine Tr.getf (pc := 1) d_X6_settle_1 f_6_30 (by decide) (by decide) (ty_74 hS.1.1) ?_
  refine Tr.tp 81 (fx_74_8 hS.1.1) ?_
  refine Tr.iload_n (pc := 4) (i := 1) d_X6_settle_4 rfl rfl ?_
  refine Tr.iald (pc := 5) d_X6_settle_5 (ty_81 hS.1.1) (by omega) (by omega) ?_
  refine Tr.gen (P := fun v => (-2147483648) ≤ v ∧ v ≤ 2147483647) (ar_81 hS.1.2.1 _) (fun r5 er5 br5 => ?_)
  refine Tr.istore_n (pc := 6) (i := 3) (ls2 := [(3, (0, r5)), (0, (2, 74)), (1, (0, a1)), (2, (0, a2))]) d_X6_settle_6 rfl (by decide) rfl ?_
  refine Tr.aload_n (pc := 7) (i := 0) d_X6_settle_7 rfl rfl ?_
  refine Tr.getf (pc := 8) d_X6_settle_8 f_6_24 (by decide) (by decide) (ty_74 hS.1.1) ?_
  refine Tr.tp 79 (fx_74_6 hS.1.1) ?_
  refine Tr.iload_n (pc := 11) (i := 1) d_X6_settle_11 rfl rfl ?_
  refine Tr.iald (pc := 12) d_X6_settle_12 (ty_79 hS.1.1) (by omega) (by omega) ?_
  refine Tr.gen (P := fun v => 0 ≤ v ∧ v ≤ 1) (ar_79 hS.1.2.1 _) (fun r12 er12 br12 => ?_)
  refine Tr.iconst (pc := 13) d_X6_settle_13 (by decide) ?_
  have J35 : ∀ (M : Mem) (q35_0 : Int), St Tru ws_X6_settle_74 as_X6_settle_74 M0 M → ((-2147483648) ≤ q35_0 ∧ q35_0 ≤ 2147483647) → rd M 79 a1 = r12 → rd M 81 a1 = r5 → Tr l K 1 mX6_settle 35 [(0, (2, 74)), (1, (0, a1)), (2, (0, a2)), (3, (0, r5))] [(0, q35_0)] M (q_X6_settle_74 M0) := by
    intro M q35_0 hS bq35_0 k35_79_a110 k35_81_a110
    refine Tr.istore (pc := 35) (i := 4) (ls2 := [(4, (0, q35_0)), (0, (2, 74)), (1, (0, a1)), (2, (0, a2)), (3, (0, r5))]) d_X6_settle_35 (by decide) rfl ?_
    refine Tr.aload_n (pc := 37) (i := 0) d_X6_settle_37 rfl rfl ?_
    refine Tr.getf (pc := 38) d_X6_settle_38 f_6_38 (by decide) (by decide) (ty_74 hS.1.1) ?_
    refine Tr.tp 82 (fx_74_0 hS.1.1) ?_
    refine Tr.iload_n (pc := 41) (i := 1) d_X6_settle_41 rfl rfl ?_
    refine Tr.iconst (pc := 42) d_X6_settle_42 (by decide) ?_
    refine Tr.iload_n (pc := 43) (i := 3) d_X6_settle_43 rfl rfl ?_
    refine Tr.iload (pc := 44) (i := 4) d_X6_settle_44 rfl ?_
    refine Tr.callV (pc := 46) (as := [_, _, _, _]) d_X6_settle_46 s_6_192 ok_X1_note rfl rfl (Nat.le_of_ble_eq_true rfl) (Nat.le_of_ble_eq_true rfl) (by decide) (ty_82 hS.1.1) ?_
    refine Tr.imp (Tr.deep (by decide) (sp_X1_note_82 hS.1 a1 (by omega) 2 (by omega) r5 (by omega) q35_0 (by omega))) ?_
    rintro M46 _ ⟨h46, rfl⟩
    have hS := St.tr hS h46 (by decide) (by decide)
    refine Tr.sc [] rfl ?_
    refine Tr.aload_n (pc := 49) (i := 0) d_X6_settle_49 rfl rfl ?_
    refine Tr.getf (pc := 50) d_X6_settle_50 f_6_38 (by decide) (by decide) (ty_74 hS.1.1) ?_
    refine Tr.tp 82 (fx_74_0 hS.1.1) ?_
    refine Tr.iload_n (pc := 53) (i := 1) d_X6_settle_53 rfl rfl ?_
    refine Tr.iconst (pc := 54) d_X6_settle_54 (by decide) ?_
    refine Tr.iload (pc := 55) (i := 4) d_X6_settle_55 rfl ?_
    refine Tr.iload_n (pc := 57) (i := 2) d_X6_settle_57 rfl rfl ?_
    refine Tr.callV (pc := 58) (as := [_, _, _, _]) d_X6_settle_58 s_6_192 ok_X1_note rfl rfl (Nat.le_of_ble_eq_true rfl) (Nat.le_of_ble_eq_true rfl) (by decide) (ty_82 hS.1.1) ?_
    refine Tr.imp (Tr.deep (by decide) (sp_X1_note_82_w1 hS.1 a1 (by omega) 0 (by omega) q35_0 (by omega) a2 (by omega))) ?_
    rintro M58 _ ⟨h58, rfl⟩
    have hS := St.tr hS h58 (by decide) (by decide)
    refine Tr.sc [] rfl ?_
    refine Tr.aload_n (pc := 61) (i := 0) d_X6_settle_61 rfl rfl ?_
    refine Tr.getf (pc := 62) d_X6_settle_62 f_6_30 (by decide) (by decide) (ty_74 hS.1.1) ?_
    refine Tr.tp 81 (fx_74_8 hS.1.1) ?_
    refine Tr.iload_n (pc := 65) (i := 1) d_X6_settle_65 rfl rfl ?_
    refine Tr.iload_n (pc := 66) (i := 2) d_X6_settle_66 rfl rfl ?_
    refine Tr.iastS (pc := 67) (P := St Tru ws_X6_settle_74 as_X6_settle_74 M0) d_X6_settle_67 (ty_81 hS.1.1) (by omega) (by omega) (sa_81 hS (by decide) (by omega) trivial) (fun M67 hS w67 => ?_)
    exact Tr.vret (pc := 68) d_X6_settle_68 rfl ⟨hS, rfl⟩
  refine Tr.icmp_ne (pc := 14) (tgt := 21) d_X6_settle_14 rfl (fun c14 => ?_) (fun c14 => ?_)
  · refine Tr.aload_n (pc := 21) (i := 0) d_X6_settle_21 rfl rfl ?_
    refine Tr.getf (pc := 22) d_X6_settle_22 f_6_27 (by decide) (by decide) (ty_74 hS.1.1) ?_
    refine Tr.tp 80 (fx_74_7 hS.1.1) ?_
    refine Tr.iload_n (pc := 25) (i := 1) d_X6_settle_25 rfl rfl ?_
    refine Tr.iald (pc := 26) d_X6_settle_26 (ty_80 hS.1.1) (by omega) (by omega) ?_
    refine Tr.gen (P := fun v => (-2147483648) ≤ v ∧ v ≤ 2147483647) (ar_80 hS.1.2.1 _) (fun r26 er26 br26 => ?_)
    refine Tr.iload_n (pc := 27) (i := 3) d_X6_settle_27 rfl rfl ?_
    refine Tr.mmax (pc := 28) d_X6_settle_28 ml_6_119 mw_mmax (Nat.le_of_ble_eq_true rfl) ?_
    refine Tr.gen (P := fun v => (v = r26 ∧ r5 ≤ r26) ∨ (v = r5 ∧ r26 ≤ r5)) (f_max_p _ _) (fun r28 er28 br28 => ?_)
    refine Tr.iload_n (pc := 31) (i := 2) d_X6_settle_31 rfl rfl ?_
    refine Tr.mmin (pc := 32) d_X6_settle_32 ml_6_158 mw_mmin (Nat.le_of_ble_eq_true rfl) ?_
    refine Tr.gen (P := fun v => (v = r28 ∧ r28 ≤ a2) ∨ (v = a2 ∧ a2 ≤ r28)) (f_min_p _ _) (fun r32 er32 br32 => ?_)
    refine Tr.pick [1, 2, 3, 0] (ls2 := [(0, (2, 74)), (1, (0, a1)), (2, (0, a2)), (3, (0, r5))]) rfl ?_
    exact J35 _ _ hS (by omega) er12 er5
  · refine Tr.iload_n (pc := 17) (i := 2) d_X6_settle_17 rfl rfl ?_
    refine Tr.goto (pc := 18) (tgt := 35) d_X6_settle_18 rfl ?_
    refine Tr.pick [1, 2, 3, 0] (ls2 := [(0, (2, 74)), (1, (0, a1)), (2, (0, a2)), (3, (0, r5))]) rfl ?_
    exact J35 _ _ hS (by omega) er12 er5

def ws_X1_letGo_82 : List (Int × Int) := []
def as_X1_letGo_82 : List Int := []
def q_X1_letGo_82 (M0 M' : Mem) (r : Option PV) : Prop := St Tru ws_X1_letGo_82 as_X1_letGo_82 M0 M' ∧ r = none
set_option maxRecDepth 100000 in
set_option maxHeartbeats 4000000 in
theorem sp_X1_letGo_82 {l : Launch} {K : EC} {M0 : Mem} (hI : In Tru M0)  (a1 : Int) (ha1 : 0 ≤ a1 ∧ a1 ≤ 5) (a2 : Int) (ha2 : (-2147483648) ≤ a2 ∧ a2 ≤ 2147483647)  : Tr l K 0 mX1_letGo 0 [(0, (2, 82)), (1, (0, a1)), (2, (0, a2))] [] M0 (q_X1_letGo_82 M0) := by
  have hS : St Tru ws_X1_letGo_82 as_X1_letGo_82 M0 M0 := St.rf hI
  refine Tr.aload_n (pc := 0) (i := 0) d_X1_letGo_0 rfl rfl ?_
  refine Tr.getz (pc := 1) d_X1_letGo_1 f_1_37 (by decide) (ty_82 hS.1.1) ?_
  refine Tr.tp 0 (fx_82_0 hS.1.1) ?_
  refine Tr.if_eq (pc := 4) (tgt := 21) d_X1_letGo_4 rfl (fun _ => ?_) (fun hc => absurd (by omega) hc)
  exact Tr.vret (pc := 21) d_X1_letGo_21 rfl ⟨hS, rfl⟩

def ws_X6_wakeOf_74 : List (Int × Int) := []
def as_X6_wakeOf_74 : List Int := []
def q_X6_wakeOf_74 (M0 M' : Mem) (r : Option PV) : Prop := St Tru ws_X6_wakeOf_74 as_X6_wakeOf_74 M0 M' ∧ ∃ v : Int, r = some (0, v) ∧ (-1) ≤ v ∧ v ≤ 20
set_option maxRecDepth 100000 in
set_option maxHeartbeats 4000000 in
theorem sp_X6_wakeOf_74 {l : Launch} {K : EC} {M0 : Mem} (hI : In Tru M0) (en_74_1 : rd M0 74 1 = 7) (a1 : Int) (ha1 : 0 ≤ a1 ∧ a1 ≤ 5)  : Tr l K 0 mX6_wakeOf 0 [(0, (2, 74)), (1, (0, a1))] [] M0 (q_X6_wakeOf_74 M0) := by
  have hS : St Tru ws_X6_wakeOf_74 as_X6_wakeOf_74 M0 M0 := St.rf hI
  refine Tr.aload_n (pc := 0) (i := 0) d_X6_wakeOf_0 rfl rfl ?_
  refine Tr.getf (pc := 1) d_X6_wakeOf_1 f_6_24 (by decide) (by decide) (ty_74 hS.1.1) ?_
  refine Tr.tp 79 (fx_74_6 hS.1.1) ?_
  refine Tr.iload_n (pc := 4) (i := 1) d_X6_wakeOf_4 rfl rfl ?_
  refine Tr.iald (pc := 5) d_X6_wakeOf_5 (ty_79 hS.1.1) (by omega) (by omega) ?_
  refine Tr.gen (P := fun v => 0 ≤ v ∧ v ≤ 1) (ar_79 hS.1.2.1 _) (fun r5 er5 br5 => ?_)
  refine Tr.if_ne (pc := 6) (tgt := 34) d_X6_wakeOf_6 rfl (fun c6 => ?_) (fun c6 => ?_)
  · refine Tr.iconst (pc := 34) d_X6_wakeOf_34 (by decide) ?_
    exact Tr.iret (pc := 35) d_X6_wakeOf_35 rfl ⟨hS, _, rfl, by omega, by omega⟩
  · refine Tr.aload_n (pc := 9) (i := 0) d_X6_wakeOf_9 rfl rfl ?_
    refine Tr.getf (pc := 10) d_X6_wakeOf_10 f_6_27 (by decide) (by decide) (ty_74 hS.1.1) ?_
    refine Tr.tp 80 (fx_74_7 hS.1.1) ?_
    refine Tr.iload_n (pc := 13) (i := 1) d_X6_wakeOf_13 rfl rfl ?_
    refine Tr.iald (pc := 14) d_X6_wakeOf_14 (ty_80 hS.1.1) (by omega) (by omega) ?_
    refine Tr.gen (P := fun v => (-2147483648) ≤ v ∧ v ≤ 2147483647) (ar_80 hS.1.2.1 _) (fun r14 er14 br14 => ?_)
    refine Tr.aload_n (pc := 15) (i := 0) d_X6_wakeOf_15 rfl rfl ?_
    refine Tr.getf (pc := 16) d_X6_wakeOf_16 f_6_68 (by decide) (by decide) (ty_74 hS.1.1) ?_
    refine Tr.gen (P := fun v => (-2147483648) ≤ v ∧ v ≤ 2147483647) (ir_74_9 hS.1.2.1) (fun r16 er16 br16 => ?_)
    refine Tr.icmp_gt (pc := 19) (tgt := 34) d_X6_wakeOf_19 rfl (fun c19 => ?_) (fun c19 => ?_)
    · refine Tr.iconst (pc := 34) d_X6_wakeOf_34 (by decide) ?_
      exact Tr.iret (pc := 35) d_X6_wakeOf_35 rfl ⟨hS, _, rfl, by omega, by omega⟩
    · refine Tr.aload_n (pc := 22) (i := 0) d_X6_wakeOf_22 rfl rfl ?_
      refine Tr.getf (pc := 23) d_X6_wakeOf_23 f_6_46 (by decide) (by decide) (ty_74 hS.1.1) ?_
      refine Tr.tp 7 ((St.kp hS (by decide) (by decide) (by decide)).trans en_74_1) ?_
      refine Tr.getf (pc := 26) d_X6_wakeOf_26 f_6_196 (by decide) (by decide) (ty_7 hS.1.1) ?_
      refine Tr.tp 10 (fx_7_6 hS.1.1) ?_
      refine Tr.iload_n (pc := 29) (i := 1) d_X6_wakeOf_29 rfl rfl ?_
      refine Tr.iald (pc := 30) d_X6_wakeOf_30 (ty_10 hS.1.1) (by omega) (by omega) ?_
      refine Tr.gen (P := fun v => (-1) ≤ v ∧ v ≤ 20) (ar_10 hS.1.2.1 _) (fun r30 er30 br30 => ?_)
      refine Tr.goto (pc := 31) (tgt := 35) d_X6_wakeOf_31 rfl ?_
      exact Tr.iret (pc := 35) d_X6_wakeOf_35 rfl ⟨hS, _, rfl, by omega, by omega⟩

def ws_X6_sipsAt_74_w1 : List (Int × Int) := []
def as_X6_sipsAt_74_w1 : List Int := []
def q_X6_sipsAt_74_w1 (M0 M' : Mem) (r : Option PV) : Prop := St Tru ws_X6_sipsAt_74_w1 as_X6_sipsAt_74_w1 M0 M' ∧ ∃ v : Int, r = some (0, v) ∧ (-2147483648) ≤ v ∧ v ≤ 2147483647
set_option maxRecDepth 100000 in
set_option maxHeartbeats 4000000 in
theorem sp_X6_sipsAt_74_w1 {l : Launch} {K : EC} {M0 : Mem} (hI : In Tru M0) (en_74_1 : rd M0 74 1 = 7) (a1 : Int) (ha1 : (-2147483648) ≤ a1 ∧ a1 ≤ 2147483647) (a2 : Int) (ha2 : 0 ≤ a2 ∧ a2 ≤ 5) (a3 : Int) (ha3 : 1 ≤ a3 ∧ a3 ≤ 1)  : Tr l K 0 mX6_sipsAt 0 [(0, (2, 74)), (1, (0, a1)), (2, (0, a2)), (3, (0, a3))] [] M0 (q_X6_sipsAt_74_w1 M0) := by
  have hS : St Tru ws_X6_sipsAt_74_w1 as_X6_sipsAt_74_w1 M0 M0 := St.rf hI
  refine Tr.aload_n (pc := 0) (i := 0) d_X6_sipsAt_0 rfl rfl ?_
  refine Tr.getf (pc := 1) d_X6_sipsAt_1 f_6_46 (by decide) (by decide) (ty_74 hS.1.1) ?_
  refine Tr.tp 7 ((St.kp hS (by decide) (by decide) (by decide)).trans en_74_1) ?_
  refine Tr.getf (pc := 4) d_X6_sipsAt_4 f_6_135 (by decide) (by decide) (ty_7 hS.1.1) ?_
  refine Tr.gen (P := fun v => (-1) ≤ v ∧ v ≤ 999) (ir_7_0 hS.1.2.1) (fun r4 er4 br4 => ?_)
  refine Tr.istore (pc := 7) (i := 4) (ls2 := [(4, (0, r4)), (0, (2, 74)), (1, (0, a1)), (2, (0, a2)), (3, (0, a3))]) d_X6_sipsAt_7 (by decide) rfl ?_
  refine Tr.iconst (pc := 9) d_X6_sipsAt_9 (by decide) ?_
  refine Tr.istore (pc := 10) (i := 5) (ls2 := [(5, (0, 0)), (4, (0, r4)), (0, (2, 74)), (1, (0, a1)), (2, (0, a2)), (3, (0, a3))]) d_X6_sipsAt_10 (by decide) rfl ?_
  have J12 : ∀ (n12 : Nat) (M : Mem) (p12_4 p12_5 : Int), St Tru ws_X6_sipsAt_74_w1 as_X6_sipsAt_74_w1 M0 M → ((-2147483648) ≤ p12_4 ∧ p12_4 ≤ 2147483647) → (0 ≤ p12_5 ∧ p12_5 ≤ 6) → rd M 7 0 = r4 → (6 - p12_5).toNat < n12 → Tr l K 0 mX6_sipsAt 12 [(0, (2, 74)), (1, (0, a1)), (2, (0, a2)), (3, (0, a3)), (4, (0, p12_4)), (5, (0, p12_5))] [] M (q_X6_sipsAt_74_w1 M0) := by
    intro n12
    induction n12 with
    | zero => intro M p12_4 p12_5 hS bp12_4 bp12_5 k12_7_0 hm12; exact absurd hm12 (Nat.not_lt_zero _)
    | succ n12 J12 =>
      intro M p12_4 p12_5 hS bp12_4 bp12_5 k12_7_0 hm12
      refine Tr.iload (pc := 12) (i := 5) d_X6_sipsAt_12 rfl ?_
      refine Tr.aload_n (pc := 14) (i := 0) d_X6_sipsAt_14 rfl rfl ?_
      refine Tr.getf (pc := 15) d_X6_sipsAt_15 f_6_46 (by decide) (by decide) (ty_74 hS.1.1) ?_
      refine Tr.tp 7 ((St.kp hS (by decide) (by decide) (by decide)).trans en_74_1) ?_
      refine Tr.getf (pc := 18) d_X6_sipsAt_18 f_6_116 (by decide) (by decide) (ty_7 hS.1.1) ?_
      refine Tr.tp 8 (fx_7_4 hS.1.1) ?_
      refine Tr.iconst (pc := 21) d_X6_sipsAt_21 (by decide) ?_
      refine Tr.iald (pc := 22) d_X6_sipsAt_22 (ty_8 hS.1.1) (by omega) (by omega) ?_
      refine Tr.gen (P := fun v => 0 ≤ v ∧ v ≤ 6) (ir_8_0 hS.1.2.1) (fun r22 er22 br22 => ?_)
      refine Tr.icmp_ge (pc := 23) (tgt := 91) d_X6_sipsAt_23 rfl (fun c23 => ?_) (fun c23 => ?_)
      · refine Tr.iload (pc := 91) (i := 4) d_X6_sipsAt_91 rfl ?_
        exact Tr.iret (pc := 93) d_X6_sipsAt_93 rfl ⟨hS, _, rfl, by omega, by omega⟩
      · refine Tr.aload_n (pc := 26) (i := 0) d_X6_sipsAt_26 rfl rfl ?_
        refine Tr.getf (pc := 27) d_X6_sipsAt_27 f_6_24 (by decide) (by decide) (ty_74 hS.1.1) ?_
        refine Tr.tp 79 (fx_74_6 hS.1.1) ?_
        refine Tr.iload (pc := 30) (i := 5) d_X6_sipsAt_30 rfl ?_
        refine Tr.iald (pc := 32) d_X6_sipsAt_32 (ty_79 hS.1.1) (by omega) (by omega) ?_
        refine Tr.gen (P := fun v => 0 ≤ v ∧ v ≤ 1) (ar_79 hS.1.2.1 _) (fun r32 er32 br32 => ?_)
        refine Tr.iconst (pc := 33) d_X6_sipsAt_33 (by decide) ?_
        have J53 : ∀ (M : Mem) (q53_0 : Int), St Tru ws_X6_sipsAt_74_w1 as_X6_sipsAt_74_w1 M0 M → (0 ≤ q53_0 ∧ q53_0 ≤ 2) → rd M 7 0 = r4 → rd M 79 p12_5 = r32 → rd M 8 0 = r22 → Tr l K 0 mX6_sipsAt 53 [(0, (2, 74)), (1, (0, a1)), (2, (0, a2)), (3, (0, a3)), (4, (0, p12_4)), (5, (0, p12_5))] [(0, q53_0)] M (q_X6_sipsAt_74_w1 M0) := by
          intro M q53_0 hS bq53_0 k53_7_0 k53_79_p12_510 k53_8_0
          refine Tr.istore (pc := 53) (i := 6) (ls2 := [(6, (0, q53_0)), (0, (2, 74)), (1, (0, a1)), (2, (0, a2)), (3, (0, a3)), (4, (0, p12_4)), (5, (0, p12_5))]) d_X6_sipsAt_53 (by decide) rfl ?_
          refine Tr.iload (pc := 55) (i := 4) d_X6_sipsAt_55 rfl ?_
          refine Tr.aload_n (pc := 57) (i := 0) d_X6_sipsAt_57 rfl rfl ?_
          refine Tr.getf (pc := 58) d_X6_sipsAt_58 f_6_46 (by decide) (by decide) (ty_74 hS.1.1) ?_
          refine Tr.tp 7 ((St.kp hS (by decide) (by decide) (by decide)).trans en_74_1) ?_
          refine Tr.getf (pc := 61) d_X6_sipsAt_61 f_6_189 (by decide) (by decide) (ty_7 hS.1.1) ?_
          refine Tr.tp 9 (fx_7_5 hS.1.1) ?_
          refine Tr.iload (pc := 64) (i := 5) d_X6_sipsAt_64 rfl ?_
          refine Tr.iconst (pc := 66) d_X6_sipsAt_66 (by decide) ?_
          refine Tr.imul (pc := 67) d_X6_sipsAt_67 ?_
          refine Tr.tp (4 * p12_5) ((w32_id (by omega)).trans (by omega)) ?_
          refine Tr.iload (pc := 68) (i := 5) d_X6_sipsAt_68 rfl ?_
          refine Tr.iload_n (pc := 70) (i := 2) d_X6_sipsAt_70 rfl rfl ?_
          have J80 : ∀ (M : Mem) (q80_3 : Int), St Tru ws_X6_sipsAt_74_w1 as_X6_sipsAt_74_w1 M0 M → (0 ≤ q80_3 ∧ q80_3 ≤ 2) → rd M 7 0 = r4 → rd M 79 p12_5 = r32 → rd M 8 0 = r22 → Tr l K 0 mX6_sipsAt 80 [(0, (2, 74)), (1, (0, a1)), (2, (0, a2)), (3, (0, a3)), (5, (0, p12_5))] [(0, q80_3), (0, (4 * p12_5)), (2, 9), (0, p12_4)] M (q_X6_sipsAt_74_w1 M0) := by
            intro M q80_3 hS bq80_3 k80_7_0 k80_79_p12_510 k80_8_0
            refine Tr.iadd (pc := 80) d_X6_sipsAt_80 ?_
            refine Tr.tp (4 * p12_5 + q80_3) ((w32_id (by omega)).trans (by omega)) ?_
            refine Tr.iald (pc := 81) d_X6_sipsAt_81 (ty_9 hS.1.1) (by omega) (by omega) ?_
            refine Tr.gen (P := fun v => (-1) ≤ v ∧ v ≤ 999) (ar_9 hS.1.2.1 _) (fun r81 er81 br81 => ?_)
            refine Tr.iadd (pc := 82) d_X6_sipsAt_82 ?_
            refine Tr.gen (P := fun v => (-2147483648) ≤ v ∧ v ≤ 2147483647) (w32_b _) (fun r82 er82 br82 => ?_)
            refine Tr.istore (pc := 83) (i := 4) (ls2 := [(4, (0, r82)), (0, (2, 74)), (1, (0, a1)), (2, (0, a2)), (3, (0, a3)), (5, (0, p12_5))]) d_X6_sipsAt_83 (by decide) rfl ?_
            refine Tr.iincV (pc := 85) (n2 := (p12_5 + 1)) (ls2 := [(5, (0, (p12_5 + 1))), (4, (0, r82)), (0, (2, 74)), (1, (0, a1)), (2, (0, a2)), (3, (0, a3))]) d_X6_sipsAt_85 rfl (by decide) ((w32_id (by omega)).trans (by omega)) rfl ?_
            refine Tr.goto (pc := 88) (tgt := 12) d_X6_sipsAt_88 rfl ?_
            refine Tr.pick [2, 3, 4, 5, 1, 0] (ls2 := [(0, (2, 74)), (1, (0, a1)), (2, (0, a2)), (3, (0, a3)), (4, (0, r82)), (5, (0, (p12_5 + 1)))]) rfl ?_
            exact J12 _ _ _ hS (by omega) (by omega) k80_7_0 (by omega)
          refine Tr.icmp_ne (pc := 71) (tgt := 78) d_X6_sipsAt_71 rfl (fun c71 => ?_) (fun c71 => ?_)
          · refine Tr.iload (pc := 78) (i := 6) d_X6_sipsAt_78 rfl ?_
            refine Tr.pick [1, 2, 3, 4, 6] (ls2 := [(0, (2, 74)), (1, (0, a1)), (2, (0, a2)), (3, (0, a3)), (5, (0, p12_5))]) rfl ?_
            exact J80 _ _ hS (by omega) k53_7_0 k53_79_p12_510 k53_8_0
          · refine Tr.iload_n (pc := 74) (i := 3) d_X6_sipsAt_74 rfl rfl ?_
            refine Tr.tp 1 (by omega) ?_
            refine Tr.goto (pc := 75) (tgt := 80) d_X6_sipsAt_75 rfl ?_
            refine Tr.pick [1, 2, 3, 4, 6] (ls2 := [(0, (2, 74)), (1, (0, a1)), (2, (0, a2)), (3, (0, a3)), (5, (0, p12_5))]) rfl ?_
            exact J80 _ _ hS (by omega) k53_7_0 k53_79_p12_510 k53_8_0
        have J48 : ∀ (M : Mem), St Tru ws_X6_sipsAt_74_w1 as_X6_sipsAt_74_w1 M0 M → rd M 7 0 = r4 → rd M 79 p12_5 = r32 → rd M 8 0 = r22 → Tr l K 0 mX6_sipsAt 48 [(0, (2, 74)), (1, (0, a1)), (2, (0, a2)), (3, (0, a3)), (4, (0, p12_4)), (5, (0, p12_5))] [] M (q_X6_sipsAt_74_w1 M0) := by
          intro M  hS  k48_7_0 k48_79_p12_510 k48_8_0
          refine Tr.iconst (pc := 48) d_X6_sipsAt_48 (by decide) ?_
          refine Tr.goto (pc := 49) (tgt := 53) d_X6_sipsAt_49 rfl ?_
          refine Tr.pick [0, 1, 2, 3, 4, 5] (ls2 := [(0, (2, 74)), (1, (0, a1)), (2, (0, a2)), (3, (0, a3)), (4, (0, p12_4)), (5, (0, p12_5))]) rfl ?_
          exact J53 _ _ hS (by omega) k48_7_0 k48_79_p12_510 k48_8_0
        refine Tr.icmp_eq (pc := 34) (tgt := 48) d_X6_sipsAt_34 rfl (fun c34 => ?_) (fun c34 => ?_)
        · refine Tr.pick [0, 1, 2, 3, 4, 5] (ls2 := [(0, (2, 74)), (1, (0, a1)), (2, (0, a2)), (3, (0, a3)), (4, (0, p12_4)), (5, (0, p12_5))]) rfl ?_
          exact J48 _ hS k12_7_0 er32 er22
        · refine Tr.iload_n (pc := 37) (i := 1) d_X6_sipsAt_37 rfl rfl ?_
          refine Tr.aload_n (pc := 38) (i := 0) d_X6_sipsAt_38 rfl rfl ?_
          refine Tr.getf (pc := 39) d_X6_sipsAt_39 f_6_27 (by decide) (by decide) (ty_74 hS.1.1) ?_
          refine Tr.tp 80 (fx_74_7 hS.1.1) ?_
          refine Tr.iload (pc := 42) (i := 5) d_X6_sipsAt_42 rfl ?_
          refine Tr.iald (pc := 44) d_X6_sipsAt_44 (ty_80 hS.1.1) (by omega) (by omega) ?_
          refine Tr.gen (P := fun v => (-2147483648) ≤ v ∧ v ≤ 2147483647) (ar_80 hS.1.2.1 _) (fun r44 er44 br44 => ?_)
          refine Tr.icmp_ge (pc := 45) (tgt := 52) d_X6_sipsAt_45 rfl (fun c45 => ?_) (fun c45 => ?_)
          · refine Tr.iconst (pc := 52) d_X6_sipsAt_52 (by decide) ?_
            refine Tr.pick [0, 1, 2, 3, 4, 5] (ls2 := [(0, (2, 74)), (1, (0, a1)), (2, (0, a2)), (3, (0, a3)), (4, (0, p12_4)), (5, (0, p12_5))]) rfl ?_
            exact J53 _ _ hS (by omega) k12_7_0 er32 er22
          · refine Tr.pick [0, 1, 2, 3, 4, 5] (ls2 := [(0, (2, 74)), (1, (0, a1)), (2, (0, a2)), (3, (0, a3)), (4, (0, p12_4)), (5, (0, p12_5))]) rfl ?_
            exact J48 _ hS k12_7_0 er32 er22
  refine Tr.pick [2, 3, 4, 5, 1, 0] (ls2 := [(0, (2, 74)), (1, (0, a1)), (2, (0, a2)), (3, (0, a3)), (4, (0, r4)), (5, (0, 0))]) rfl ?_
  exact J12 _ _ _ _ hS (by omega) (by omega) er4 (Nat.lt_succ_self _)

def ws_X6_afforded_74_w3 : List (Int × Int) := [(74, 17)]
def as_X6_afforded_74_w3 : List Int := []
def q_X6_afforded_74_w3 (M0 M' : Mem) (r : Option PV) : Prop := St Tru ws_X6_afforded_74_w3 as_X6_afforded_74_w3 M0 M' ∧ ∃ v : Int, r = some (0, v) ∧ (-2147483648) ≤ v ∧ v ≤ 20
set_option maxRecDepth 100000 in
set_option maxHeartbeats 4000000 in
theorem sp_X6_afforded_74_w3 {l : Launch} {K : EC} {M0 : Mem} (hI : In Tru M0) (en_74_1 : rd M0 74 1 = 7) (a1 : Int) (ha1 : (-2147483648) ≤ a1 ∧ a1 ≤ 20) (a2 : Int) (ha2 : 0 ≤ a2 ∧ a2 ≤ 5) (a3 : Int) (ha3 : 1 ≤ a3 ∧ a3 ≤ 1)  : Tr l K 1 mX6_afforded 0 [(0, (2, 74)), (1, (0, a1)), (2, (0, a2)), (3, (0, a3))] [] M0 (q_X6_afforded_74_w3 M0) := by
  have hS : St Tru ws_X6_afforded_74_w3 as_X6_afforded_74_w3 M0 M0 := St.rf hI
  refine Tr.iconst (pc := 0) d_X6_afforded_0 (by decide) ?_
  refine Tr.istore (pc := 1) (i := 4) (ls2 := [(4, (0, 0)), (0, (2, 74)), (1, (0, a1)), (2, (0, a2)), (3, (0, a3))]) d_X6_afforded_1 (by decide) rfl ?_
  have J3 : ∀ (n3 : Nat) (M : Mem) (p3_4 : Int), St Tru ws_X6_afforded_74_w3 as_X6_afforded_74_w3 M0 M → (0 ≤ p3_4 ∧ p3_4 ≤ 20) → (20 - p3_4).toNat < n3 → Tr l K 1 mX6_afforded 3 [(0, (2, 74)), (1, (0, a1)), (2, (0, a2)), (3, (0, a3)), (4, (0, p3_4))] [] M (q_X6_afforded_74_w3 M0) := by
    intro n3
    induction n3 with
    | zero => intro M p3_4 hS bp3_4  hm3; exact absurd hm3 (Nat.not_lt_zero _)
    | succ n3 J3 =>
      intro M p3_4 hS bp3_4  hm3
      refine Tr.iload (pc := 3) (i := 4) d_X6_afforded_3 rfl ?_
      refine Tr.iload_n (pc := 5) (i := 1) d_X6_afforded_5 rfl rfl ?_
      refine Tr.icmp_ge (pc := 6) (tgt := 53) d_X6_afforded_6 rfl (fun c6 => ?_) (fun c6 => ?_)
      · refine Tr.iload_n (pc := 53) (i := 1) d_X6_afforded_53 rfl rfl ?_
        exact Tr.iret (pc := 54) d_X6_afforded_54 rfl ⟨hS, _, rfl, by omega, by omega⟩
      · refine Tr.aload_n (pc := 9) (i := 0) d_X6_afforded_9 rfl rfl ?_
        refine Tr.aload_n (pc := 10) (i := 0) d_X6_afforded_10 rfl rfl ?_
        refine Tr.getf (pc := 11) d_X6_afforded_11 f_6_68 (by decide) (by decide) (ty_74 hS.1.1) ?_
        refine Tr.gen (P := fun v => (-2147483648) ≤ v ∧ v ≤ 2147483647) (ir_74_9 hS.1.2.1) (fun r11 er11 br11 => ?_)
        refine Tr.iload (pc := 14) (i := 4) d_X6_afforded_14 rfl ?_
        refine Tr.iadd (pc := 16) d_X6_afforded_16 ?_
        refine Tr.gen (P := fun v => (-2147483648) ≤ v ∧ v ≤ 2147483647) (w32_b _) (fun r16 er16 br16 => ?_)
        refine Tr.iload_n (pc := 17) (i := 2) d_X6_afforded_17 rfl rfl ?_
        refine Tr.iload_n (pc := 18) (i := 3) d_X6_afforded_18 rfl rfl ?_
        refine Tr.tp 1 (by omega) ?_
        refine Tr.callV (pc := 19) (as := [_, _, _]) d_X6_afforded_19 s_6_186 ok_X6_sipsAt rfl rfl (Nat.le_of_ble_eq_true rfl) (Nat.le_of_ble_eq_true rfl) (by decide) (ty_74 hS.1.1) ?_
        refine Tr.imp (Tr.deep (by decide) (sp_X6_sipsAt_74_w1 hS.1 ((St.kp hS (by decide) (by decide) (by decide)).trans en_74_1) r16 (by omega) a2 (by omega) 1 (by omega))) ?_
        rintro M19 _ ⟨h19, r19, rfl, lr19, ur19⟩
        have hS := St.tr hS h19 (by decide) (by decide)
        refine Tr.sc [(0, r19)] rfl ?_
        refine Tr.istore (pc := 22) (i := 5) (ls2 := [(5, (0, r19)), (0, (2, 74)), (1, (0, a1)), (2, (0, a2)), (3, (0, a3)), (4, (0, p3_4))]) d_X6_afforded_22 (by decide) rfl ?_
        refine Tr.iload (pc := 24) (i := 5) d_X6_afforded_24 rfl ?_
        refine Tr.aload_n (pc := 26) (i := 0) d_X6_afforded_26 rfl rfl ?_
        refine Tr.getf (pc := 27) d_X6_afforded_27 f_6_110 (by decide) (by decide) (ty_74 hS.1.1) ?_
        refine Tr.gen (P := fun v => (-2147483648) ≤ v ∧ v ≤ 2147483647) (ir_74_17 hS.1.2.1) (fun r27 er27 br27 => ?_)
        refine Tr.icmp_le (pc := 30) (tgt := 36) d_X6_afforded_30 rfl (fun c30 => ?_) (fun c30 => ?_)
        · refine Tr.aload_n (pc := 36) (i := 0) d_X6_afforded_36 rfl rfl ?_
          refine Tr.dup (pc := 37) d_X6_afforded_37 ne21 ?_
          refine Tr.getf (pc := 38) d_X6_afforded_38 f_6_110 (by decide) (by decide) (ty_74 hS.1.1) ?_
          refine Tr.tp r27 er27 ?_
          refine Tr.iload (pc := 41) (i := 5) d_X6_afforded_41 rfl ?_
          refine Tr.isub (pc := 43) d_X6_afforded_43 ?_
          refine Tr.gen (P := fun v => (-2147483648) ≤ v ∧ v ≤ 2147483647) (w32_b _) (fun r43 er43 br43 => ?_)
          refine Tr.putfS (pc := 44) (P := St Tru ws_X6_afforded_74_w3 as_X6_afforded_74_w3 M0) d_X6_afforded_44 f_6_110 (by decide) (by decide) (ty_74 hS.1.1) (st_74_17 hS (by decide) (by omega) trivial) (fun M44 hS w44 => ?_)
          refine Tr.iincV (pc := 47) (n2 := (p3_4 + 1)) (ls2 := [(4, (0, (p3_4 + 1))), (5, (0, r19)), (0, (2, 74)), (1, (0, a1)), (2, (0, a2)), (3, (0, a3))]) d_X6_afforded_47 rfl (by decide) ((w32_id (by omega)).trans (by omega)) rfl ?_
          refine Tr.goto (pc := 50) (tgt := 3) d_X6_afforded_50 rfl ?_
          refine Tr.pick [2, 3, 4, 5, 0] (ls2 := [(0, (2, 74)), (1, (0, a1)), (2, (0, a2)), (3, (0, a3)), (4, (0, (p3_4 + 1)))]) rfl ?_
          exact J3 _ _ hS (by omega) (by omega)
        · refine Tr.iload (pc := 33) (i := 4) d_X6_afforded_33 rfl ?_
          exact Tr.iret (pc := 35) d_X6_afforded_35 rfl ⟨hS, _, rfl, by omega, by omega⟩
  refine Tr.pick [1, 2, 3, 4, 0] (ls2 := [(0, (2, 74)), (1, (0, a1)), (2, (0, a2)), (3, (0, a3)), (4, (0, 0))]) rfl ?_
  exact J3 _ _ _ hS (by omega) (Nat.lt_succ_self _)

def ws_X6_pass_74_w3 : List (Int × Int) := [(74, 9), (74, 14), (74, 17)]
def as_X6_pass_74_w3 : List Int := []
def q_X6_pass_74_w3 (M0 M' : Mem) (r : Option PV) : Prop := St Tru ws_X6_pass_74_w3 as_X6_pass_74_w3 M0 M' ∧ ∃ v : Int, r = some (0, v) ∧ (-2147483648) ≤ v ∧ v ≤ 20
set_option maxRecDepth 100000 in
set_option maxHeartbeats 4000000 in
theorem sp_X6_pass_74_w3 {l : Launch} {K : EC} {M0 : Mem} (hI : In Tru M0) (en_74_1 : rd M0 74 1 = 7) (a1 : Int) (ha1 : (-1) ≤ a1 ∧ a1 ≤ 20) (a2 : Int) (ha2 : 0 ≤ a2 ∧ a2 ≤ 5) (a3 : Int) (ha3 : 1 ≤ a3 ∧ a3 ≤ 1)  : Tr l K 2 mX6_pass 0 [(0, (2, 74)), (1, (0, a1)), (2, (0, a2)), (3, (0, a3))] [] M0 (q_X6_pass_74_w3 M0) := by
  have hS : St Tru ws_X6_pass_74_w3 as_X6_pass_74_w3 M0 M0 := St.rf hI
  refine Tr.iload_n (pc := 0) (i := 1) d_X6_pass_0 rfl rfl ?_
  refine Tr.sipush (pc := 1) d_X6_pass_1 rfl (by decide) ?_
  refine Tr.aload_n (pc := 4) (i := 0) d_X6_pass_4 rfl rfl ?_
  refine Tr.getf (pc := 5) d_X6_pass_5 f_6_68 (by decide) (by decide) (ty_74 hS.1.1) ?_
  refine Tr.gen (P := fun v => (-2147483648) ≤ v ∧ v ≤ 2147483647) (ir_74_9 hS.1.2.1) (fun r5 er5 br5 => ?_)
  refine Tr.isub (pc := 8) d_X6_pass_8 ?_
  refine Tr.gen (P := fun v => (-2147483648) ≤ v ∧ v ≤ 2147483647) (w32_b _) (fun r8 er8 br8 => ?_)
  refine Tr.mmin (pc := 9) d_X6_pass_9 ml_6_158 mw_mmin (Nat.le_of_ble_eq_true rfl) ?_
  refine Tr.gen (P := fun v => (v = a1 ∧ a1 ≤ r8) ∨ (v = r8 ∧ r8 ≤ a1)) (f_min_p _ _) (fun r9 er9 br9 => ?_)
  refine Tr.istore (pc := 12) (i := 4) (ls2 := [(4, (0, r9)), (0, (2, 74)), (1, (0, a1)), (2, (0, a2)), (3, (0, a3))]) d_X6_pass_12 (by decide) rfl ?_
  refine Tr.aload_n (pc := 14) (i := 0) d_X6_pass_14 rfl rfl ?_
  refine Tr.getz (pc := 15) d_X6_pass_15 f_6_106 (by decide) (ty_74 hS.1.1) ?_
  refine Tr.gen (P := fun v => 0 ≤ v ∧ v ≤ 1) (ir_74_16 hS.1.2.1) (fun r15 er15 br15 => ?_)
  have J34 : ∀ (M : Mem) (q34_0 : Int), St Tru ws_X6_pass_74_w3 as_X6_pass_74_w3 M0 M → ((-2147483648) ≤ q34_0 ∧ q34_0 ≤ 20) → rd M 74 16 = r15 → rd M 74 9 = r5 → Tr l K 2 mX6_pass 34 [(0, (2, 74)), (1, (0, a1)), (4, (0, r9))] [(0, q34_0)] M (q_X6_pass_74_w3 M0) := by
    intro M q34_0 hS bq34_0 k34_74_16 k34_74_9
    refine Tr.istore (pc := 34) (i := 5) (ls2 := [(5, (0, q34_0)), (0, (2, 74)), (1, (0, a1)), (4, (0, r9))]) d_X6_pass_34 (by decide) rfl ?_
    refine Tr.aload_n (pc := 36) (i := 0) d_X6_pass_36 rfl rfl ?_
    refine Tr.dup (pc := 37) d_X6_pass_37 ne21 ?_
    refine Tr.getf (pc := 38) d_X6_pass_38 f_6_68 (by decide) (by decide) (ty_74 hS.1.1) ?_
    refine Tr.tp r5 k34_74_9 ?_
    refine Tr.iload (pc := 41) (i := 5) d_X6_pass_41 rfl ?_
    refine Tr.iadd (pc := 43) d_X6_pass_43 ?_
    refine Tr.gen (P := fun v => (-2147483648) ≤ v ∧ v ≤ 2147483647) (w32_b _) (fun r43 er43 br43 => ?_)
    refine Tr.putfS (pc := 44) (P := St Tru ws_X6_pass_74_w3 as_X6_pass_74_w3 M0) d_X6_pass_44 f_6_68 (by decide) (by decide) (ty_74 hS.1.1) (st_74_9 hS (by decide) (by omega) trivial) (fun M44 hS w44 => ?_)
    refine Tr.iload (pc := 47) (i := 5) d_X6_pass_47 rfl ?_
    refine Tr.iload_n (pc := 49) (i := 1) d_X6_pass_49 rfl rfl ?_
    refine Tr.icmp_ge (pc := 50) (tgt := 69) d_X6_pass_50 rfl (fun c50 => ?_) (fun c50 => ?_)
    · refine Tr.iload (pc := 69) (i := 5) d_X6_pass_69 rfl ?_
      exact Tr.iret (pc := 71) d_X6_pass_71 rfl ⟨hS, _, rfl, by omega, by omega⟩
    · refine Tr.aload_n (pc := 53) (i := 0) d_X6_pass_53 rfl rfl ?_
      refine Tr.iload (pc := 54) (i := 5) d_X6_pass_54 rfl ?_
      refine Tr.iload (pc := 56) (i := 4) d_X6_pass_56 rfl ?_
      refine Tr.icmp_ne (pc := 58) (tgt := 65) d_X6_pass_58 rfl (fun c58 => ?_) (fun c58 => ?_)
      · refine Tr.iconst (pc := 65) d_X6_pass_65 (by decide) ?_
        refine Tr.putfS (pc := 66) (P := St Tru ws_X6_pass_74_w3 as_X6_pass_74_w3 M0) d_X6_pass_66 f_6_62 (by decide) (by decide) (ty_74 hS.1.1) (st_74_14 hS (by decide) (by omega) trivial) (fun M66 hS w66 => ?_)
        refine Tr.iload (pc := 69) (i := 5) d_X6_pass_69 rfl ?_
        exact Tr.iret (pc := 71) d_X6_pass_71 rfl ⟨hS, _, rfl, by omega, by omega⟩
      · refine Tr.iconst (pc := 61) d_X6_pass_61 (by decide) ?_
        refine Tr.goto (pc := 62) (tgt := 66) d_X6_pass_62 rfl ?_
        refine Tr.putfS (pc := 66) (P := St Tru ws_X6_pass_74_w3 as_X6_pass_74_w3 M0) d_X6_pass_66 f_6_62 (by decide) (by decide) (ty_74 hS.1.1) (st_74_14 hS (by decide) (by omega) trivial) (fun M66 hS w66 => ?_)
        refine Tr.iload (pc := 69) (i := 5) d_X6_pass_69 rfl ?_
        exact Tr.iret (pc := 71) d_X6_pass_71 rfl ⟨hS, _, rfl, by omega, by omega⟩
  refine Tr.if_eq (pc := 18) (tgt := 32) d_X6_pass_18 rfl (fun c18 => ?_) (fun c18 => ?_)
  · refine Tr.iload (pc := 32) (i := 4) d_X6_pass_32 rfl ?_
    refine Tr.pick [1, 2, 0] (ls2 := [(0, (2, 74)), (1, (0, a1)), (4, (0, r9))]) rfl ?_
    exact J34 _ _ hS (by omega) er15 er5
  · refine Tr.aload_n (pc := 21) (i := 0) d_X6_pass_21 rfl rfl ?_
    refine Tr.iload (pc := 22) (i := 4) d_X6_pass_22 rfl ?_
    refine Tr.iload_n (pc := 24) (i := 2) d_X6_pass_24 rfl rfl ?_
    refine Tr.iload_n (pc := 25) (i := 3) d_X6_pass_25 rfl rfl ?_
    refine Tr.tp 1 (by omega) ?_
    refine Tr.callV (pc := 26) (as := [_, _, _]) d_X6_pass_26 s_6_183 ok_X6_afforded rfl rfl (Nat.le_of_ble_eq_true rfl) (Nat.le_of_ble_eq_true rfl) (by decide) (ty_74 hS.1.1) ?_
    refine Tr.imp (Tr.deep (by decide) (sp_X6_afforded_74_w3 hS.1 ((St.kp hS (by decide) (by decide) (by decide)).trans en_74_1) r9 (by omega) a2 (by omega) 1 (by omega))) ?_
    rintro M26 _ ⟨h26, r26, rfl, lr26, ur26⟩
    have hS := St.tr hS h26 (by decide) (by decide)
    refine Tr.sc [(0, r26)] rfl ?_
    refine Tr.goto (pc := 29) (tgt := 34) d_X6_pass_29 rfl ?_
    refine Tr.pick [1, 2, 0] (ls2 := [(0, (2, 74)), (1, (0, a1)), (4, (0, r9))]) rfl ?_
    exact J34 _ _ hS (by omega) ((St.kp h26 (by decide) (by decide) (by decide)).trans er15) ((St.kp h26 (by decide) (by decide) (by decide)).trans er5)

def ws_X1_note_82_w2 : List (Int × Int) := []
def as_X1_note_82_w2 : List Int := [83]
def q_X1_note_82_w2 (M0 M' : Mem) (r : Option PV) : Prop := St Tru ws_X1_note_82_w2 as_X1_note_82_w2 M0 M' ∧ r = none
set_option maxRecDepth 100000 in
set_option maxHeartbeats 4000000 in
theorem sp_X1_note_82_w2 {l : Launch} {K : EC} {M0 : Mem} (hI : In Tru M0)  (a1 : Int) (ha1 : 0 ≤ a1 ∧ a1 ≤ 5) (a2 : Int) (ha2 : 1 ≤ a2 ∧ a2 ≤ 1) (a3 : Int) (ha3 : (-2147483648) ≤ a3 ∧ a3 ≤ 2147483647) (a4 : Int) (ha4 : (-2147483648) ≤ a4 ∧ a4 ≤ 2147483647)  : Tr l K 0 mX1_note 0 [(0, (2, 82)), (1, (0, a1)), (2, (0, a2)), (3, (0, a3)), (4, (0, a4))] [] M0 (q_X1_note_82_w2 M0) := by
  have hS : St Tru ws_X1_note_82_w2 as_X1_note_82_w2 M0 M0 := St.rf hI
  refine Tr.iload_n (pc := 0) (i := 3) d_X1_note_0 rfl rfl ?_
  refine Tr.iload (pc := 1) (i := 4) d_X1_note_1 rfl ?_
  refine Tr.icmp_lt (pc := 3) (tgt := 7) d_X1_note_3 rfl (fun c3 => ?_) (fun c3 => ?_)
  · refine Tr.aload_n (pc := 7) (i := 0) d_X1_note_7 rfl rfl ?_
    refine Tr.getf (pc := 8) d_X1_note_8 f_1_9 (by decide) (by decide) (ty_82 hS.1.1) ?_
    refine Tr.tp 83 (fx_82_2 hS.1.1) ?_
    refine Tr.iload_n (pc := 11) (i := 1) d_X1_note_11 rfl rfl ?_
    refine Tr.iconst (pc := 12) d_X1_note_12 (by decide) ?_
    refine Tr.imul (pc := 13) d_X1_note_13 ?_
    refine Tr.tp (4 * a1) ((w32_id (by omega)).trans (by omega)) ?_
    refine Tr.iload_n (pc := 14) (i := 2) d_X1_note_14 rfl rfl ?_
    refine Tr.tp 1 (by omega) ?_
    refine Tr.iadd (pc := 15) d_X1_note_15 ?_
    refine Tr.tp (4 * a1 + 1) ((w32_id (by omega)).trans (by omega)) ?_
    refine Tr.dup2 (pc := 16) d_X1_note_16 ne01 ne21 ?_
    refine Tr.iald (pc := 17) d_X1_note_17 (ty_83 hS.1.1) (by omega) (by omega) ?_
    refine Tr.gen (P := fun v => (-2147483648) ≤ v ∧ v ≤ 2147483647) (ar_83 hS.1.2.1 _) (fun r17 er17 br17 => ?_)
    refine Tr.iload (pc := 18) (i := 4) d_X1_note_18 rfl ?_
    refine Tr.iload_n (pc := 20) (i := 3) d_X1_note_20 rfl rfl ?_
    refine Tr.isub (pc := 21) d_X1_note_21 ?_
    refine Tr.gen (P := fun v => (-2147483648) ≤ v ∧ v ≤ 2147483647) (w32_b _) (fun r21 er21 br21 => ?_)
    refine Tr.iadd (pc := 22) d_X1_note_22 ?_
    refine Tr.gen (P := fun v => (-2147483648) ≤ v ∧ v ≤ 2147483647) (w32_b _) (fun r22 er22 br22 => ?_)
    refine Tr.iastS (pc := 23) (P := St Tru ws_X1_note_82_w2 as_X1_note_82_w2 M0) d_X1_note_23 (ty_83 hS.1.1) (by omega) (by omega) (sa_83 hS (by decide) (by omega) trivial) (fun M23 hS w23 => ?_)
    refine Tr.aload_n (pc := 24) (i := 0) d_X1_note_24 rfl rfl ?_
    refine Tr.getz (pc := 25) d_X1_note_25 f_1_37 (by decide) (ty_82 hS.1.1) ?_
    refine Tr.tp 0 (fx_82_0 hS.1.1) ?_
    refine Tr.if_ne (pc := 28) (tgt := 32) d_X1_note_28 rfl (fun hc => absurd (by omega) hc) (fun _ => ?_)
    exact Tr.vret (pc := 31) d_X1_note_31 rfl ⟨hS, rfl⟩
  · exact Tr.vret (pc := 6) d_X1_note_6 rfl ⟨hS, rfl⟩

def ws_X1_note_82_w3 : List (Int × Int) := []
def as_X1_note_82_w3 : List Int := [83]
def q_X1_note_82_w3 (M0 M' : Mem) (r : Option PV) : Prop := St Tru ws_X1_note_82_w3 as_X1_note_82_w3 M0 M' ∧ r = none
set_option maxRecDepth 100000 in
set_option maxHeartbeats 4000000 in
theorem sp_X1_note_82_w3 {l : Launch} {K : EC} {M0 : Mem} (hI : In Tru M0)  (a1 : Int) (ha1 : 0 ≤ a1 ∧ a1 ≤ 5) (a2 : Int) (ha2 : 3 ≤ a2 ∧ a2 ≤ 3) (a3 : Int) (ha3 : (-2147483648) ≤ a3 ∧ a3 ≤ 2147483647) (a4 : Int) (ha4 : (-2147483648) ≤ a4 ∧ a4 ≤ 2147483647)  : Tr l K 0 mX1_note 0 [(0, (2, 82)), (1, (0, a1)), (2, (0, a2)), (3, (0, a3)), (4, (0, a4))] [] M0 (q_X1_note_82_w3 M0) := by
  have hS : St Tru ws_X1_note_82_w3 as_X1_note_82_w3 M0 M0 := St.rf hI
  refine Tr.iload_n (pc := 0) (i := 3) d_X1_note_0 rfl rfl ?_
  refine Tr.iload (pc := 1) (i := 4) d_X1_note_1 rfl ?_
  refine Tr.icmp_lt (pc := 3) (tgt := 7) d_X1_note_3 rfl (fun c3 => ?_) (fun c3 => ?_)
  · refine Tr.aload_n (pc := 7) (i := 0) d_X1_note_7 rfl rfl ?_
    refine Tr.getf (pc := 8) d_X1_note_8 f_1_9 (by decide) (by decide) (ty_82 hS.1.1) ?_
    refine Tr.tp 83 (fx_82_2 hS.1.1) ?_
    refine Tr.iload_n (pc := 11) (i := 1) d_X1_note_11 rfl rfl ?_
    refine Tr.iconst (pc := 12) d_X1_note_12 (by decide) ?_
    refine Tr.imul (pc := 13) d_X1_note_13 ?_
    refine Tr.tp (4 * a1) ((w32_id (by omega)).trans (by omega)) ?_
    refine Tr.iload_n (pc := 14) (i := 2) d_X1_note_14 rfl rfl ?_
    refine Tr.tp 3 (by omega) ?_
    refine Tr.iadd (pc := 15) d_X1_note_15 ?_
    refine Tr.tp (4 * a1 + 3) ((w32_id (by omega)).trans (by omega)) ?_
    refine Tr.dup2 (pc := 16) d_X1_note_16 ne01 ne21 ?_
    refine Tr.iald (pc := 17) d_X1_note_17 (ty_83 hS.1.1) (by omega) (by omega) ?_
    refine Tr.gen (P := fun v => (-2147483648) ≤ v ∧ v ≤ 2147483647) (ar_83 hS.1.2.1 _) (fun r17 er17 br17 => ?_)
    refine Tr.iload (pc := 18) (i := 4) d_X1_note_18 rfl ?_
    refine Tr.iload_n (pc := 20) (i := 3) d_X1_note_20 rfl rfl ?_
    refine Tr.isub (pc := 21) d_X1_note_21 ?_
    refine Tr.gen (P := fun v => (-2147483648) ≤ v ∧ v ≤ 2147483647) (w32_b _) (fun r21 er21 br21 => ?_)
    refine Tr.iadd (pc := 22) d_X1_note_22 ?_
    refine Tr.gen (P := fun v => (-2147483648) ≤ v ∧ v ≤ 2147483647) (w32_b _) (fun r22 er22 br22 => ?_)
    refine Tr.iastS (pc := 23) (P := St Tru ws_X1_note_82_w3 as_X1_note_82_w3 M0) d_X1_note_23 (ty_83 hS.1.1) (by omega) (by omega) (sa_83 hS (by decide) (by omega) trivial) (fun M23 hS w23 => ?_)
    refine Tr.aload_n (pc := 24) (i := 0) d_X1_note_24 rfl rfl ?_
    refine Tr.getz (pc := 25) d_X1_note_25 f_1_37 (by decide) (ty_82 hS.1.1) ?_
    refine Tr.tp 0 (fx_82_0 hS.1.1) ?_
    refine Tr.if_ne (pc := 28) (tgt := 32) d_X1_note_28 rfl (fun hc => absurd (by omega) hc) (fun _ => ?_)
    exact Tr.vret (pc := 31) d_X1_note_31 rfl ⟨hS, rfl⟩
  · exact Tr.vret (pc := 6) d_X1_note_6 rfl ⟨hS, rfl⟩

def ws_X6_sipsAt_74_w2 : List (Int × Int) := []
def as_X6_sipsAt_74_w2 : List Int := []
def q_X6_sipsAt_74_w2 (M0 M' : Mem) (r : Option PV) : Prop := St Tru ws_X6_sipsAt_74_w2 as_X6_sipsAt_74_w2 M0 M' ∧ ∃ v : Int, r = some (0, v) ∧ (-2147483648) ≤ v ∧ v ≤ 2147483647
set_option maxRecDepth 100000 in
set_option maxHeartbeats 4000000 in
theorem sp_X6_sipsAt_74_w2 {l : Launch} {K : EC} {M0 : Mem} (hI : In Tru M0) (en_74_1 : rd M0 74 1 = 7) (a1 : Int) (ha1 : (-2147483648) ≤ a1 ∧ a1 ≤ 2147483647) (a2 : Int) (ha2 : 0 ≤ a2 ∧ a2 ≤ 5) (a3 : Int) (ha3 : 3 ≤ a3 ∧ a3 ≤ 3)  : Tr l K 0 mX6_sipsAt 0 [(0, (2, 74)), (1, (0, a1)), (2, (0, a2)), (3, (0, a3))] [] M0 (q_X6_sipsAt_74_w2 M0) := by
  have hS : St Tru ws_X6_sipsAt_74_w2 as_X6_sipsAt_74_w2 M0 M0 := St.rf hI
  refine Tr.aload_n (pc := 0) (i := 0) d_X6_sipsAt_0 rfl rfl ?_
  refine Tr.getf (pc := 1) d_X6_sipsAt_1 f_6_46 (by decide) (by decide) (ty_74 hS.1.1) ?_
  refine Tr.tp 7 ((St.kp hS (by decide) (by decide) (by decide)).trans en_74_1) ?_
  refine Tr.getf (pc := 4) d_X6_sipsAt_4 f_6_135 (by decide) (by decide) (ty_7 hS.1.1) ?_
  refine Tr.gen (P := fun v => (-1) ≤ v ∧ v ≤ 999) (ir_7_0 hS.1.2.1) (fun r4 er4 br4 => ?_)
  refine Tr.istore (pc := 7) (i := 4) (ls2 := [(4, (0, r4)), (0, (2, 74)), (1, (0, a1)), (2, (0, a2)), (3, (0, a3))]) d_X6_sipsAt_7 (by decide) rfl ?_
  refine Tr.iconst (pc := 9) d_X6_sipsAt_9 (by decide) ?_
  refine Tr.istore (pc := 10) (i := 5) (ls2 := [(5, (0, 0)), (4, (0, r4)), (0, (2, 74)), (1, (0, a1)), (2, (0, a2)), (3, (0, a3))]) d_X6_sipsAt_10 (by decide) rfl ?_
  have J12 : ∀ (n12 : Nat) (M : Mem) (p12_4 p12_5 : Int), St Tru ws_X6_sipsAt_74_w2 as_X6_sipsAt_74_w2 M0 M → ((-2147483648) ≤ p12_4 ∧ p12_4 ≤ 2147483647) → (0 ≤ p12_5 ∧ p12_5 ≤ 6) → rd M 7 0 = r4 → (6 - p12_5).toNat < n12 → Tr l K 0 mX6_sipsAt 12 [(0, (2, 74)), (1, (0, a1)), (2, (0, a2)), (3, (0, a3)), (4, (0, p12_4)), (5, (0, p12_5))] [] M (q_X6_sipsAt_74_w2 M0) := by
    intro n12
    induction n12 with
    | zero => intro M p12_4 p12_5 hS bp12_4 bp12_5 k12_7_0 hm12; exact absurd hm12 (Nat.not_lt_zero _)
    | succ n12 J12 =>
      intro M p12_4 p12_5 hS bp12_4 bp12_5 k12_7_0 hm12
      refine Tr.iload (pc := 12) (i := 5) d_X6_sipsAt_12 rfl ?_
      refine Tr.aload_n (pc := 14) (i := 0) d_X6_sipsAt_14 rfl rfl ?_
      refine Tr.getf (pc := 15) d_X6_sipsAt_15 f_6_46 (by decide) (by decide) (ty_74 hS.1.1) ?_
      refine Tr.tp 7 ((St.kp hS (by decide) (by decide) (by decide)).trans en_74_1) ?_
      refine Tr.getf (pc := 18) d_X6_sipsAt_18 f_6_116 (by decide) (by decide) (ty_7 hS.1.1) ?_
      refine Tr.tp 8 (fx_7_4 hS.1.1) ?_
      refine Tr.iconst (pc := 21) d_X6_sipsAt_21 (by decide) ?_
      refine Tr.iald (pc := 22) d_X6_sipsAt_22 (ty_8 hS.1.1) (by omega) (by omega) ?_
      refine Tr.gen (P := fun v => 0 ≤ v ∧ v ≤ 6) (ir_8_0 hS.1.2.1) (fun r22 er22 br22 => ?_)
      refine Tr.icmp_ge (pc := 23) (tgt := 91) d_X6_sipsAt_23 rfl (fun c23 => ?_) (fun c23 => ?_)
      · refine Tr.iload (pc := 91) (i := 4) d_X6_sipsAt_91 rfl ?_
        exact Tr.iret (pc := 93) d_X6_sipsAt_93 rfl ⟨hS, _, rfl, by omega, by omega⟩
      · refine Tr.aload_n (pc := 26) (i := 0) d_X6_sipsAt_26 rfl rfl ?_
        refine Tr.getf (pc := 27) d_X6_sipsAt_27 f_6_24 (by decide) (by decide) (ty_74 hS.1.1) ?_
        refine Tr.tp 79 (fx_74_6 hS.1.1) ?_
        refine Tr.iload (pc := 30) (i := 5) d_X6_sipsAt_30 rfl ?_
        refine Tr.iald (pc := 32) d_X6_sipsAt_32 (ty_79 hS.1.1) (by omega) (by omega) ?_
        refine Tr.gen (P := fun v => 0 ≤ v ∧ v ≤ 1) (ar_79 hS.1.2.1 _) (fun r32 er32 br32 => ?_)
        refine Tr.iconst (pc := 33) d_X6_sipsAt_33 (by decide) ?_
        have J53 : ∀ (M : Mem) (q53_0 : Int), St Tru ws_X6_sipsAt_74_w2 as_X6_sipsAt_74_w2 M0 M → (0 ≤ q53_0 ∧ q53_0 ≤ 2) → rd M 7 0 = r4 → rd M 79 p12_5 = r32 → rd M 8 0 = r22 → Tr l K 0 mX6_sipsAt 53 [(0, (2, 74)), (1, (0, a1)), (2, (0, a2)), (3, (0, a3)), (4, (0, p12_4)), (5, (0, p12_5))] [(0, q53_0)] M (q_X6_sipsAt_74_w2 M0) := by
          intro M q53_0 hS bq53_0 k53_7_0 k53_79_p12_510 k53_8_0
          refine Tr.istore (pc := 53) (i := 6) (ls2 := [(6, (0, q53_0)), (0, (2, 74)), (1, (0, a1)), (2, (0, a2)), (3, (0, a3)), (4, (0, p12_4)), (5, (0, p12_5))]) d_X6_sipsAt_53 (by decide) rfl ?_
          refine Tr.iload (pc := 55) (i := 4) d_X6_sipsAt_55 rfl ?_
          refine Tr.aload_n (pc := 57) (i := 0) d_X6_sipsAt_57 rfl rfl ?_
          refine Tr.getf (pc := 58) d_X6_sipsAt_58 f_6_46 (by decide) (by decide) (ty_74 hS.1.1) ?_
          refine Tr.tp 7 ((St.kp hS (by decide) (by decide) (by decide)).trans en_74_1) ?_
          refine Tr.getf (pc := 61) d_X6_sipsAt_61 f_6_189 (by decide) (by decide) (ty_7 hS.1.1) ?_
          refine Tr.tp 9 (fx_7_5 hS.1.1) ?_
          refine Tr.iload (pc := 64) (i := 5) d_X6_sipsAt_64 rfl ?_
          refine Tr.iconst (pc := 66) d_X6_sipsAt_66 (by decide) ?_
          refine Tr.imul (pc := 67) d_X6_sipsAt_67 ?_
          refine Tr.tp (4 * p12_5) ((w32_id (by omega)).trans (by omega)) ?_
          refine Tr.iload (pc := 68) (i := 5) d_X6_sipsAt_68 rfl ?_
          refine Tr.iload_n (pc := 70) (i := 2) d_X6_sipsAt_70 rfl rfl ?_
          have J80 : ∀ (M : Mem) (q80_3 : Int), St Tru ws_X6_sipsAt_74_w2 as_X6_sipsAt_74_w2 M0 M → (0 ≤ q80_3 ∧ q80_3 ≤ 3) → rd M 7 0 = r4 → rd M 79 p12_5 = r32 → rd M 8 0 = r22 → Tr l K 0 mX6_sipsAt 80 [(0, (2, 74)), (1, (0, a1)), (2, (0, a2)), (3, (0, a3)), (5, (0, p12_5))] [(0, q80_3), (0, (4 * p12_5)), (2, 9), (0, p12_4)] M (q_X6_sipsAt_74_w2 M0) := by
            intro M q80_3 hS bq80_3 k80_7_0 k80_79_p12_510 k80_8_0
            refine Tr.iadd (pc := 80) d_X6_sipsAt_80 ?_
            refine Tr.tp (4 * p12_5 + q80_3) ((w32_id (by omega)).trans (by omega)) ?_
            refine Tr.iald (pc := 81) d_X6_sipsAt_81 (ty_9 hS.1.1) (by omega) (by omega) ?_
            refine Tr.gen (P := fun v => (-1) ≤ v ∧ v ≤ 999) (ar_9 hS.1.2.1 _) (fun r81 er81 br81 => ?_)
            refine Tr.iadd (pc := 82) d_X6_sipsAt_82 ?_
            refine Tr.gen (P := fun v => (-2147483648) ≤ v ∧ v ≤ 2147483647) (w32_b _) (fun r82 er82 br82 => ?_)
            refine Tr.istore (pc := 83) (i := 4) (ls2 := [(4, (0, r82)), (0, (2, 74)), (1, (0, a1)), (2, (0, a2)), (3, (0, a3)), (5, (0, p12_5))]) d_X6_sipsAt_83 (by decide) rfl ?_
            refine Tr.iincV (pc := 85) (n2 := (p12_5 + 1)) (ls2 := [(5, (0, (p12_5 + 1))), (4, (0, r82)), (0, (2, 74)), (1, (0, a1)), (2, (0, a2)), (3, (0, a3))]) d_X6_sipsAt_85 rfl (by decide) ((w32_id (by omega)).trans (by omega)) rfl ?_
            refine Tr.goto (pc := 88) (tgt := 12) d_X6_sipsAt_88 rfl ?_
            refine Tr.pick [2, 3, 4, 5, 1, 0] (ls2 := [(0, (2, 74)), (1, (0, a1)), (2, (0, a2)), (3, (0, a3)), (4, (0, r82)), (5, (0, (p12_5 + 1)))]) rfl ?_
            exact J12 _ _ _ hS (by omega) (by omega) k80_7_0 (by omega)
          refine Tr.icmp_ne (pc := 71) (tgt := 78) d_X6_sipsAt_71 rfl (fun c71 => ?_) (fun c71 => ?_)
          · refine Tr.iload (pc := 78) (i := 6) d_X6_sipsAt_78 rfl ?_
            refine Tr.pick [1, 2, 3, 4, 6] (ls2 := [(0, (2, 74)), (1, (0, a1)), (2, (0, a2)), (3, (0, a3)), (5, (0, p12_5))]) rfl ?_
            exact J80 _ _ hS (by omega) k53_7_0 k53_79_p12_510 k53_8_0
          · refine Tr.iload_n (pc := 74) (i := 3) d_X6_sipsAt_74 rfl rfl ?_
            refine Tr.tp 3 (by omega) ?_
            refine Tr.goto (pc := 75) (tgt := 80) d_X6_sipsAt_75 rfl ?_
            refine Tr.pick [1, 2, 3, 4, 6] (ls2 := [(0, (2, 74)), (1, (0, a1)), (2, (0, a2)), (3, (0, a3)), (5, (0, p12_5))]) rfl ?_
            exact J80 _ _ hS (by omega) k53_7_0 k53_79_p12_510 k53_8_0
        have J48 : ∀ (M : Mem), St Tru ws_X6_sipsAt_74_w2 as_X6_sipsAt_74_w2 M0 M → rd M 7 0 = r4 → rd M 79 p12_5 = r32 → rd M 8 0 = r22 → Tr l K 0 mX6_sipsAt 48 [(0, (2, 74)), (1, (0, a1)), (2, (0, a2)), (3, (0, a3)), (4, (0, p12_4)), (5, (0, p12_5))] [] M (q_X6_sipsAt_74_w2 M0) := by
          intro M  hS  k48_7_0 k48_79_p12_510 k48_8_0
          refine Tr.iconst (pc := 48) d_X6_sipsAt_48 (by decide) ?_
          refine Tr.goto (pc := 49) (tgt := 53) d_X6_sipsAt_49 rfl ?_
          refine Tr.pick [0, 1, 2, 3, 4, 5] (ls2 := [(0, (2, 74)), (1, (0, a1)), (2, (0, a2)), (3, (0, a3)), (4, (0, p12_4)), (5, (0, p12_5))]) rfl ?_
          exact J53 _ _ hS (by omega) k48_7_0 k48_79_p12_510 k48_8_0
        refine Tr.icmp_eq (pc := 34) (tgt := 48) d_X6_sipsAt_34 rfl (fun c34 => ?_) (fun c34 => ?_)
        · refine Tr.pick [0, 1, 2, 3, 4, 5] (ls2 := [(0, (2, 74)), (1, (0, a1)), (2, (0, a2)), (3, (0, a3)), (4, (0, p12_4)), (5, (0, p12_5))]) rfl ?_
          exact J48 _ hS k12_7_0 er32 er22
        · refine Tr.iload_n (pc := 37) (i := 1) d_X6_sipsAt_37 rfl rfl ?_
          refine Tr.aload_n (pc := 38) (i := 0) d_X6_sipsAt_38 rfl rfl ?_
          refine Tr.getf (pc := 39) d_X6_sipsAt_39 f_6_27 (by decide) (by decide) (ty_74 hS.1.1) ?_
          refine Tr.tp 80 (fx_74_7 hS.1.1) ?_
          refine Tr.iload (pc := 42) (i := 5) d_X6_sipsAt_42 rfl ?_
          refine Tr.iald (pc := 44) d_X6_sipsAt_44 (ty_80 hS.1.1) (by omega) (by omega) ?_
          refine Tr.gen (P := fun v => (-2147483648) ≤ v ∧ v ≤ 2147483647) (ar_80 hS.1.2.1 _) (fun r44 er44 br44 => ?_)
          refine Tr.icmp_ge (pc := 45) (tgt := 52) d_X6_sipsAt_45 rfl (fun c45 => ?_) (fun c45 => ?_)
          · refine Tr.iconst (pc := 52) d_X6_sipsAt_52 (by decide) ?_
            refine Tr.pick [0, 1, 2, 3, 4, 5] (ls2 := [(0, (2, 74)), (1, (0, a1)), (2, (0, a2)), (3, (0, a3)), (4, (0, p12_4)), (5, (0, p12_5))]) rfl ?_
            exact J53 _ _ hS (by omega) k12_7_0 er32 er22
          · refine Tr.pick [0, 1, 2, 3, 4, 5] (ls2 := [(0, (2, 74)), (1, (0, a1)), (2, (0, a2)), (3, (0, a3)), (4, (0, p12_4)), (5, (0, p12_5))]) rfl ?_
            exact J48 _ hS k12_7_0 er32 er22
  refine Tr.pick [2, 3, 4, 5, 1, 0] (ls2 := [(0, (2, 74)), (1, (0, a1)), (2, (0, a2)), (3, (0, a3)), (4, (0, r4)), (5, (0, 0))]) rfl ?_
  exact J12 _ _ _ _ hS (by omega) (by omega) er4 (Nat.lt_succ_self _)
end
/-! 30.06 -/
section
def ws_X6_afforded_74_w4 : List (Int × Int) := [(74, 17)]
def as_X6_afforded_74_w4 : List Int := []
def q_X6_afforded_74_w4 (M0 M' : Mem) (r : Option PV) : Prop := St Tru ws_X6_afforded_74_w4 as_X6_afforded_74_w4 M0 M' ∧ ∃ v : Int, r = some (0, v) ∧ (-2147483648) ≤ v ∧ v ≤ 50
set_option maxRecDepth 100000 in
set_option maxHeartbeats 4000000 in
theorem sp_X6_afforded_74_w4 {l : Launch} {K : EC} {M0 : Mem} (hI : In Tru M0) (en_74_1 : rd M0 74 1 = 7) (a1 : Int) (ha1 : (-2147483648) ≤ a1 ∧ a1 ≤ 50) (a2 : Int) (ha2 : 0 ≤ a2 ∧ a2 ≤ 5) (a3 : Int) (ha3 : 3 ≤ a3 ∧ a3 ≤ 3)  : Tr l K 1 mX6_afforded 0 [(0, (2, 74)), (1, (0, a1)), (2, (0, a2)), (3, (0, a3))] [] M0 (q_X6_afforded_74_w4 M0) := by
  have hS : St Tru ws_X6_afforded_74_w4 as_X6_afforded_74_w4 M0 M0 := St.rf hI
  refine Tr.iconst (pc := 0) d_X6_afforded_0 (by decide) ?_
  refine Tr.istore (pc := 1) (i := 4) (ls2 := [(4, (0, 0)), (0, (2, 74)), (1, (0, a1)), (2, (0, a2)), (3, (0, a3))]) d_X6_afforded_1 (by decide) rfl ?_
  have J3 : ∀ (n3 : Nat) (M : Mem) (p3_4 : Int), St Tru ws_X6_afforded_74_w4 as_X6_afforded_74_w4 M0 M → (0 ≤ p3_4 ∧ p3_4 ≤ 50) → (50 - p3_4).toNat < n3 → Tr l K 1 mX6_afforded 3 [(0, (2, 74)), (1, (0, a1)), (2, (0, a2)), (3, (0, a3)), (4, (0, p3_4))] [] M (q_X6_afforded_74_w4 M0) := by
    intro n3
    induction n3 with
    | zero => intro M p3_4 hS bp3_4  hm3; exact absurd hm3 (Nat.not_lt_zero _)
    | succ n3 J3 =>
      intro M p3_4 hS bp3_4  hm3
      refine Tr.iload (pc := 3) (i := 4) d_X6_afforded_3 rfl ?_
      refine Tr.iload_n (pc := 5) (i := 1) d_X6_afforded_5 rfl rfl ?_
      refine Tr.icmp_ge (pc := 6) (tgt := 53) d_X6_afforded_6 rfl (fun c6 => ?_) (fun c6 => ?_)
      · refine Tr.iload_n (pc := 53) (i := 1) d_X6_afforded_53 rfl rfl ?_
        exact Tr.iret (pc := 54) d_X6_afforded_54 rfl ⟨hS, _, rfl, by omega, by omega⟩
      · refine Tr.aload_n (pc := 9) (i := 0) d_X6_afforded_9 rfl rfl ?_
        refine Tr.aload_n (pc := 10) (i := 0) d_X6_afforded_10 rfl rfl ?_
        refine Tr.getf (pc := 11) d_X6_afforded_11 f_6_68 (by decide) (by decide) (ty_74 hS.1.1) ?_
        refine Tr.gen (P := fun v => (-2147483648) ≤ v ∧ v ≤ 2147483647) (ir_74_9 hS.1.2.1) (fun r11 er11 br11 => ?_)
        refine Tr.iload (pc := 14) (i := 4) d_X6_afforded_14 rfl ?_
        refine Tr.iadd (pc := 16) d_X6_afforded_16 ?_
        refine Tr.gen (P := fun v => (-2147483648) ≤ v ∧ v ≤ 2147483647) (w32_b _) (fun r16 er16 br16 => ?_)
        refine Tr.iload_n (pc := 17) (i := 2) d_X6_afforded_17 rfl rfl ?_
        refine Tr.iload_n (pc := 18) (i := 3) d_X6_afforded_18 rfl rfl ?_
        refine Tr.tp 3 (by omega) ?_
        refine Tr.callV (pc := 19) (as := [_, _, _]) d_X6_afforded_19 s_6_186 ok_X6_sipsAt rfl rfl (Nat.le_of_ble_eq_true rfl) (Nat.le_of_ble_eq_true rfl) (by decide) (ty_74 hS.1.1) ?_
        refine Tr.imp (Tr.deep (by decide) (sp_X6_sipsAt_74_w2 hS.1 ((St.kp hS (by decide) (by decide) (by decide)).trans en_74_1) r16 (by omega) a2 (by omega) 3 (by omega))) ?_
        rintro M19 _ ⟨h19, r19, rfl, lr19, ur19⟩
        have hS := St.tr hS h19 (by decide) (by decide)
        refine Tr.sc [(0, r19)] rfl ?_
        refine Tr.istore (pc := 22) (i := 5) (ls2 := [(5, (0, r19)), (0, (2, 74)), (1, (0, a1)), (2, (0, a2)), (3, (0, a3)), (4, (0, p3_4))]) d_X6_afforded_22 (by decide) rfl ?_
        refine Tr.iload (pc := 24) (i := 5) d_X6_afforded_24 rfl ?_
        refine Tr.aload_n (pc := 26) (i := 0) d_X6_afforded_26 rfl rfl ?_
        refine Tr.getf (pc := 27) d_X6_afforded_27 f_6_110 (by decide) (by decide) (ty_74 hS.1.1) ?_
        refine Tr.gen (P := fun v => (-2147483648) ≤ v ∧ v ≤ 2147483647) (ir_74_17 hS.1.2.1) (fun r27 er27 br27 => ?_)
        refine Tr.icmp_le (pc := 30) (tgt := 36) d_X6_afforded_30 rfl (fun c30 => ?_) (fun c30 => ?_)
        · refine Tr.aload_n (pc := 36) (i := 0) d_X6_afforded_36 rfl rfl ?_
          refine Tr.dup (pc := 37) d_X6_afforded_37 ne21 ?_
          refine Tr.getf (pc := 38) d_X6_afforded_38 f_6_110 (by decide) (by decide) (ty_74 hS.1.1) ?_
          refine Tr.tp r27 er27 ?_
          refine Tr.iload (pc := 41) (i := 5) d_X6_afforded_41 rfl ?_
          refine Tr.isub (pc := 43) d_X6_afforded_43 ?_
          refine Tr.gen (P := fun v => (-2147483648) ≤ v ∧ v ≤ 2147483647) (w32_b _) (fun r43 er43 br43 => ?_)
          refine Tr.putfS (pc := 44) (P := St Tru ws_X6_afforded_74_w4 as_X6_afforded_74_w4 M0) d_X6_afforded_44 f_6_110 (by decide) (by decide) (ty_74 hS.1.1) (st_74_17 hS (by decide) (by omega) trivial) (fun M44 hS w44 => ?_)
          refine Tr.iincV (pc := 47) (n2 := (p3_4 + 1)) (ls2 := [(4, (0, (p3_4 + 1))), (5, (0, r19)), (0, (2, 74)), (1, (0, a1)), (2, (0, a2)), (3, (0, a3))]) d_X6_afforded_47 rfl (by decide) ((w32_id (by omega)).trans (by omega)) rfl ?_
          refine Tr.goto (pc := 50) (tgt := 3) d_X6_afforded_50 rfl ?_
          refine Tr.pick [2, 3, 4, 5, 0] (ls2 := [(0, (2, 74)), (1, (0, a1)), (2, (0, a2)), (3, (0, a3)), (4, (0, (p3_4 + 1)))]) rfl ?_
          exact J3 _ _ hS (by omega) (by omega)
        · refine Tr.iload (pc := 33) (i := 4) d_X6_afforded_33 rfl ?_
          exact Tr.iret (pc := 35) d_X6_afforded_35 rfl ⟨hS, _, rfl, by omega, by omega⟩
  refine Tr.pick [1, 2, 3, 4, 0] (ls2 := [(0, (2, 74)), (1, (0, a1)), (2, (0, a2)), (3, (0, a3)), (4, (0, 0))]) rfl ?_
  exact J3 _ _ _ hS (by omega) (Nat.lt_succ_self _)

def ws_X6_pass_74_w4 : List (Int × Int) := [(74, 9), (74, 14), (74, 17)]
def as_X6_pass_74_w4 : List Int := []
def q_X6_pass_74_w4 (M0 M' : Mem) (r : Option PV) : Prop := St Tru ws_X6_pass_74_w4 as_X6_pass_74_w4 M0 M' ∧ ∃ v : Int, r = some (0, v) ∧ (-2147483648) ≤ v ∧ v ≤ 50
set_option maxRecDepth 100000 in
set_option maxHeartbeats 4000000 in
theorem sp_X6_pass_74_w4 {l : Launch} {K : EC} {M0 : Mem} (hI : In Tru M0) (en_74_1 : rd M0 74 1 = 7) (a1 : Int) (ha1 : 0 ≤ a1 ∧ a1 ≤ 50) (a2 : Int) (ha2 : 0 ≤ a2 ∧ a2 ≤ 5) (a3 : Int) (ha3 : 3 ≤ a3 ∧ a3 ≤ 3)  : Tr l K 2 mX6_pass 0 [(0, (2, 74)), (1, (0, a1)), (2, (0, a2)), (3, (0, a3))] [] M0 (q_X6_pass_74_w4 M0) := by
  have hS : St Tru ws_X6_pass_74_w4 as_X6_pass_74_w4 M0 M0 := St.rf hI
  refine Tr.iload_n (pc := 0) (i := 1) d_X6_pass_0 rfl rfl ?_
  refine Tr.sipush (pc := 1) d_X6_pass_1 rfl (by decide) ?_
  refine Tr.aload_n (pc := 4) (i := 0) d_X6_pass_4 rfl rfl ?_
  refine Tr.getf (pc := 5) d_X6_pass_5 f_6_68 (by decide) (by decide) (ty_74 hS.1.1) ?_
  refine Tr.gen (P := fun v => (-2147483648) ≤ v ∧ v ≤ 2147483647) (ir_74_9 hS.1.2.1) (fun r5 er5 br5 => ?_)
  refine Tr.isub (pc := 8) d_X6_pass_8 ?_
  refine Tr.gen (P := fun v => (-2147483648) ≤ v ∧ v ≤ 2147483647) (w32_b _) (fun r8 er8 br8 => ?_)
  refine Tr.mmin (pc := 9) d_X6_pass_9 ml_6_158 mw_mmin (Nat.le_of_ble_eq_true rfl) ?_
  refine Tr.gen (P := fun v => (v = a1 ∧ a1 ≤ r8) ∨ (v = r8 ∧ r8 ≤ a1)) (f_min_p _ _) (fun r9 er9 br9 => ?_)
  refine Tr.istore (pc := 12) (i := 4) (ls2 := [(4, (0, r9)), (0, (2, 74)), (1, (0, a1)), (2, (0, a2)), (3, (0, a3))]) d_X6_pass_12 (by decide) rfl ?_
  refine Tr.aload_n (pc := 14) (i := 0) d_X6_pass_14 rfl rfl ?_
  refine Tr.getz (pc := 15) d_X6_pass_15 f_6_106 (by decide) (ty_74 hS.1.1) ?_
  refine Tr.gen (P := fun v => 0 ≤ v ∧ v ≤ 1) (ir_74_16 hS.1.2.1) (fun r15 er15 br15 => ?_)
  have J34 : ∀ (M : Mem) (q34_0 : Int), St Tru ws_X6_pass_74_w4 as_X6_pass_74_w4 M0 M → ((-2147483648) ≤ q34_0 ∧ q34_0 ≤ 50) → rd M 74 16 = r15 → rd M 74 9 = r5 → Tr l K 2 mX6_pass 34 [(0, (2, 74)), (1, (0, a1)), (4, (0, r9))] [(0, q34_0)] M (q_X6_pass_74_w4 M0) := by
    intro M q34_0 hS bq34_0 k34_74_16 k34_74_9
    refine Tr.istore (pc := 34) (i := 5) (ls2 := [(5, (0, q34_0)), (0, (2, 74)), (1, (0, a1)), (4, (0, r9))]) d_X6_pass_34 (by decide) rfl ?_
    refine Tr.aload_n (pc := 36) (i := 0) d_X6_pass_36 rfl rfl ?_
    refine Tr.dup (pc := 37) d_X6_pass_37 ne21 ?_
    refine Tr.getf (pc := 38) d_X6_pass_38 f_6_68 (by decide) (by decide) (ty_74 hS.1.1) ?_
    refine Tr.tp r5 k34_74_9 ?_
    refine Tr.iload (pc := 41) (i := 5) d_X6_pass_41 rfl ?_
    refine Tr.iadd (pc := 43) d_X6_pass_43 ?_
    refine Tr.gen (P := fun v => (-2147483648) ≤ v ∧ v ≤ 2147483647) (w32_b _) (fun r43 er43 br43 => ?_)
    refine Tr.putfS (pc := 44) (P := St Tru ws_X6_pass_74_w4 as_X6_pass_74_w4 M0) d_X6_pass_44 f_6_68 (by decide) (by decide) (ty_74 hS.1.1) (st_74_9 hS (by decide) (by omega) trivial) (fun M44 hS w44 => ?_)
    refine Tr.iload (pc := 47) (i := 5) d_X6_pass_47 rfl ?_
    refine Tr.iload_n (pc := 49) (i := 1) d_X6_pass_49 rfl rfl ?_
    refine Tr.icmp_ge (pc := 50) (tgt := 69) d_X6_pass_50 rfl (fun c50 => ?_) (fun c50 => ?_)
    · refine Tr.iload (pc := 69) (i := 5) d_X6_pass_69 rfl ?_
      exact Tr.iret (pc := 71) d_X6_pass_71 rfl ⟨hS, _, rfl, by omega, by omega⟩
    · refine Tr.aload_n (pc := 53) (i := 0) d_X6_pass_53 rfl rfl ?_
      refine Tr.iload (pc := 54) (i := 5) d_X6_pass_54 rfl ?_
      refine Tr.iload (pc := 56) (i := 4) d_X6_pass_56 rfl ?_
      refine Tr.icmp_ne (pc := 58) (tgt := 65) d_X6_pass_58 rfl (fun c58 => ?_) (fun c58 => ?_)
      · refine Tr.iconst (pc := 65) d_X6_pass_65 (by decide) ?_
        refine Tr.putfS (pc := 66) (P := St Tru ws_X6_pass_74_w4 as_X6_pass_74_w4 M0) d_X6_pass_66 f_6_62 (by decide) (by decide) (ty_74 hS.1.1) (st_74_14 hS (by decide) (by omega) trivial) (fun M66 hS w66 => ?_)
        refine Tr.iload (pc := 69) (i := 5) d_X6_pass_69 rfl ?_
        exact Tr.iret (pc := 71) d_X6_pass_71 rfl ⟨hS, _, rfl, by omega, by omega⟩
      · refine Tr.iconst (pc := 61) d_X6_pass_61 (by decide) ?_
        refine Tr.goto (pc := 62) (tgt := 66) d_X6_pass_62 rfl ?_
        refine Tr.putfS (pc := 66) (P := St Tru ws_X6_pass_74_w4 as_X6_pass_74_w4 M0) d_X6_pass_66 f_6_62 (by decide) (by decide) (ty_74 hS.1.1) (st_74_14 hS (by decide) (by omega) trivial) (fun M66 hS w66 => ?_)
        refine Tr.iload (pc := 69) (i := 5) d_X6_pass_69 rfl ?_
        exact Tr.iret (pc := 71) d_X6_pass_71 rfl ⟨hS, _, rfl, by omega, by omega⟩
  refine Tr.if_eq (pc := 18) (tgt := 32) d_X6_pass_18 rfl (fun c18 => ?_) (fun c18 => ?_)
  · refine Tr.iload (pc := 32) (i := 4) d_X6_pass_32 rfl ?_
    refine Tr.pick [1, 2, 0] (ls2 := [(0, (2, 74)), (1, (0, a1)), (4, (0, r9))]) rfl ?_
    exact J34 _ _ hS (by omega) er15 er5
  · refine Tr.aload_n (pc := 21) (i := 0) d_X6_pass_21 rfl rfl ?_
    refine Tr.iload (pc := 22) (i := 4) d_X6_pass_22 rfl ?_
    refine Tr.iload_n (pc := 24) (i := 2) d_X6_pass_24 rfl rfl ?_
    refine Tr.iload_n (pc := 25) (i := 3) d_X6_pass_25 rfl rfl ?_
    refine Tr.tp 3 (by omega) ?_
    refine Tr.callV (pc := 26) (as := [_, _, _]) d_X6_pass_26 s_6_183 ok_X6_afforded rfl rfl (Nat.le_of_ble_eq_true rfl) (Nat.le_of_ble_eq_true rfl) (by decide) (ty_74 hS.1.1) ?_
    refine Tr.imp (Tr.deep (by decide) (sp_X6_afforded_74_w4 hS.1 ((St.kp hS (by decide) (by decide) (by decide)).trans en_74_1) r9 (by omega) a2 (by omega) 3 (by omega))) ?_
    rintro M26 _ ⟨h26, r26, rfl, lr26, ur26⟩
    have hS := St.tr hS h26 (by decide) (by decide)
    refine Tr.sc [(0, r26)] rfl ?_
    refine Tr.goto (pc := 29) (tgt := 34) d_X6_pass_29 rfl ?_
    refine Tr.pick [1, 2, 0] (ls2 := [(0, (2, 74)), (1, (0, a1)), (4, (0, r9))]) rfl ?_
    exact J34 _ _ hS (by omega) ((St.kp h26 (by decide) (by decide) (by decide)).trans er15) ((St.kp h26 (by decide) (by decide) (by decide)).trans er5)

def ws_X1_sippedByParts_82 : List (Int × Int) := []
def as_X1_sippedByParts_82 : List Int := []
def q_X1_sippedByParts_82 (M0 M' : Mem) (r : Option PV) : Prop := St Tru ws_X1_sippedByParts_82 as_X1_sippedByParts_82 M0 M' ∧ ∃ v : Int, r = some (0, v) ∧ (-2147483648) ≤ v ∧ v ≤ 2147483647
set_option maxRecDepth 100000 in
set_option maxHeartbeats 4000000 in
theorem sp_X1_sippedByParts_82 {l : Launch} {K : EC} {M0 : Mem} (hI : In Tru M0) (en_82_1 : rd M0 82 1 = 7)   : Tr l K 0 mX1_sippedByParts 0 [(0, (2, 82))] [] M0 (q_X1_sippedByParts_82 M0) := by
  have hS : St Tru ws_X1_sippedByParts_82 as_X1_sippedByParts_82 M0 M0 := St.rf hI
  refine Tr.iconst (pc := 0) d_X1_sippedByParts_0 (by decide) ?_
  refine Tr.istore_n (pc := 1) (i := 1) (ls2 := [(1, (0, 0)), (0, (2, 82))]) d_X1_sippedByParts_1 rfl (by decide) rfl ?_
  refine Tr.iconst (pc := 2) d_X1_sippedByParts_2 (by decide) ?_
  refine Tr.istore_n (pc := 3) (i := 2) (ls2 := [(2, (0, 0)), (1, (0, 0)), (0, (2, 82))]) d_X1_sippedByParts_3 rfl (by decide) rfl ?_
  have J4 : ∀ (n4 : Nat) (M : Mem) (p4_1 p4_2 : Int), St Tru ws_X1_sippedByParts_82 as_X1_sippedByParts_82 M0 M → ((-2147483648) ≤ p4_1 ∧ p4_1 ≤ 2147483647) → (0 ≤ p4_2 ∧ p4_2 ≤ 24) → (24 - p4_2).toNat < n4 → Tr l K 0 mX1_sippedByParts 4 [(0, (2, 82)), (1, (0, p4_1)), (2, (0, p4_2))] [] M (q_X1_sippedByParts_82 M0) := by
    intro n4
    induction n4 with
    | zero => intro M p4_1 p4_2 hS bp4_1 bp4_2  hm4; exact absurd hm4 (Nat.not_lt_zero _)
    | succ n4 J4 =>
      intro M p4_1 p4_2 hS bp4_1 bp4_2  hm4
      refine Tr.iload_n (pc := 4) (i := 2) d_X1_sippedByParts_4 rfl rfl ?_
      refine Tr.aload_n (pc := 5) (i := 0) d_X1_sippedByParts_5 rfl rfl ?_
      refine Tr.getf (pc := 6) d_X1_sippedByParts_6 f_1_41 (by decide) (by decide) (ty_82 hS.1.1) ?_
      refine Tr.tp 7 ((St.kp hS (by decide) (by decide) (by decide)).trans en_82_1) ?_
      refine Tr.getf (pc := 9) d_X1_sippedByParts_9 f_1_91 (by decide) (by decide) (ty_7 hS.1.1) ?_
      refine Tr.tp 8 (fx_7_4 hS.1.1) ?_
      refine Tr.iconst (pc := 12) d_X1_sippedByParts_12 (by decide) ?_
      refine Tr.iald (pc := 13) d_X1_sippedByParts_13 (ty_8 hS.1.1) (by omega) (by omega) ?_
      refine Tr.gen (P := fun v => 0 ≤ v ∧ v ≤ 6) (ir_8_0 hS.1.2.1) (fun r13 er13 br13 => ?_)
      refine Tr.iconst (pc := 14) d_X1_sippedByParts_14 (by decide) ?_
      refine Tr.imul (pc := 15) d_X1_sippedByParts_15 ?_
      refine Tr.tp (4 * r13) ((w32_id (by omega)).trans (by omega)) ?_
      refine Tr.icmp_ge (pc := 16) (tgt := 44) d_X1_sippedByParts_16 rfl (fun c16 => ?_) (fun c16 => ?_)
      · refine Tr.iload_n (pc := 44) (i := 1) d_X1_sippedByParts_44 rfl rfl ?_
        exact Tr.iret (pc := 45) d_X1_sippedByParts_45 rfl ⟨hS, _, rfl, by omega, by omega⟩
      · refine Tr.iload_n (pc := 19) (i := 1) d_X1_sippedByParts_19 rfl rfl ?_
        refine Tr.aload_n (pc := 20) (i := 0) d_X1_sippedByParts_20 rfl rfl ?_
        refine Tr.getf (pc := 21) d_X1_sippedByParts_21 f_1_9 (by decide) (by decide) (ty_82 hS.1.1) ?_
        refine Tr.tp 83 (fx_82_2 hS.1.1) ?_
        refine Tr.iload_n (pc := 24) (i := 2) d_X1_sippedByParts_24 rfl rfl ?_
        refine Tr.iald (pc := 25) d_X1_sippedByParts_25 (ty_83 hS.1.1) (by omega) (by omega) ?_
        refine Tr.gen (P := fun v => (-2147483648) ≤ v ∧ v ≤ 2147483647) (ar_83 hS.1.2.1 _) (fun r25 er25 br25 => ?_)
        refine Tr.aload_n (pc := 26) (i := 0) d_X1_sippedByParts_26 rfl rfl ?_
        refine Tr.getf (pc := 27) d_X1_sippedByParts_27 f_1_41 (by decide) (by decide) (ty_82 hS.1.1) ?_
        refine Tr.tp 7 ((St.kp hS (by decide) (by decide) (by decide)).trans en_82_1) ?_
        refine Tr.getf (pc := 30) d_X1_sippedByParts_30 f_1_71 (by decide) (by decide) (ty_7 hS.1.1) ?_
        refine Tr.tp 9 (fx_7_5 hS.1.1) ?_
        refine Tr.iload_n (pc := 33) (i := 2) d_X1_sippedByParts_33 rfl rfl ?_
        refine Tr.iald (pc := 34) d_X1_sippedByParts_34 (ty_9 hS.1.1) (by omega) (by omega) ?_
        refine Tr.gen (P := fun v => (-1) ≤ v ∧ v ≤ 999) (ar_9 hS.1.2.1 _) (fun r34 er34 br34 => ?_)
        refine Tr.imul (pc := 35) d_X1_sippedByParts_35 ?_
        refine Tr.gen (P := fun v => (-2147483648) ≤ v ∧ v ≤ 2147483647) (w32_b _) (fun r35 er35 br35 => ?_)
        refine Tr.iadd (pc := 36) d_X1_sippedByParts_36 ?_
        refine Tr.gen (P := fun v => (-2147483648) ≤ v ∧ v ≤ 2147483647) (w32_b _) (fun r36 er36 br36 => ?_)
        refine Tr.istore_n (pc := 37) (i := 1) (ls2 := [(1, (0, r36)), (0, (2, 82)), (2, (0, p4_2))]) d_X1_sippedByParts_37 rfl (by decide) rfl ?_
        refine Tr.iincV (pc := 38) (n2 := (p4_2 + 1)) (ls2 := [(2, (0, (p4_2 + 1))), (1, (0, r36)), (0, (2, 82))]) d_X1_sippedByParts_38 rfl (by decide) ((w32_id (by omega)).trans (by omega)) rfl ?_
        refine Tr.goto (pc := 41) (tgt := 4) d_X1_sippedByParts_41 rfl ?_
        refine Tr.pick [2, 1, 0] (ls2 := [(0, (2, 82)), (1, (0, r36)), (2, (0, (p4_2 + 1)))]) rfl ?_
        exact J4 _ _ _ hS (by omega) (by omega) (by omega)
  refine Tr.pick [2, 1, 0] (ls2 := [(0, (2, 82)), (1, (0, 0)), (2, (0, 0))]) rfl ?_
  exact J4 _ _ _ _ hS (by omega) (by omega) (Nat.lt_succ_self _)

def ws_X1_fallAsleep_82_w4 : List (Int × Int) := []
def as_X1_fallAsleep_82_w4 : List Int := []
def q_X1_fallAsleep_82_w4 (M0 M' : Mem) (r : Option PV) : Prop := St Tru ws_X1_fallAsleep_82_w4 as_X1_fallAsleep_82_w4 M0 M' ∧ r = none
set_option maxRecDepth 100000 in
set_option maxHeartbeats 4000000 in
theorem sp_X1_fallAsleep_82_w4 {l : Launch} {K : EC} {M0 : Mem} (hI : In Tru M0)  (a1 : Int) (ha1 : 0 ≤ a1 ∧ a1 ≤ 5)  : Tr l K 0 mX1_fallAsleep 0 [(0, (2, 82)), (1, (0, a1))] [] M0 (q_X1_fallAsleep_82_w4 M0) := by
  have hS : St Tru ws_X1_fallAsleep_82_w4 as_X1_fallAsleep_82_w4 M0 M0 := St.rf hI
  refine Tr.aload_n (pc := 0) (i := 0) d_X1_fallAsleep_0 rfl rfl ?_
  refine Tr.getz (pc := 1) d_X1_fallAsleep_1 f_1_37 (by decide) (ty_82 hS.1.1) ?_
  refine Tr.tp 0 (fx_82_0 hS.1.1) ?_
  refine Tr.if_eq (pc := 4) (tgt := 75) d_X1_fallAsleep_4 rfl (fun _ => ?_) (fun hc => absurd (by omega) hc)
  exact Tr.vret (pc := 75) d_X1_fallAsleep_75 rfl ⟨hS, rfl⟩

def ws_X6_finish_74 : List (Int × Int) := [(74, 9), (74, 10)]
def as_X6_finish_74 : List Int := [81, 83]
def q_X6_finish_74 (M0 M' : Mem) (r : Option PV) : Prop := St Tru ws_X6_finish_74 as_X6_finish_74 M0 M' ∧ r = none
set_option maxRecDepth 100000 in
set_option maxHeartbeats 4000000 in
theorem sp_X6_finish_74 {l : Launch} {K : EC} {M0 : Mem} (hI : In Tru M0) (en_74_1 : rd M0 74 1 = 7) (en_82_1 : rd M0 82 1 = 7)   : Tr l K 2 mX6_finish 0 [(0, (2, 74))] [] M0 (q_X6_finish_74 M0) := by
  have hS : St Tru ws_X6_finish_74 as_X6_finish_74 M0 M0 := St.rf hI
  refine Tr.aload_n (pc := 0) (i := 0) d_X6_finish_0 rfl rfl ?_
  refine Tr.getf (pc := 1) d_X6_finish_1 f_6_68 (by decide) (by decide) (ty_74 hS.1.1) ?_
  refine Tr.gen (P := fun v => (-2147483648) ≤ v ∧ v ≤ 2147483647) (ir_74_9 hS.1.2.1) (fun r1 er1 br1 => ?_)
  refine Tr.istore_n (pc := 4) (i := 1) (ls2 := [(1, (0, r1)), (0, (2, 74))]) d_X6_finish_4 rfl (by decide) rfl ?_
  refine Tr.aload_n (pc := 5) (i := 0) d_X6_finish_5 rfl rfl ?_
  refine Tr.getf (pc := 6) d_X6_finish_6 f_6_46 (by decide) (by decide) (ty_74 hS.1.1) ?_
  refine Tr.tp 7 ((St.kp hS (by decide) (by decide) (by decide)).trans en_74_1) ?_
  refine Tr.getf (pc := 9) d_X6_finish_9 f_6_116 (by decide) (by decide) (ty_7 hS.1.1) ?_
  refine Tr.tp 8 (fx_7_4 hS.1.1) ?_
  refine Tr.iconst (pc := 12) d_X6_finish_12 (by decide) ?_
  refine Tr.iald (pc := 13) d_X6_finish_13 (ty_8 hS.1.1) (by omega) (by omega) ?_
  refine Tr.gen (P := fun v => 0 ≤ v ∧ v ≤ 6) (ir_8_0 hS.1.2.1) (fun r13 er13 br13 => ?_)
  refine Tr.istore_n (pc := 14) (i := 2) (ls2 := [(2, (0, r13)), (1, (0, r1)), (0, (2, 74))]) d_X6_finish_14 rfl (by decide) rfl ?_
  refine Tr.iconst (pc := 15) d_X6_finish_15 (by decide) ?_
  refine Tr.istore_n (pc := 16) (i := 3) (ls2 := [(3, (0, 0)), (2, (0, r13)), (1, (0, r1)), (0, (2, 74))]) d_X6_finish_16 rfl (by decide) rfl ?_
  have J17 : ∀ (n17 : Nat) (M : Mem) (p17_3 : Int), St Tru ws_X6_finish_74 as_X6_finish_74 M0 M → (0 ≤ p17_3 ∧ p17_3 ≤ 6) → rd M 8 0 = r13 → (6 - p17_3).toNat < n17 → Tr l K 2 mX6_finish 17 [(0, (2, 74)), (1, (0, r1)), (2, (0, r13)), (3, (0, p17_3))] [] M (q_X6_finish_74 M0) := by
    intro n17
    induction n17 with
    | zero => intro M p17_3 hS bp17_3 k17_8_0 hm17; exact absurd hm17 (Nat.not_lt_zero _)
    | succ n17 J17 =>
      intro M p17_3 hS bp17_3 k17_8_0 hm17
      refine Tr.iload_n (pc := 17) (i := 3) d_X6_finish_17 rfl rfl ?_
      refine Tr.iload_n (pc := 18) (i := 2) d_X6_finish_18 rfl rfl ?_
      have J61 : ∀ (M : Mem), St Tru ws_X6_finish_74 as_X6_finish_74 M0 M → rd M 8 0 = r13 → Tr l K 2 mX6_finish 61 [(0, (2, 74)), (1, (0, r1)), (2, (0, r13))] [] M (q_X6_finish_74 M0) := by
        intro M  hS  k61_8_0
        refine Tr.iconst (pc := 61) d_X6_finish_61 (by decide) ?_
        refine Tr.istore_n (pc := 62) (i := 3) (ls2 := [(3, (0, 0)), (0, (2, 74)), (1, (0, r1)), (2, (0, r13))]) d_X6_finish_62 rfl (by decide) rfl ?_
        have J63 : ∀ (n63 : Nat) (M : Mem) (p63_3 : Int), St Tru ws_X6_finish_74 as_X6_finish_74 M0 M → (0 ≤ p63_3 ∧ p63_3 ≤ 6) → rd M 8 0 = r13 → (6 - p63_3).toNat < n63 → Tr l K 2 mX6_finish 63 [(0, (2, 74)), (1, (0, r1)), (2, (0, r13)), (3, (0, p63_3))] [] M (q_X6_finish_74 M0) := by
          intro n63
          induction n63 with
          | zero => intro M p63_3 hS bp63_3 k63_8_0 hm63; exact absurd hm63 (Nat.not_lt_zero _)
          | succ n63 J63 =>
            intro M p63_3 hS bp63_3 k63_8_0 hm63
            refine Tr.iload_n (pc := 63) (i := 3) d_X6_finish_63 rfl rfl ?_
            refine Tr.iload_n (pc := 64) (i := 2) d_X6_finish_64 rfl rfl ?_
            refine Tr.icmp_ge (pc := 65) (tgt := 129) d_X6_finish_65 rfl (fun c65 => ?_) (fun c65 => ?_)
            · refine Tr.aload_n (pc := 129) (i := 0) d_X6_finish_129 rfl rfl ?_
              refine Tr.iload_n (pc := 130) (i := 1) d_X6_finish_130 rfl rfl ?_
              refine Tr.aload_n (pc := 131) (i := 0) d_X6_finish_131 rfl rfl ?_
              refine Tr.getf (pc := 132) d_X6_finish_132 f_6_46 (by decide) (by decide) (ty_74 hS.1.1) ?_
              refine Tr.tp 7 ((St.kp hS (by decide) (by decide) (by decide)).trans en_74_1) ?_
              refine Tr.getf (pc := 135) d_X6_finish_135 f_6_135 (by decide) (by decide) (ty_7 hS.1.1) ?_
              refine Tr.gen (P := fun v => (-1) ≤ v ∧ v ≤ 999) (ir_7_0 hS.1.2.1) (fun r135 er135 br135 => ?_)
              refine Tr.imul (pc := 138) d_X6_finish_138 ?_
              refine Tr.gen (P := fun v => (-2147483648) ≤ v ∧ v ≤ 2147483647) (w32_b _) (fun r138 er138 br138 => ?_)
              refine Tr.aload_n (pc := 139) (i := 0) d_X6_finish_139 rfl rfl ?_
              refine Tr.getf (pc := 140) d_X6_finish_140 f_6_38 (by decide) (by decide) (ty_74 hS.1.1) ?_
              refine Tr.tp 82 (fx_74_0 hS.1.1) ?_
              refine Tr.callV (pc := 143) (as := []) d_X6_finish_143 s_6_138 ok_X1_sippedByParts rfl rfl (Nat.le_of_ble_eq_true rfl) (Nat.le_of_ble_eq_true rfl) (by decide) (ty_82 hS.1.1) ?_
              refine Tr.imp (Tr.deep (by decide) (sp_X1_sippedByParts_82 hS.1 ((St.kp hS (by decide) (by decide) (by decide)).trans en_82_1))) ?_
              rintro M143 _ ⟨h143, r143, rfl, lr143, ur143⟩
              have hS := St.tr hS h143 (by decide) (by decide)
              refine Tr.sc [(0, r143), (0, r138), (2, 74)] rfl ?_
              refine Tr.iadd (pc := 146) d_X6_finish_146 ?_
              refine Tr.gen (P := fun v => (-2147483648) ≤ v ∧ v ≤ 2147483647) (w32_b _) (fun r146 er146 br146 => ?_)
              refine Tr.putfS (pc := 147) (P := St Tru ws_X6_finish_74 as_X6_finish_74 M0) d_X6_finish_147 f_6_142 (by decide) (by decide) (ty_74 hS.1.1) (st_74_10 hS (by decide) (by omega) trivial) (fun M147 hS w147 => ?_)
              exact Tr.vret (pc := 150) d_X6_finish_150 rfl ⟨hS, rfl⟩
            · refine Tr.aload_n (pc := 68) (i := 0) d_X6_finish_68 rfl rfl ?_
              refine Tr.iload_n (pc := 69) (i := 3) d_X6_finish_69 rfl rfl ?_
              refine Tr.aload_n (pc := 70) (i := 0) d_X6_finish_70 rfl rfl ?_
              refine Tr.getf (pc := 71) d_X6_finish_71 f_6_68 (by decide) (by decide) (ty_74 hS.1.1) ?_
              refine Tr.gen (P := fun v => (-2147483648) ≤ v ∧ v ≤ 2147483647) (ir_74_9 hS.1.2.1) (fun r71 er71 br71 => ?_)
              refine Tr.callV (pc := 74) (as := [_, _]) d_X6_finish_74 s_6_125 ok_X6_settle rfl rfl (Nat.le_of_ble_eq_true rfl) (Nat.le_of_ble_eq_true rfl) (by decide) (ty_74 hS.1.1) ?_
              refine Tr.imp (Tr.deep (by decide) (sp_X6_settle_74 hS.1 p63_3 (by omega) r71 (by omega))) ?_
              rintro M74 _ ⟨h74, rfl⟩
              have hS := St.tr hS h74 (by decide) (by decide)
              refine Tr.sc [] rfl ?_
              refine Tr.aload_n (pc := 77) (i := 0) d_X6_finish_77 rfl rfl ?_
              refine Tr.getf (pc := 78) d_X6_finish_78 f_6_24 (by decide) (by decide) (ty_74 hS.1.1) ?_
              refine Tr.tp 79 (fx_74_6 hS.1.1) ?_
              refine Tr.iload_n (pc := 81) (i := 3) d_X6_finish_81 rfl rfl ?_
              refine Tr.iald (pc := 82) d_X6_finish_82 (ty_79 hS.1.1) (by omega) (by omega) ?_
              refine Tr.gen (P := fun v => 0 ≤ v ∧ v ≤ 1) (ar_79 hS.1.2.1 _) (fun r82 er82 br82 => ?_)
              refine Tr.iconst (pc := 83) d_X6_finish_83 (by decide) ?_
              have J123 : ∀ (M : Mem), St Tru ws_X6_finish_74 as_X6_finish_74 M0 M → rd M 74 9 = r71 → rd M 79 p63_3 = r82 → rd M 8 0 = r13 → Tr l K 2 mX6_finish 123 [(0, (2, 74)), (1, (0, r1)), (2, (0, r13)), (3, (0, p63_3))] [] M (q_X6_finish_74 M0) := by
                intro M  hS  k123_74_9 k123_79_p63_310 k123_8_0
                refine Tr.iincV (pc := 123) (n2 := (p63_3 + 1)) (ls2 := [(3, (0, (p63_3 + 1))), (0, (2, 74)), (1, (0, r1)), (2, (0, r13))]) d_X6_finish_123 rfl (by decide) ((w32_id (by omega)).trans (by omega)) rfl ?_
                refine Tr.goto (pc := 126) (tgt := 63) d_X6_finish_126 rfl ?_
                refine Tr.pick [1, 2, 3, 0] (ls2 := [(0, (2, 74)), (1, (0, r1)), (2, (0, r13)), (3, (0, (p63_3 + 1)))]) rfl ?_
                exact J63 _ _ hS (by omega) k123_8_0 (by omega)
              refine Tr.icmp_ne (pc := 84) (tgt := 102) d_X6_finish_84 rfl (fun c84 => ?_) (fun c84 => ?_)
              · refine Tr.aload_n (pc := 102) (i := 0) d_X6_finish_102 rfl rfl ?_
                refine Tr.getf (pc := 103) d_X6_finish_103 f_6_27 (by decide) (by decide) (ty_74 hS.1.1) ?_
                refine Tr.tp 80 (fx_74_7 hS.1.1) ?_
                refine Tr.iload_n (pc := 106) (i := 3) d_X6_finish_106 rfl rfl ?_
                refine Tr.iald (pc := 107) d_X6_finish_107 (ty_80 hS.1.1) (by omega) (by omega) ?_
                refine Tr.gen (P := fun v => (-2147483648) ≤ v ∧ v ≤ 2147483647) (ar_80 hS.1.2.1 _) (fun r107 er107 br107 => ?_)
                refine Tr.aload_n (pc := 108) (i := 0) d_X6_finish_108 rfl rfl ?_
                refine Tr.getf (pc := 109) d_X6_finish_109 f_6_68 (by decide) (by decide) (ty_74 hS.1.1) ?_
                refine Tr.tp r71 ((St.kp h74 (by decide) (by decide) (by decide)).trans er71) ?_
                refine Tr.icmp_gt (pc := 112) (tgt := 123) d_X6_finish_112 rfl (fun c112 => ?_) (fun c112 => ?_)
                · refine Tr.pick [0, 1, 2, 3] (ls2 := [(0, (2, 74)), (1, (0, r1)), (2, (0, r13)), (3, (0, p63_3))]) rfl ?_
                  exact J123 _ hS ((St.kp h74 (by decide) (by decide) (by decide)).trans er71) er82 ((St.kp h74 (by decide) (by decide) (by decide)).trans k63_8_0)
                · refine Tr.aload_n (pc := 115) (i := 0) d_X6_finish_115 rfl rfl ?_
                  refine Tr.getf (pc := 116) d_X6_finish_116 f_6_38 (by decide) (by decide) (ty_74 hS.1.1) ?_
                  refine Tr.tp 82 (fx_74_0 hS.1.1) ?_
                  refine Tr.iload_n (pc := 119) (i := 3) d_X6_finish_119 rfl rfl ?_
                  refine Tr.callV (pc := 120) (as := [_]) d_X6_finish_120 s_6_131 ok_X1_fallAsleep rfl rfl (Nat.le_of_ble_eq_true rfl) (Nat.le_of_ble_eq_true rfl) (by decide) (ty_82 hS.1.1) ?_
                  refine Tr.imp (Tr.deep (by decide) (sp_X1_fallAsleep_82_w4 hS.1 p63_3 (by omega))) ?_
                  rintro M120 _ ⟨h120, rfl⟩
                  have hS := St.tr hS h120 (by decide) (by decide)
                  refine Tr.sc [] rfl ?_
                  refine Tr.pick [0, 1, 2, 3] (ls2 := [(0, (2, 74)), (1, (0, r1)), (2, (0, r13)), (3, (0, p63_3))]) rfl ?_
                  exact J123 _ hS ((St.kp h120 (by decide) (by decide) (by decide)).trans ((St.kp h74 (by decide) (by decide) (by decide)).trans er71)) ((St.ka h120 (by decide) (by decide) (by decide)).trans er82) ((St.kp h120 (by decide) (by decide) (by decide)).trans ((St.kp h74 (by decide) (by decide) (by decide)).trans k63_8_0))
              · refine Tr.aload_n (pc := 87) (i := 0) d_X6_finish_87 rfl rfl ?_
                refine Tr.getf (pc := 88) d_X6_finish_88 f_6_38 (by decide) (by decide) (ty_74 hS.1.1) ?_
                refine Tr.tp 82 (fx_74_0 hS.1.1) ?_
                refine Tr.iload_n (pc := 91) (i := 3) d_X6_finish_91 rfl rfl ?_
                refine Tr.aload_n (pc := 92) (i := 0) d_X6_finish_92 rfl rfl ?_
                refine Tr.getf (pc := 93) d_X6_finish_93 f_6_68 (by decide) (by decide) (ty_74 hS.1.1) ?_
                refine Tr.tp r71 ((St.kp h74 (by decide) (by decide) (by decide)).trans er71) ?_
                refine Tr.callV (pc := 96) (as := [_, _]) d_X6_finish_96 s_6_128 ok_X1_letGo rfl rfl (Nat.le_of_ble_eq_true rfl) (Nat.le_of_ble_eq_true rfl) (by decide) (ty_82 hS.1.1) ?_
                refine Tr.imp (Tr.deep (by decide) (sp_X1_letGo_82 hS.1 p63_3 (by omega) r71 (by omega))) ?_
                rintro M96 _ ⟨h96, rfl⟩
                have hS := St.tr hS h96 (by decide) (by decide)
                refine Tr.sc [] rfl ?_
                refine Tr.goto (pc := 99) (tgt := 123) d_X6_finish_99 rfl ?_
                refine Tr.pick [0, 1, 2, 3] (ls2 := [(0, (2, 74)), (1, (0, r1)), (2, (0, r13)), (3, (0, p63_3))]) rfl ?_
                exact J123 _ hS ((St.kp h96 (by decide) (by decide) (by decide)).trans ((St.kp h74 (by decide) (by decide) (by decide)).trans er71)) ((St.ka h96 (by decide) (by decide) (by decide)).trans er82) ((St.kp h96 (by decide) (by decide) (by decide)).trans ((St.kp h74 (by decide) (by decide) (by decide)).trans k63_8_0))
        refine Tr.pick [1, 2, 3, 0] (ls2 := [(0, (2, 74)), (1, (0, r1)), (2, (0, r13)), (3, (0, 0))]) rfl ?_
        exact J63 _ _ _ hS (by omega) k61_8_0 (Nat.lt_succ_self _)
      refine Tr.icmp_ge (pc := 19) (tgt := 61) d_X6_finish_19 rfl (fun c19 => ?_) (fun c19 => ?_)
      · refine Tr.pick [0, 1, 2] (ls2 := [(0, (2, 74)), (1, (0, r1)), (2, (0, r13))]) rfl ?_
        exact J61 _ hS k17_8_0
      · refine Tr.aload_n (pc := 22) (i := 0) d_X6_finish_22 rfl rfl ?_
        refine Tr.getf (pc := 23) d_X6_finish_23 f_6_62 (by decide) (by decide) (ty_74 hS.1.1) ?_
        refine Tr.gen (P := fun v => (-2147483648) ≤ v ∧ v ≤ 2147483647) (ir_74_14 hS.1.2.1) (fun r23 er23 br23 => ?_)
        refine Tr.if_ne (pc := 26) (tgt := 61) d_X6_finish_26 rfl (fun c26 => ?_) (fun c26 => ?_)
        · refine Tr.pick [0, 1, 2] (ls2 := [(0, (2, 74)), (1, (0, r1)), (2, (0, r13))]) rfl ?_
          exact J61 _ hS k17_8_0
        · refine Tr.aload_n (pc := 29) (i := 0) d_X6_finish_29 rfl rfl ?_
          refine Tr.getf (pc := 30) d_X6_finish_30 f_6_24 (by decide) (by decide) (ty_74 hS.1.1) ?_
          refine Tr.tp 79 (fx_74_6 hS.1.1) ?_
          refine Tr.iload_n (pc := 33) (i := 3) d_X6_finish_33 rfl rfl ?_
          refine Tr.iald (pc := 34) d_X6_finish_34 (ty_79 hS.1.1) (by omega) (by omega) ?_
          refine Tr.gen (P := fun v => 0 ≤ v ∧ v ≤ 1) (ar_79 hS.1.2.1 _) (fun r34 er34 br34 => ?_)
          have J55 : ∀ (M : Mem), St Tru ws_X6_finish_74 as_X6_finish_74 M0 M → rd M 74 14 = r23 → rd M 79 p17_3 = r34 → rd M 8 0 = r13 → Tr l K 2 mX6_finish 55 [(0, (2, 74)), (1, (0, r1)), (2, (0, r13)), (3, (0, p17_3))] [] M (q_X6_finish_74 M0) := by
            intro M  hS  k55_74_14 k55_79_p17_310 k55_8_0
            refine Tr.iincV (pc := 55) (n2 := (p17_3 + 1)) (ls2 := [(3, (0, (p17_3 + 1))), (0, (2, 74)), (1, (0, r1)), (2, (0, r13))]) d_X6_finish_55 rfl (by decide) ((w32_id (by omega)).trans (by omega)) rfl ?_
            refine Tr.goto (pc := 58) (tgt := 17) d_X6_finish_58 rfl ?_
            refine Tr.pick [1, 2, 3, 0] (ls2 := [(0, (2, 74)), (1, (0, r1)), (2, (0, r13)), (3, (0, (p17_3 + 1)))]) rfl ?_
            exact J17 _ _ hS (by omega) k55_8_0 (by omega)
          refine Tr.if_ne (pc := 35) (tgt := 55) d_X6_finish_35 rfl (fun c35 => ?_) (fun c35 => ?_)
          · refine Tr.pick [0, 1, 2, 3] (ls2 := [(0, (2, 74)), (1, (0, r1)), (2, (0, r13)), (3, (0, p17_3))]) rfl ?_
            exact J55 _ hS er23 er34 k17_8_0
          · refine Tr.aload_n (pc := 38) (i := 0) d_X6_finish_38 rfl rfl ?_
            refine Tr.aload_n (pc := 39) (i := 0) d_X6_finish_39 rfl rfl ?_
            refine Tr.getf (pc := 40) d_X6_finish_40 f_6_68 (by decide) (by decide) (ty_74 hS.1.1) ?_
            refine Tr.gen (P := fun v => (-2147483648) ≤ v ∧ v ≤ 2147483647) (ir_74_9 hS.1.2.1) (fun r40 er40 br40 => ?_)
            refine Tr.aload_n (pc := 43) (i := 0) d_X6_finish_43 rfl rfl ?_
            refine Tr.getf (pc := 44) d_X6_finish_44 f_6_27 (by decide) (by decide) (ty_74 hS.1.1) ?_
            refine Tr.tp 80 (fx_74_7 hS.1.1) ?_
            refine Tr.iload_n (pc := 47) (i := 3) d_X6_finish_47 rfl rfl ?_
            refine Tr.iald (pc := 48) d_X6_finish_48 (ty_80 hS.1.1) (by omega) (by omega) ?_
            refine Tr.gen (P := fun v => (-2147483648) ≤ v ∧ v ≤ 2147483647) (ar_80 hS.1.2.1 _) (fun r48 er48 br48 => ?_)
            refine Tr.mmax (pc := 49) d_X6_finish_49 ml_6_119 mw_mmax (Nat.le_of_ble_eq_true rfl) ?_
            refine Tr.gen (P := fun v => (v = r40 ∧ r48 ≤ r40) ∨ (v = r48 ∧ r40 ≤ r48)) (f_max_p _ _) (fun r49 er49 br49 => ?_)
            refine Tr.putfS (pc := 52) (P := St Tru ws_X6_finish_74 as_X6_finish_74 M0) d_X6_finish_52 f_6_68 (by decide) (by decide) (ty_74 hS.1.1) (st_74_9 hS (by decide) (by omega) trivial) (fun M52 hS w52 => ?_)
            refine Tr.pick [0, 1, 2, 3] (ls2 := [(0, (2, 74)), (1, (0, r1)), (2, (0, r13)), (3, (0, p17_3))]) rfl ?_
            exact J55 _ hS ((Wr.b w52 rfl).trans er23) ((Wr.b w52 rfl).trans er34) ((Wr.b w52 rfl).trans k17_8_0)
  refine Tr.pick [3, 2, 1, 0] (ls2 := [(0, (2, 74)), (1, (0, r1)), (2, (0, r13)), (3, (0, 0))]) rfl ?_
  exact J17 _ _ _ hS (by omega) er13 (Nat.lt_succ_self _)

def ws_X6_worked_74_w1 : List (Int × Int) := []
def as_X6_worked_74_w1 : List Int := [77]
def q_X6_worked_74_w1 (M0 M' : Mem) (r : Option PV) : Prop := St Tru ws_X6_worked_74_w1 as_X6_worked_74_w1 M0 M' ∧ ∃ v : Int, r = some (0, v) ∧ (-2147483648) ≤ v ∧ v ≤ 2147483647
set_option maxRecDepth 100000 in
set_option maxHeartbeats 4000000 in
theorem sp_X6_worked_74_w1 {l : Launch} {K : EC} {M0 : Mem} (hI : In Tru M0) (en_74_1 : rd M0 74 1 = 7) (a1 : Int) (ha1 : 0 ≤ a1 ∧ a1 ≤ 59)  : Tr l K 3 mX6_worked 0 [(0, (2, 74)), (1, (0, a1))] [] M0 (q_X6_worked_74_w1 M0) := by
  have hS : St Tru ws_X6_worked_74_w1 as_X6_worked_74_w1 M0 M0 := St.rf hI
  refine Tr.aload_n (pc := 0) (i := 0) d_X6_worked_0 rfl rfl ?_
  refine Tr.getf (pc := 1) d_X6_worked_1 f_6_46 (by decide) (by decide) (ty_74 hS.1.1) ?_
  refine Tr.tp 7 ((St.kp hS (by decide) (by decide) (by decide)).trans en_74_1) ?_
  refine Tr.getf (pc := 4) d_X6_worked_4 f_6_50 (by decide) (by decide) (ty_7 hS.1.1) ?_
  refine Tr.tp 15 (fx_7_11 hS.1.1) ?_
  refine Tr.astore_n (pc := 7) (i := 2) (ls2 := [(2, (2, 15)), (0, (2, 74)), (1, (0, a1))]) d_X6_worked_7 rfl (by decide) rfl ?_
  refine Tr.iconst (pc := 8) d_X6_worked_8 (by decide) ?_
  refine Tr.istore_n (pc := 9) (i := 3) (ls2 := [(3, (0, 0)), (2, (2, 15)), (0, (2, 74)), (1, (0, a1))]) d_X6_worked_9 rfl (by decide) rfl ?_
  refine Tr.aload_n (pc := 10) (i := 2) d_X6_worked_10 rfl rfl ?_
  refine Tr.getf (pc := 11) d_X6_worked_11 f_6_226 (by decide) (by decide) (ty_15 hS.1.1) ?_
  refine Tr.tp 18 (fx_15_3 hS.1.1) ?_
  refine Tr.iload_n (pc := 14) (i := 1) d_X6_worked_14 rfl rfl ?_
  refine Tr.iald (pc := 15) d_X6_worked_15 (ty_18 hS.1.1) (by omega) (by omega) ?_
  refine Tr.gen (P := fun v => 0 ≤ v ∧ v ≤ 900) (ar_18 hS.1.2.1 _) (fun r15 er15 br15 => ?_)
  refine Tr.istore (pc := 16) (i := 4) (ls2 := [(4, (0, r15)), (3, (0, 0)), (2, (2, 15)), (0, (2, 74)), (1, (0, a1))]) d_X6_worked_16 (by decide) rfl ?_
  have J18 : ∀ (n18 : Nat) (M : Mem) (p18_3 p18_4 : Int), St Tru ws_X6_worked_74_w1 as_X6_worked_74_w1 M0 M → (0 ≤ p18_3 ∧ p18_3 ≤ 64) → (0 ≤ p18_4 ∧ p18_4 ≤ 900) → rd M 18 a1 = r15 → (900 - p18_4).toNat < n18 → Tr l K 3 mX6_worked 18 [(0, (2, 74)), (1, (0, a1)), (2, (2, 15)), (3, (0, p18_3)), (4, (0, p18_4))] [] M (q_X6_worked_74_w1 M0) := by
    intro n18
    induction n18 with
    | zero => intro M p18_3 p18_4 hS bp18_3 bp18_4 k18_18_a110 hm18; exact absurd hm18 (Nat.not_lt_zero _)
    | succ n18 J18 =>
      intro M p18_3 p18_4 hS bp18_3 bp18_4 k18_18_a110 hm18
      refine Tr.iload (pc := 18) (i := 4) d_X6_worked_18 rfl ?_
      refine Tr.aload_n (pc := 20) (i := 2) d_X6_worked_20 rfl rfl ?_
      refine Tr.getf (pc := 21) d_X6_worked_21 f_6_226 (by decide) (by decide) (ty_15 hS.1.1) ?_
      refine Tr.tp 18 (fx_15_3 hS.1.1) ?_
      refine Tr.iload_n (pc := 24) (i := 1) d_X6_worked_24 rfl rfl ?_
      refine Tr.iconst (pc := 25) d_X6_worked_25 (by decide) ?_
      refine Tr.iadd (pc := 26) d_X6_worked_26 ?_
      refine Tr.tp (a1 + 1) ((w32_id (by omega)).trans (by omega)) ?_
      refine Tr.iald (pc := 27) d_X6_worked_27 (ty_18 hS.1.1) (by omega) (by omega) ?_
      refine Tr.gen (P := fun v => 0 ≤ v ∧ v ≤ 900) (ar_18 hS.1.2.1 _) (fun r27 er27 br27 => ?_)
      refine Tr.icmp_ge (pc := 28) (tgt := 156) d_X6_worked_28 rfl (fun c28 => ?_) (fun c28 => ?_)
      · refine Tr.iload_n (pc := 156) (i := 3) d_X6_worked_156 rfl rfl ?_
        refine Tr.iconst (pc := 157) d_X6_worked_157 (by decide) ?_
        refine Tr.icmp_ne (pc := 158) (tgt := 170) d_X6_worked_158 rfl (fun c158 => ?_) (fun c158 => ?_)
        · refine Tr.iconst (pc := 170) d_X6_worked_170 (by decide) ?_
          exact Tr.iret (pc := 171) d_X6_worked_171 rfl ⟨hS, _, rfl, by omega, by omega⟩
        · refine Tr.aload_n (pc := 161) (i := 0) d_X6_worked_161 rfl rfl ?_
          refine Tr.getf (pc := 162) d_X6_worked_162 f_6_18 (by decide) (by decide) (ty_74 hS.1.1) ?_
          refine Tr.tp 77 (fx_74_4 hS.1.1) ?_
          refine Tr.iconst (pc := 165) d_X6_worked_165 (by decide) ?_
          refine Tr.iald (pc := 166) d_X6_worked_166 (ty_77 hS.1.1) (by omega) (by omega) ?_
          refine Tr.gen (P := fun v => (-2147483648) ≤ v ∧ v ≤ 2147483647) (ar_77 hS.1.2.1 _) (fun r166 er166 br166 => ?_)
          refine Tr.goto (pc := 167) (tgt := 171) d_X6_worked_167 rfl ?_
          exact Tr.iret (pc := 171) d_X6_worked_171 rfl ⟨hS, _, rfl, by omega, by omega⟩
      · refine Tr.aload_n (pc := 31) (i := 2) d_X6_worked_31 rfl rfl ?_
        refine Tr.getf (pc := 32) d_X6_worked_32 f_6_229 (by decide) (by decide) (ty_15 hS.1.1) ?_
        refine Tr.tp 24 (fx_15_9 hS.1.1) ?_
        refine Tr.iload (pc := 35) (i := 4) d_X6_worked_35 rfl ?_
        refine Tr.iald (pc := 37) d_X6_worked_37 (ty_24 hS.1.1) (by omega) (by omega) ?_
        refine Tr.gen (P := fun v => (-2147483648) ≤ v ∧ v ≤ 2147483647) (ar_24 hS.1.2.1 _) (fun r37 er37 br37 => ?_)
        refine Tr.istore (pc := 38) (i := 5) (ls2 := [(5, (0, r37)), (0, (2, 74)), (1, (0, a1)), (2, (2, 15)), (3, (0, p18_3)), (4, (0, p18_4))]) d_X6_worked_38 (by decide) rfl ?_
        refine Tr.iload (pc := 40) (i := 5) d_X6_worked_40 rfl ?_
        refine Tr.iconst (pc := 42) d_X6_worked_42 (by decide) ?_
        have J150 : ∀ (M : Mem) (p150_3 : Int), St Tru ws_X6_worked_74_w1 as_X6_worked_74_w1 M0 M → (1 ≤ p150_3 ∧ p150_3 ≤ 64) → rd M 18 a1 = r15 → rd M 18 (a1 + 1) = r27 → rd M 24 p18_4 = r37 → Tr l K 3 mX6_worked 150 [(0, (2, 74)), (1, (0, a1)), (2, (2, 15)), (3, (0, p150_3)), (4, (0, p18_4))] [] M (q_X6_worked_74_w1 M0) := by
          intro M p150_3 hS bp150_3 k150_18_a110 k150_18_a111 k150_24_p18_410
          refine Tr.iincV (pc := 150) (n2 := (p18_4 + 1)) (ls2 := [(4, (0, (p18_4 + 1))), (0, (2, 74)), (1, (0, a1)), (2, (2, 15)), (3, (0, p150_3))]) d_X6_worked_150 rfl (by decide) ((w32_id (by omega)).trans (by omega)) rfl ?_
          refine Tr.goto (pc := 153) (tgt := 18) d_X6_worked_153 rfl ?_
          refine Tr.pick [1, 2, 3, 4, 0] (ls2 := [(0, (2, 74)), (1, (0, a1)), (2, (2, 15)), (3, (0, p150_3)), (4, (0, (p18_4 + 1)))]) rfl ?_
          exact J18 _ _ _ hS (by omega) (by omega) k150_18_a110 (by omega)
        refine Tr.icmp_ge (pc := 43) (tgt := 79) d_X6_worked_43 rfl (fun c43 => ?_) (fun c43 => ?_)
        · refine Tr.iload (pc := 79) (i := 5) d_X6_worked_79 rfl ?_
          refine Tr.iconst (pc := 81) d_X6_worked_81 (by decide) ?_
          refine Tr.icmp_ne (pc := 82) (tgt := 113) d_X6_worked_82 rfl (fun c82 => ?_) (fun c82 => ?_)
          · refine Tr.iload_n (pc := 113) (i := 3) d_X6_worked_113 rfl rfl ?_
            refine Tr.iconst (pc := 114) d_X6_worked_114 (by decide) ?_
            refine Tr.icmp_ge (pc := 115) (tgt := 120) d_X6_worked_115 rfl (fun c115 => ?_) (fun c115 => ?_)
            · refine Tr.iincV (pc := 120) (n2 := (p18_3 - 1)) (ls2 := [(3, (0, (p18_3 - 1))), (5, (0, r37)), (0, (2, 74)), (1, (0, a1)), (2, (2, 15)), (4, (0, p18_4))]) d_X6_worked_120 rfl (by decide) ((w32_id (by omega)).trans (by omega)) rfl ?_
              refine Tr.aload_n (pc := 123) (i := 0) d_X6_worked_123 rfl rfl ?_
              refine Tr.getf (pc := 124) d_X6_worked_124 f_6_18 (by decide) (by decide) (ty_74 hS.1.1) ?_
              refine Tr.tp 77 (fx_74_4 hS.1.1) ?_
              refine Tr.iload_n (pc := 127) (i := 3) d_X6_worked_127 rfl rfl ?_
              refine Tr.iconst (pc := 128) d_X6_worked_128 (by decide) ?_
              refine Tr.isub (pc := 129) d_X6_worked_129 ?_
              refine Tr.tp (p18_3 - 2) ((w32_id (by omega)).trans (by omega)) ?_
              refine Tr.iload (pc := 130) (i := 5) d_X6_worked_130 rfl ?_
              refine Tr.aload_n (pc := 132) (i := 0) d_X6_worked_132 rfl rfl ?_
              refine Tr.getf (pc := 133) d_X6_worked_133 f_6_18 (by decide) (by decide) (ty_74 hS.1.1) ?_
              refine Tr.tp 77 (fx_74_4 hS.1.1) ?_
              refine Tr.iload_n (pc := 136) (i := 3) d_X6_worked_136 rfl rfl ?_
              refine Tr.iconst (pc := 137) d_X6_worked_137 (by decide) ?_
              refine Tr.isub (pc := 138) d_X6_worked_138 ?_
              refine Tr.tp (p18_3 - 2) ((w32_id (by omega)).trans (by omega)) ?_
              refine Tr.iald (pc := 139) d_X6_worked_139 (ty_77 hS.1.1) (by omega) (by omega) ?_
              refine Tr.gen (P := fun v => (-2147483648) ≤ v ∧ v ≤ 2147483647) (ar_77 hS.1.2.1 _) (fun r139 er139 br139 => ?_)
              refine Tr.aload_n (pc := 140) (i := 0) d_X6_worked_140 rfl rfl ?_
              refine Tr.getf (pc := 141) d_X6_worked_141 f_6_18 (by decide) (by decide) (ty_74 hS.1.1) ?_
              refine Tr.tp 77 (fx_74_4 hS.1.1) ?_
              refine Tr.iload_n (pc := 144) (i := 3) d_X6_worked_144 rfl rfl ?_
              refine Tr.iald (pc := 145) d_X6_worked_145 (ty_77 hS.1.1) (by omega) (by omega) ?_
              refine Tr.gen (P := fun v => (-2147483648) ≤ v ∧ v ≤ 2147483647) (ar_77 hS.1.2.1 _) (fun r145 er145 br145 => ?_)
              refine Tr.callS (pc := 146) (as := [_, _, _]) d_X6_worked_146 s_6_238 ok_X6_joined rfl rfl (Nat.le_of_ble_eq_true rfl) (Nat.le_of_ble_eq_true rfl) ?_
              refine Tr.imp (Tr.deep (by decide) (sp_X6_joined hS.1 r37 (by omega) r139 (by omega) r145 (by omega))) ?_
              rintro M146 _ ⟨h146, r146, rfl, lr146, ur146⟩
              have hS := St.tr hS h146 (by decide) (by decide)
              refine Tr.sc [(0, r146), (0, (p18_3 - 2)), (2, 77)] rfl ?_
              refine Tr.iastS (pc := 149) (P := St Tru ws_X6_worked_74_w1 as_X6_worked_74_w1 M0) d_X6_worked_149 (ty_77 hS.1.1) (by omega) (by omega) (sa_77 hS (by decide) (by omega) trivial) (fun M149 hS w149 => ?_)
              refine Tr.pick [2, 3, 4, 0, 5] (ls2 := [(0, (2, 74)), (1, (0, a1)), (2, (2, 15)), (3, (0, (p18_3 - 1))), (4, (0, p18_4))]) rfl ?_
              exact J150 _ _ hS (by omega) ((Wr.b w149 rfl).trans ((St.ka h146 (by decide) (by decide) (by decide)).trans k18_18_a110)) ((Wr.b w149 rfl).trans ((St.ka h146 (by decide) (by decide) (by decide)).trans er27)) ((Wr.b w149 rfl).trans ((St.ka h146 (by decide) (by decide) (by decide)).trans er37))
            · refine Tr.iconst (pc := 118) d_X6_worked_118 (by decide) ?_
              exact Tr.iret (pc := 119) d_X6_worked_119 rfl ⟨hS, _, rfl, by omega, by omega⟩
          · refine Tr.iload_n (pc := 85) (i := 3) d_X6_worked_85 rfl rfl ?_
            refine Tr.iconst (pc := 86) d_X6_worked_86 (by decide) ?_
            refine Tr.icmp_ge (pc := 87) (tgt := 92) d_X6_worked_87 rfl (fun c87 => ?_) (fun c87 => ?_)
            · refine Tr.aload_n (pc := 92) (i := 0) d_X6_worked_92 rfl rfl ?_
              refine Tr.getf (pc := 93) d_X6_worked_93 f_6_18 (by decide) (by decide) (ty_74 hS.1.1) ?_
              refine Tr.tp 77 (fx_74_4 hS.1.1) ?_
              refine Tr.iload_n (pc := 96) (i := 3) d_X6_worked_96 rfl rfl ?_
              refine Tr.iconst (pc := 97) d_X6_worked_97 (by decide) ?_
              refine Tr.isub (pc := 98) d_X6_worked_98 ?_
              refine Tr.tp (p18_3 - 1) ((w32_id (by omega)).trans (by omega)) ?_
              refine Tr.iconst (pc := 99) d_X6_worked_99 (by decide) ?_
              refine Tr.aload_n (pc := 100) (i := 0) d_X6_worked_100 rfl rfl ?_
              refine Tr.getf (pc := 101) d_X6_worked_101 f_6_18 (by decide) (by decide) (ty_74 hS.1.1) ?_
              refine Tr.tp 77 (fx_74_4 hS.1.1) ?_
              refine Tr.iload_n (pc := 104) (i := 3) d_X6_worked_104 rfl rfl ?_
              refine Tr.iconst (pc := 105) d_X6_worked_105 (by decide) ?_
              refine Tr.isub (pc := 106) d_X6_worked_106 ?_
              refine Tr.tp (p18_3 - 1) ((w32_id (by omega)).trans (by omega)) ?_
              refine Tr.iald (pc := 107) d_X6_worked_107 (ty_77 hS.1.1) (by omega) (by omega) ?_
              refine Tr.gen (P := fun v => (-2147483648) ≤ v ∧ v ≤ 2147483647) (ar_77 hS.1.2.1 _) (fun r107 er107 br107 => ?_)
              refine Tr.isub (pc := 108) d_X6_worked_108 ?_
              refine Tr.gen (P := fun v => (-2147483648) ≤ v ∧ v ≤ 2147483647) (w32_b _) (fun r108 er108 br108 => ?_)
              refine Tr.iastS (pc := 109) (P := St Tru ws_X6_worked_74_w1 as_X6_worked_74_w1 M0) d_X6_worked_109 (ty_77 hS.1.1) (by omega) (by omega) (sa_77 hS (by decide) (by omega) trivial) (fun M109 hS w109 => ?_)
              refine Tr.goto (pc := 110) (tgt := 150) d_X6_worked_110 rfl ?_
              refine Tr.pick [1, 2, 3, 4, 5] (ls2 := [(0, (2, 74)), (1, (0, a1)), (2, (2, 15)), (3, (0, p18_3)), (4, (0, p18_4))]) rfl ?_
              exact J150 _ _ hS (by omega) ((Wr.b w109 rfl).trans k18_18_a110) ((Wr.b w109 rfl).trans er27) ((Wr.b w109 rfl).trans er37)
            · refine Tr.iconst (pc := 90) d_X6_worked_90 (by decide) ?_
              exact Tr.iret (pc := 91) d_X6_worked_91 rfl ⟨hS, _, rfl, by omega, by omega⟩
        · refine Tr.iload_n (pc := 46) (i := 3) d_X6_worked_46 rfl rfl ?_
          refine Tr.bipush (pc := 47) d_X6_worked_47 rfl (by decide) ?_
          refine Tr.icmp_lt (pc := 49) (tgt := 54) d_X6_worked_49 rfl (fun c49 => ?_) (fun c49 => ?_)
          · refine Tr.aload_n (pc := 54) (i := 0) d_X6_worked_54 rfl rfl ?_
            refine Tr.getf (pc := 55) d_X6_worked_55 f_6_18 (by decide) (by decide) (ty_74 hS.1.1) ?_
            refine Tr.tp 77 (fx_74_4 hS.1.1) ?_
            refine Tr.iload_n (pc := 58) (i := 3) d_X6_worked_58 rfl rfl ?_
            refine Tr.aload_n (pc := 59) (i := 0) d_X6_worked_59 rfl rfl ?_
            refine Tr.iload (pc := 60) (i := 5) d_X6_worked_60 rfl ?_
            refine Tr.aload_n (pc := 62) (i := 2) d_X6_worked_62 rfl rfl ?_
            refine Tr.getf (pc := 63) d_X6_worked_63 f_6_232 (by decide) (by decide) (ty_15 hS.1.1) ?_
            refine Tr.tp 25 (fx_15_10 hS.1.1) ?_
            refine Tr.iload (pc := 66) (i := 4) d_X6_worked_66 rfl ?_
            refine Tr.iald (pc := 68) d_X6_worked_68 (ty_25 hS.1.1) (by omega) (by omega) ?_
            refine Tr.gen (P := fun v => ((-2147483648) ≤ v ∧ v ≤ 2147483647) ∧ ((r37 = 1 → 0 ≤ v ∧ v ≤ 2) ∧ (r37 = 2 ∨ r37 = 4 → 0 ≤ v ∧ v ≤ 5))) (by have h8 := gc_at hS.1.2.2 24 25 (by decide) er37; have h9 := (ar_25 hS.1.2.1 (p18_4)); exact ⟨h9, h8⟩) (fun r68 er68 br68 => ?_)
            refine Tr.callV (pc := 69) (as := [_, _]) d_X6_worked_69 s_6_235 ok_X6_single rfl rfl (Nat.le_of_ble_eq_true rfl) (Nat.le_of_ble_eq_true rfl) (by decide) (ty_74 hS.1.1) ?_
            refine Tr.imp (Tr.deep (by decide) (sp_X6_single_74 hS.1 r37 (by omega) r68 (by omega) (by omega))) ?_
            rintro M69 _ ⟨h69, r69, rfl, lr69, ur69⟩
            have hS := St.tr hS h69 (by decide) (by decide)
            refine Tr.sc [(0, r69), (0, p18_3), (2, 77)] rfl ?_
            refine Tr.iastS (pc := 72) (P := St Tru ws_X6_worked_74_w1 as_X6_worked_74_w1 M0) d_X6_worked_72 (ty_77 hS.1.1) (by omega) (by omega) (sa_77 hS (by decide) (by omega) trivial) (fun M72 hS w72 => ?_)
            refine Tr.iincV (pc := 73) (n2 := (p18_3 + 1)) (ls2 := [(3, (0, (p18_3 + 1))), (5, (0, r37)), (0, (2, 74)), (1, (0, a1)), (2, (2, 15)), (4, (0, p18_4))]) d_X6_worked_73 rfl (by decide) ((w32_id (by omega)).trans (by omega)) rfl ?_
            refine Tr.goto (pc := 76) (tgt := 150) d_X6_worked_76 rfl ?_
            refine Tr.pick [2, 3, 4, 0, 5] (ls2 := [(0, (2, 74)), (1, (0, a1)), (2, (2, 15)), (3, (0, (p18_3 + 1))), (4, (0, p18_4))]) rfl ?_
            exact J150 _ _ hS (by omega) ((Wr.b w72 rfl).trans ((St.ka h69 (by decide) (by decide) (by decide)).trans k18_18_a110)) ((Wr.b w72 rfl).trans ((St.ka h69 (by decide) (by decide) (by decide)).trans er27)) ((Wr.b w72 rfl).trans ((St.ka h69 (by decide) (by decide) (by decide)).trans er37))
          · refine Tr.iconst (pc := 52) d_X6_worked_52 (by decide) ?_
            exact Tr.iret (pc := 53) d_X6_worked_53 rfl ⟨hS, _, rfl, by omega, by omega⟩
  refine Tr.pick [3, 4, 2, 1, 0] (ls2 := [(0, (2, 74)), (1, (0, a1)), (2, (2, 15)), (3, (0, 0)), (4, (0, r15))]) rfl ?_
  exact J18 _ _ _ _ hS (by omega) (by omega) er15 (Nat.lt_succ_self _)

def ws_X1_act_82_w1 : List (Int × Int) := []
def as_X1_act_82_w1 : List Int := []
def q_X1_act_82_w1 (M0 M' : Mem) (r : Option PV) : Prop := St Tru ws_X1_act_82_w1 as_X1_act_82_w1 M0 M' ∧ r = none
set_option maxRecDepth 100000 in
set_option maxHeartbeats 4000000 in
theorem sp_X1_act_82_w1 {l : Launch} {K : EC} {M0 : Mem} (hI : In Tru M0)  (a1 : Int) (ha1 : 0 ≤ a1 ∧ a1 ≤ 5) (a2 : Int) (ha2 : 0 ≤ a2 ∧ a2 ≤ 59)  : Tr l K 0 mX1_act 0 [(0, (2, 82)), (1, (0, a1)), (2, (0, a2))] [] M0 (q_X1_act_82_w1 M0) := by
  have hS : St Tru ws_X1_act_82_w1 as_X1_act_82_w1 M0 M0 := St.rf hI
  refine Tr.aload_n (pc := 0) (i := 0) d_X1_act_0 rfl rfl ?_
  refine Tr.getz (pc := 1) d_X1_act_1 f_1_37 (by decide) (ty_82 hS.1.1) ?_
  refine Tr.tp 0 (fx_82_0 hS.1.1) ?_
  refine Tr.if_ne (pc := 4) (tgt := 8) d_X1_act_4 rfl (fun hc => absurd (by omega) hc) (fun _ => ?_)
  exact Tr.vret (pc := 7) d_X1_act_7 rfl ⟨hS, rfl⟩

def ws_X6_free_74_w1 : List (Int × Int) := []
def as_X6_free_74_w1 : List Int := [79, 80, 81, 83]
def q_X6_free_74_w1 (M0 M' : Mem) (r : Option PV) : Prop := St Tru ws_X6_free_74_w1 as_X6_free_74_w1 M0 M' ∧ r = none
set_option maxRecDepth 100000 in
set_option maxHeartbeats 4000000 in
theorem sp_X6_free_74_w1 {l : Launch} {K : EC} {M0 : Mem} (hI : In Tru M0) (en_74_1 : rd M0 74 1 = 7) (a1 : Int) (ha1 : 0 ≤ a1 ∧ a1 ≤ 59) (a2 : Int) (ha2 : 0 ≤ a2 ∧ a2 ≤ 5)  : Tr l K 2 mX6_free 0 [(0, (2, 74)), (1, (0, a1)), (2, (0, a2))] [] M0 (q_X6_free_74_w1 M0) := by
  have hS : St Tru ws_X6_free_74_w1 as_X6_free_74_w1 M0 M0 := St.rf hI
  refine Tr.aload_n (pc := 0) (i := 0) d_X6_free_0 rfl rfl ?_
  refine Tr.getf (pc := 1) d_X6_free_1 f_6_24 (by decide) (by decide) (ty_74 hS.1.1) ?_
  refine Tr.tp 79 (fx_74_6 hS.1.1) ?_
  refine Tr.iload_n (pc := 4) (i := 2) d_X6_free_4 rfl rfl ?_
  refine Tr.iald (pc := 5) d_X6_free_5 (ty_79 hS.1.1) (by omega) (by omega) ?_
  refine Tr.gen (P := fun v => 0 ≤ v ∧ v ≤ 1) (ar_79 hS.1.2.1 _) (fun r5 er5 br5 => ?_)
  refine Tr.if_ne (pc := 6) (tgt := 10) d_X6_free_6 rfl (fun c6 => ?_) (fun c6 => ?_)
  · refine Tr.aload_n (pc := 10) (i := 0) d_X6_free_10 rfl rfl ?_
    refine Tr.iload_n (pc := 11) (i := 2) d_X6_free_11 rfl rfl ?_
    refine Tr.aload_n (pc := 12) (i := 0) d_X6_free_12 rfl rfl ?_
    refine Tr.getf (pc := 13) d_X6_free_13 f_6_68 (by decide) (by decide) (ty_74 hS.1.1) ?_
    refine Tr.gen (P := fun v => (-2147483648) ≤ v ∧ v ≤ 2147483647) (ir_74_9 hS.1.2.1) (fun r13 er13 br13 => ?_)
    refine Tr.callV (pc := 16) (as := [_, _]) d_X6_free_16 s_6_125 ok_X6_settle rfl rfl (Nat.le_of_ble_eq_true rfl) (Nat.le_of_ble_eq_true rfl) (by decide) (ty_74 hS.1.1) ?_
    refine Tr.imp (Tr.deep (by decide) (sp_X6_settle_74 hS.1 a2 (by omega) r13 (by omega))) ?_
    rintro M16 _ ⟨h16, rfl⟩
    have hS := St.tr hS h16 (by decide) (by decide)
    refine Tr.sc [] rfl ?_
    refine Tr.aload_n (pc := 19) (i := 0) d_X6_free_19 rfl rfl ?_
    refine Tr.getf (pc := 20) d_X6_free_20 f_6_38 (by decide) (by decide) (ty_74 hS.1.1) ?_
    refine Tr.tp 82 (fx_74_0 hS.1.1) ?_
    refine Tr.iload_n (pc := 23) (i := 2) d_X6_free_23 rfl rfl ?_
    refine Tr.aload_n (pc := 24) (i := 0) d_X6_free_24 rfl rfl ?_
    refine Tr.getf (pc := 25) d_X6_free_25 f_6_68 (by decide) (by decide) (ty_74 hS.1.1) ?_
    refine Tr.tp r13 ((St.kp h16 (by decide) (by decide) (by decide)).trans er13) ?_
    refine Tr.callV (pc := 28) (as := [_, _]) d_X6_free_28 s_6_128 ok_X1_letGo rfl rfl (Nat.le_of_ble_eq_true rfl) (Nat.le_of_ble_eq_true rfl) (by decide) (ty_82 hS.1.1) ?_
    refine Tr.imp (Tr.deep (by decide) (sp_X1_letGo_82 hS.1 a2 (by omega) r13 (by omega))) ?_
    rintro M28 _ ⟨h28, rfl⟩
    have hS := St.tr hS h28 (by decide) (by decide)
    refine Tr.sc [] rfl ?_
    refine Tr.aload_n (pc := 31) (i := 0) d_X6_free_31 rfl rfl ?_
    refine Tr.getf (pc := 32) d_X6_free_32 f_6_38 (by decide) (by decide) (ty_74 hS.1.1) ?_
    refine Tr.tp 82 (fx_74_0 hS.1.1) ?_
    refine Tr.iload_n (pc := 35) (i := 2) d_X6_free_35 rfl rfl ?_
    refine Tr.iload_n (pc := 36) (i := 1) d_X6_free_36 rfl rfl ?_
    refine Tr.callV (pc := 37) (as := [_, _]) d_X6_free_37 s_6_214 ok_X1_act rfl rfl (Nat.le_of_ble_eq_true rfl) (Nat.le_of_ble_eq_true rfl) (by decide) (ty_82 hS.1.1) ?_
    refine Tr.imp (Tr.deep (by decide) (sp_X1_act_82_w1 hS.1 a2 (by omega) a1 (by omega))) ?_
    rintro M37 _ ⟨h37, rfl⟩
    have hS := St.tr hS h37 (by decide) (by decide)
    refine Tr.sc [] rfl ?_
    refine Tr.aload_n (pc := 40) (i := 0) d_X6_free_40 rfl rfl ?_
    refine Tr.getf (pc := 41) d_X6_free_41 f_6_24 (by decide) (by decide) (ty_74 hS.1.1) ?_
    refine Tr.tp 79 (fx_74_6 hS.1.1) ?_
    refine Tr.iload_n (pc := 44) (i := 2) d_X6_free_44 rfl rfl ?_
    refine Tr.iconst (pc := 45) d_X6_free_45 (by decide) ?_
    refine Tr.iastS (pc := 46) (P := St Tru ws_X6_free_74_w1 as_X6_free_74_w1 M0) d_X6_free_46 (ty_79 hS.1.1) (by omega) (by omega) (sa_79 hS (by decide) (by omega) trivial) (fun M46 hS w46 => ?_)
    refine Tr.aload_n (pc := 47) (i := 0) d_X6_free_47 rfl rfl ?_
    refine Tr.getf (pc := 48) d_X6_free_48 f_6_27 (by decide) (by decide) (ty_74 hS.1.1) ?_
    refine Tr.tp 80 (fx_74_7 hS.1.1) ?_
    refine Tr.iload_n (pc := 51) (i := 2) d_X6_free_51 rfl rfl ?_
    refine Tr.aload_n (pc := 52) (i := 0) d_X6_free_52 rfl rfl ?_
    refine Tr.getf (pc := 53) d_X6_free_53 f_6_68 (by decide) (by decide) (ty_74 hS.1.1) ?_
    refine Tr.tp r13 ((Wr.b w46 rfl).trans ((St.kp h37 (by decide) (by decide) (by decide)).trans ((St.kp h28 (by decide) (by decide) (by decide)).trans ((St.kp h16 (by decide) (by decide) (by decide)).trans er13)))) ?_
    refine Tr.aload_n (pc := 56) (i := 0) d_X6_free_56 rfl rfl ?_
    refine Tr.getf (pc := 57) d_X6_free_57 f_6_46 (by decide) (by decide) (ty_74 hS.1.1) ?_
    refine Tr.tp 7 ((St.kp hS (by decide) (by decide) (by decide)).trans en_74_1) ?_
    refine Tr.getf (pc := 60) d_X6_free_60 f_6_208 (by decide) (by decide) (ty_7 hS.1.1) ?_
    refine Tr.tp 11 (fx_7_7 hS.1.1) ?_
    refine Tr.iload_n (pc := 63) (i := 2) d_X6_free_63 rfl rfl ?_
    refine Tr.iald (pc := 64) d_X6_free_64 (ty_11 hS.1.1) (by omega) (by omega) ?_
    refine Tr.gen (P := fun v => 0 ≤ v ∧ v ≤ 50) (ar_11 hS.1.2.1 _) (fun r64 er64 br64 => ?_)
    refine Tr.iadd (pc := 65) d_X6_free_65 ?_
    refine Tr.gen (P := fun v => (-2147483648) ≤ v ∧ v ≤ 2147483647) (w32_b _) (fun r65 er65 br65 => ?_)
    refine Tr.iastS (pc := 66) (P := St Tru ws_X6_free_74_w1 as_X6_free_74_w1 M0) d_X6_free_66 (ty_80 hS.1.1) (by omega) (by omega) (sa_80 hS (by decide) (by omega) trivial) (fun M66 hS w66 => ?_)
    exact Tr.vret (pc := 67) d_X6_free_67 rfl ⟨hS, rfl⟩
  · exact Tr.vret (pc := 9) d_X6_free_9 rfl ⟨hS, rfl⟩

def ws_X6_bookBusy_74_w1 : List (Int × Int) := []
def as_X6_bookBusy_74_w1 : List Int := [81, 83]
def q_X6_bookBusy_74_w1 (M0 M' : Mem) (r : Option PV) : Prop := St Tru ws_X6_bookBusy_74_w1 as_X6_bookBusy_74_w1 M0 M' ∧ r = none
set_option maxRecDepth 100000 in
set_option maxHeartbeats 4000000 in
theorem sp_X6_bookBusy_74_w1 {l : Launch} {K : EC} {M0 : Mem} (hI : In Tru M0)  (a1 : Int) (ha1 : 0 ≤ a1 ∧ a1 ≤ 59) (a2 : Int) (ha2 : 0 ≤ a2 ∧ a2 ≤ 5) (a3 : Int) (ha3 : (-2147483648) ≤ a3 ∧ a3 ≤ 2147483647) (a4 : Int) (ha4 : (-2147483648) ≤ a4 ∧ a4 ≤ 2147483647)  : Tr l K 1 mX6_bookBusy 0 [(0, (2, 74)), (1, (0, a1)), (2, (0, a2)), (3, (0, a3)), (4, (0, a4))] [] M0 (q_X6_bookBusy_74_w1 M0) := by
  have hS : St Tru ws_X6_bookBusy_74_w1 as_X6_bookBusy_74_w1 M0 M0 := St.rf hI
  refine Tr.aload_n (pc := 0) (i := 0) d_X6_bookBusy_0 rfl rfl ?_
  refine Tr.getf (pc := 1) d_X6_bookBusy_1 f_6_38 (by decide) (by decide) (ty_74 hS.1.1) ?_
  refine Tr.tp 82 (fx_74_0 hS.1.1) ?_
  refine Tr.iload_n (pc := 4) (i := 2) d_X6_bookBusy_4 rfl rfl ?_
  refine Tr.iload_n (pc := 5) (i := 1) d_X6_bookBusy_5 rfl rfl ?_
  refine Tr.callV (pc := 6) (as := [_, _]) d_X6_bookBusy_6 s_6_214 ok_X1_act rfl rfl (Nat.le_of_ble_eq_true rfl) (Nat.le_of_ble_eq_true rfl) (by decide) (ty_82 hS.1.1) ?_
  refine Tr.imp (Tr.deep (by decide) (sp_X1_act_82_w1 hS.1 a2 (by omega) a1 (by omega))) ?_
  rintro M6 _ ⟨h6, rfl⟩
  have hS := St.tr hS h6 (by decide) (by decide)
  refine Tr.sc [] rfl ?_
  refine Tr.aload_n (pc := 9) (i := 0) d_X6_bookBusy_9 rfl rfl ?_
  refine Tr.getf (pc := 10) d_X6_bookBusy_10 f_6_38 (by decide) (by decide) (ty_74 hS.1.1) ?_
  refine Tr.tp 82 (fx_74_0 hS.1.1) ?_
  refine Tr.iload_n (pc := 13) (i := 2) d_X6_bookBusy_13 rfl rfl ?_
  refine Tr.iconst (pc := 14) d_X6_bookBusy_14 (by decide) ?_
  refine Tr.iload_n (pc := 15) (i := 3) d_X6_bookBusy_15 rfl rfl ?_
  refine Tr.iload (pc := 16) (i := 4) d_X6_bookBusy_16 rfl ?_
  refine Tr.callV (pc := 18) (as := [_, _, _, _]) d_X6_bookBusy_18 s_6_192 ok_X1_note rfl rfl (Nat.le_of_ble_eq_true rfl) (Nat.le_of_ble_eq_true rfl) (by decide) (ty_82 hS.1.1) ?_
  refine Tr.imp (Tr.deep (by decide) (sp_X1_note_82_w2 hS.1 a2 (by omega) 1 (by omega) a3 (by omega) a4 (by omega))) ?_
  rintro M18 _ ⟨h18, rfl⟩
  have hS := St.tr hS h18 (by decide) (by decide)
  refine Tr.sc [] rfl ?_
  refine Tr.aload_n (pc := 21) (i := 0) d_X6_bookBusy_21 rfl rfl ?_
  refine Tr.getf (pc := 22) d_X6_bookBusy_22 f_6_38 (by decide) (by decide) (ty_74 hS.1.1) ?_
  refine Tr.tp 82 (fx_74_0 hS.1.1) ?_
  refine Tr.iload_n (pc := 25) (i := 2) d_X6_bookBusy_25 rfl rfl ?_
  refine Tr.iconst (pc := 26) d_X6_bookBusy_26 (by decide) ?_
  refine Tr.iload (pc := 27) (i := 4) d_X6_bookBusy_27 rfl ?_
  refine Tr.aload_n (pc := 29) (i := 0) d_X6_bookBusy_29 rfl rfl ?_
  refine Tr.getf (pc := 30) d_X6_bookBusy_30 f_6_68 (by decide) (by decide) (ty_74 hS.1.1) ?_
  refine Tr.gen (P := fun v => (-2147483648) ≤ v ∧ v ≤ 2147483647) (ir_74_9 hS.1.2.1) (fun r30 er30 br30 => ?_)
  refine Tr.callV (pc := 33) (as := [_, _, _, _]) d_X6_bookBusy_33 s_6_192 ok_X1_note rfl rfl (Nat.le_of_ble_eq_true rfl) (Nat.le_of_ble_eq_true rfl) (by decide) (ty_82 hS.1.1) ?_
  refine Tr.imp (Tr.deep (by decide) (sp_X1_note_82_w3 hS.1 a2 (by omega) 3 (by omega) a4 (by omega) r30 (by omega))) ?_
  rintro M33 _ ⟨h33, rfl⟩
  have hS := St.tr hS h33 (by decide) (by decide)
  refine Tr.sc [] rfl ?_
  refine Tr.aload_n (pc := 36) (i := 0) d_X6_bookBusy_36 rfl rfl ?_
  refine Tr.getf (pc := 37) d_X6_bookBusy_37 f_6_30 (by decide) (by decide) (ty_74 hS.1.1) ?_
  refine Tr.tp 81 (fx_74_8 hS.1.1) ?_
  refine Tr.iload_n (pc := 40) (i := 2) d_X6_bookBusy_40 rfl rfl ?_
  refine Tr.aload_n (pc := 41) (i := 0) d_X6_bookBusy_41 rfl rfl ?_
  refine Tr.getf (pc := 42) d_X6_bookBusy_42 f_6_68 (by decide) (by decide) (ty_74 hS.1.1) ?_
  refine Tr.tp r30 ((St.kp h33 (by decide) (by decide) (by decide)).trans er30) ?_
  refine Tr.iastS (pc := 45) (P := St Tru ws_X6_bookBusy_74_w1 as_X6_bookBusy_74_w1 M0) d_X6_bookBusy_45 (ty_81 hS.1.1) (by omega) (by omega) (sa_81 hS (by decide) (by omega) trivial) (fun M45 hS w45 => ?_)
  exact Tr.vret (pc := 46) d_X6_bookBusy_46 rfl ⟨hS, rfl⟩

def ws_X1_holdFor_82_w1 : List (Int × Int) := []
def as_X1_holdFor_82_w1 : List Int := []
def q_X1_holdFor_82_w1 (a1 : Int) (a2 : Int) (a3 : Int) (M0 M' : Mem) (r : Option PV) : Prop := St Tru ws_X1_holdFor_82_w1 as_X1_holdFor_82_w1 M0 M' ∧ r = none
set_option maxRecDepth 100000 in
set_option maxHeartbeats 4000000 in
theorem sp_X1_holdFor_82_w1 {l : Launch} {K : EC} {M0 : Mem} (hI : In Tru M0)  (a1 : Int) (ha1 : 0 ≤ a1 ∧ a1 ≤ 5) (a2 : Int) (ha2 : 0 ≤ a2 ∧ a2 ≤ 59) (a3 : Int) (ha3 : (-2147483648) ≤ a3 ∧ a3 ≤ 2147483647)  : Tr l K 0 mX1_holdFor 0 [(0, (2, 82)), (1, (0, a1)), (2, (0, a2)), (3, (0, a3))] [] M0 (q_X1_holdFor_82_w1 a1 a2 a3 M0) := by
  have hS : St Tru ws_X1_holdFor_82_w1 as_X1_holdFor_82_w1 M0 M0 := St.rf hI
  refine Tr.aload_n (pc := 0) (i := 0) d_X1_holdFor_0 rfl rfl ?_
  refine Tr.getz (pc := 1) d_X1_holdFor_1 f_1_37 (by decide) (ty_82 hS.1.1) ?_
  refine Tr.tp 0 (fx_82_0 hS.1.1) ?_
  refine Tr.if_eq (pc := 4) (tgt := 24) d_X1_holdFor_4 rfl (fun _ => ?_) (fun hc => absurd (by omega) hc)
  exact Tr.vret (pc := 24) d_X1_holdFor_24 rfl ⟨hS, rfl⟩

def ws_X6_hold_74_w1 : List (Int × Int) := [(74, 9), (74, 14), (74, 17)]
def as_X6_hold_74_w1 : List Int := [79, 80, 81, 83]
def q_X6_hold_74_w1 (a1 : Int) (a2 : Int) (M0 M' : Mem) (r : Option PV) : Prop := St Tru ws_X6_hold_74_w1 as_X6_hold_74_w1 M0 M' ∧ r = none
set_option maxRecDepth 100000 in
set_option maxHeartbeats 4000000 in
theorem sp_X6_hold_74_w1 {l : Launch} {K : EC} {M0 : Mem} (hI : In Tru M0) (en_74_1 : rd M0 74 1 = 7) (a1 : Int) (ha1 : 0 ≤ a1 ∧ a1 ≤ 59) (a2 : Int) (ha2 : 0 ≤ a2 ∧ a2 ≤ 5)  : Tr l K 3 mX6_hold 0 [(0, (2, 74)), (1, (0, a1)), (2, (0, a2))] [] M0 (q_X6_hold_74_w1 a1 a2 M0) := by
  have hS : St Tru ws_X6_hold_74_w1 as_X6_hold_74_w1 M0 M0 := St.rf hI
  refine Tr.aload_n (pc := 0) (i := 0) d_X6_hold_0 rfl rfl ?_
  refine Tr.getf (pc := 1) d_X6_hold_1 f_6_24 (by decide) (by decide) (ty_74 hS.1.1) ?_
  refine Tr.tp 79 (fx_74_6 hS.1.1) ?_
  refine Tr.iload_n (pc := 4) (i := 2) d_X6_hold_4 rfl rfl ?_
  refine Tr.iald (pc := 5) d_X6_hold_5 (ty_79 hS.1.1) (by omega) (by omega) ?_
  refine Tr.gen (P := fun v => 0 ≤ v ∧ v ≤ 1) (ar_79 hS.1.2.1 _) (fun r5 er5 br5 => ?_)
  refine Tr.iconst (pc := 6) d_X6_hold_6 (by decide) ?_
  refine Tr.icmp_ne (pc := 7) (tgt := 11) d_X6_hold_7 rfl (fun c7 => ?_) (fun c7 => ?_)
  · refine Tr.aload_n (pc := 11) (i := 0) d_X6_hold_11 rfl rfl ?_
    refine Tr.getf (pc := 12) d_X6_hold_12 f_6_68 (by decide) (by decide) (ty_74 hS.1.1) ?_
    refine Tr.gen (P := fun v => (-2147483648) ≤ v ∧ v ≤ 2147483647) (ir_74_9 hS.1.2.1) (fun r12 er12 br12 => ?_)
    refine Tr.istore_n (pc := 15) (i := 3) (ls2 := [(3, (0, r12)), (0, (2, 74)), (1, (0, a1)), (2, (0, a2))]) d_X6_hold_15 rfl (by decide) rfl ?_
    refine Tr.aload_n (pc := 16) (i := 0) d_X6_hold_16 rfl rfl ?_
    refine Tr.aload_n (pc := 17) (i := 0) d_X6_hold_17 rfl rfl ?_
    refine Tr.iload_n (pc := 18) (i := 2) d_X6_hold_18 rfl rfl ?_
    refine Tr.callV (pc := 19) (as := [_]) d_X6_hold_19 s_6_199 ok_X6_wakeOf rfl rfl (Nat.le_of_ble_eq_true rfl) (Nat.le_of_ble_eq_true rfl) (by decide) (ty_74 hS.1.1) ?_
    refine Tr.imp (Tr.deep (by decide) (sp_X6_wakeOf_74 hS.1 ((St.kp hS (by decide) (by decide) (by decide)).trans en_74_1) a2 (by omega))) ?_
    rintro M19 _ ⟨h19, r19, rfl, lr19, ur19⟩
    have hS := St.tr hS h19 (by decide) (by decide)
    refine Tr.sc [(0, r19), (2, 74)] rfl ?_
    refine Tr.iload_n (pc := 22) (i := 2) d_X6_hold_22 rfl rfl ?_
    refine Tr.iconst (pc := 23) d_X6_hold_23 (by decide) ?_
    refine Tr.callV (pc := 24) (as := [_, _, _]) d_X6_hold_24 s_6_145 ok_X6_pass rfl rfl (Nat.le_of_ble_eq_true rfl) (Nat.le_of_ble_eq_true rfl) (by decide) (ty_74 hS.1.1) ?_
    refine Tr.imp (Tr.deep (by decide) (sp_X6_pass_74_w3 hS.1 ((St.kp hS (by decide) (by decide) (by decide)).trans en_74_1) r19 (by omega) a2 (by omega) 1 (by omega))) ?_
    rintro M24 _ ⟨h24, r24, rfl, lr24, ur24⟩
    have hS := St.tr hS h24 (by decide) (by decide)
    refine Tr.sc [(0, r24)] rfl ?_
    refine Tr.pop (pc := 27) d_X6_hold_27 ne01 ?_
    refine Tr.aload_n (pc := 28) (i := 0) d_X6_hold_28 rfl rfl ?_
    refine Tr.getf (pc := 29) d_X6_hold_29 f_6_62 (by decide) (by decide) (ty_74 hS.1.1) ?_
    refine Tr.gen (P := fun v => (-2147483648) ≤ v ∧ v ≤ 2147483647) (ir_74_14 hS.1.2.1) (fun r29 er29 br29 => ?_)
    have J44 : ∀ (M : Mem), St Tru ws_X6_hold_74_w1 as_X6_hold_74_w1 M0 M → rd M 74 14 = r29 → rd M 79 a2 = r5 → Tr l K 3 mX6_hold 44 [(0, (2, 74)), (1, (0, a1)), (2, (0, a2)), (3, (0, r12))] [] M (q_X6_hold_74_w1 a1 a2 M0) := by
      intro M  hS  k44_74_14 k44_79_a210
      refine Tr.aload_n (pc := 44) (i := 0) d_X6_hold_44 rfl rfl ?_
      refine Tr.iload_n (pc := 45) (i := 2) d_X6_hold_45 rfl rfl ?_
      refine Tr.iload_n (pc := 46) (i := 3) d_X6_hold_46 rfl rfl ?_
      refine Tr.callV (pc := 47) (as := [_, _]) d_X6_hold_47 s_6_125 ok_X6_settle rfl rfl (Nat.le_of_ble_eq_true rfl) (Nat.le_of_ble_eq_true rfl) (by decide) (ty_74 hS.1.1) ?_
      refine Tr.imp (Tr.deep (by decide) (sp_X6_settle_74 hS.1 a2 (by omega) r12 (by omega))) ?_
      rintro M47 _ ⟨h47, rfl⟩
      have hS := St.tr hS h47 (by decide) (by decide)
      refine Tr.sc [] rfl ?_
      refine Tr.aload_n (pc := 50) (i := 0) d_X6_hold_50 rfl rfl ?_
      refine Tr.iload_n (pc := 51) (i := 1) d_X6_hold_51 rfl rfl ?_
      refine Tr.iload_n (pc := 52) (i := 2) d_X6_hold_52 rfl rfl ?_
      refine Tr.iload_n (pc := 53) (i := 3) d_X6_hold_53 rfl rfl ?_
      refine Tr.aload_n (pc := 54) (i := 0) d_X6_hold_54 rfl rfl ?_
      refine Tr.getf (pc := 55) d_X6_hold_55 f_6_68 (by decide) (by decide) (ty_74 hS.1.1) ?_
      refine Tr.gen (P := fun v => (-2147483648) ≤ v ∧ v ≤ 2147483647) (ir_74_9 hS.1.2.1) (fun r55 er55 br55 => ?_)
      refine Tr.callV (pc := 58) (as := [_, _, _, _]) d_X6_hold_58 s_6_202 ok_X6_bookBusy rfl rfl (Nat.le_of_ble_eq_true rfl) (Nat.le_of_ble_eq_true rfl) (by decide) (ty_74 hS.1.1) ?_
      refine Tr.imp (Tr.deep (by decide) (sp_X6_bookBusy_74_w1 hS.1 a1 (by omega) a2 (by omega) r12 (by omega) r55 (by omega))) ?_
      rintro M58 _ ⟨h58, rfl⟩
      have hS := St.tr hS h58 (by decide) (by decide)
      refine Tr.sc [] rfl ?_
      refine Tr.aload_n (pc := 61) (i := 0) d_X6_hold_61 rfl rfl ?_
      refine Tr.getf (pc := 62) d_X6_hold_62 f_6_38 (by decide) (by decide) (ty_74 hS.1.1) ?_
      refine Tr.tp 82 (fx_74_0 hS.1.1) ?_
      refine Tr.iload_n (pc := 65) (i := 2) d_X6_hold_65 rfl rfl ?_
      refine Tr.iload_n (pc := 66) (i := 1) d_X6_hold_66 rfl rfl ?_
      refine Tr.aload_n (pc := 67) (i := 0) d_X6_hold_67 rfl rfl ?_
      refine Tr.getf (pc := 68) d_X6_hold_68 f_6_68 (by decide) (by decide) (ty_74 hS.1.1) ?_
      refine Tr.tp r55 ((St.kp h58 (by decide) (by decide) (by decide)).trans er55) ?_
      refine Tr.callV (pc := 71) (as := [_, _, _]) d_X6_hold_71 s_6_211 ok_X1_holdFor rfl rfl (Nat.le_of_ble_eq_true rfl) (Nat.le_of_ble_eq_true rfl) (by decide) (ty_82 hS.1.1) ?_
      refine Tr.imp (Tr.deep (by decide) (sp_X1_holdFor_82_w1 hS.1 a2 (by omega) a1 (by omega) r55 (by omega))) ?_
      rintro M71 _ ⟨h71, rfl⟩
      have hS := St.tr hS h71 (by decide) (by decide)
      refine Tr.sc [] rfl ?_
      refine Tr.aload_n (pc := 74) (i := 0) d_X6_hold_74 rfl rfl ?_
      refine Tr.getf (pc := 75) d_X6_hold_75 f_6_62 (by decide) (by decide) (ty_74 hS.1.1) ?_
      refine Tr.tp r29 ((St.kp h71 (by decide) (by decide) (by decide)).trans ((St.kp h58 (by decide) (by decide) (by decide)).trans ((St.kp h47 (by decide) (by decide) (by decide)).trans k44_74_14))) ?_
      refine Tr.if_ne (pc := 78) (tgt := 91) d_X6_hold_78 rfl (fun c78 => ?_) (fun c78 => ?_)
      · refine Tr.aload_n (pc := 91) (i := 0) d_X6_hold_91 rfl rfl ?_
        refine Tr.getf (pc := 92) d_X6_hold_92 f_6_27 (by decide) (by decide) (ty_74 hS.1.1) ?_
        refine Tr.tp 80 (fx_74_7 hS.1.1) ?_
        refine Tr.iload_n (pc := 95) (i := 2) d_X6_hold_95 rfl rfl ?_
        refine Tr.aload_n (pc := 96) (i := 0) d_X6_hold_96 rfl rfl ?_
        refine Tr.getf (pc := 97) d_X6_hold_97 f_6_68 (by decide) (by decide) (ty_74 hS.1.1) ?_
        refine Tr.tp r55 ((St.kp h71 (by decide) (by decide) (by decide)).trans ((St.kp h58 (by decide) (by decide) (by decide)).trans er55)) ?_
        refine Tr.iconst (pc := 100) d_X6_hold_100 (by decide) ?_
        refine Tr.iadd (pc := 101) d_X6_hold_101 ?_
        refine Tr.gen (P := fun v => (-2147483648) ≤ v ∧ v ≤ 2147483647) (w32_b _) (fun r101 er101 br101 => ?_)
        refine Tr.iastS (pc := 102) (P := St Tru ws_X6_hold_74_w1 as_X6_hold_74_w1 M0) d_X6_hold_102 (ty_80 hS.1.1) (by omega) (by omega) (sa_80 hS (by decide) (by omega) trivial) (fun M102 hS w102 => ?_)
        exact Tr.vret (pc := 103) d_X6_hold_103 rfl ⟨hS, rfl⟩
      · refine Tr.aload_n (pc := 81) (i := 0) d_X6_hold_81 rfl rfl ?_
        refine Tr.getf (pc := 82) d_X6_hold_82 f_6_24 (by decide) (by decide) (ty_74 hS.1.1) ?_
        refine Tr.tp 79 (fx_74_6 hS.1.1) ?_
        refine Tr.iload_n (pc := 85) (i := 2) d_X6_hold_85 rfl rfl ?_
        refine Tr.iconst (pc := 86) d_X6_hold_86 (by decide) ?_
        refine Tr.iastS (pc := 87) (P := St Tru ws_X6_hold_74_w1 as_X6_hold_74_w1 M0) d_X6_hold_87 (ty_79 hS.1.1) (by omega) (by omega) (sa_79 hS (by decide) (by omega) trivial) (fun M87 hS w87 => ?_)
        refine Tr.goto (pc := 88) (tgt := 103) d_X6_hold_88 rfl ?_
        exact Tr.vret (pc := 103) d_X6_hold_103 rfl ⟨hS, rfl⟩
    refine Tr.if_eq (pc := 32) (tgt := 44) d_X6_hold_32 rfl (fun c32 => ?_) (fun c32 => ?_)
    · refine Tr.pick [1, 2, 3, 0] (ls2 := [(0, (2, 74)), (1, (0, a1)), (2, (0, a2)), (3, (0, r12))]) rfl ?_
      exact J44 _ hS er29 ((St.ka h24 (by decide) (by decide) (by decide)).trans ((St.ka h19 (by decide) (by decide) (by decide)).trans er5))
    · refine Tr.aload_n (pc := 35) (i := 0) d_X6_hold_35 rfl rfl ?_
      refine Tr.getf (pc := 36) d_X6_hold_36 f_6_68 (by decide) (by decide) (ty_74 hS.1.1) ?_
      refine Tr.gen (P := fun v => (-2147483648) ≤ v ∧ v ≤ 2147483647) (ir_74_9 hS.1.2.1) (fun r36 er36 br36 => ?_)
      refine Tr.iload_n (pc := 39) (i := 3) d_X6_hold_39 rfl rfl ?_
      refine Tr.icmp_ne (pc := 40) (tgt := 44) d_X6_hold_40 rfl (fun c40 => ?_) (fun c40 => ?_)
      · refine Tr.pick [1, 2, 3, 0] (ls2 := [(0, (2, 74)), (1, (0, a1)), (2, (0, a2)), (3, (0, r12))]) rfl ?_
        exact J44 _ hS er29 ((St.ka h24 (by decide) (by decide) (by decide)).trans ((St.ka h19 (by decide) (by decide) (by decide)).trans er5))
      · exact Tr.vret (pc := 43) d_X6_hold_43 rfl ⟨hS, rfl⟩
  · exact Tr.vret (pc := 10) d_X6_hold_10 rfl ⟨hS, rfl⟩
end
