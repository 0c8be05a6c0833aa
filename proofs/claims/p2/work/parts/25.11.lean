theorem d_X6_hold_15 : decode mX6_hold.2.2.1 15 = .ok (.istore_n 3, 1) := by decide +kernel
theorem d_X6_hold_16 : decode mX6_hold.2.2.1 16 = .ok (.aload_n 0, 1) := by decide +kernel
theorem d_X6_hold_17 : decode mX6_hold.2.2.1 17 = .ok (.aload_n 0, 1) := by decide +kernel
theorem d_X6_hold_18 : decode mX6_hold.2.2.1 18 = .ok (.iload_n 2, 1) := by decide +kernel
theorem d_X6_hold_19 : decode mX6_hold.2.2.1 19 = .ok (.invokevirtual 199, 3) := by decide +kernel
def mX6_wakeOf : MD := (6, yX6_wakeOf, cX6_wakeOf, 2, some .int)
theorem sel_X6_wakeOf : Cond.instanceMethod mX6_wakeOf.2.1 ∈ tblG ∧ Cond.selects mX6_wakeOf.2.1.cls mX6_wakeOf.2.1 mX6_wakeOf.2.1 ∈ tblG := ⟨tblG_in (inT5 (List.mem_of_getElem? (i := 86) rfl)) rfl, tblG_in (inP4 (q := (mX6_wakeOf.2.1, 18)) (List.mem_of_getElem? (i := 3) rfl)) rfl⟩
theorem s_6_199 : e_siteV 6 199 mX6_wakeOf 6 := ⟨tblG_in (inT5 (List.mem_of_getElem? (i := 84) rfl)) rfl, sel_X6_wakeOf.1, sel_X6_wakeOf.2, rfl⟩
theorem d_X6_wakeOf_0 : decode mX6_wakeOf.2.2.1 0 = .ok (.aload_n 0, 1) := by decide +kernel
theorem d_X6_wakeOf_1 : decode mX6_wakeOf.2.2.1 1 = .ok (.getfield 24, 3) := by decide +kernel
theorem d_X6_wakeOf_4 : decode mX6_wakeOf.2.2.1 4 = .ok (.iload_n 1, 1) := by decide +kernel
theorem d_X6_wakeOf_5 : decode mX6_wakeOf.2.2.1 5 = .ok (.iaload, 1) := by decide +kernel
theorem d_X6_wakeOf_6 : decode mX6_wakeOf.2.2.1 6 = .ok (.ifCond .ne 28, 3) := by decide +kernel
theorem d_X6_wakeOf_34 : decode mX6_wakeOf.2.2.1 34 = .ok (.iconst 0, 1) := by decide +kernel
theorem d_X6_wakeOf_35 : decode mX6_wakeOf.2.2.1 35 = .ok (.ireturn, 1) := by decide +kernel
theorem d_X6_wakeOf_9 : decode mX6_wakeOf.2.2.1 9 = .ok (.aload_n 0, 1) := by decide +kernel
theorem d_X6_wakeOf_10 : decode mX6_wakeOf.2.2.1 10 = .ok (.getfield 27, 3) := by decide +kernel
theorem d_X6_wakeOf_13 : decode mX6_wakeOf.2.2.1 13 = .ok (.iload_n 1, 1) := by decide +kernel
theorem d_X6_wakeOf_14 : decode mX6_wakeOf.2.2.1 14 = .ok (.iaload, 1) := by decide +kernel
theorem d_X6_wakeOf_15 : decode mX6_wakeOf.2.2.1 15 = .ok (.aload_n 0, 1) := by decide +kernel
theorem d_X6_wakeOf_16 : decode mX6_wakeOf.2.2.1 16 = .ok (.getfield 68, 3) := by decide +kernel
theorem d_X6_wakeOf_19 : decode mX6_wakeOf.2.2.1 19 = .ok (.if_icmp .gt 15, 3) := by decide +kernel
theorem d_X6_wakeOf_22 : decode mX6_wakeOf.2.2.1 22 = .ok (.aload_n 0, 1) := by decide +kernel
theorem d_X6_wakeOf_23 : decode mX6_wakeOf.2.2.1 23 = .ok (.getfield 46, 3) := by decide +kernel
theorem d_X6_wakeOf_26 : decode mX6_wakeOf.2.2.1 26 = .ok (.getfield 196, 3) := by decide +kernel
theorem f_6_196 : e_fld 6 196 3 6 12 2 true := ⟨RX3, TX3, 6, rfl, rfl, by decide, rfl, rfl, rfl, iX3, tblG_in (inT1 (List.mem_of_getElem? (i := 186) rfl)) rfl, tyX3_ok, nmX3⟩
theorem d_X6_wakeOf_29 : decode mX6_wakeOf.2.2.1 29 = .ok (.iload_n 1, 1) := by decide +kernel
theorem d_X6_wakeOf_30 : decode mX6_wakeOf.2.2.1 30 = .ok (.iaload, 1) := by decide +kernel
theorem d_X6_wakeOf_31 : decode mX6_wakeOf.2.2.1 31 = .ok (.goto 4, 3) := by decide +kernel
theorem ok_X6_wakeOf : e_m mX6_wakeOf 1 := ⟨tblG_in (inT5 (List.mem_of_getElem? (i := 87) rfl)) rfl, plainFor_of_name (by decide), rfl, ini_6, by decide +kernel, by decide⟩
theorem d_X6_hold_22 : decode mX6_hold.2.2.1 22 = .ok (.iload_n 2, 1) := by decide +kernel
theorem d_X6_hold_23 : decode mX6_hold.2.2.1 23 = .ok (.iconst 1, 1) := by decide +kernel
theorem d_X6_hold_24 : decode mX6_hold.2.2.1 24 = .ok (.invokevirtual 145, 3) := by decide +kernel
theorem d_X6_sipsAt_74 : decode mX6_sipsAt.2.2.1 74 = .ok (.iload_n 3, 1) := by decide +kernel
theorem d_X6_sipsAt_75 : decode mX6_sipsAt.2.2.1 75 = .ok (.goto 5, 3) := by decide +kernel
theorem d_X6_hold_27 : decode mX6_hold.2.2.1 27 = .ok (.pop, 1) := by decide +kernel
theorem d_X6_hold_28 : decode mX6_hold.2.2.1 28 = .ok (.aload_n 0, 1) := by decide +kernel
theorem d_X6_hold_29 : decode mX6_hold.2.2.1 29 = .ok (.getfield 62, 3) := by decide +kernel
theorem d_X6_hold_32 : decode mX6_hold.2.2.1 32 = .ok (.ifCond .eq 12, 3) := by decide +kernel
theorem d_X6_hold_35 : decode mX6_hold.2.2.1 35 = .ok (.aload_n 0, 1) := by decide +kernel
theorem d_X6_hold_36 : decode mX6_hold.2.2.1 36 = .ok (.getfield 68, 3) := by decide +kernel
theorem d_X6_hold_39 : decode mX6_hold.2.2.1 39 = .ok (.iload_n 3, 1) := by decide +kernel
theorem d_X6_hold_40 : decode mX6_hold.2.2.1 40 = .ok (.if_icmp .ne 4, 3) := by decide +kernel
theorem d_X6_hold_43 : decode mX6_hold.2.2.1 43 = .ok (.return_, 1) := by decide +kernel
theorem d_X6_hold_10 : decode mX6_hold.2.2.1 10 = .ok (.return_, 1) := by decide +kernel
theorem d_X6_hold_44 : decode mX6_hold.2.2.1 44 = .ok (.aload_n 0, 1) := by decide +kernel
theorem d_X6_hold_45 : decode mX6_hold.2.2.1 45 = .ok (.iload_n 2, 1) := by decide +kernel
theorem d_X6_hold_46 : decode mX6_hold.2.2.1 46 = .ok (.iload_n 3, 1) := by decide +kernel
theorem d_X6_hold_47 : decode mX6_hold.2.2.1 47 = .ok (.invokevirtual 125, 3) := by decide +kernel
theorem d_X6_hold_50 : decode mX6_hold.2.2.1 50 = .ok (.aload_n 0, 1) := by decide +kernel
theorem d_X6_hold_51 : decode mX6_hold.2.2.1 51 = .ok (.iload_n 1, 1) := by decide +kernel
theorem d_X6_hold_52 : decode mX6_hold.2.2.1 52 = .ok (.iload_n 2, 1) := by decide +kernel
theorem d_X6_hold_53 : decode mX6_hold.2.2.1 53 = .ok (.iload_n 3, 1) := by decide +kernel
theorem d_X6_hold_54 : decode mX6_hold.2.2.1 54 = .ok (.aload_n 0, 1) := by decide +kernel
theorem d_X6_hold_55 : decode mX6_hold.2.2.1 55 = .ok (.getfield 68, 3) := by decide +kernel
theorem d_X6_hold_58 : decode mX6_hold.2.2.1 58 = .ok (.invokevirtual 202, 3) := by decide +kernel
def mX6_bookBusy : MD := (6, yX6_bookBusy, cX6_bookBusy, 5, none)
theorem sel_X6_bookBusy : Cond.instanceMethod mX6_bookBusy.2.1 ∈ tblG ∧ Cond.selects mX6_bookBusy.2.1.cls mX6_bookBusy.2.1 mX6_bookBusy.2.1 ∈ tblG := ⟨tblG_in (inT5 (List.mem_of_getElem? (i := 106) rfl)) rfl, tblG_in (inP4 (q := (mX6_bookBusy.2.1, 18)) (List.mem_of_getElem? (i := 5) rfl)) rfl⟩
theorem s_6_202 : e_siteV 6 202 mX6_bookBusy 6 := ⟨tblG_in (inT5 (List.mem_of_getElem? (i := 104) rfl)) rfl, sel_X6_bookBusy.1, sel_X6_bookBusy.2, rfl⟩
theorem d_X6_bookBusy_0 : decode mX6_bookBusy.2.2.1 0 = .ok (.aload_n 0, 1) := by decide +kernel
theorem d_X6_bookBusy_1 : decode mX6_bookBusy.2.2.1 1 = .ok (.getfield 38, 3) := by decide +kernel
theorem d_X6_bookBusy_4 : decode mX6_bookBusy.2.2.1 4 = .ok (.iload_n 2, 1) := by decide +kernel
theorem d_X6_bookBusy_5 : decode mX6_bookBusy.2.2.1 5 = .ok (.iload_n 1, 1) := by decide +kernel
theorem d_X6_bookBusy_6 : decode mX6_bookBusy.2.2.1 6 = .ok (.invokevirtual 214, 3) := by decide +kernel
theorem d_X6_bookBusy_9 : decode mX6_bookBusy.2.2.1 9 = .ok (.aload_n 0, 1) := by decide +kernel
theorem d_X6_bookBusy_10 : decode mX6_bookBusy.2.2.1 10 = .ok (.getfield 38, 3) := by decide +kernel
theorem d_X6_bookBusy_13 : decode mX6_bookBusy.2.2.1 13 = .ok (.iload_n 2, 1) := by decide +kernel
theorem d_X6_bookBusy_14 : decode mX6_bookBusy.2.2.1 14 = .ok (.iconst 1, 1) := by decide +kernel
theorem d_X6_bookBusy_15 : decode mX6_bookBusy.2.2.1 15 = .ok (.iload_n 3, 1) := by decide +kernel
theorem d_X6_bookBusy_16 : decode mX6_bookBusy.2.2.1 16 = .ok (.iload 4, 2) := by decide +kernel
theorem d_X6_bookBusy_18 : decode mX6_bookBusy.2.2.1 18 = .ok (.invokevirtual 192, 3) := by decide +kernel
theorem d_X6_bookBusy_21 : decode mX6_bookBusy.2.2.1 21 = .ok (.aload_n 0, 1) := by decide +kernel
theorem d_X6_bookBusy_22 : decode mX6_bookBusy.2.2.1 22 = .ok (.getfield 38, 3) := by decide +kernel
theorem d_X6_bookBusy_25 : decode mX6_bookBusy.2.2.1 25 = .ok (.iload_n 2, 1) := by decide +kernel
theorem d_X6_bookBusy_26 : decode mX6_bookBusy.2.2.1 26 = .ok (.iconst 3, 1) := by decide +kernel
theorem d_X6_bookBusy_27 : decode mX6_bookBusy.2.2.1 27 = .ok (.iload 4, 2) := by decide +kernel
theorem d_X6_bookBusy_29 : decode mX6_bookBusy.2.2.1 29 = .ok (.aload_n 0, 1) := by decide +kernel
theorem d_X6_bookBusy_30 : decode mX6_bookBusy.2.2.1 30 = .ok (.getfield 68, 3) := by decide +kernel
theorem d_X6_bookBusy_33 : decode mX6_bookBusy.2.2.1 33 = .ok (.invokevirtual 192, 3) := by decide +kernel
theorem d_X6_bookBusy_36 : decode mX6_bookBusy.2.2.1 36 = .ok (.aload_n 0, 1) := by decide +kernel
theorem d_X6_bookBusy_37 : decode mX6_bookBusy.2.2.1 37 = .ok (.getfield 30, 3) := by decide +kernel
theorem d_X6_bookBusy_40 : decode mX6_bookBusy.2.2.1 40 = .ok (.iload_n 2, 1) := by decide +kernel
theorem d_X6_bookBusy_41 : decode mX6_bookBusy.2.2.1 41 = .ok (.aload_n 0, 1) := by decide +kernel
theorem d_X6_bookBusy_42 : decode mX6_bookBusy.2.2.1 42 = .ok (.getfield 68, 3) := by decide +kernel
theorem d_X6_bookBusy_45 : decode mX6_bookBusy.2.2.1 45 = .ok (.iastore, 1) := by decide +kernel
theorem d_X6_bookBusy_46 : decode mX6_bookBusy.2.2.1 46 = .ok (.return_, 1) := by decide +kernel
theorem ok_X6_bookBusy : e_m mX6_bookBusy 4 := ⟨tblG_in (inT5 (List.mem_of_getElem? (i := 107) rfl)) rfl, plainFor_of_name (by decide), rfl, ini_6, by decide +kernel, by decide⟩
theorem d_X6_hold_61 : decode mX6_hold.2.2.1 61 = .ok (.aload_n 0, 1) := by decide +kernel
theorem d_X6_hold_62 : decode mX6_hold.2.2.1 62 = .ok (.getfield 38, 3) := by decide +kernel
theorem d_X6_hold_65 : decode mX6_hold.2.2.1 65 = .ok (.iload_n 2, 1) := by decide +kernel
theorem d_X6_hold_66 : decode mX6_hold.2.2.1 66 = .ok (.iload_n 1, 1) := by decide +kernel
theorem d_X6_hold_67 : decode mX6_hold.2.2.1 67 = .ok (.aload_n 0, 1) := by decide +kernel
theorem d_X6_hold_68 : decode mX6_hold.2.2.1 68 = .ok (.getfield 68, 3) := by decide +kernel
theorem d_X6_hold_71 : decode mX6_hold.2.2.1 71 = .ok (.invokevirtual 211, 3) := by decide +kernel
def mX1_holdFor : MD := (1, yX1_holdFor, cX1_holdFor, 4, none)
theorem sel_X1_holdFor : Cond.instanceMethod mX1_holdFor.2.1 ∈ tblG ∧ Cond.selects mX1_holdFor.2.1.cls mX1_holdFor.2.1 mX1_holdFor.2.1 ∈ tblG := ⟨tblG_in (inT5 (List.mem_of_getElem? (i := 129) rfl)) rfl, tblG_in (inT5 (List.mem_of_getElem? (i := 130) rfl)) rfl⟩
theorem s_6_211 : e_siteV 6 211 mX1_holdFor 1 := ⟨tblG_in (inT5 (List.mem_of_getElem? (i := 128) rfl)) rfl, sel_X1_holdFor.1, sel_X1_holdFor.2, rfl⟩
theorem d_X1_holdFor_0 : decode mX1_holdFor.2.2.1 0 = .ok (.aload_n 0, 1) := by decide +kernel
theorem d_X1_holdFor_1 : decode mX1_holdFor.2.2.1 1 = .ok (.getfield 37, 3) := by decide +kernel
theorem d_X1_holdFor_4 : decode mX1_holdFor.2.2.1 4 = .ok (.ifCond .eq 20, 3) := by decide +kernel
theorem d_X1_holdFor_24 : decode mX1_holdFor.2.2.1 24 = .ok (.return_, 1) := by decide +kernel
theorem ok_X1_holdFor : e_m mX1_holdFor 3 := ⟨tblG_in (inT5 (List.mem_of_getElem? (i := 131) rfl)) rfl, plainFor_of_name (by decide), rfl, ini_1, by decide +kernel, by decide⟩
theorem d_X6_hold_74 : decode mX6_hold.2.2.1 74 = .ok (.aload_n 0, 1) := by decide +kernel
theorem d_X6_hold_75 : decode mX6_hold.2.2.1 75 = .ok (.getfield 62, 3) := by decide +kernel
theorem d_X6_hold_78 : decode mX6_hold.2.2.1 78 = .ok (.ifCond .ne 13, 3) := by decide +kernel
theorem d_X6_hold_91 : decode mX6_hold.2.2.1 91 = .ok (.aload_n 0, 1) := by decide +kernel
theorem d_X6_hold_92 : decode mX6_hold.2.2.1 92 = .ok (.getfield 27, 3) := by decide +kernel
theorem d_X6_hold_95 : decode mX6_hold.2.2.1 95 = .ok (.iload_n 2, 1) := by decide +kernel
theorem d_X6_hold_96 : decode mX6_hold.2.2.1 96 = .ok (.aload_n 0, 1) := by decide +kernel
theorem d_X6_hold_97 : decode mX6_hold.2.2.1 97 = .ok (.getfield 68, 3) := by decide +kernel
theorem d_X6_hold_100 : decode mX6_hold.2.2.1 100 = .ok (.iconst 1, 1) := by decide +kernel
theorem d_X6_hold_101 : decode mX6_hold.2.2.1 101 = .ok (.iadd, 1) := by decide +kernel
theorem d_X6_hold_102 : decode mX6_hold.2.2.1 102 = .ok (.iastore, 1) := by decide +kernel
theorem d_X6_hold_103 : decode mX6_hold.2.2.1 103 = .ok (.return_, 1) := by decide +kernel
theorem d_X6_hold_81 : decode mX6_hold.2.2.1 81 = .ok (.aload_n 0, 1) := by decide +kernel
theorem d_X6_hold_82 : decode mX6_hold.2.2.1 82 = .ok (.getfield 24, 3) := by decide +kernel
theorem d_X6_hold_85 : decode mX6_hold.2.2.1 85 = .ok (.iload_n 2, 1) := by decide +kernel
theorem d_X6_hold_86 : decode mX6_hold.2.2.1 86 = .ok (.iconst 1, 1) := by decide +kernel
theorem d_X6_hold_87 : decode mX6_hold.2.2.1 87 = .ok (.iastore, 1) := by decide +kernel
theorem d_X6_hold_88 : decode mX6_hold.2.2.1 88 = .ok (.goto 15, 3) := by decide +kernel
theorem ok_X6_hold : e_m mX6_hold 2 := ⟨tblG_in (inT5 (List.mem_of_getElem? (i := 127) rfl)) rfl, plainFor_of_name (by decide), rfl, ini_6, by decide +kernel, by decide⟩
theorem d_X6_step_123 : decode mX6_step.2.2.1 123 = .ok (.goto 78, 3) := by decide +kernel
theorem d_X6_step_94 : decode mX6_step.2.2.1 94 = .ok (.aload_n 0, 1) := by decide +kernel
theorem d_X6_step_95 : decode mX6_step.2.2.1 95 = .ok (.iload_n 1, 1) := by decide +kernel
theorem d_X6_step_96 : decode mX6_step.2.2.1 96 = .ok (.iload_n 3, 1) := by decide +kernel
theorem d_X6_step_97 : decode mX6_step.2.2.1 97 = .ok (.aload_n 0, 1) := by decide +kernel
theorem d_X6_step_98 : decode mX6_step.2.2.1 98 = .ok (.iload_n 1, 1) := by decide +kernel
theorem d_X6_step_99 : decode mX6_step.2.2.1 99 = .ok (.invokevirtual 155, 3) := by decide +kernel
theorem d_X6_step_102 : decode mX6_step.2.2.1 102 = .ok (.iconst 0, 1) := by decide +kernel
theorem d_X6_step_103 : decode mX6_step.2.2.1 103 = .ok (.invokestatic 119, 3) := by decide +kernel
theorem d_X6_step_106 : decode mX6_step.2.2.1 106 = .ok (.bipush 50, 2) := by decide +kernel
theorem d_X6_step_108 : decode mX6_step.2.2.1 108 = .ok (.invokestatic 158, 3) := by decide +kernel
theorem d_X6_step_111 : decode mX6_step.2.2.1 111 = .ok (.invokevirtual 161, 3) := by decide +kernel
def mX6_use : MD := (6, yX6_use, cX6_use, 6, none)
theorem sel_X6_use : Cond.instanceMethod mX6_use.2.1 ∈ tblG ∧ Cond.selects mX6_use.2.1.cls mX6_use.2.1 mX6_use.2.1 ∈ tblG := ⟨tblG_in (inT5 (List.mem_of_getElem? (i := 82) rfl)) rfl, tblG_in (inP4 (q := (mX6_use.2.1, 18)) (List.mem_of_getElem? (i := 2) rfl)) rfl⟩
theorem s_6_161 : e_siteV 6 161 mX6_use 6 := ⟨tblG_in (inT5 (List.mem_of_getElem? (i := 80) rfl)) rfl, sel_X6_use.1, sel_X6_use.2, rfl⟩
theorem d_X6_use_0 : decode mX6_use.2.2.1 0 = .ok (.aload_n 0, 1) := by decide +kernel
theorem d_X6_use_1 : decode mX6_use.2.2.1 1 = .ok (.getfield 68, 3) := by decide +kernel
theorem d_X6_use_4 : decode mX6_use.2.2.1 4 = .ok (.istore 4, 2) := by decide +kernel
theorem d_X6_use_6 : decode mX6_use.2.2.1 6 = .ok (.aload_n 0, 1) := by decide +kernel
theorem d_X6_use_7 : decode mX6_use.2.2.1 7 = .ok (.aload_n 0, 1) := by decide +kernel
theorem d_X6_use_8 : decode mX6_use.2.2.1 8 = .ok (.iload_n 2, 1) := by decide +kernel
theorem d_X6_use_9 : decode mX6_use.2.2.1 9 = .ok (.invokevirtual 199, 3) := by decide +kernel
theorem d_X6_use_12 : decode mX6_use.2.2.1 12 = .ok (.iload_n 2, 1) := by decide +kernel
theorem d_X6_use_13 : decode mX6_use.2.2.1 13 = .ok (.iconst 1, 1) := by decide +kernel
theorem d_X6_use_14 : decode mX6_use.2.2.1 14 = .ok (.invokevirtual 145, 3) := by decide +kernel
theorem d_X6_use_17 : decode mX6_use.2.2.1 17 = .ok (.pop, 1) := by decide +kernel
theorem d_X6_use_18 : decode mX6_use.2.2.1 18 = .ok (.aload_n 0, 1) := by decide +kernel
theorem d_X6_use_19 : decode mX6_use.2.2.1 19 = .ok (.getfield 68, 3) := by decide +kernel
theorem d_X6_use_22 : decode mX6_use.2.2.1 22 = .ok (.istore 5, 2) := by decide +kernel
theorem d_X6_use_24 : decode mX6_use.2.2.1 24 = .ok (.aload_n 0, 1) := by decide +kernel
theorem d_X6_use_25 : decode mX6_use.2.2.1 25 = .ok (.getfield 62, 3) := by decide +kernel
theorem d_X6_use_28 : decode mX6_use.2.2.1 28 = .ok (.ifCond .ne 11, 3) := by decide +kernel
theorem d_X6_use_31 : decode mX6_use.2.2.1 31 = .ok (.aload_n 0, 1) := by decide +kernel
theorem d_X6_use_32 : decode mX6_use.2.2.1 32 = .ok (.iload_n 3, 1) := by decide +kernel
theorem d_X6_use_33 : decode mX6_use.2.2.1 33 = .ok (.iload_n 2, 1) := by decide +kernel
theorem d_X6_use_34 : decode mX6_use.2.2.1 34 = .ok (.iconst 3, 1) := by decide +kernel
theorem d_X6_use_35 : decode mX6_use.2.2.1 35 = .ok (.invokevirtual 145, 3) := by decide +kernel
theorem d_X6_use_38 : decode mX6_use.2.2.1 38 = .ok (.pop, 1) := by decide +kernel
theorem d_X6_use_39 : decode mX6_use.2.2.1 39 = .ok (.aload_n 0, 1) := by decide +kernel
theorem d_X6_use_40 : decode mX6_use.2.2.1 40 = .ok (.getfield 62, 3) := by decide +kernel
theorem d_X6_use_43 : decode mX6_use.2.2.1 43 = .ok (.ifCond .eq 13, 3) := by decide +kernel
theorem d_X6_use_46 : decode mX6_use.2.2.1 46 = .ok (.aload_n 0, 1) := by decide +kernel
theorem d_X6_use_47 : decode mX6_use.2.2.1 47 = .ok (.getfield 68, 3) := by decide +kernel
theorem d_X6_use_50 : decode mX6_use.2.2.1 50 = .ok (.iload 4, 2) := by decide +kernel
theorem d_X6_use_52 : decode mX6_use.2.2.1 52 = .ok (.if_icmp .ne 4, 3) := by decide +kernel
theorem d_X6_use_55 : decode mX6_use.2.2.1 55 = .ok (.return_, 1) := by decide +kernel
theorem d_X6_use_56 : decode mX6_use.2.2.1 56 = .ok (.aload_n 0, 1) := by decide +kernel
theorem d_X6_use_57 : decode mX6_use.2.2.1 57 = .ok (.iload_n 2, 1) := by decide +kernel
theorem d_X6_use_58 : decode mX6_use.2.2.1 58 = .ok (.iload 4, 2) := by decide +kernel
theorem d_X6_use_60 : decode mX6_use.2.2.1 60 = .ok (.invokevirtual 125, 3) := by decide +kernel
theorem d_X6_use_63 : decode mX6_use.2.2.1 63 = .ok (.aload_n 0, 1) := by decide +kernel
theorem d_X6_use_64 : decode mX6_use.2.2.1 64 = .ok (.iload_n 1, 1) := by decide +kernel
theorem d_X6_use_65 : decode mX6_use.2.2.1 65 = .ok (.iload_n 2, 1) := by decide +kernel
theorem d_X6_use_66 : decode mX6_use.2.2.1 66 = .ok (.iload 4, 2) := by decide +kernel
theorem d_X6_use_68 : decode mX6_use.2.2.1 68 = .ok (.iload 5, 2) := by decide +kernel
theorem d_X6_use_70 : decode mX6_use.2.2.1 70 = .ok (.invokevirtual 202, 3) := by decide +kernel
theorem d_X6_use_73 : decode mX6_use.2.2.1 73 = .ok (.aload_n 0, 1) := by decide +kernel
theorem d_X6_use_74 : decode mX6_use.2.2.1 74 = .ok (.getfield 38, 3) := by decide +kernel
theorem d_X6_use_77 : decode mX6_use.2.2.1 77 = .ok (.iload_n 2, 1) := by decide +kernel
theorem d_X6_use_78 : decode mX6_use.2.2.1 78 = .ok (.iload_n 1, 1) := by decide +kernel
theorem d_X6_use_79 : decode mX6_use.2.2.1 79 = .ok (.iload 5, 2) := by decide +kernel
theorem d_X6_use_81 : decode mX6_use.2.2.1 81 = .ok (.aload_n 0, 1) := by decide +kernel
theorem d_X6_use_82 : decode mX6_use.2.2.1 82 = .ok (.getfield 68, 3) := by decide +kernel
theorem d_X6_use_85 : decode mX6_use.2.2.1 85 = .ok (.invokevirtual 205, 3) := by decide +kernel
def mX1_workFor : MD := (1, yX1_workFor, cX1_workFor, 5, none)
theorem sel_X1_workFor : Cond.instanceMethod mX1_workFor.2.1 ∈ tblG ∧ Cond.selects mX1_workFor.2.1.cls mX1_workFor.2.1 mX1_workFor.2.1 ∈ tblG := ⟨tblG_in (inT5 (List.mem_of_getElem? (i := 117) rfl)) rfl, tblG_in (inT5 (List.mem_of_getElem? (i := 118) rfl)) rfl⟩
theorem s_6_205 : e_siteV 6 205 mX1_workFor 1 := ⟨tblG_in (inT5 (List.mem_of_getElem? (i := 116) rfl)) rfl, sel_X1_workFor.1, sel_X1_workFor.2, rfl⟩
theorem d_X1_workFor_0 : decode mX1_workFor.2.2.1 0 = .ok (.aload_n 0, 1) := by decide +kernel
theorem d_X1_workFor_1 : decode mX1_workFor.2.2.1 1 = .ok (.getfield 37, 3) := by decide +kernel
theorem d_X1_workFor_4 : decode mX1_workFor.2.2.1 4 = .ok (.ifCond .eq 16, 3) := by decide +kernel
theorem d_X1_workFor_20 : decode mX1_workFor.2.2.1 20 = .ok (.return_, 1) := by decide +kernel
theorem ok_X1_workFor : e_m mX1_workFor 4 := ⟨tblG_in (inT5 (List.mem_of_getElem? (i := 119) rfl)) rfl, plainFor_of_name (by decide), rfl, ini_1, by decide +kernel, by decide⟩
theorem d_X6_use_88 : decode mX6_use.2.2.1 88 = .ok (.aload_n 0, 1) := by decide +kernel
theorem d_X6_use_89 : decode mX6_use.2.2.1 89 = .ok (.getfield 27, 3) := by decide +kernel
theorem d_X6_use_92 : decode mX6_use.2.2.1 92 = .ok (.iload_n 2, 1) := by decide +kernel
theorem d_X6_use_93 : decode mX6_use.2.2.1 93 = .ok (.aload_n 0, 1) := by decide +kernel
theorem d_X6_use_94 : decode mX6_use.2.2.1 94 = .ok (.getfield 62, 3) := by decide +kernel
theorem d_X6_use_97 : decode mX6_use.2.2.1 97 = .ok (.ifCond .ne 20, 3) := by decide +kernel
theorem d_X6_use_117 : decode mX6_use.2.2.1 117 = .ok (.aload_n 0, 1) := by decide +kernel
theorem d_X6_use_118 : decode mX6_use.2.2.1 118 = .ok (.getfield 68, 3) := by decide +kernel
theorem d_X6_use_121 : decode mX6_use.2.2.1 121 = .ok (.iconst 1, 1) := by decide +kernel
theorem d_X6_use_122 : decode mX6_use.2.2.1 122 = .ok (.iadd, 1) := by decide +kernel
theorem d_X6_use_123 : decode mX6_use.2.2.1 123 = .ok (.iastore, 1) := by decide +kernel
theorem d_X6_use_124 : decode mX6_use.2.2.1 124 = .ok (.return_, 1) := by decide +kernel
theorem d_X6_use_100 : decode mX6_use.2.2.1 100 = .ok (.aload_n 0, 1) := by decide +kernel
theorem d_X6_use_101 : decode mX6_use.2.2.1 101 = .ok (.getfield 68, 3) := by decide +kernel
theorem d_X6_use_104 : decode mX6_use.2.2.1 104 = .ok (.aload_n 0, 1) := by decide +kernel
theorem d_X6_use_105 : decode mX6_use.2.2.1 105 = .ok (.getfield 46, 3) := by decide +kernel
theorem d_X6_use_108 : decode mX6_use.2.2.1 108 = .ok (.getfield 208, 3) := by decide +kernel
theorem d_X6_use_111 : decode mX6_use.2.2.1 111 = .ok (.iload_n 2, 1) := by decide +kernel
theorem d_X6_use_112 : decode mX6_use.2.2.1 112 = .ok (.iaload, 1) := by decide +kernel
theorem d_X6_use_113 : decode mX6_use.2.2.1 113 = .ok (.iadd, 1) := by decide +kernel
theorem d_X6_use_114 : decode mX6_use.2.2.1 114 = .ok (.goto 9, 3) := by decide +kernel
theorem ok_X6_use : e_m mX6_use 3 := ⟨tblG_in (inT5 (List.mem_of_getElem? (i := 83) rfl)) rfl, plainFor_of_name (by decide), rfl, ini_6, by decide +kernel, by decide⟩
theorem d_X6_step_114 : decode mX6_step.2.2.1 114 = .ok (.goto 87, 3) := by decide +kernel
theorem d_X6_step_80 : decode mX6_step.2.2.1 80 = .ok (.aload_n 0, 1) := by decide +kernel
theorem d_X6_step_81 : decode mX6_step.2.2.1 81 = .ok (.getfield 15, 3) := by decide +kernel
theorem d_X6_step_84 : decode mX6_step.2.2.1 84 = .ok (.iload_n 3, 1) := by decide +kernel
theorem d_X6_step_85 : decode mX6_step.2.2.1 85 = .ok (.aload_n 0, 1) := by decide +kernel
theorem d_X6_step_86 : decode mX6_step.2.2.1 86 = .ok (.iload_n 1, 1) := by decide +kernel
theorem d_X6_step_87 : decode mX6_step.2.2.1 87 = .ok (.invokevirtual 155, 3) := by decide +kernel
theorem d_X6_step_90 : decode mX6_step.2.2.1 90 = .ok (.iastore, 1) := by decide +kernel
theorem d_X6_step_91 : decode mX6_step.2.2.1 91 = .ok (.goto 110, 3) := by decide +kernel
theorem d_X6_step_10 : decode mX6_step.2.2.1 10 = .ok (.iload_n 1, 1) := by decide +kernel
theorem d_X6_step_11 : decode mX6_step.2.2.1 11 = .ok (.ireturn, 1) := by decide +kernel
theorem ok_X6_step : e_m mX6_step 1 := ⟨tblG_in (inT5 (List.mem_of_getElem? (i := 37) rfl)) rfl, plainFor_of_name (by decide), rfl, ini_6, by decide +kernel, by decide⟩
theorem d_X6_go_62 : decode mX6_go.2.2.1 62 = .ok (.istore 7, 2) := by decide +kernel
theorem d_X6_go_64 : decode mX6_go.2.2.1 64 = .ok (.aload_n 0, 1) := by decide +kernel
theorem d_X6_go_65 : decode mX6_go.2.2.1 65 = .ok (.getfield 38, 3) := by decide +kernel
