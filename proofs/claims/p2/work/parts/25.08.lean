theorem sel_X6_pass : Cond.instanceMethod mX6_pass.2.1 ∈ tblG ∧ Cond.selects mX6_pass.2.1.cls mX6_pass.2.1 mX6_pass.2.1 ∈ tblG := ⟨tblG_in (inT5 (List.mem_of_getElem? (i := 40) rfl)) rfl, tblG_in (inP3 (q := (mX6_pass.2.1, 18)) (List.mem_of_getElem? (i := 13) rfl)) rfl⟩
theorem s_6_145 : e_siteV 6 145 mX6_pass 6 := ⟨tblG_in (inT5 (List.mem_of_getElem? (i := 38) rfl)) rfl, sel_X6_pass.1, sel_X6_pass.2, rfl⟩
theorem d_X6_pass_0 : decode mX6_pass.2.2.1 0 = .ok (.iload_n 1, 1) := by decide +kernel
theorem d_X6_pass_1 : decode mX6_pass.2.2.1 1 = .ok (.sipush 2000, 3) := by decide +kernel
theorem d_X6_pass_4 : decode mX6_pass.2.2.1 4 = .ok (.aload_n 0, 1) := by decide +kernel
theorem d_X6_pass_5 : decode mX6_pass.2.2.1 5 = .ok (.getfield 68, 3) := by decide +kernel
theorem d_X6_pass_8 : decode mX6_pass.2.2.1 8 = .ok (.isub, 1) := by decide +kernel
theorem d_X6_pass_9 : decode mX6_pass.2.2.1 9 = .ok (.invokestatic 158, 3) := by decide +kernel
theorem mw_mmin : Cond.static Lib.Math.min.name ∈ tblG ∧ Cond.initialized "java/lang/Math" ∈ tblG ∧ Cond.code Lib.Math.min.name Lib.Math.min.code 2 (some .int) ∈ tblG := ⟨tblG_in (inT3 (List.mem_of_getElem? (i := 213) rfl)) rfl, tblG_in (inT1 (List.mem_of_getElem? (i := 19) rfl)) rfl, tblG_in (inT3 (List.mem_of_getElem? (i := 214) rfl)) rfl⟩
theorem ml_6_158 : Cond.methodLink (e_cn 6) 158 Lib.Math.min.name ∈ tblG := tblG_in (inT5 (List.mem_of_getElem? (i := 42) rfl)) rfl
theorem d_X6_pass_12 : decode mX6_pass.2.2.1 12 = .ok (.istore 4, 2) := by decide +kernel
theorem d_X6_pass_14 : decode mX6_pass.2.2.1 14 = .ok (.aload_n 0, 1) := by decide +kernel
theorem d_X6_pass_15 : decode mX6_pass.2.2.1 15 = .ok (.getfield 106, 3) := by decide +kernel
theorem d_X6_pass_18 : decode mX6_pass.2.2.1 18 = .ok (.ifCond .eq 14, 3) := by decide +kernel
theorem d_X6_pass_32 : decode mX6_pass.2.2.1 32 = .ok (.iload 4, 2) := by decide +kernel
theorem d_X6_pass_21 : decode mX6_pass.2.2.1 21 = .ok (.aload_n 0, 1) := by decide +kernel
theorem d_X6_pass_22 : decode mX6_pass.2.2.1 22 = .ok (.iload 4, 2) := by decide +kernel
theorem d_X6_pass_24 : decode mX6_pass.2.2.1 24 = .ok (.iload_n 2, 1) := by decide +kernel
theorem d_X6_pass_25 : decode mX6_pass.2.2.1 25 = .ok (.iload_n 3, 1) := by decide +kernel
theorem d_X6_pass_26 : decode mX6_pass.2.2.1 26 = .ok (.invokevirtual 183, 3) := by decide +kernel
def mX6_afforded : MD := (6, yX6_afforded, cX6_afforded, 6, some .int)
theorem sel_X6_afforded : Cond.instanceMethod mX6_afforded.2.1 ∈ tblG ∧ Cond.selects mX6_afforded.2.1.cls mX6_afforded.2.1 mX6_afforded.2.1 ∈ tblG := ⟨tblG_in (inT5 (List.mem_of_getElem? (i := 45) rfl)) rfl, tblG_in (inP3 (q := (mX6_afforded.2.1, 18)) (List.mem_of_getElem? (i := 14) rfl)) rfl⟩
theorem s_6_183 : e_siteV 6 183 mX6_afforded 6 := ⟨tblG_in (inT5 (List.mem_of_getElem? (i := 43) rfl)) rfl, sel_X6_afforded.1, sel_X6_afforded.2, rfl⟩
theorem d_X6_afforded_0 : decode mX6_afforded.2.2.1 0 = .ok (.iconst 0, 1) := by decide +kernel
theorem d_X6_afforded_1 : decode mX6_afforded.2.2.1 1 = .ok (.istore 4, 2) := by decide +kernel
theorem d_X6_afforded_3 : decode mX6_afforded.2.2.1 3 = .ok (.iload 4, 2) := by decide +kernel
theorem d_X6_afforded_5 : decode mX6_afforded.2.2.1 5 = .ok (.iload_n 1, 1) := by decide +kernel
theorem d_X6_afforded_6 : decode mX6_afforded.2.2.1 6 = .ok (.if_icmp .ge 47, 3) := by decide +kernel
theorem d_X6_afforded_53 : decode mX6_afforded.2.2.1 53 = .ok (.iload_n 1, 1) := by decide +kernel
theorem d_X6_afforded_54 : decode mX6_afforded.2.2.1 54 = .ok (.ireturn, 1) := by decide +kernel
theorem d_X6_afforded_9 : decode mX6_afforded.2.2.1 9 = .ok (.aload_n 0, 1) := by decide +kernel
theorem d_X6_afforded_10 : decode mX6_afforded.2.2.1 10 = .ok (.aload_n 0, 1) := by decide +kernel
theorem d_X6_afforded_11 : decode mX6_afforded.2.2.1 11 = .ok (.getfield 68, 3) := by decide +kernel
theorem d_X6_afforded_14 : decode mX6_afforded.2.2.1 14 = .ok (.iload 4, 2) := by decide +kernel
theorem d_X6_afforded_16 : decode mX6_afforded.2.2.1 16 = .ok (.iadd, 1) := by decide +kernel
theorem d_X6_afforded_17 : decode mX6_afforded.2.2.1 17 = .ok (.iload_n 2, 1) := by decide +kernel
theorem d_X6_afforded_18 : decode mX6_afforded.2.2.1 18 = .ok (.iload_n 3, 1) := by decide +kernel
theorem d_X6_afforded_19 : decode mX6_afforded.2.2.1 19 = .ok (.invokevirtual 186, 3) := by decide +kernel
def mX6_sipsAt : MD := (6, yX6_sipsAt, cX6_sipsAt, 7, some .int)
theorem sel_X6_sipsAt : Cond.instanceMethod mX6_sipsAt.2.1 ∈ tblG ∧ Cond.selects mX6_sipsAt.2.1.cls mX6_sipsAt.2.1 mX6_sipsAt.2.1 ∈ tblG := ⟨tblG_in (inT5 (List.mem_of_getElem? (i := 49) rfl)) rfl, tblG_in (inP3 (q := (mX6_sipsAt.2.1, 18)) (List.mem_of_getElem? (i := 15) rfl)) rfl⟩
theorem s_6_186 : e_siteV 6 186 mX6_sipsAt 6 := ⟨tblG_in (inT5 (List.mem_of_getElem? (i := 47) rfl)) rfl, sel_X6_sipsAt.1, sel_X6_sipsAt.2, rfl⟩
theorem d_X6_sipsAt_0 : decode mX6_sipsAt.2.2.1 0 = .ok (.aload_n 0, 1) := by decide +kernel
theorem d_X6_sipsAt_1 : decode mX6_sipsAt.2.2.1 1 = .ok (.getfield 46, 3) := by decide +kernel
theorem d_X6_sipsAt_4 : decode mX6_sipsAt.2.2.1 4 = .ok (.getfield 135, 3) := by decide +kernel
theorem f_6_135 : e_fld 6 135 3 0 12 0 false := ⟨RX3, TX3, 0, rfl, rfl, by decide, rfl, rfl, rfl, iX3, tblG_in (inT1 (List.mem_of_getElem? (i := 161) rfl)) rfl, tyX3_ok, nmX3⟩
theorem d_X6_sipsAt_7 : decode mX6_sipsAt.2.2.1 7 = .ok (.istore 4, 2) := by decide +kernel
theorem d_X6_sipsAt_9 : decode mX6_sipsAt.2.2.1 9 = .ok (.iconst 0, 1) := by decide +kernel
theorem d_X6_sipsAt_10 : decode mX6_sipsAt.2.2.1 10 = .ok (.istore 5, 2) := by decide +kernel
theorem d_X6_sipsAt_12 : decode mX6_sipsAt.2.2.1 12 = .ok (.iload 5, 2) := by decide +kernel
theorem d_X6_sipsAt_14 : decode mX6_sipsAt.2.2.1 14 = .ok (.aload_n 0, 1) := by decide +kernel
theorem d_X6_sipsAt_15 : decode mX6_sipsAt.2.2.1 15 = .ok (.getfield 46, 3) := by decide +kernel
theorem d_X6_sipsAt_18 : decode mX6_sipsAt.2.2.1 18 = .ok (.getfield 116, 3) := by decide +kernel
theorem f_6_116 : e_fld 6 116 3 4 12 2 true := ⟨RX3, TX3, 4, rfl, rfl, by decide, rfl, rfl, rfl, iX3, tblG_in (inT1 (List.mem_of_getElem? (i := 174) rfl)) rfl, tyX3_ok, nmX3⟩
theorem d_X6_sipsAt_21 : decode mX6_sipsAt.2.2.1 21 = .ok (.iconst 0, 1) := by decide +kernel
theorem d_X6_sipsAt_22 : decode mX6_sipsAt.2.2.1 22 = .ok (.iaload, 1) := by decide +kernel
theorem d_X6_sipsAt_23 : decode mX6_sipsAt.2.2.1 23 = .ok (.if_icmp .ge 68, 3) := by decide +kernel
theorem d_X6_sipsAt_91 : decode mX6_sipsAt.2.2.1 91 = .ok (.iload 4, 2) := by decide +kernel
theorem d_X6_sipsAt_93 : decode mX6_sipsAt.2.2.1 93 = .ok (.ireturn, 1) := by decide +kernel
theorem d_X6_sipsAt_26 : decode mX6_sipsAt.2.2.1 26 = .ok (.aload_n 0, 1) := by decide +kernel
theorem d_X6_sipsAt_27 : decode mX6_sipsAt.2.2.1 27 = .ok (.getfield 24, 3) := by decide +kernel
theorem d_X6_sipsAt_30 : decode mX6_sipsAt.2.2.1 30 = .ok (.iload 5, 2) := by decide +kernel
theorem d_X6_sipsAt_32 : decode mX6_sipsAt.2.2.1 32 = .ok (.iaload, 1) := by decide +kernel
theorem d_X6_sipsAt_33 : decode mX6_sipsAt.2.2.1 33 = .ok (.iconst 1, 1) := by decide +kernel
theorem d_X6_sipsAt_34 : decode mX6_sipsAt.2.2.1 34 = .ok (.if_icmp .eq 14, 3) := by decide +kernel
theorem d_X6_sipsAt_37 : decode mX6_sipsAt.2.2.1 37 = .ok (.iload_n 1, 1) := by decide +kernel
theorem d_X6_sipsAt_38 : decode mX6_sipsAt.2.2.1 38 = .ok (.aload_n 0, 1) := by decide +kernel
theorem d_X6_sipsAt_39 : decode mX6_sipsAt.2.2.1 39 = .ok (.getfield 27, 3) := by decide +kernel
theorem d_X6_sipsAt_42 : decode mX6_sipsAt.2.2.1 42 = .ok (.iload 5, 2) := by decide +kernel
theorem d_X6_sipsAt_44 : decode mX6_sipsAt.2.2.1 44 = .ok (.iaload, 1) := by decide +kernel
theorem d_X6_sipsAt_45 : decode mX6_sipsAt.2.2.1 45 = .ok (.if_icmp .ge 7, 3) := by decide +kernel
theorem d_X6_sipsAt_52 : decode mX6_sipsAt.2.2.1 52 = .ok (.iconst 0, 1) := by decide +kernel
theorem d_X6_sipsAt_48 : decode mX6_sipsAt.2.2.1 48 = .ok (.iconst 2, 1) := by decide +kernel
theorem d_X6_sipsAt_49 : decode mX6_sipsAt.2.2.1 49 = .ok (.goto 4, 3) := by decide +kernel
theorem d_X6_sipsAt_53 : decode mX6_sipsAt.2.2.1 53 = .ok (.istore 6, 2) := by decide +kernel
theorem d_X6_sipsAt_55 : decode mX6_sipsAt.2.2.1 55 = .ok (.iload 4, 2) := by decide +kernel
theorem d_X6_sipsAt_57 : decode mX6_sipsAt.2.2.1 57 = .ok (.aload_n 0, 1) := by decide +kernel
theorem d_X6_sipsAt_58 : decode mX6_sipsAt.2.2.1 58 = .ok (.getfield 46, 3) := by decide +kernel
theorem d_X6_sipsAt_61 : decode mX6_sipsAt.2.2.1 61 = .ok (.getfield 189, 3) := by decide +kernel
theorem f_6_189 : e_fld 6 189 3 5 12 2 true := ⟨RX3, TX3, 5, rfl, rfl, by decide, rfl, rfl, rfl, iX3, tblG_in (inT1 (List.mem_of_getElem? (i := 182) rfl)) rfl, tyX3_ok, nmX3⟩
theorem d_X6_sipsAt_64 : decode mX6_sipsAt.2.2.1 64 = .ok (.iload 5, 2) := by decide +kernel
theorem d_X6_sipsAt_66 : decode mX6_sipsAt.2.2.1 66 = .ok (.iconst 4, 1) := by decide +kernel
theorem d_X6_sipsAt_67 : decode mX6_sipsAt.2.2.1 67 = .ok (.imul, 1) := by decide +kernel
theorem d_X6_sipsAt_68 : decode mX6_sipsAt.2.2.1 68 = .ok (.iload 5, 2) := by decide +kernel
theorem d_X6_sipsAt_70 : decode mX6_sipsAt.2.2.1 70 = .ok (.iload_n 2, 1) := by decide +kernel
theorem d_X6_sipsAt_71 : decode mX6_sipsAt.2.2.1 71 = .ok (.if_icmp .ne 7, 3) := by decide +kernel
theorem d_X6_sipsAt_78 : decode mX6_sipsAt.2.2.1 78 = .ok (.iload 6, 2) := by decide +kernel
theorem d_X6_sipsAt_80 : decode mX6_sipsAt.2.2.1 80 = .ok (.iadd, 1) := by decide +kernel
theorem d_X6_sipsAt_81 : decode mX6_sipsAt.2.2.1 81 = .ok (.iaload, 1) := by decide +kernel
theorem d_X6_sipsAt_82 : decode mX6_sipsAt.2.2.1 82 = .ok (.iadd, 1) := by decide +kernel
theorem d_X6_sipsAt_83 : decode mX6_sipsAt.2.2.1 83 = .ok (.istore 4, 2) := by decide +kernel
theorem d_X6_sipsAt_85 : decode mX6_sipsAt.2.2.1 85 = .ok (.iinc 5 1, 3) := by decide +kernel
theorem d_X6_sipsAt_88 : decode mX6_sipsAt.2.2.1 88 = .ok (.goto (-76), 3) := by decide +kernel
theorem ok_X6_sipsAt : e_m mX6_sipsAt 3 := ⟨tblG_in (inT5 (List.mem_of_getElem? (i := 50) rfl)) rfl, plainFor_of_name (by decide), rfl, ini_6, by decide +kernel, by decide⟩
theorem d_X6_afforded_22 : decode mX6_afforded.2.2.1 22 = .ok (.istore 5, 2) := by decide +kernel
theorem d_X6_afforded_24 : decode mX6_afforded.2.2.1 24 = .ok (.iload 5, 2) := by decide +kernel
theorem d_X6_afforded_26 : decode mX6_afforded.2.2.1 26 = .ok (.aload_n 0, 1) := by decide +kernel
theorem d_X6_afforded_27 : decode mX6_afforded.2.2.1 27 = .ok (.getfield 110, 3) := by decide +kernel
theorem d_X6_afforded_30 : decode mX6_afforded.2.2.1 30 = .ok (.if_icmp .le 6, 3) := by decide +kernel
theorem d_X6_afforded_36 : decode mX6_afforded.2.2.1 36 = .ok (.aload_n 0, 1) := by decide +kernel
theorem d_X6_afforded_37 : decode mX6_afforded.2.2.1 37 = .ok (.dup, 1) := by decide +kernel
theorem d_X6_afforded_38 : decode mX6_afforded.2.2.1 38 = .ok (.getfield 110, 3) := by decide +kernel
theorem d_X6_afforded_41 : decode mX6_afforded.2.2.1 41 = .ok (.iload 5, 2) := by decide +kernel
theorem d_X6_afforded_43 : decode mX6_afforded.2.2.1 43 = .ok (.isub, 1) := by decide +kernel
theorem d_X6_afforded_44 : decode mX6_afforded.2.2.1 44 = .ok (.putfield 110, 3) := by decide +kernel
theorem d_X6_afforded_47 : decode mX6_afforded.2.2.1 47 = .ok (.iinc 4 1, 3) := by decide +kernel
theorem d_X6_afforded_50 : decode mX6_afforded.2.2.1 50 = .ok (.goto (-47), 3) := by decide +kernel
theorem d_X6_afforded_33 : decode mX6_afforded.2.2.1 33 = .ok (.iload 4, 2) := by decide +kernel
theorem d_X6_afforded_35 : decode mX6_afforded.2.2.1 35 = .ok (.ireturn, 1) := by decide +kernel
theorem ok_X6_afforded : e_m mX6_afforded 3 := ⟨tblG_in (inT5 (List.mem_of_getElem? (i := 46) rfl)) rfl, plainFor_of_name (by decide), rfl, ini_6, by decide +kernel, by decide⟩
theorem d_X6_pass_29 : decode mX6_pass.2.2.1 29 = .ok (.goto 5, 3) := by decide +kernel
theorem d_X6_pass_34 : decode mX6_pass.2.2.1 34 = .ok (.istore 5, 2) := by decide +kernel
theorem d_X6_pass_36 : decode mX6_pass.2.2.1 36 = .ok (.aload_n 0, 1) := by decide +kernel
theorem d_X6_pass_37 : decode mX6_pass.2.2.1 37 = .ok (.dup, 1) := by decide +kernel
theorem d_X6_pass_38 : decode mX6_pass.2.2.1 38 = .ok (.getfield 68, 3) := by decide +kernel
theorem d_X6_pass_41 : decode mX6_pass.2.2.1 41 = .ok (.iload 5, 2) := by decide +kernel
theorem d_X6_pass_43 : decode mX6_pass.2.2.1 43 = .ok (.iadd, 1) := by decide +kernel
theorem d_X6_pass_44 : decode mX6_pass.2.2.1 44 = .ok (.putfield 68, 3) := by decide +kernel
theorem d_X6_pass_47 : decode mX6_pass.2.2.1 47 = .ok (.iload 5, 2) := by decide +kernel
theorem d_X6_pass_49 : decode mX6_pass.2.2.1 49 = .ok (.iload_n 1, 1) := by decide +kernel
theorem d_X6_pass_50 : decode mX6_pass.2.2.1 50 = .ok (.if_icmp .ge 19, 3) := by decide +kernel
theorem d_X6_pass_69 : decode mX6_pass.2.2.1 69 = .ok (.iload 5, 2) := by decide +kernel
theorem d_X6_pass_71 : decode mX6_pass.2.2.1 71 = .ok (.ireturn, 1) := by decide +kernel
theorem d_X6_pass_53 : decode mX6_pass.2.2.1 53 = .ok (.aload_n 0, 1) := by decide +kernel
theorem d_X6_pass_54 : decode mX6_pass.2.2.1 54 = .ok (.iload 5, 2) := by decide +kernel
theorem d_X6_pass_56 : decode mX6_pass.2.2.1 56 = .ok (.iload 4, 2) := by decide +kernel
theorem d_X6_pass_58 : decode mX6_pass.2.2.1 58 = .ok (.if_icmp .ne 7, 3) := by decide +kernel
theorem d_X6_pass_65 : decode mX6_pass.2.2.1 65 = .ok (.iconst 2, 1) := by decide +kernel
theorem d_X6_pass_66 : decode mX6_pass.2.2.1 66 = .ok (.putfield 62, 3) := by decide +kernel
theorem d_X6_pass_61 : decode mX6_pass.2.2.1 61 = .ok (.iconst 1, 1) := by decide +kernel
theorem d_X6_pass_62 : decode mX6_pass.2.2.1 62 = .ok (.goto 4, 3) := by decide +kernel
theorem ok_X6_pass : e_m mX6_pass 3 := ⟨tblG_in (inT5 (List.mem_of_getElem? (i := 41) rfl)) rfl, plainFor_of_name (by decide), rfl, ini_6, by decide +kernel, by decide⟩
theorem d_X6_step_7 : decode mX6_step.2.2.1 7 = .ok (.ifCond .ne 5, 3) := by decide +kernel
theorem d_X6_step_12 : decode mX6_step.2.2.1 12 = .ok (.aload_n 0, 1) := by decide +kernel
theorem d_X6_step_13 : decode mX6_step.2.2.1 13 = .ok (.dup, 1) := by decide +kernel
theorem d_X6_step_14 : decode mX6_step.2.2.1 14 = .ok (.getfield 97, 3) := by decide +kernel
theorem d_X6_step_17 : decode mX6_step.2.2.1 17 = .ok (.iconst 1, 1) := by decide +kernel
theorem d_X6_step_18 : decode mX6_step.2.2.1 18 = .ok (.iadd, 1) := by decide +kernel
theorem d_X6_step_19 : decode mX6_step.2.2.1 19 = .ok (.putfield 97, 3) := by decide +kernel
theorem d_X6_step_22 : decode mX6_step.2.2.1 22 = .ok (.aload_n 0, 1) := by decide +kernel
theorem d_X6_step_23 : decode mX6_step.2.2.1 23 = .ok (.getfield 46, 3) := by decide +kernel
theorem d_X6_step_26 : decode mX6_step.2.2.1 26 = .ok (.getfield 50, 3) := by decide +kernel
theorem d_X6_step_29 : decode mX6_step.2.2.1 29 = .ok (.astore_n 2, 1) := by decide +kernel
theorem d_X6_step_30 : decode mX6_step.2.2.1 30 = .ok (.aload_n 2, 1) := by decide +kernel
theorem d_X6_step_31 : decode mX6_step.2.2.1 31 = .ok (.getfield 149, 3) := by decide +kernel
theorem f_6_149 : e_fld 6 149 4 2 13 2 true := ⟨RX4, TX4, 2, rfl, rfl, by decide, rfl, rfl, rfl, iX4, tblG_in (inT1 (List.mem_of_getElem? (i := 112) rfl)) rfl, tyX4_ok, nmX4⟩
theorem d_X6_step_34 : decode mX6_step.2.2.1 34 = .ok (.iload_n 1, 1) := by decide +kernel
theorem d_X6_step_35 : decode mX6_step.2.2.1 35 = .ok (.iaload, 1) := by decide +kernel
theorem d_X6_step_36 : decode mX6_step.2.2.1 36 = .ok (.istore_n 3, 1) := by decide +kernel
theorem d_X6_step_37 : decode mX6_step.2.2.1 37 = .ok (.aload_n 2, 1) := by decide +kernel
theorem d_X6_step_38 : decode mX6_step.2.2.1 38 = .ok (.getfield 152, 3) := by decide +kernel
theorem f_6_152 : e_fld 6 152 4 1 13 2 true := ⟨RX4, TX4, 1, rfl, rfl, by decide, rfl, rfl, rfl, iX4, tblG_in (inT1 (List.mem_of_getElem? (i := 109) rfl)) rfl, tyX4_ok, nmX4⟩
theorem d_X6_step_41 : decode mX6_step.2.2.1 41 = .ok (.iload_n 1, 1) := by decide +kernel
theorem d_X6_step_42 : decode mX6_step.2.2.1 42 = .ok (.iaload, 1) := by decide +kernel
theorem d_X6_step_43 : decode mX6_step.2.2.1 43 = .ok (.tableswitch 134 5 10 #[37, 51, 74, 83, 92, 116], 37) := by decide +kernel
theorem d_X6_step_177 : decode mX6_step.2.2.1 177 = .ok (.aload_n 0, 1) := by decide +kernel
theorem d_X6_step_178 : decode mX6_step.2.2.1 178 = .ok (.iload_n 1, 1) := by decide +kernel
theorem d_X6_step_179 : decode mX6_step.2.2.1 179 = .ok (.invokevirtual 155, 3) := by decide +kernel
def mX6_worked : MD := (6, yX6_worked, cX6_worked, 6, some .int)
theorem sel_X6_worked : Cond.instanceMethod mX6_worked.2.1 ∈ tblG ∧ Cond.selects mX6_worked.2.1.cls mX6_worked.2.1 mX6_worked.2.1 ∈ tblG := ⟨tblG_in (inT5 (List.mem_of_getElem? (i := 53) rfl)) rfl, tblG_in (inP4 (q := (mX6_worked.2.1, 18)) (List.mem_of_getElem? (i := 0) rfl)) rfl⟩
theorem s_6_155 : e_siteV 6 155 mX6_worked 6 := ⟨tblG_in (inT5 (List.mem_of_getElem? (i := 51) rfl)) rfl, sel_X6_worked.1, sel_X6_worked.2, rfl⟩
theorem d_X6_worked_0 : decode mX6_worked.2.2.1 0 = .ok (.aload_n 0, 1) := by decide +kernel
theorem d_X6_worked_1 : decode mX6_worked.2.2.1 1 = .ok (.getfield 46, 3) := by decide +kernel
theorem d_X6_worked_4 : decode mX6_worked.2.2.1 4 = .ok (.getfield 50, 3) := by decide +kernel
theorem d_X6_worked_7 : decode mX6_worked.2.2.1 7 = .ok (.astore_n 2, 1) := by decide +kernel
theorem d_X6_worked_8 : decode mX6_worked.2.2.1 8 = .ok (.iconst 0, 1) := by decide +kernel
theorem d_X6_worked_9 : decode mX6_worked.2.2.1 9 = .ok (.istore_n 3, 1) := by decide +kernel
theorem d_X6_worked_10 : decode mX6_worked.2.2.1 10 = .ok (.aload_n 2, 1) := by decide +kernel
theorem d_X6_worked_11 : decode mX6_worked.2.2.1 11 = .ok (.getfield 226, 3) := by decide +kernel
theorem f_6_226 : e_fld 6 226 4 3 13 2 true := ⟨RX4, TX4, 3, rfl, rfl, by decide, rfl, rfl, rfl, iX4, tblG_in (inT1 (List.mem_of_getElem? (i := 115) rfl)) rfl, tyX4_ok, nmX4⟩
theorem d_X6_worked_14 : decode mX6_worked.2.2.1 14 = .ok (.iload_n 1, 1) := by decide +kernel
theorem d_X6_worked_15 : decode mX6_worked.2.2.1 15 = .ok (.iaload, 1) := by decide +kernel
theorem d_X6_worked_16 : decode mX6_worked.2.2.1 16 = .ok (.istore 4, 2) := by decide +kernel
theorem d_X6_worked_18 : decode mX6_worked.2.2.1 18 = .ok (.iload 4, 2) := by decide +kernel
theorem d_X6_worked_20 : decode mX6_worked.2.2.1 20 = .ok (.aload_n 2, 1) := by decide +kernel
theorem d_X6_worked_21 : decode mX6_worked.2.2.1 21 = .ok (.getfield 226, 3) := by decide +kernel
theorem d_X6_worked_24 : decode mX6_worked.2.2.1 24 = .ok (.iload_n 1, 1) := by decide +kernel
theorem d_X6_worked_25 : decode mX6_worked.2.2.1 25 = .ok (.iconst 1, 1) := by decide +kernel
theorem d_X6_worked_26 : decode mX6_worked.2.2.1 26 = .ok (.iadd, 1) := by decide +kernel
theorem d_X6_worked_27 : decode mX6_worked.2.2.1 27 = .ok (.iaload, 1) := by decide +kernel
theorem d_X6_worked_28 : decode mX6_worked.2.2.1 28 = .ok (.if_icmp .ge 128, 3) := by decide +kernel
theorem d_X6_worked_156 : decode mX6_worked.2.2.1 156 = .ok (.iload_n 3, 1) := by decide +kernel
theorem d_X6_worked_157 : decode mX6_worked.2.2.1 157 = .ok (.iconst 1, 1) := by decide +kernel
theorem d_X6_worked_158 : decode mX6_worked.2.2.1 158 = .ok (.if_icmp .ne 12, 3) := by decide +kernel
theorem d_X6_worked_170 : decode mX6_worked.2.2.1 170 = .ok (.iconst 0, 1) := by decide +kernel
theorem d_X6_worked_171 : decode mX6_worked.2.2.1 171 = .ok (.ireturn, 1) := by decide +kernel
theorem d_X6_worked_31 : decode mX6_worked.2.2.1 31 = .ok (.aload_n 2, 1) := by decide +kernel
theorem d_X6_worked_32 : decode mX6_worked.2.2.1 32 = .ok (.getfield 229, 3) := by decide +kernel
theorem f_6_229 : e_fld 6 229 4 9 13 2 true := ⟨RX4, TX4, 9, rfl, rfl, by decide, rfl, rfl, rfl, iX4, tblG_in (inT1 (List.mem_of_getElem? (i := 127) rfl)) rfl, tyX4_ok, nmX4⟩
theorem d_X6_worked_35 : decode mX6_worked.2.2.1 35 = .ok (.iload 4, 2) := by decide +kernel
theorem d_X6_worked_37 : decode mX6_worked.2.2.1 37 = .ok (.iaload, 1) := by decide +kernel
theorem d_X6_worked_38 : decode mX6_worked.2.2.1 38 = .ok (.istore 5, 2) := by decide +kernel
theorem d_X6_worked_40 : decode mX6_worked.2.2.1 40 = .ok (.iload 5, 2) := by decide +kernel
theorem d_X6_worked_42 : decode mX6_worked.2.2.1 42 = .ok (.iconst 5, 1) := by decide +kernel
theorem d_X6_worked_43 : decode mX6_worked.2.2.1 43 = .ok (.if_icmp .ge 36, 3) := by decide +kernel
theorem d_X6_worked_79 : decode mX6_worked.2.2.1 79 = .ok (.iload 5, 2) := by decide +kernel
theorem d_X6_worked_81 : decode mX6_worked.2.2.1 81 = .ok (.iconst 5, 1) := by decide +kernel
theorem d_X6_worked_82 : decode mX6_worked.2.2.1 82 = .ok (.if_icmp .ne 31, 3) := by decide +kernel
theorem d_X6_worked_113 : decode mX6_worked.2.2.1 113 = .ok (.iload_n 3, 1) := by decide +kernel
theorem d_X6_worked_114 : decode mX6_worked.2.2.1 114 = .ok (.iconst 2, 1) := by decide +kernel
theorem d_X6_worked_115 : decode mX6_worked.2.2.1 115 = .ok (.if_icmp .ge 5, 3) := by decide +kernel
theorem d_X6_worked_118 : decode mX6_worked.2.2.1 118 = .ok (.iconst 0, 1) := by decide +kernel
theorem d_X6_worked_119 : decode mX6_worked.2.2.1 119 = .ok (.ireturn, 1) := by decide +kernel
theorem d_X6_worked_85 : decode mX6_worked.2.2.1 85 = .ok (.iload_n 3, 1) := by decide +kernel
theorem d_X6_worked_86 : decode mX6_worked.2.2.1 86 = .ok (.iconst 1, 1) := by decide +kernel
theorem d_X6_worked_87 : decode mX6_worked.2.2.1 87 = .ok (.if_icmp .ge 5, 3) := by decide +kernel
theorem d_X6_worked_90 : decode mX6_worked.2.2.1 90 = .ok (.iconst 0, 1) := by decide +kernel
theorem d_X6_worked_91 : decode mX6_worked.2.2.1 91 = .ok (.ireturn, 1) := by decide +kernel
theorem d_X6_worked_46 : decode mX6_worked.2.2.1 46 = .ok (.iload_n 3, 1) := by decide +kernel
theorem d_X6_worked_47 : decode mX6_worked.2.2.1 47 = .ok (.bipush 64, 2) := by decide +kernel
theorem d_X6_worked_49 : decode mX6_worked.2.2.1 49 = .ok (.if_icmp .lt 5, 3) := by decide +kernel
theorem d_X6_worked_54 : decode mX6_worked.2.2.1 54 = .ok (.aload_n 0, 1) := by decide +kernel
theorem d_X6_worked_55 : decode mX6_worked.2.2.1 55 = .ok (.getfield 18, 3) := by decide +kernel
theorem d_X6_worked_58 : decode mX6_worked.2.2.1 58 = .ok (.iload_n 3, 1) := by decide +kernel
theorem d_X6_worked_59 : decode mX6_worked.2.2.1 59 = .ok (.aload_n 0, 1) := by decide +kernel
theorem d_X6_worked_60 : decode mX6_worked.2.2.1 60 = .ok (.iload 5, 2) := by decide +kernel
theorem d_X6_worked_62 : decode mX6_worked.2.2.1 62 = .ok (.aload_n 2, 1) := by decide +kernel
theorem d_X6_worked_63 : decode mX6_worked.2.2.1 63 = .ok (.getfield 232, 3) := by decide +kernel
theorem f_6_232 : e_fld 6 232 4 10 13 2 true := ⟨RX4, TX4, 10, rfl, rfl, by decide, rfl, rfl, rfl, iX4, tblG_in (inT1 (List.mem_of_getElem? (i := 129) rfl)) rfl, tyX4_ok, nmX4⟩
theorem d_X6_worked_66 : decode mX6_worked.2.2.1 66 = .ok (.iload 4, 2) := by decide +kernel
theorem d_X6_worked_68 : decode mX6_worked.2.2.1 68 = .ok (.iaload, 1) := by decide +kernel
theorem d_X6_worked_69 : decode mX6_worked.2.2.1 69 = .ok (.invokevirtual 235, 3) := by decide +kernel
def mX6_single : MD := (6, yX6_single, cX6_single, 3, some .int)
theorem sel_X6_single : Cond.instanceMethod mX6_single.2.1 ∈ tblG ∧ Cond.selects mX6_single.2.1.cls mX6_single.2.1 mX6_single.2.1 ∈ tblG := ⟨tblG_in (inT5 (List.mem_of_getElem? (i := 57) rfl)) rfl, tblG_in (inP4 (q := (mX6_single.2.1, 18)) (List.mem_of_getElem? (i := 1) rfl)) rfl⟩
theorem s_6_235 : e_siteV 6 235 mX6_single 6 := ⟨tblG_in (inT5 (List.mem_of_getElem? (i := 55) rfl)) rfl, sel_X6_single.1, sel_X6_single.2, rfl⟩
theorem d_X6_single_0 : decode mX6_single.2.2.1 0 = .ok (.iload_n 1, 1) := by decide +kernel
theorem d_X6_single_1 : decode mX6_single.2.2.1 1 = .ok (.tableswitch 57 1 4 #[31, 38, 45, 50], 31) := by decide +kernel
theorem d_X6_single_58 : decode mX6_single.2.2.1 58 = .ok (.iload_n 2, 1) := by decide +kernel
theorem d_X6_single_59 : decode mX6_single.2.2.1 59 = .ok (.ireturn, 1) := by decide +kernel
theorem d_X6_single_51 : decode mX6_single.2.2.1 51 = .ok (.aload_n 0, 1) := by decide +kernel
theorem d_X6_single_52 : decode mX6_single.2.2.1 52 = .ok (.getfield 24, 3) := by decide +kernel
