theorem d_X6_use_78 : decode mX6_use.2.2.1 78 = .ok (.iload_n 1, 1) := by decide +kernel
theorem d_X6_use_79 : decode mX6_use.2.2.1 79 = .ok (.iload 5, 2) := by decide +kernel
theorem d_X6_use_81 : decode mX6_use.2.2.1 81 = .ok (.aload_n 0, 1) := by decide +kernel
theorem d_X6_use_82 : decode mX6_use.2.2.1 82 = .ok (.getfield 68, 3) := by decide +kernel
theorem d_X6_use_85 : decode mX6_use.2.2.1 85 = .ok (.invokevirtual 205, 3) := by decide +kernel
def mX1_workFor : MD := (1, yX1_workFor, cX1_workFor, 5, none)
theorem sel_X1_workFor : Cond.instanceMethod mX1_workFor.2.1 ∈ tblG ∧ Cond.selects mX1_workFor.2.1.cls mX1_workFor.2.1 mX1_workFor.2.1 ∈ tblG := ⟨tblG_in (inT5 (List.mem_of_getElem? (i := 117) rfl)) rfl, tblG_in (inT5 (List.mem_of_getElem? (i := 118) rfl)) rfl⟩
theorem s_6_205 : e_siteV 6 205 mX1_workFor 1 := ⟨tblG_in (inT5 (List.mem_of_getElem? (i := 116) rfl)) rfl, sel_X1_workFor.1, sel_X1_workFor.2, rfl⟩
theorem d_X1_workFor_0 : decode mX1_workFor.2.2.1 0 = .ok (.aload_n 0, 1) := by decide +kernel
theorem d_X1_workFor_1 : decode mX1_workFor.2.2.1 1 = .ok (.getfield 37, 3) := by decide +kernel
theorem d_X1_workFor_4 : decode mX1_workFor.2.2.1 4 = .ok (.ifCond .eq 16, 3) := by decide +kernel
theorem d_X1_workFor_20 : decode mX1_workFor.2.2.1 20 = .ok (.return_, 1) := by decide +kernel
theorem ok_X1_workFor : e_m mX1_workFor 4 := ⟨tblG_in (inT5 (List.mem_of_getElem? (i := 119) rfl)) rfl, plainFor_of_name (by decide), rfl, ini_1, by decide +kernel, by decide⟩
theorem d_X6_use_88 : decode mX6_use.2.2.1 88 = .ok (.aload_n 0, 1) := by decide +kernel
theorem d_X6_use_89 : decode mX6_use.2.2.1 89 = .ok (.getfield 27, 3) := by decide +kernel
theorem d_X6_use_92 : decode mX6_use.2.2.1 92 = .ok (.iload_n 2, 1) := by decide +kernel
theorem d_X6_use_93 : decode mX6_use.2.2.1 93 = .ok (.aload_n 0, 1) := by decide +kernel
theorem d_X6_use_94 : decode mX6_use.2.2.1 94 = .ok (.getfield 62, 3) := by decide +kernel
theorem d_X6_use_97 : decode mX6_use.2.2.1 97 = .ok (.ifCond .ne 20, 3) := by decide +kernel
theorem d_X6_use_117 : decode mX6_use.2.2.1 117 = .ok (.aload_n 0, 1) := by decide +kernel
theorem d_X6_use_118 : decode mX6_use.2.2.1 118 = .ok (.getfield 68, 3) := by decide +kernel
theorem d_X6_use_121 : decode mX6_use.2.2.1 121 = .ok (.iconst 1, 1) := by decide +kernel
theorem d_X6_use_122 : decode mX6_use.2.2.1 122 = .ok (.iadd, 1) := by decide +kernel
theorem d_X6_use_123 : decode mX6_use.2.2.1 123 = .ok (.iastore, 1) := by decide +kernel
theorem d_X6_use_124 : decode mX6_use.2.2.1 124 = .ok (.return_, 1) := by decide +kernel
theorem d_X6_use_100 : decode mX6_use.2.2.1 100 = .ok (.aload_n 0, 1) := by decide +kernel
theorem d_X6_use_101 : decode mX6_use.2.2.1 101 = .ok (.getfield 68, 3) := by decide +kernel
theorem d_X6_use_104 : decode mX6_use.2.2.1 104 = .ok (.aload_n 0, 1) := by decide +kernel
theorem d_X6_use_105 : decode mX6_use.2.2.1 105 = .ok (.getfield 46, 3) := by decide +kernel
theorem d_X6_use_108 : decode mX6_use.2.2.1 108 = .ok (.getfield 208, 3) := by decide +kernel
theorem d_X6_use_111 : decode mX6_use.2.2.1 111 = .ok (.iload_n 2, 1) := by decide +kernel
theorem d_X6_use_112 : decode mX6_use.2.2.1 112 = .ok (.iaload, 1) := by decide +kernel
theorem d_X6_use_113 : decode mX6_use.2.2.1 113 = .ok (.iadd, 1) := by decide +kernel
theorem d_X6_use_114 : decode mX6_use.2.2.1 114 = .ok (.goto 9, 3) := by decide +kernel
theorem ok_X6_use : e_m mX6_use 3 := ⟨tblG_in (inT5 (List.mem_of_getElem? (i := 83) rfl)) rfl, plainFor_of_name (by decide), rfl, ini_6, by decide +kernel, by decide⟩
theorem d_X6_step_114 : decode mX6_step.2.2.1 114 = .ok (.goto 87, 3) := by decide +kernel
theorem d_X6_step_80 : decode mX6_step.2.2.1 80 = .ok (.aload_n 0, 1) := by decide +kernel
theorem d_X6_step_81 : decode mX6_step.2.2.1 81 = .ok (.getfield 15, 3) := by decide +kernel
theorem d_X6_step_84 : decode mX6_step.2.2.1 84 = .ok (.iload_n 3, 1) := by decide +kernel
theorem d_X6_step_85 : decode mX6_step.2.2.1 85 = .ok (.aload_n 0, 1) := by decide +kernel
theorem d_X6_step_86 : decode mX6_step.2.2.1 86 = .ok (.iload_n 1, 1) := by decide +kernel
theorem d_X6_step_87 : decode mX6_step.2.2.1 87 = .ok (.invokevirtual 155, 3) := by decide +kernel
theorem d_X6_step_90 : decode mX6_step.2.2.1 90 = .ok (.iastore, 1) := by decide +kernel
theorem d_X6_step_91 : decode mX6_step.2.2.1 91 = .ok (.goto 110, 3) := by decide +kernel
theorem d_X6_step_10 : decode mX6_step.2.2.1 10 = .ok (.iload_n 1, 1) := by decide +kernel
theorem d_X6_step_11 : decode mX6_step.2.2.1 11 = .ok (.ireturn, 1) := by decide +kernel
theorem ok_X6_step : e_m mX6_step 1 := ⟨tblG_in (inT5 (List.mem_of_getElem? (i := 37) rfl)) rfl, plainFor_of_name (by decide), rfl, ini_6, by decide +kernel, by decide⟩
theorem d_X6_go_62 : decode mX6_go.2.2.1 62 = .ok (.istore 7, 2) := by decide +kernel
theorem d_X6_go_64 : decode mX6_go.2.2.1 64 = .ok (.aload_n 0, 1) := by decide +kernel
theorem d_X6_go_65 : decode mX6_go.2.2.1 65 = .ok (.getfield 38, 3) := by decide +kernel
theorem d_X6_go_68 : decode mX6_go.2.2.1 68 = .ok (.iload 4, 2) := by decide +kernel
theorem d_X6_go_70 : decode mX6_go.2.2.1 70 = .ok (.aload_n 0, 1) := by decide +kernel
theorem d_X6_go_71 : decode mX6_go.2.2.1 71 = .ok (.getfield 68, 3) := by decide +kernel
theorem d_X6_go_74 : decode mX6_go.2.2.1 74 = .ok (.iload 6, 2) := by decide +kernel
theorem d_X6_go_76 : decode mX6_go.2.2.1 76 = .ok (.isub, 1) := by decide +kernel
theorem d_X6_go_77 : decode mX6_go.2.2.1 77 = .ok (.invokevirtual 75, 3) := by decide +kernel
def mX1_payHeart : MD := (1, yX1_payHeart, cX1_payHeart, 3, none)
theorem sel_X1_payHeart : Cond.instanceMethod mX1_payHeart.2.1 ∈ tblG ∧ Cond.selects mX1_payHeart.2.1.cls mX1_payHeart.2.1 mX1_payHeart.2.1 ∈ tblG := ⟨tblG_in (inT5 (List.mem_of_getElem? (i := 149) rfl)) rfl, tblG_in (inT5 (List.mem_of_getElem? (i := 150) rfl)) rfl⟩
theorem s_6_75 : e_siteV 6 75 mX1_payHeart 1 := ⟨tblG_in (inT5 (List.mem_of_getElem? (i := 148) rfl)) rfl, sel_X1_payHeart.1, sel_X1_payHeart.2, rfl⟩
theorem d_X1_payHeart_0 : decode mX1_payHeart.2.2.1 0 = .ok (.aload_n 0, 1) := by decide +kernel
theorem d_X1_payHeart_1 : decode mX1_payHeart.2.2.1 1 = .ok (.getfield 37, 3) := by decide +kernel
theorem d_X1_payHeart_4 : decode mX1_payHeart.2.2.1 4 = .ok (.ifCond .eq 21, 3) := by decide +kernel
theorem d_X1_payHeart_25 : decode mX1_payHeart.2.2.1 25 = .ok (.return_, 1) := by decide +kernel
theorem ok_X1_payHeart : e_m mX1_payHeart 2 := ⟨tblG_in (inT5 (List.mem_of_getElem? (i := 151) rfl)) rfl, plainFor_of_name (by decide), rfl, ini_1, by decide +kernel, by decide⟩
theorem d_X6_go_80 : decode mX6_go.2.2.1 80 = .ok (.aload_n 0, 1) := by decide +kernel
theorem d_X6_go_81 : decode mX6_go.2.2.1 81 = .ok (.getfield 62, 3) := by decide +kernel
theorem d_X6_go_84 : decode mX6_go.2.2.1 84 = .ok (.ifCond .eq 9, 3) := by decide +kernel
theorem d_X6_go_87 : decode mX6_go.2.2.1 87 = .ok (.aload_n 0, 1) := by decide +kernel
theorem d_X6_go_88 : decode mX6_go.2.2.1 88 = .ok (.iload 4, 2) := by decide +kernel
theorem d_X6_go_90 : decode mX6_go.2.2.1 90 = .ok (.putfield 79, 3) := by decide +kernel
theorem d_X6_go_103 : decode mX6_go.2.2.1 103 = .ok (.aload_n 0, 1) := by decide +kernel
theorem d_X6_go_104 : decode mX6_go.2.2.1 104 = .ok (.invokevirtual 82, 3) := by decide +kernel
def mX6_finish : MD := (6, yX6_finish, cX6_finish, 4, none)
theorem sel_X6_finish : Cond.instanceMethod mX6_finish.2.1 ∈ tblG ∧ Cond.selects mX6_finish.2.1.cls mX6_finish.2.1 mX6_finish.2.1 ∈ tblG := ⟨tblG_in (inT5 (List.mem_of_getElem? (i := 154) rfl)) rfl, tblG_in (inP4 (q := (mX6_finish.2.1, 18)) (List.mem_of_getElem? (i := 9) rfl)) rfl⟩
theorem s_6_82 : e_siteV 6 82 mX6_finish 6 := ⟨tblG_in (inT5 (List.mem_of_getElem? (i := 152) rfl)) rfl, sel_X6_finish.1, sel_X6_finish.2, rfl⟩
theorem d_X6_finish_0 : decode mX6_finish.2.2.1 0 = .ok (.aload_n 0, 1) := by decide +kernel
theorem d_X6_finish_1 : decode mX6_finish.2.2.1 1 = .ok (.getfield 68, 3) := by decide +kernel
theorem d_X6_finish_4 : decode mX6_finish.2.2.1 4 = .ok (.istore_n 1, 1) := by decide +kernel
theorem d_X6_finish_5 : decode mX6_finish.2.2.1 5 = .ok (.aload_n 0, 1) := by decide +kernel
theorem d_X6_finish_6 : decode mX6_finish.2.2.1 6 = .ok (.getfield 46, 3) := by decide +kernel
theorem d_X6_finish_9 : decode mX6_finish.2.2.1 9 = .ok (.getfield 116, 3) := by decide +kernel
theorem d_X6_finish_12 : decode mX6_finish.2.2.1 12 = .ok (.iconst 0, 1) := by decide +kernel
theorem d_X6_finish_13 : decode mX6_finish.2.2.1 13 = .ok (.iaload, 1) := by decide +kernel
theorem d_X6_finish_14 : decode mX6_finish.2.2.1 14 = .ok (.istore_n 2, 1) := by decide +kernel
theorem d_X6_finish_15 : decode mX6_finish.2.2.1 15 = .ok (.iconst 0, 1) := by decide +kernel
theorem d_X6_finish_16 : decode mX6_finish.2.2.1 16 = .ok (.istore_n 3, 1) := by decide +kernel
theorem d_X6_finish_17 : decode mX6_finish.2.2.1 17 = .ok (.iload_n 3, 1) := by decide +kernel
theorem d_X6_finish_18 : decode mX6_finish.2.2.1 18 = .ok (.iload_n 2, 1) := by decide +kernel
theorem d_X6_finish_19 : decode mX6_finish.2.2.1 19 = .ok (.if_icmp .ge 42, 3) := by decide +kernel
theorem d_X6_finish_22 : decode mX6_finish.2.2.1 22 = .ok (.aload_n 0, 1) := by decide +kernel
theorem d_X6_finish_23 : decode mX6_finish.2.2.1 23 = .ok (.getfield 62, 3) := by decide +kernel
theorem d_X6_finish_26 : decode mX6_finish.2.2.1 26 = .ok (.ifCond .ne 35, 3) := by decide +kernel
theorem d_X6_finish_29 : decode mX6_finish.2.2.1 29 = .ok (.aload_n 0, 1) := by decide +kernel
theorem d_X6_finish_30 : decode mX6_finish.2.2.1 30 = .ok (.getfield 24, 3) := by decide +kernel
theorem d_X6_finish_33 : decode mX6_finish.2.2.1 33 = .ok (.iload_n 3, 1) := by decide +kernel
theorem d_X6_finish_34 : decode mX6_finish.2.2.1 34 = .ok (.iaload, 1) := by decide +kernel
theorem d_X6_finish_35 : decode mX6_finish.2.2.1 35 = .ok (.ifCond .ne 20, 3) := by decide +kernel
theorem d_X6_finish_38 : decode mX6_finish.2.2.1 38 = .ok (.aload_n 0, 1) := by decide +kernel
theorem d_X6_finish_39 : decode mX6_finish.2.2.1 39 = .ok (.aload_n 0, 1) := by decide +kernel
theorem d_X6_finish_40 : decode mX6_finish.2.2.1 40 = .ok (.getfield 68, 3) := by decide +kernel
theorem d_X6_finish_43 : decode mX6_finish.2.2.1 43 = .ok (.aload_n 0, 1) := by decide +kernel
theorem d_X6_finish_44 : decode mX6_finish.2.2.1 44 = .ok (.getfield 27, 3) := by decide +kernel
theorem d_X6_finish_47 : decode mX6_finish.2.2.1 47 = .ok (.iload_n 3, 1) := by decide +kernel
theorem d_X6_finish_48 : decode mX6_finish.2.2.1 48 = .ok (.iaload, 1) := by decide +kernel
theorem d_X6_finish_49 : decode mX6_finish.2.2.1 49 = .ok (.invokestatic 119, 3) := by decide +kernel
theorem d_X6_finish_52 : decode mX6_finish.2.2.1 52 = .ok (.putfield 68, 3) := by decide +kernel
theorem d_X6_finish_61 : decode mX6_finish.2.2.1 61 = .ok (.iconst 0, 1) := by decide +kernel
theorem d_X6_finish_62 : decode mX6_finish.2.2.1 62 = .ok (.istore_n 3, 1) := by decide +kernel
theorem d_X6_finish_63 : decode mX6_finish.2.2.1 63 = .ok (.iload_n 3, 1) := by decide +kernel
theorem d_X6_finish_64 : decode mX6_finish.2.2.1 64 = .ok (.iload_n 2, 1) := by decide +kernel
theorem d_X6_finish_65 : decode mX6_finish.2.2.1 65 = .ok (.if_icmp .ge 64, 3) := by decide +kernel
theorem d_X6_finish_129 : decode mX6_finish.2.2.1 129 = .ok (.aload_n 0, 1) := by decide +kernel
theorem d_X6_finish_130 : decode mX6_finish.2.2.1 130 = .ok (.iload_n 1, 1) := by decide +kernel
theorem d_X6_finish_131 : decode mX6_finish.2.2.1 131 = .ok (.aload_n 0, 1) := by decide +kernel
theorem d_X6_finish_132 : decode mX6_finish.2.2.1 132 = .ok (.getfield 46, 3) := by decide +kernel
theorem d_X6_finish_135 : decode mX6_finish.2.2.1 135 = .ok (.getfield 135, 3) := by decide +kernel
theorem d_X6_finish_138 : decode mX6_finish.2.2.1 138 = .ok (.imul, 1) := by decide +kernel
theorem d_X6_finish_139 : decode mX6_finish.2.2.1 139 = .ok (.aload_n 0, 1) := by decide +kernel
theorem d_X6_finish_140 : decode mX6_finish.2.2.1 140 = .ok (.getfield 38, 3) := by decide +kernel
theorem d_X6_finish_143 : decode mX6_finish.2.2.1 143 = .ok (.invokevirtual 138, 3) := by decide +kernel
def mX1_sippedByParts : MD := (1, yX1_sippedByParts, cX1_sippedByParts, 3, some .int)
theorem sel_X1_sippedByParts : Cond.instanceMethod mX1_sippedByParts.2.1 ∈ tblG ∧ Cond.selects mX1_sippedByParts.2.1.cls mX1_sippedByParts.2.1 mX1_sippedByParts.2.1 ∈ tblG := ⟨tblG_in (inT5 (List.mem_of_getElem? (i := 158) rfl)) rfl, tblG_in (inT5 (List.mem_of_getElem? (i := 159) rfl)) rfl⟩
theorem s_6_138 : e_siteV 6 138 mX1_sippedByParts 1 := ⟨tblG_in (inT5 (List.mem_of_getElem? (i := 157) rfl)) rfl, sel_X1_sippedByParts.1, sel_X1_sippedByParts.2, rfl⟩
theorem d_X1_sippedByParts_0 : decode mX1_sippedByParts.2.2.1 0 = .ok (.iconst 0, 1) := by decide +kernel
theorem d_X1_sippedByParts_1 : decode mX1_sippedByParts.2.2.1 1 = .ok (.istore_n 1, 1) := by decide +kernel
theorem d_X1_sippedByParts_2 : decode mX1_sippedByParts.2.2.1 2 = .ok (.iconst 0, 1) := by decide +kernel
theorem d_X1_sippedByParts_3 : decode mX1_sippedByParts.2.2.1 3 = .ok (.istore_n 2, 1) := by decide +kernel
theorem d_X1_sippedByParts_4 : decode mX1_sippedByParts.2.2.1 4 = .ok (.iload_n 2, 1) := by decide +kernel
theorem d_X1_sippedByParts_5 : decode mX1_sippedByParts.2.2.1 5 = .ok (.aload_n 0, 1) := by decide +kernel
theorem d_X1_sippedByParts_6 : decode mX1_sippedByParts.2.2.1 6 = .ok (.getfield 41, 3) := by decide +kernel
theorem d_X1_sippedByParts_9 : decode mX1_sippedByParts.2.2.1 9 = .ok (.getfield 91, 3) := by decide +kernel
theorem f_1_91 : e_fld 1 91 3 4 12 2 true := ⟨RX3, TX3, 4, rfl, rfl, by decide, rfl, rfl, rfl, iX3, tblG_in (inT1 (List.mem_of_getElem? (i := 176) rfl)) rfl, tyX3_ok, nmX3⟩
theorem d_X1_sippedByParts_12 : decode mX1_sippedByParts.2.2.1 12 = .ok (.iconst 0, 1) := by decide +kernel
theorem d_X1_sippedByParts_13 : decode mX1_sippedByParts.2.2.1 13 = .ok (.iaload, 1) := by decide +kernel
theorem d_X1_sippedByParts_14 : decode mX1_sippedByParts.2.2.1 14 = .ok (.iconst 4, 1) := by decide +kernel
theorem d_X1_sippedByParts_15 : decode mX1_sippedByParts.2.2.1 15 = .ok (.imul, 1) := by decide +kernel
theorem d_X1_sippedByParts_16 : decode mX1_sippedByParts.2.2.1 16 = .ok (.if_icmp .ge 28, 3) := by decide +kernel
theorem d_X1_sippedByParts_44 : decode mX1_sippedByParts.2.2.1 44 = .ok (.iload_n 1, 1) := by decide +kernel
theorem d_X1_sippedByParts_45 : decode mX1_sippedByParts.2.2.1 45 = .ok (.ireturn, 1) := by decide +kernel
theorem d_X1_sippedByParts_19 : decode mX1_sippedByParts.2.2.1 19 = .ok (.iload_n 1, 1) := by decide +kernel
theorem d_X1_sippedByParts_20 : decode mX1_sippedByParts.2.2.1 20 = .ok (.aload_n 0, 1) := by decide +kernel
theorem d_X1_sippedByParts_21 : decode mX1_sippedByParts.2.2.1 21 = .ok (.getfield 9, 3) := by decide +kernel
theorem d_X1_sippedByParts_24 : decode mX1_sippedByParts.2.2.1 24 = .ok (.iload_n 2, 1) := by decide +kernel
theorem d_X1_sippedByParts_25 : decode mX1_sippedByParts.2.2.1 25 = .ok (.iaload, 1) := by decide +kernel
theorem d_X1_sippedByParts_26 : decode mX1_sippedByParts.2.2.1 26 = .ok (.aload_n 0, 1) := by decide +kernel
theorem d_X1_sippedByParts_27 : decode mX1_sippedByParts.2.2.1 27 = .ok (.getfield 41, 3) := by decide +kernel
theorem d_X1_sippedByParts_30 : decode mX1_sippedByParts.2.2.1 30 = .ok (.getfield 71, 3) := by decide +kernel
theorem f_1_71 : e_fld 1 71 3 5 12 2 true := ⟨RX3, TX3, 5, rfl, rfl, by decide, rfl, rfl, rfl, iX3, tblG_in (inT1 (List.mem_of_getElem? (i := 181) rfl)) rfl, tyX3_ok, nmX3⟩
theorem d_X1_sippedByParts_33 : decode mX1_sippedByParts.2.2.1 33 = .ok (.iload_n 2, 1) := by decide +kernel
theorem d_X1_sippedByParts_34 : decode mX1_sippedByParts.2.2.1 34 = .ok (.iaload, 1) := by decide +kernel
theorem d_X1_sippedByParts_35 : decode mX1_sippedByParts.2.2.1 35 = .ok (.imul, 1) := by decide +kernel
theorem d_X1_sippedByParts_36 : decode mX1_sippedByParts.2.2.1 36 = .ok (.iadd, 1) := by decide +kernel
theorem d_X1_sippedByParts_37 : decode mX1_sippedByParts.2.2.1 37 = .ok (.istore_n 1, 1) := by decide +kernel
theorem d_X1_sippedByParts_38 : decode mX1_sippedByParts.2.2.1 38 = .ok (.iinc 2 1, 3) := by decide +kernel
theorem d_X1_sippedByParts_41 : decode mX1_sippedByParts.2.2.1 41 = .ok (.goto (-37), 3) := by decide +kernel
theorem ok_X1_sippedByParts : e_m mX1_sippedByParts 0 := ⟨tblG_in (inT5 (List.mem_of_getElem? (i := 160) rfl)) rfl, plainFor_of_name (by decide), rfl, ini_1, by decide +kernel, by decide⟩
theorem d_X6_finish_146 : decode mX6_finish.2.2.1 146 = .ok (.iadd, 1) := by decide +kernel
theorem d_X6_finish_147 : decode mX6_finish.2.2.1 147 = .ok (.putfield 142, 3) := by decide +kernel
theorem f_6_142 : e_fld 6 142 6 10 18 0 false := ⟨RX6, TX6, 10, rfl, rfl, by decide, rfl, rfl, rfl, iX6, tblG_in (inT2 (List.mem_of_getElem? (i := 113) rfl)) rfl, tyX6_ok, nmX6⟩
theorem d_X6_finish_150 : decode mX6_finish.2.2.1 150 = .ok (.return_, 1) := by decide +kernel
theorem d_X6_finish_68 : decode mX6_finish.2.2.1 68 = .ok (.aload_n 0, 1) := by decide +kernel
theorem d_X6_finish_69 : decode mX6_finish.2.2.1 69 = .ok (.iload_n 3, 1) := by decide +kernel
theorem d_X6_finish_70 : decode mX6_finish.2.2.1 70 = .ok (.aload_n 0, 1) := by decide +kernel
theorem d_X6_finish_71 : decode mX6_finish.2.2.1 71 = .ok (.getfield 68, 3) := by decide +kernel
theorem d_X6_finish_74 : decode mX6_finish.2.2.1 74 = .ok (.invokevirtual 125, 3) := by decide +kernel
theorem d_X6_finish_77 : decode mX6_finish.2.2.1 77 = .ok (.aload_n 0, 1) := by decide +kernel
theorem d_X6_finish_78 : decode mX6_finish.2.2.1 78 = .ok (.getfield 24, 3) := by decide +kernel
theorem d_X6_finish_81 : decode mX6_finish.2.2.1 81 = .ok (.iload_n 3, 1) := by decide +kernel
theorem d_X6_finish_82 : decode mX6_finish.2.2.1 82 = .ok (.iaload, 1) := by decide +kernel
theorem d_X6_finish_83 : decode mX6_finish.2.2.1 83 = .ok (.iconst 1, 1) := by decide +kernel
theorem d_X6_finish_84 : decode mX6_finish.2.2.1 84 = .ok (.if_icmp .ne 18, 3) := by decide +kernel
theorem d_X6_finish_102 : decode mX6_finish.2.2.1 102 = .ok (.aload_n 0, 1) := by decide +kernel
theorem d_X6_finish_103 : decode mX6_finish.2.2.1 103 = .ok (.getfield 27, 3) := by decide +kernel
theorem d_X6_finish_106 : decode mX6_finish.2.2.1 106 = .ok (.iload_n 3, 1) := by decide +kernel
theorem d_X6_finish_107 : decode mX6_finish.2.2.1 107 = .ok (.iaload, 1) := by decide +kernel
theorem d_X6_finish_108 : decode mX6_finish.2.2.1 108 = .ok (.aload_n 0, 1) := by decide +kernel
theorem d_X6_finish_109 : decode mX6_finish.2.2.1 109 = .ok (.getfield 68, 3) := by decide +kernel
theorem d_X6_finish_112 : decode mX6_finish.2.2.1 112 = .ok (.if_icmp .gt 11, 3) := by decide +kernel
theorem d_X6_finish_115 : decode mX6_finish.2.2.1 115 = .ok (.aload_n 0, 1) := by decide +kernel
theorem d_X6_finish_116 : decode mX6_finish.2.2.1 116 = .ok (.getfield 38, 3) := by decide +kernel
theorem d_X6_finish_119 : decode mX6_finish.2.2.1 119 = .ok (.iload_n 3, 1) := by decide +kernel
theorem d_X6_finish_120 : decode mX6_finish.2.2.1 120 = .ok (.invokevirtual 131, 3) := by decide +kernel
def mX1_fallAsleep : MD := (1, yX1_fallAsleep, cX1_fallAsleep, 2, none)
theorem sel_X1_fallAsleep : Cond.instanceMethod mX1_fallAsleep.2.1 ∈ tblG ∧ Cond.selects mX1_fallAsleep.2.1.cls mX1_fallAsleep.2.1 mX1_fallAsleep.2.1 ∈ tblG := ⟨tblG_in (inT5 (List.mem_of_getElem? (i := 97) rfl)) rfl, tblG_in (inT5 (List.mem_of_getElem? (i := 98) rfl)) rfl⟩
theorem s_6_131 : e_siteV 6 131 mX1_fallAsleep 1 := ⟨tblG_in (inT5 (List.mem_of_getElem? (i := 156) rfl)) rfl, sel_X1_fallAsleep.1, sel_X1_fallAsleep.2, rfl⟩
theorem d_X1_fallAsleep_0 : decode mX1_fallAsleep.2.2.1 0 = .ok (.aload_n 0, 1) := by decide +kernel
theorem d_X1_fallAsleep_1 : decode mX1_fallAsleep.2.2.1 1 = .ok (.getfield 37, 3) := by decide +kernel
theorem d_X1_fallAsleep_4 : decode mX1_fallAsleep.2.2.1 4 = .ok (.ifCond .eq 71, 3) := by decide +kernel
theorem d_X1_fallAsleep_75 : decode mX1_fallAsleep.2.2.1 75 = .ok (.return_, 1) := by decide +kernel
theorem ok_X1_fallAsleep : e_m mX1_fallAsleep 1 := ⟨tblG_in (inT5 (List.mem_of_getElem? (i := 99) rfl)) rfl, plainFor_of_name (by decide), rfl, ini_1, by decide +kernel, by decide⟩
theorem d_X6_finish_87 : decode mX6_finish.2.2.1 87 = .ok (.aload_n 0, 1) := by decide +kernel
theorem d_X6_finish_88 : decode mX6_finish.2.2.1 88 = .ok (.getfield 38, 3) := by decide +kernel
theorem d_X6_finish_91 : decode mX6_finish.2.2.1 91 = .ok (.iload_n 3, 1) := by decide +kernel
theorem d_X6_finish_92 : decode mX6_finish.2.2.1 92 = .ok (.aload_n 0, 1) := by decide +kernel
theorem d_X6_finish_93 : decode mX6_finish.2.2.1 93 = .ok (.getfield 68, 3) := by decide +kernel
theorem d_X6_finish_96 : decode mX6_finish.2.2.1 96 = .ok (.invokevirtual 128, 3) := by decide +kernel
theorem d_X6_finish_99 : decode mX6_finish.2.2.1 99 = .ok (.goto 24, 3) := by decide +kernel
theorem d_X6_finish_123 : decode mX6_finish.2.2.1 123 = .ok (.iinc 3 1, 3) := by decide +kernel
theorem d_X6_finish_126 : decode mX6_finish.2.2.1 126 = .ok (.goto (-63), 3) := by decide +kernel
theorem d_X6_finish_55 : decode mX6_finish.2.2.1 55 = .ok (.iinc 3 1, 3) := by decide +kernel
theorem d_X6_finish_58 : decode mX6_finish.2.2.1 58 = .ok (.goto (-41), 3) := by decide +kernel
theorem ok_X6_finish : e_m mX6_finish 0 := ⟨tblG_in (inT5 (List.mem_of_getElem? (i := 155) rfl)) rfl, plainFor_of_name (by decide), rfl, ini_6, by decide +kernel, by decide⟩
theorem d_X6_go_107 : decode mX6_go.2.2.1 107 = .ok (.return_, 1) := by decide +kernel
theorem d_X6_go_93 : decode mX6_go.2.2.1 93 = .ok (.iload 7, 2) := by decide +kernel
theorem d_X6_go_95 : decode mX6_go.2.2.1 95 = .ok (.istore 4, 2) := by decide +kernel
theorem d_X6_go_97 : decode mX6_go.2.2.1 97 = .ok (.iinc 5 1, 3) := by decide +kernel
theorem d_X6_go_100 : decode mX6_go.2.2.1 100 = .ok (.goto (-87), 3) := by decide +kernel
theorem ok_X6_go : e_m mX6_go 3 := ⟨tblG_in (inT4 (List.mem_of_getElem? (i := 229) rfl)) rfl, plainFor_of_name (by decide), rfl, ini_6, by decide +kernel, by decide⟩
theorem d_X11_measure_41 : decode mX11_measure.2.2.1 41 = .ok (.aload_n 0, 1) := by decide +kernel
theorem d_X11_measure_42 : decode mX11_measure.2.2.1 42 = .ok (.getfield 70, 3) := by decide +kernel
theorem d_X11_measure_45 : decode mX11_measure.2.2.1 45 = .ok (.iload_n 1, 1) := by decide +kernel
theorem d_X11_measure_46 : decode mX11_measure.2.2.1 46 = .ok (.aload_n 0, 1) := by decide +kernel
theorem d_X11_measure_47 : decode mX11_measure.2.2.1 47 = .ok (.getfield 50, 3) := by decide +kernel
theorem d_X11_measure_50 : decode mX11_measure.2.2.1 50 = .ok (.invokevirtual 272, 3) := by decide +kernel
def mX2_add : MD := (2, yX2_add, cX2_add, 3, none)
theorem sel_X2_add : Cond.instanceMethod mX2_add.2.1 ∈ tblG ∧ Cond.selects mX2_add.2.1.cls mX2_add.2.1 mX2_add.2.1 ∈ tblG := ⟨tblG_in (inT6 (List.mem_of_getElem? (i := 88) rfl)) rfl, tblG_in (inT6 (List.mem_of_getElem? (i := 89) rfl)) rfl⟩
theorem s_11_272 : e_siteV 11 272 mX2_add 2 := ⟨tblG_in (inT6 (List.mem_of_getElem? (i := 87) rfl)) rfl, sel_X2_add.1, sel_X2_add.2, rfl⟩
theorem d_X2_add_0 : decode mX2_add.2.2.1 0 = .ok (.aload_n 0, 1) := by decide +kernel
theorem d_X2_add_1 : decode mX2_add.2.2.1 1 = .ok (.getfield 27, 3) := by decide +kernel
theorem d_X2_add_4 : decode mX2_add.2.2.1 4 = .ok (.bipush 12, 2) := by decide +kernel
theorem d_X2_add_6 : decode mX2_add.2.2.1 6 = .ok (.if_icmp .lt 4, 3) := by decide +kernel
theorem d_X2_add_10 : decode mX2_add.2.2.1 10 = .ok (.aload_n 0, 1) := by decide +kernel
theorem d_X2_add_11 : decode mX2_add.2.2.1 11 = .ok (.getfield 15, 3) := by decide +kernel
theorem d_X2_add_14 : decode mX2_add.2.2.1 14 = .ok (.aload_n 0, 1) := by decide +kernel
theorem d_X2_add_15 : decode mX2_add.2.2.1 15 = .ok (.getfield 27, 3) := by decide +kernel
theorem d_X2_add_18 : decode mX2_add.2.2.1 18 = .ok (.iload_n 1, 1) := by decide +kernel
theorem d_X2_add_19 : decode mX2_add.2.2.1 19 = .ok (.iastore, 1) := by decide +kernel
theorem d_X2_add_20 : decode mX2_add.2.2.1 20 = .ok (.aload_n 0, 1) := by decide +kernel
theorem d_X2_add_21 : decode mX2_add.2.2.1 21 = .ok (.getfield 18, 3) := by decide +kernel
theorem d_X2_add_24 : decode mX2_add.2.2.1 24 = .ok (.aload_n 0, 1) := by decide +kernel
