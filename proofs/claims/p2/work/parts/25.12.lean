theorem d_X6_go_68 : decode mX6_go.2.2.1 68 = .ok (.iload 4, 2) := by decide +kernel
theorem d_X6_go_70 : decode mX6_go.2.2.1 70 = .ok (.aload_n 0, 1) := by decide +kernel
theorem d_X6_go_71 : decode mX6_go.2.2.1 71 = .ok (.getfield 68, 3) := by decide +kernel
theorem d_X6_go_74 : decode mX6_go.2.2.1 74 = .ok (.iload 6, 2) := by decide +kernel
theorem d_X6_go_76 : decode mX6_go.2.2.1 76 = .ok (.isub, 1) := by decide +kernel
theorem d_X6_go_77 : decode mX6_go.2.2.1 77 = .ok (.invokevirtual 75, 3) := by decide +kernel
def mX1_payHeart : MD := (1, yX1_payHeart, cX1_payHeart, 3, none)
theorem sel_X1_payHeart : Cond.instanceMethod mX1_payHeart.2.1 ∈ tblG ∧ Cond.selects mX1_payHeart.2.1.cls mX1_payHeart.2.1 mX1_payHeart.2.1 ∈ tblG := ⟨tblG_in (inT5 (List.mem_of_getElem? (i := 149) rfl)) rfl, tblG_in (inT5 (List.mem_of_getElem? (i := 150) rfl)) rfl⟩
theorem s_6_75 : e_siteV 6 75 mX1_payHeart 1 := ⟨tblG_in (inT5 (List.mem_of_getElem? (i := 148) rfl)) rfl, sel_X1_payHeart.1, sel_X1_payHeart.2, rfl⟩
theorem d_X1_payHeart_0 : decode mX1_payHeart.2.2.1 0 = .ok (.aload_n 0, 1) := by decide +kernel
theorem d_X1_payHeart_1 : decode mX1_payHeart.2.2.1 1 = .ok (.getfield 37, 3) := by decide +kernel
theorem d_X1_payHeart_4 : decode mX1_payHeart.2.2.1 4 = .ok (.ifCond .eq 21, 3) := by decide +kernel
theorem d_X1_payHeart_25 : decode mX1_payHeart.2.2.1 25 = .ok (.return_, 1) := by decide +kernel
theorem ok_X1_payHeart : e_m mX1_payHeart 2 := ⟨tblG_in (inT5 (List.mem_of_getElem? (i := 151) rfl)) rfl, plainFor_of_name (by decide), rfl, ini_1, by decide +kernel, by decide⟩
theorem d_X6_go_80 : decode mX6_go.2.2.1 80 = .ok (.aload_n 0, 1) := by decide +kernel
theorem d_X6_go_81 : decode mX6_go.2.2.1 81 = .ok (.getfield 62, 3) := by decide +kernel
theorem d_X6_go_84 : decode mX6_go.2.2.1 84 = .ok (.ifCond .eq 9, 3) := by decide +kernel
theorem d_X6_go_87 : decode mX6_go.2.2.1 87 = .ok (.aload_n 0, 1) := by decide +kernel
theorem d_X6_go_88 : decode mX6_go.2.2.1 88 = .ok (.iload 4, 2) := by decide +kernel
theorem d_X6_go_90 : decode mX6_go.2.2.1 90 = .ok (.putfield 79, 3) := by decide +kernel
theorem d_X6_go_103 : decode mX6_go.2.2.1 103 = .ok (.aload_n 0, 1) := by decide +kernel
theorem d_X6_go_104 : decode mX6_go.2.2.1 104 = .ok (.invokevirtual 82, 3) := by decide +kernel
def mX6_finish : MD := (6, yX6_finish, cX6_finish, 4, none)
theorem sel_X6_finish : Cond.instanceMethod mX6_finish.2.1 ∈ tblG ∧ Cond.selects mX6_finish.2.1.cls mX6_finish.2.1 mX6_finish.2.1 ∈ tblG := ⟨tblG_in (inT5 (List.mem_of_getElem? (i := 154) rfl)) rfl, tblG_in (inP4 (q := (mX6_finish.2.1, 18)) (List.mem_of_getElem? (i := 9) rfl)) rfl⟩
theorem s_6_82 : e_siteV 6 82 mX6_finish 6 := ⟨tblG_in (inT5 (List.mem_of_getElem? (i := 152) rfl)) rfl, sel_X6_finish.1, sel_X6_finish.2, rfl⟩
theorem d_X6_finish_0 : decode mX6_finish.2.2.1 0 = .ok (.aload_n 0, 1) := by decide +kernel
theorem d_X6_finish_1 : decode mX6_finish.2.2.1 1 = .ok (.getfield 68, 3) := by decide +kernel
theorem d_X6_finish_4 : decode mX6_finish.2.2.1 4 = .ok (.istore_n 1, 1) := by decide +kernel
theorem d_X6_finish_5 : decode mX6_finish.2.2.1 5 = .ok (.aload_n 0, 1) := by decide +kernel
theorem d_X6_finish_6 : decode mX6_finish.2.2.1 6 = .ok (.getfield 46, 3) := by decide +kernel
theorem d_X6_finish_9 : decode mX6_finish.2.2.1 9 = .ok (.getfield 116, 3) := by decide +kernel
theorem d_X6_finish_12 : decode mX6_finish.2.2.1 12 = .ok (.iconst 0, 1) := by decide +kernel
theorem d_X6_finish_13 : decode mX6_finish.2.2.1 13 = .ok (.iaload, 1) := by decide +kernel
theorem d_X6_finish_14 : decode mX6_finish.2.2.1 14 = .ok (.istore_n 2, 1) := by decide +kernel
theorem d_X6_finish_15 : decode mX6_finish.2.2.1 15 = .ok (.iconst 0, 1) := by decide +kernel
theorem d_X6_finish_16 : decode mX6_finish.2.2.1 16 = .ok (.istore_n 3, 1) := by decide +kernel
theorem d_X6_finish_17 : decode mX6_finish.2.2.1 17 = .ok (.iload_n 3, 1) := by decide +kernel
theorem d_X6_finish_18 : decode mX6_finish.2.2.1 18 = .ok (.iload_n 2, 1) := by decide +kernel
theorem d_X6_finish_19 : decode mX6_finish.2.2.1 19 = .ok (.if_icmp .ge 42, 3) := by decide +kernel
theorem d_X6_finish_22 : decode mX6_finish.2.2.1 22 = .ok (.aload_n 0, 1) := by decide +kernel
theorem d_X6_finish_23 : decode mX6_finish.2.2.1 23 = .ok (.getfield 62, 3) := by decide +kernel
theorem d_X6_finish_26 : decode mX6_finish.2.2.1 26 = .ok (.ifCond .ne 35, 3) := by decide +kernel
theorem d_X6_finish_29 : decode mX6_finish.2.2.1 29 = .ok (.aload_n 0, 1) := by decide +kernel
theorem d_X6_finish_30 : decode mX6_finish.2.2.1 30 = .ok (.getfield 24, 3) := by decide +kernel
theorem d_X6_finish_33 : decode mX6_finish.2.2.1 33 = .ok (.iload_n 3, 1) := by decide +kernel
theorem d_X6_finish_34 : decode mX6_finish.2.2.1 34 = .ok (.iaload, 1) := by decide +kernel
theorem d_X6_finish_35 : decode mX6_finish.2.2.1 35 = .ok (.ifCond .ne 20, 3) := by decide +kernel
theorem d_X6_finish_38 : decode mX6_finish.2.2.1 38 = .ok (.aload_n 0, 1) := by decide +kernel
theorem d_X6_finish_39 : decode mX6_finish.2.2.1 39 = .ok (.aload_n 0, 1) := by decide +kernel
theorem d_X6_finish_40 : decode mX6_finish.2.2.1 40 = .ok (.getfield 68, 3) := by decide +kernel
theorem d_X6_finish_43 : decode mX6_finish.2.2.1 43 = .ok (.aload_n 0, 1) := by decide +kernel
theorem d_X6_finish_44 : decode mX6_finish.2.2.1 44 = .ok (.getfield 27, 3) := by decide +kernel
theorem d_X6_finish_47 : decode mX6_finish.2.2.1 47 = .ok (.iload_n 3, 1) := by decide +kernel
theorem d_X6_finish_48 : decode mX6_finish.2.2.1 48 = .ok (.iaload, 1) := by decide +kernel
theorem d_X6_finish_49 : decode mX6_finish.2.2.1 49 = .ok (.invokestatic 119, 3) := by decide +kernel
theorem d_X6_finish_52 : decode mX6_finish.2.2.1 52 = .ok (.putfield 68, 3) := by decide +kernel
theorem d_X6_finish_61 : decode mX6_finish.2.2.1 61 = .ok (.iconst 0, 1) := by decide +kernel
theorem d_X6_finish_62 : decode mX6_finish.2.2.1 62 = .ok (.istore_n 3, 1) := by decide +kernel
theorem d_X6_finish_63 : decode mX6_finish.2.2.1 63 = .ok (.iload_n 3, 1) := by decide +kernel
theorem d_X6_finish_64 : decode mX6_finish.2.2.1 64 = .ok (.iload_n 2, 1) := by decide +kernel
theorem d_X6_finish_65 : decode mX6_finish.2.2.1 65 = .ok (.if_icmp .ge 64, 3) := by decide +kernel
theorem d_X6_finish_129 : decode mX6_finish.2.2.1 129 = .ok (.aload_n 0, 1) := by decide +kernel
theorem d_X6_finish_130 : decode mX6_finish.2.2.1 130 = .ok (.iload_n 1, 1) := by decide +kernel
theorem d_X6_finish_131 : decode mX6_finish.2.2.1 131 = .ok (.aload_n 0, 1) := by decide +kernel
theorem d_X6_finish_132 : decode mX6_finish.2.2.1 132 = .ok (.getfield 46, 3) := by decide +kernel
theorem d_X6_finish_135 : decode mX6_finish.2.2.1 135 = .ok (.getfield 135, 3) := by decide +kernel
theorem d_X6_finish_138 : decode mX6_finish.2.2.1 138 = .ok (.imul, 1) := by decide +kernel
theorem d_X6_finish_139 : decode mX6_finish.2.2.1 139 = .ok (.aload_n 0, 1) := by decide +kernel
theorem d_X6_finish_140 : decode mX6_finish.2.2.1 140 = .ok (.getfield 38, 3) := by decide +kernel
theorem d_X6_finish_143 : decode mX6_finish.2.2.1 143 = .ok (.invokevirtual 138, 3) := by decide +kernel
def mX1_sippedByParts : MD := (1, yX1_sippedByParts, cX1_sippedByParts, 3, some .int)
theorem sel_X1_sippedByParts : Cond.instanceMethod mX1_sippedByParts.2.1 ∈ tblG ∧ Cond.selects mX1_sippedByParts.2.1.cls mX1_sippedByParts.2.1 mX1_sippedByParts.2.1 ∈ tblG := ⟨tblG_in (inT5 (List.mem_of_getElem? (i := 158) rfl)) rfl, tblG_in (inT5 (List.mem_of_getElem? (i := 159) rfl)) rfl⟩
theorem s_6_138 : e_siteV 6 138 mX1_sippedByParts 1 := ⟨tblG_in (inT5 (List.mem_of_getElem? (i := 157) rfl)) rfl, sel_X1_sippedByParts.1, sel_X1_sippedByParts.2, rfl⟩
theorem d_X1_sippedByParts_0 : decode mX1_sippedByParts.2.2.1 0 = .ok (.iconst 0, 1) := by decide +kernel
theorem d_X1_sippedByParts_1 : decode mX1_sippedByParts.2.2.1 1 = .ok (.istore_n 1, 1) := by decide +kernel
theorem d_X1_sippedByParts_2 : decode mX1_sippedByParts.2.2.1 2 = .ok (.iconst 0, 1) := by decide +kernel
theorem d_X1_sippedByParts_3 : decode mX1_sippedByParts.2.2.1 3 = .ok (.istore_n 2, 1) := by decide +kernel
theorem d_X1_sippedByParts_4 : decode mX1_sippedByParts.2.2.1 4 = .ok (.iload_n 2, 1) := by decide +kernel
theorem d_X1_sippedByParts_5 : decode mX1_sippedByParts.2.2.1 5 = .ok (.aload_n 0, 1) := by decide +kernel
theorem d_X1_sippedByParts_6 : decode mX1_sippedByParts.2.2.1 6 = .ok (.getfield 41, 3) := by decide +kernel
theorem d_X1_sippedByParts_9 : decode mX1_sippedByParts.2.2.1 9 = .ok (.getfield 91, 3) := by decide +kernel
theorem d_X1_sippedByParts_12 : decode mX1_sippedByParts.2.2.1 12 = .ok (.iconst 0, 1) := by decide +kernel
theorem d_X1_sippedByParts_13 : decode mX1_sippedByParts.2.2.1 13 = .ok (.iaload, 1) := by decide +kernel
theorem d_X1_sippedByParts_14 : decode mX1_sippedByParts.2.2.1 14 = .ok (.iconst 4, 1) := by decide +kernel
theorem d_X1_sippedByParts_15 : decode mX1_sippedByParts.2.2.1 15 = .ok (.imul, 1) := by decide +kernel
theorem d_X1_sippedByParts_16 : decode mX1_sippedByParts.2.2.1 16 = .ok (.if_icmp .ge 28, 3) := by decide +kernel
theorem d_X1_sippedByParts_44 : decode mX1_sippedByParts.2.2.1 44 = .ok (.iload_n 1, 1) := by decide +kernel
theorem d_X1_sippedByParts_45 : decode mX1_sippedByParts.2.2.1 45 = .ok (.ireturn, 1) := by decide +kernel
theorem d_X1_sippedByParts_19 : decode mX1_sippedByParts.2.2.1 19 = .ok (.iload_n 1, 1) := by decide +kernel
theorem d_X1_sippedByParts_20 : decode mX1_sippedByParts.2.2.1 20 = .ok (.aload_n 0, 1) := by decide +kernel
theorem d_X1_sippedByParts_21 : decode mX1_sippedByParts.2.2.1 21 = .ok (.getfield 9, 3) := by decide +kernel
theorem d_X1_sippedByParts_24 : decode mX1_sippedByParts.2.2.1 24 = .ok (.iload_n 2, 1) := by decide +kernel
theorem d_X1_sippedByParts_25 : decode mX1_sippedByParts.2.2.1 25 = .ok (.iaload, 1) := by decide +kernel
theorem d_X1_sippedByParts_26 : decode mX1_sippedByParts.2.2.1 26 = .ok (.aload_n 0, 1) := by decide +kernel
theorem d_X1_sippedByParts_27 : decode mX1_sippedByParts.2.2.1 27 = .ok (.getfield 41, 3) := by decide +kernel
theorem d_X1_sippedByParts_30 : decode mX1_sippedByParts.2.2.1 30 = .ok (.getfield 71, 3) := by decide +kernel
theorem d_X1_sippedByParts_33 : decode mX1_sippedByParts.2.2.1 33 = .ok (.iload_n 2, 1) := by decide +kernel
theorem d_X1_sippedByParts_34 : decode mX1_sippedByParts.2.2.1 34 = .ok (.iaload, 1) := by decide +kernel
theorem d_X1_sippedByParts_35 : decode mX1_sippedByParts.2.2.1 35 = .ok (.imul, 1) := by decide +kernel
theorem d_X1_sippedByParts_36 : decode mX1_sippedByParts.2.2.1 36 = .ok (.iadd, 1) := by decide +kernel
theorem d_X1_sippedByParts_37 : decode mX1_sippedByParts.2.2.1 37 = .ok (.istore_n 1, 1) := by decide +kernel
theorem d_X1_sippedByParts_38 : decode mX1_sippedByParts.2.2.1 38 = .ok (.iinc 2 1, 3) := by decide +kernel
theorem d_X1_sippedByParts_41 : decode mX1_sippedByParts.2.2.1 41 = .ok (.goto (-37), 3) := by decide +kernel
theorem ok_X1_sippedByParts : e_m mX1_sippedByParts 0 := ⟨tblG_in (inT5 (List.mem_of_getElem? (i := 160) rfl)) rfl, plainFor_of_name (by decide), rfl, ini_1, by decide +kernel, by decide⟩
theorem d_X6_finish_146 : decode mX6_finish.2.2.1 146 = .ok (.iadd, 1) := by decide +kernel
theorem d_X6_finish_147 : decode mX6_finish.2.2.1 147 = .ok (.putfield 142, 3) := by decide +kernel
theorem f_6_142 : e_fld 6 142 6 10 18 0 false := ⟨RX6, TX6, 10, rfl, rfl, by decide, rfl, rfl, rfl, iX6, tblG_in (inT2 (List.mem_of_getElem? (i := 113) rfl)) rfl, tyX6_ok, nmX6⟩
theorem d_X6_finish_150 : decode mX6_finish.2.2.1 150 = .ok (.return_, 1) := by decide +kernel
theorem d_X6_finish_68 : decode mX6_finish.2.2.1 68 = .ok (.aload_n 0, 1) := by decide +kernel
theorem d_X6_finish_69 : decode mX6_finish.2.2.1 69 = .ok (.iload_n 3, 1) := by decide +kernel
theorem d_X6_finish_70 : decode mX6_finish.2.2.1 70 = .ok (.aload_n 0, 1) := by decide +kernel
theorem d_X6_finish_71 : decode mX6_finish.2.2.1 71 = .ok (.getfield 68, 3) := by decide +kernel
theorem d_X6_finish_74 : decode mX6_finish.2.2.1 74 = .ok (.invokevirtual 125, 3) := by decide +kernel
theorem d_X6_finish_77 : decode mX6_finish.2.2.1 77 = .ok (.aload_n 0, 1) := by decide +kernel
theorem d_X6_finish_78 : decode mX6_finish.2.2.1 78 = .ok (.getfield 24, 3) := by decide +kernel
theorem d_X6_finish_81 : decode mX6_finish.2.2.1 81 = .ok (.iload_n 3, 1) := by decide +kernel
theorem d_X6_finish_82 : decode mX6_finish.2.2.1 82 = .ok (.iaload, 1) := by decide +kernel
theorem d_X6_finish_83 : decode mX6_finish.2.2.1 83 = .ok (.iconst 1, 1) := by decide +kernel
theorem d_X6_finish_84 : decode mX6_finish.2.2.1 84 = .ok (.if_icmp .ne 18, 3) := by decide +kernel
theorem d_X6_finish_102 : decode mX6_finish.2.2.1 102 = .ok (.aload_n 0, 1) := by decide +kernel
theorem d_X6_finish_103 : decode mX6_finish.2.2.1 103 = .ok (.getfield 27, 3) := by decide +kernel
theorem d_X6_finish_106 : decode mX6_finish.2.2.1 106 = .ok (.iload_n 3, 1) := by decide +kernel
theorem d_X6_finish_107 : decode mX6_finish.2.2.1 107 = .ok (.iaload, 1) := by decide +kernel
theorem d_X6_finish_108 : decode mX6_finish.2.2.1 108 = .ok (.aload_n 0, 1) := by decide +kernel
theorem d_X6_finish_109 : decode mX6_finish.2.2.1 109 = .ok (.getfield 68, 3) := by decide +kernel
theorem d_X6_finish_112 : decode mX6_finish.2.2.1 112 = .ok (.if_icmp .gt 11, 3) := by decide +kernel
theorem d_X6_finish_115 : decode mX6_finish.2.2.1 115 = .ok (.aload_n 0, 1) := by decide +kernel
theorem d_X6_finish_116 : decode mX6_finish.2.2.1 116 = .ok (.getfield 38, 3) := by decide +kernel
theorem d_X6_finish_119 : decode mX6_finish.2.2.1 119 = .ok (.iload_n 3, 1) := by decide +kernel
theorem d_X6_finish_120 : decode mX6_finish.2.2.1 120 = .ok (.invokevirtual 131, 3) := by decide +kernel
def mX1_fallAsleep : MD := (1, yX1_fallAsleep, cX1_fallAsleep, 2, none)
theorem sel_X1_fallAsleep : Cond.instanceMethod mX1_fallAsleep.2.1 ∈ tblG ∧ Cond.selects mX1_fallAsleep.2.1.cls mX1_fallAsleep.2.1 mX1_fallAsleep.2.1 ∈ tblG := ⟨tblG_in (inT5 (List.mem_of_getElem? (i := 97) rfl)) rfl, tblG_in (inT5 (List.mem_of_getElem? (i := 98) rfl)) rfl⟩
theorem s_6_131 : e_siteV 6 131 mX1_fallAsleep 1 := ⟨tblG_in (inT5 (List.mem_of_getElem? (i := 156) rfl)) rfl, sel_X1_fallAsleep.1, sel_X1_fallAsleep.2, rfl⟩
theorem d_X1_fallAsleep_0 : decode mX1_fallAsleep.2.2.1 0 = .ok (.aload_n 0, 1) := by decide +kernel
theorem d_X1_fallAsleep_1 : decode mX1_fallAsleep.2.2.1 1 = .ok (.getfield 37, 3) := by decide +kernel
theorem d_X1_fallAsleep_4 : decode mX1_fallAsleep.2.2.1 4 = .ok (.ifCond .eq 71, 3) := by decide +kernel
theorem d_X1_fallAsleep_75 : decode mX1_fallAsleep.2.2.1 75 = .ok (.return_, 1) := by decide +kernel
theorem ok_X1_fallAsleep : e_m mX1_fallAsleep 1 := ⟨tblG_in (inT5 (List.mem_of_getElem? (i := 99) rfl)) rfl, plainFor_of_name (by decide), rfl, ini_1, by decide +kernel, by decide⟩
theorem d_X6_finish_87 : decode mX6_finish.2.2.1 87 = .ok (.aload_n 0, 1) := by decide +kernel
theorem d_X6_finish_88 : decode mX6_finish.2.2.1 88 = .ok (.getfield 38, 3) := by decide +kernel
theorem d_X6_finish_91 : decode mX6_finish.2.2.1 91 = .ok (.iload_n 3, 1) := by decide +kernel
theorem d_X6_finish_92 : decode mX6_finish.2.2.1 92 = .ok (.aload_n 0, 1) := by decide +kernel
theorem d_X6_finish_93 : decode mX6_finish.2.2.1 93 = .ok (.getfield 68, 3) := by decide +kernel
theorem d_X6_finish_96 : decode mX6_finish.2.2.1 96 = .ok (.invokevirtual 128, 3) := by decide +kernel
theorem d_X6_finish_99 : decode mX6_finish.2.2.1 99 = .ok (.goto 24, 3) := by decide +kernel
theorem d_X6_finish_123 : decode mX6_finish.2.2.1 123 = .ok (.iinc 3 1, 3) := by decide +kernel
theorem d_X6_finish_126 : decode mX6_finish.2.2.1 126 = .ok (.goto (-63), 3) := by decide +kernel
theorem d_X6_finish_55 : decode mX6_finish.2.2.1 55 = .ok (.iinc 3 1, 3) := by decide +kernel
theorem d_X6_finish_58 : decode mX6_finish.2.2.1 58 = .ok (.goto (-41), 3) := by decide +kernel
theorem ok_X6_finish : e_m mX6_finish 0 := ⟨tblG_in (inT5 (List.mem_of_getElem? (i := 155) rfl)) rfl, plainFor_of_name (by decide), rfl, ini_6, by decide +kernel, by decide⟩
theorem d_X6_go_107 : decode mX6_go.2.2.1 107 = .ok (.return_, 1) := by decide +kernel
theorem d_X6_go_93 : decode mX6_go.2.2.1 93 = .ok (.iload 7, 2) := by decide +kernel
theorem d_X6_go_95 : decode mX6_go.2.2.1 95 = .ok (.istore 4, 2) := by decide +kernel
theorem d_X6_go_97 : decode mX6_go.2.2.1 97 = .ok (.iinc 5 1, 3) := by decide +kernel
theorem d_X6_go_100 : decode mX6_go.2.2.1 100 = .ok (.goto (-87), 3) := by decide +kernel
theorem ok_X6_go : e_m mX6_go 3 := ⟨tblG_in (inT4 (List.mem_of_getElem? (i := 229) rfl)) rfl, plainFor_of_name (by decide), rfl, ini_6, by decide +kernel, by decide⟩
theorem d_X11_measure_41 : decode mX11_measure.2.2.1 41 = .ok (.aload_n 0, 1) := by decide +kernel
theorem d_X11_measure_42 : decode mX11_measure.2.2.1 42 = .ok (.getfield 70, 3) := by decide +kernel
theorem d_X11_measure_45 : decode mX11_measure.2.2.1 45 = .ok (.iload_n 1, 1) := by decide +kernel
theorem d_X11_measure_46 : decode mX11_measure.2.2.1 46 = .ok (.aload_n 0, 1) := by decide +kernel
theorem d_X11_measure_47 : decode mX11_measure.2.2.1 47 = .ok (.getfield 50, 3) := by decide +kernel
theorem d_X11_measure_50 : decode mX11_measure.2.2.1 50 = .ok (.invokevirtual 272, 3) := by decide +kernel
def mX2_add : MD := (2, yX2_add, cX2_add, 3, none)
theorem sel_X2_add : Cond.instanceMethod mX2_add.2.1 ∈ tblG ∧ Cond.selects mX2_add.2.1.cls mX2_add.2.1 mX2_add.2.1 ∈ tblG := ⟨tblG_in (inT6 (List.mem_of_getElem? (i := 88) rfl)) rfl, tblG_in (inT6 (List.mem_of_getElem? (i := 89) rfl)) rfl⟩
theorem s_11_272 : e_siteV 11 272 mX2_add 2 := ⟨tblG_in (inT6 (List.mem_of_getElem? (i := 87) rfl)) rfl, sel_X2_add.1, sel_X2_add.2, rfl⟩
theorem d_X2_add_0 : decode mX2_add.2.2.1 0 = .ok (.aload_n 0, 1) := by decide +kernel
theorem d_X2_add_1 : decode mX2_add.2.2.1 1 = .ok (.getfield 27, 3) := by decide +kernel
theorem d_X2_add_4 : decode mX2_add.2.2.1 4 = .ok (.bipush 12, 2) := by decide +kernel
theorem d_X2_add_6 : decode mX2_add.2.2.1 6 = .ok (.if_icmp .lt 4, 3) := by decide +kernel
theorem d_X2_add_10 : decode mX2_add.2.2.1 10 = .ok (.aload_n 0, 1) := by decide +kernel
theorem d_X2_add_11 : decode mX2_add.2.2.1 11 = .ok (.getfield 15, 3) := by decide +kernel
theorem d_X2_add_14 : decode mX2_add.2.2.1 14 = .ok (.aload_n 0, 1) := by decide +kernel
theorem d_X2_add_15 : decode mX2_add.2.2.1 15 = .ok (.getfield 27, 3) := by decide +kernel
theorem d_X2_add_18 : decode mX2_add.2.2.1 18 = .ok (.iload_n 1, 1) := by decide +kernel
theorem d_X2_add_19 : decode mX2_add.2.2.1 19 = .ok (.iastore, 1) := by decide +kernel
theorem d_X2_add_20 : decode mX2_add.2.2.1 20 = .ok (.aload_n 0, 1) := by decide +kernel
theorem d_X2_add_21 : decode mX2_add.2.2.1 21 = .ok (.getfield 18, 3) := by decide +kernel
theorem d_X2_add_24 : decode mX2_add.2.2.1 24 = .ok (.aload_n 0, 1) := by decide +kernel
theorem d_X2_add_25 : decode mX2_add.2.2.1 25 = .ok (.getfield 27, 3) := by decide +kernel
theorem d_X2_add_28 : decode mX2_add.2.2.1 28 = .ok (.aload_n 2, 1) := by decide +kernel
theorem d_X2_add_29 : decode mX2_add.2.2.1 29 = .ok (.getfield 35, 3) := by decide +kernel
theorem f_2_35 : e_fld 2 35 6 10 18 0 false := ⟨RX6, TX6, 10, rfl, rfl, by decide, rfl, rfl, rfl, iX6, tblG_in (inT2 (List.mem_of_getElem? (i := 112) rfl)) rfl, tyX6_ok, nmX6⟩
theorem d_X2_add_32 : decode mX2_add.2.2.1 32 = .ok (.iastore, 1) := by decide +kernel
theorem d_X2_add_33 : decode mX2_add.2.2.1 33 = .ok (.aload_n 2, 1) := by decide +kernel
theorem d_X2_add_34 : decode mX2_add.2.2.1 34 = .ok (.getfield 39, 3) := by decide +kernel
theorem f_2_39 : e_fld 2 39 6 0 18 2 true := ⟨RX6, TX6, 0, rfl, rfl, by decide, rfl, rfl, rfl, iX6, tblG_in (inT2 (List.mem_of_getElem? (i := 99) rfl)) rfl, tyX6_ok, nmX6⟩
theorem d_X2_add_37 : decode mX2_add.2.2.1 37 = .ok (.getfield 43, 3) := by decide +kernel
theorem f_2_43 : e_fld 2 43 1 2 9 2 true := ⟨RX1, TX1, 2, rfl, rfl, by decide, rfl, rfl, rfl, iX1, tblG_in (inT2 (List.mem_of_getElem? (i := 69) rfl)) rfl, tyX1_ok, nmX1⟩
theorem d_X2_add_40 : decode mX2_add.2.2.1 40 = .ok (.iconst 0, 1) := by decide +kernel
theorem d_X2_add_41 : decode mX2_add.2.2.1 41 = .ok (.aload_n 0, 1) := by decide +kernel
theorem d_X2_add_42 : decode mX2_add.2.2.1 42 = .ok (.getfield 21, 3) := by decide +kernel
theorem d_X2_add_45 : decode mX2_add.2.2.1 45 = .ok (.aload_n 0, 1) := by decide +kernel
theorem d_X2_add_46 : decode mX2_add.2.2.1 46 = .ok (.getfield 27, 3) := by decide +kernel
theorem d_X2_add_49 : decode mX2_add.2.2.1 49 = .ok (.bipush 24, 2) := by decide +kernel
theorem d_X2_add_51 : decode mX2_add.2.2.1 51 = .ok (.imul, 1) := by decide +kernel
theorem d_X2_add_52 : decode mX2_add.2.2.1 52 = .ok (.bipush 24, 2) := by decide +kernel
theorem d_X2_add_54 : decode mX2_add.2.2.1 54 = .ok (.invokestatic 48, 3) := by decide +kernel
theorem ac_2_48 : Cond.methodLink (e_cn 2) 48 arraycopyName ∈ tblG := tblG_in (inT6 (List.mem_of_getElem? (i := 91) rfl)) rfl
theorem d_X2_add_57 : decode mX2_add.2.2.1 57 = .ok (.aload_n 0, 1) := by decide +kernel
theorem d_X2_add_58 : decode mX2_add.2.2.1 58 = .ok (.dup, 1) := by decide +kernel
theorem d_X2_add_59 : decode mX2_add.2.2.1 59 = .ok (.getfield 27, 3) := by decide +kernel
theorem d_X2_add_62 : decode mX2_add.2.2.1 62 = .ok (.iconst 1, 1) := by decide +kernel
theorem d_X2_add_63 : decode mX2_add.2.2.1 63 = .ok (.iadd, 1) := by decide +kernel
theorem d_X2_add_64 : decode mX2_add.2.2.1 64 = .ok (.putfield 27, 3) := by decide +kernel
theorem d_X2_add_67 : decode mX2_add.2.2.1 67 = .ok (.return_, 1) := by decide +kernel
theorem d_X2_add_9 : decode mX2_add.2.2.1 9 = .ok (.return_, 1) := by decide +kernel
theorem ok_X2_add : e_m mX2_add 2 := ⟨tblG_in (inT6 (List.mem_of_getElem? (i := 90) rfl)) rfl, plainFor_of_name (by decide), rfl, ini_2, by decide +kernel, by decide⟩
theorem d_X11_measure_53 : decode mX11_measure.2.2.1 53 = .ok (.aload_n 0, 1) := by decide +kernel
theorem d_X11_measure_54 : decode mX11_measure.2.2.1 54 = .ok (.getfield 70, 3) := by decide +kernel
theorem d_X11_measure_57 : decode mX11_measure.2.2.1 57 = .ok (.getfield 133, 3) := by decide +kernel
theorem d_X11_measure_60 : decode mX11_measure.2.2.1 60 = .ok (.ireturn, 1) := by decide +kernel
def mX11_over : MD := (11, yX11_over, cX11_over, 4, some .int)
theorem d_X11_over_0 : decode mX11_over.2.2.1 0 = .ok (.aload_n 0, 1) := by decide +kernel
theorem d_X11_over_1 : decode mX11_over.2.2.1 1 = .ok (.getfield 63, 3) := by decide +kernel
theorem d_X11_over_4 : decode mX11_over.2.2.1 4 = .ok (.aload_n 0, 1) := by decide +kernel
theorem d_X11_over_5 : decode mX11_over.2.2.1 5 = .ok (.getfield 30, 3) := by decide +kernel
theorem d_X11_over_8 : decode mX11_over.2.2.1 8 = .ok (.invokevirtual 249, 3) := by decide +kernel
def mX10_begin : MD := (10, yX10_begin, cX10_begin, 2, some .int)
theorem sel_X10_begin : Cond.instanceMethod mX10_begin.2.1 ∈ tblG ∧ Cond.selects mX10_begin.2.1.cls mX10_begin.2.1 mX10_begin.2.1 ∈ tblG := ⟨tblG_in (inT6 (List.mem_of_getElem? (i := 55) rfl)) rfl, tblG_in (inT6 (List.mem_of_getElem? (i := 56) rfl)) rfl⟩
theorem s_11_249 : e_siteV 11 249 mX10_begin 10 := ⟨tblG_in (inT6 (List.mem_of_getElem? (i := 54) rfl)) rfl, sel_X10_begin.1, sel_X10_begin.2, rfl⟩
theorem d_X10_begin_0 : decode mX10_begin.2.2.1 0 = .ok (.aload_n 1, 1) := by decide +kernel
theorem d_X10_begin_1 : decode mX10_begin.2.2.1 1 = .ok (.getfield 33, 3) := by decide +kernel
theorem f_10_33 : e_fld 10 33 3 8 12 2 true := ⟨RX3, TX3, 8, rfl, rfl, by decide, rfl, rfl, rfl, iX3, tblG_in (inT1 (List.mem_of_getElem? (i := 195) rfl)) rfl, tyX3_ok, nmX3⟩
theorem d_X10_begin_4 : decode mX10_begin.2.2.1 4 = .ok (.iconst 0, 1) := by decide +kernel
theorem d_X10_begin_5 : decode mX10_begin.2.2.1 5 = .ok (.aload_n 0, 1) := by decide +kernel
theorem d_X10_begin_6 : decode mX10_begin.2.2.1 6 = .ok (.getfield 9, 3) := by decide +kernel
theorem d_X10_begin_9 : decode mX10_begin.2.2.1 9 = .ok (.iconst 0, 1) := by decide +kernel
theorem d_X10_begin_10 : decode mX10_begin.2.2.1 10 = .ok (.iconst 3, 1) := by decide +kernel
theorem d_X10_begin_11 : decode mX10_begin.2.2.1 11 = .ok (.invokestatic 36, 3) := by decide +kernel
theorem ac_10_36 : Cond.methodLink (e_cn 10) 36 arraycopyName ∈ tblG := tblG_in (inT6 (List.mem_of_getElem? (i := 58) rfl)) rfl
