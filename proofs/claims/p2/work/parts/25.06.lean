theorem sel_X6_afforded : Cond.instanceMethod mX6_afforded.2.1 ∈ tblG ∧ Cond.selects mX6_afforded.2.1.cls mX6_afforded.2.1 mX6_afforded.2.1 ∈ tblG := ⟨tblG_in (inT5 (List.mem_of_getElem? (i := 45) rfl)) rfl, tblG_in (inP3 (q := (mX6_afforded.2.1, 18)) (List.mem_of_getElem? (i := 14) rfl)) rfl⟩
theorem s_6_183 : e_siteV 6 183 mX6_afforded 6 := ⟨tblG_in (inT5 (List.mem_of_getElem? (i := 43) rfl)) rfl, sel_X6_afforded.1, sel_X6_afforded.2, rfl⟩
theorem d_X6_afforded_0 : decode mX6_afforded.2.2.1 0 = .ok (.iconst 0, 1) := by decide +kernel
theorem d_X6_afforded_1 : decode mX6_afforded.2.2.1 1 = .ok (.istore 4, 2) := by decide +kernel
theorem d_X6_afforded_3 : decode mX6_afforded.2.2.1 3 = .ok (.iload 4, 2) := by decide +kernel
theorem d_X6_afforded_5 : decode mX6_afforded.2.2.1 5 = .ok (.iload_n 1, 1) := by decide +kernel
theorem d_X6_afforded_6 : decode mX6_afforded.2.2.1 6 = .ok (.if_icmp .ge 47, 3) := by decide +kernel
theorem d_X6_afforded_53 : decode mX6_afforded.2.2.1 53 = .ok (.iload_n 1, 1) := by decide +kernel
theorem d_X6_afforded_54 : decode mX6_afforded.2.2.1 54 = .ok (.ireturn, 1) := by decide +kernel
theorem d_X6_afforded_9 : decode mX6_afforded.2.2.1 9 = .ok (.aload_n 0, 1) := by decide +kernel
theorem d_X6_afforded_10 : decode mX6_afforded.2.2.1 10 = .ok (.aload_n 0, 1) := by decide +kernel
theorem d_X6_afforded_11 : decode mX6_afforded.2.2.1 11 = .ok (.getfield 68, 3) := by decide +kernel
theorem d_X6_afforded_14 : decode mX6_afforded.2.2.1 14 = .ok (.iload 4, 2) := by decide +kernel
theorem d_X6_afforded_16 : decode mX6_afforded.2.2.1 16 = .ok (.iadd, 1) := by decide +kernel
theorem d_X6_afforded_17 : decode mX6_afforded.2.2.1 17 = .ok (.iload_n 2, 1) := by decide +kernel
theorem d_X6_afforded_18 : decode mX6_afforded.2.2.1 18 = .ok (.iload_n 3, 1) := by decide +kernel
theorem d_X6_afforded_19 : decode mX6_afforded.2.2.1 19 = .ok (.invokevirtual 186, 3) := by decide +kernel
def mX6_sipsAt : MD := (6, yX6_sipsAt, cX6_sipsAt, 7, some .int)
theorem sel_X6_sipsAt : Cond.instanceMethod mX6_sipsAt.2.1 ∈ tblG ∧ Cond.selects mX6_sipsAt.2.1.cls mX6_sipsAt.2.1 mX6_sipsAt.2.1 ∈ tblG := ⟨tblG_in (inT5 (List.mem_of_getElem? (i := 49) rfl)) rfl, tblG_in (inP3 (q := (mX6_sipsAt.2.1, 18)) (List.mem_of_getElem? (i := 15) rfl)) rfl⟩
theorem s_6_186 : e_siteV 6 186 mX6_sipsAt 6 := ⟨tblG_in (inT5 (List.mem_of_getElem? (i := 47) rfl)) rfl, sel_X6_sipsAt.1, sel_X6_sipsAt.2, rfl⟩
theorem d_X6_sipsAt_0 : decode mX6_sipsAt.2.2.1 0 = .ok (.aload_n 0, 1) := by decide +kernel
theorem d_X6_sipsAt_1 : decode mX6_sipsAt.2.2.1 1 = .ok (.getfield 46, 3) := by decide +kernel
theorem d_X6_sipsAt_4 : decode mX6_sipsAt.2.2.1 4 = .ok (.getfield 135, 3) := by decide +kernel
theorem f_6_135 : e_fld 6 135 3 0 12 0 false := ⟨RX3, TX3, 0, rfl, rfl, by decide, rfl, rfl, rfl, iX3, tblG_in (inT1 (List.mem_of_getElem? (i := 161) rfl)) rfl, tyX3_ok, nmX3⟩
theorem d_X6_sipsAt_7 : decode mX6_sipsAt.2.2.1 7 = .ok (.istore 4, 2) := by decide +kernel
theorem d_X6_sipsAt_9 : decode mX6_sipsAt.2.2.1 9 = .ok (.iconst 0, 1) := by decide +kernel
theorem d_X6_sipsAt_10 : decode mX6_sipsAt.2.2.1 10 = .ok (.istore 5, 2) := by decide +kernel
theorem d_X6_sipsAt_12 : decode mX6_sipsAt.2.2.1 12 = .ok (.iload 5, 2) := by decide +kernel
theorem d_X6_sipsAt_14 : decode mX6_sipsAt.2.2.1 14 = .ok (.aload_n 0, 1) := by decide +kernel
theorem d_X6_sipsAt_15 : decode mX6_sipsAt.2.2.1 15 = .ok (.getfield 46, 3) := by decide +kernel
theorem d_X6_sipsAt_18 : decode mX6_sipsAt.2.2.1 18 = .ok (.getfield 116, 3) := by decide +kernel
theorem f_6_116 : e_fld 6 116 3 4 12 2 true := ⟨RX3, TX3, 4, rfl, rfl, by decide, rfl, rfl, rfl, iX3, tblG_in (inT1 (List.mem_of_getElem? (i := 174) rfl)) rfl, tyX3_ok, nmX3⟩
theorem d_X6_sipsAt_21 : decode mX6_sipsAt.2.2.1 21 = .ok (.iconst 0, 1) := by decide +kernel
theorem d_X6_sipsAt_22 : decode mX6_sipsAt.2.2.1 22 = .ok (.iaload, 1) := by decide +kernel
theorem d_X6_sipsAt_23 : decode mX6_sipsAt.2.2.1 23 = .ok (.if_icmp .ge 68, 3) := by decide +kernel
theorem d_X6_sipsAt_91 : decode mX6_sipsAt.2.2.1 91 = .ok (.iload 4, 2) := by decide +kernel
theorem d_X6_sipsAt_93 : decode mX6_sipsAt.2.2.1 93 = .ok (.ireturn, 1) := by decide +kernel
theorem d_X6_sipsAt_26 : decode mX6_sipsAt.2.2.1 26 = .ok (.aload_n 0, 1) := by decide +kernel
theorem d_X6_sipsAt_27 : decode mX6_sipsAt.2.2.1 27 = .ok (.getfield 24, 3) := by decide +kernel
theorem d_X6_sipsAt_30 : decode mX6_sipsAt.2.2.1 30 = .ok (.iload 5, 2) := by decide +kernel
theorem d_X6_sipsAt_32 : decode mX6_sipsAt.2.2.1 32 = .ok (.iaload, 1) := by decide +kernel
theorem d_X6_sipsAt_33 : decode mX6_sipsAt.2.2.1 33 = .ok (.iconst 1, 1) := by decide +kernel
theorem d_X6_sipsAt_34 : decode mX6_sipsAt.2.2.1 34 = .ok (.if_icmp .eq 14, 3) := by decide +kernel
theorem d_X6_sipsAt_37 : decode mX6_sipsAt.2.2.1 37 = .ok (.iload_n 1, 1) := by decide +kernel
theorem d_X6_sipsAt_38 : decode mX6_sipsAt.2.2.1 38 = .ok (.aload_n 0, 1) := by decide +kernel
theorem d_X6_sipsAt_39 : decode mX6_sipsAt.2.2.1 39 = .ok (.getfield 27, 3) := by decide +kernel
theorem d_X6_sipsAt_42 : decode mX6_sipsAt.2.2.1 42 = .ok (.iload 5, 2) := by decide +kernel
theorem d_X6_sipsAt_44 : decode mX6_sipsAt.2.2.1 44 = .ok (.iaload, 1) := by decide +kernel
theorem d_X6_sipsAt_45 : decode mX6_sipsAt.2.2.1 45 = .ok (.if_icmp .ge 7, 3) := by decide +kernel
theorem d_X6_sipsAt_52 : decode mX6_sipsAt.2.2.1 52 = .ok (.iconst 0, 1) := by decide +kernel
theorem d_X6_sipsAt_48 : decode mX6_sipsAt.2.2.1 48 = .ok (.iconst 2, 1) := by decide +kernel
theorem d_X6_sipsAt_49 : decode mX6_sipsAt.2.2.1 49 = .ok (.goto 4, 3) := by decide +kernel
theorem d_X6_sipsAt_53 : decode mX6_sipsAt.2.2.1 53 = .ok (.istore 6, 2) := by decide +kernel
theorem d_X6_sipsAt_55 : decode mX6_sipsAt.2.2.1 55 = .ok (.iload 4, 2) := by decide +kernel
theorem d_X6_sipsAt_57 : decode mX6_sipsAt.2.2.1 57 = .ok (.aload_n 0, 1) := by decide +kernel
theorem d_X6_sipsAt_58 : decode mX6_sipsAt.2.2.1 58 = .ok (.getfield 46, 3) := by decide +kernel
theorem d_X6_sipsAt_61 : decode mX6_sipsAt.2.2.1 61 = .ok (.getfield 189, 3) := by decide +kernel
theorem f_6_189 : e_fld 6 189 3 5 12 2 true := ⟨RX3, TX3, 5, rfl, rfl, by decide, rfl, rfl, rfl, iX3, tblG_in (inT1 (List.mem_of_getElem? (i := 182) rfl)) rfl, tyX3_ok, nmX3⟩
theorem d_X6_sipsAt_64 : decode mX6_sipsAt.2.2.1 64 = .ok (.iload 5, 2) := by decide +kernel
theorem d_X6_sipsAt_66 : decode mX6_sipsAt.2.2.1 66 = .ok (.iconst 4, 1) := by decide +kernel
theorem d_X6_sipsAt_67 : decode mX6_sipsAt.2.2.1 67 = .ok (.imul, 1) := by decide +kernel
theorem d_X6_sipsAt_68 : decode mX6_sipsAt.2.2.1 68 = .ok (.iload 5, 2) := by decide +kernel
theorem d_X6_sipsAt_70 : decode mX6_sipsAt.2.2.1 70 = .ok (.iload_n 2, 1) := by decide +kernel
theorem d_X6_sipsAt_71 : decode mX6_sipsAt.2.2.1 71 = .ok (.if_icmp .ne 7, 3) := by decide +kernel
theorem d_X6_sipsAt_78 : decode mX6_sipsAt.2.2.1 78 = .ok (.iload 6, 2) := by decide +kernel
theorem d_X6_sipsAt_80 : decode mX6_sipsAt.2.2.1 80 = .ok (.iadd, 1) := by decide +kernel
theorem d_X6_sipsAt_81 : decode mX6_sipsAt.2.2.1 81 = .ok (.iaload, 1) := by decide +kernel
theorem d_X6_sipsAt_82 : decode mX6_sipsAt.2.2.1 82 = .ok (.iadd, 1) := by decide +kernel
theorem d_X6_sipsAt_83 : decode mX6_sipsAt.2.2.1 83 = .ok (.istore 4, 2) := by decide +kernel
theorem d_X6_sipsAt_85 : decode mX6_sipsAt.2.2.1 85 = .ok (.iinc 5 1, 3) := by decide +kernel
theorem d_X6_sipsAt_88 : decode mX6_sipsAt.2.2.1 88 = .ok (.goto (-76), 3) := by decide +kernel
theorem ok_X6_sipsAt : e_m mX6_sipsAt 3 := ⟨tblG_in (inT5 (List.mem_of_getElem? (i := 50) rfl)) rfl, plainFor_of_name (by decide), rfl, ini_6, by decide +kernel, by decide⟩
theorem d_X6_afforded_22 : decode mX6_afforded.2.2.1 22 = .ok (.istore 5, 2) := by decide +kernel
theorem d_X6_afforded_24 : decode mX6_afforded.2.2.1 24 = .ok (.iload 5, 2) := by decide +kernel
theorem d_X6_afforded_26 : decode mX6_afforded.2.2.1 26 = .ok (.aload_n 0, 1) := by decide +kernel
theorem d_X6_afforded_27 : decode mX6_afforded.2.2.1 27 = .ok (.getfield 110, 3) := by decide +kernel
theorem d_X6_afforded_30 : decode mX6_afforded.2.2.1 30 = .ok (.if_icmp .le 6, 3) := by decide +kernel
theorem d_X6_afforded_36 : decode mX6_afforded.2.2.1 36 = .ok (.aload_n 0, 1) := by decide +kernel
theorem d_X6_afforded_37 : decode mX6_afforded.2.2.1 37 = .ok (.dup, 1) := by decide +kernel
theorem d_X6_afforded_38 : decode mX6_afforded.2.2.1 38 = .ok (.getfield 110, 3) := by decide +kernel
theorem d_X6_afforded_41 : decode mX6_afforded.2.2.1 41 = .ok (.iload 5, 2) := by decide +kernel
theorem d_X6_afforded_43 : decode mX6_afforded.2.2.1 43 = .ok (.isub, 1) := by decide +kernel
theorem d_X6_afforded_44 : decode mX6_afforded.2.2.1 44 = .ok (.putfield 110, 3) := by decide +kernel
theorem d_X6_afforded_47 : decode mX6_afforded.2.2.1 47 = .ok (.iinc 4 1, 3) := by decide +kernel
theorem d_X6_afforded_50 : decode mX6_afforded.2.2.1 50 = .ok (.goto (-47), 3) := by decide +kernel
theorem d_X6_afforded_33 : decode mX6_afforded.2.2.1 33 = .ok (.iload 4, 2) := by decide +kernel
theorem d_X6_afforded_35 : decode mX6_afforded.2.2.1 35 = .ok (.ireturn, 1) := by decide +kernel
theorem ok_X6_afforded : e_m mX6_afforded 3 := ⟨tblG_in (inT5 (List.mem_of_getElem? (i := 46) rfl)) rfl, plainFor_of_name (by decide), rfl, ini_6, by decide +kernel, by decide⟩
theorem d_X6_pass_29 : decode mX6_pass.2.2.1 29 = .ok (.goto 5, 3) := by decide +kernel
theorem d_X6_pass_34 : decode mX6_pass.2.2.1 34 = .ok (.istore 5, 2) := by decide +kernel
theorem d_X6_pass_36 : decode mX6_pass.2.2.1 36 = .ok (.aload_n 0, 1) := by decide +kernel
theorem d_X6_pass_37 : decode mX6_pass.2.2.1 37 = .ok (.dup, 1) := by decide +kernel
theorem d_X6_pass_38 : decode mX6_pass.2.2.1 38 = .ok (.getfield 68, 3) := by decide +kernel
theorem d_X6_pass_41 : decode mX6_pass.2.2.1 41 = .ok (.iload 5, 2) := by decide +kernel
theorem d_X6_pass_43 : decode mX6_pass.2.2.1 43 = .ok (.iadd, 1) := by decide +kernel
theorem d_X6_pass_44 : decode mX6_pass.2.2.1 44 = .ok (.putfield 68, 3) := by decide +kernel
theorem d_X6_pass_47 : decode mX6_pass.2.2.1 47 = .ok (.iload 5, 2) := by decide +kernel
theorem d_X6_pass_49 : decode mX6_pass.2.2.1 49 = .ok (.iload_n 1, 1) := by decide +kernel
theorem d_X6_pass_50 : decode mX6_pass.2.2.1 50 = .ok (.if_icmp .ge 19, 3) := by decide +kernel
theorem d_X6_pass_69 : decode mX6_pass.2.2.1 69 = .ok (.iload 5, 2) := by decide +kernel
theorem d_X6_pass_71 : decode mX6_pass.2.2.1 71 = .ok (.ireturn, 1) := by decide +kernel
theorem d_X6_pass_53 : decode mX6_pass.2.2.1 53 = .ok (.aload_n 0, 1) := by decide +kernel
theorem d_X6_pass_54 : decode mX6_pass.2.2.1 54 = .ok (.iload 5, 2) := by decide +kernel
theorem d_X6_pass_56 : decode mX6_pass.2.2.1 56 = .ok (.iload 4, 2) := by decide +kernel
theorem d_X6_pass_58 : decode mX6_pass.2.2.1 58 = .ok (.if_icmp .ne 7, 3) := by decide +kernel
theorem d_X6_pass_65 : decode mX6_pass.2.2.1 65 = .ok (.iconst 2, 1) := by decide +kernel
theorem d_X6_pass_66 : decode mX6_pass.2.2.1 66 = .ok (.putfield 62, 3) := by decide +kernel
theorem d_X6_pass_61 : decode mX6_pass.2.2.1 61 = .ok (.iconst 1, 1) := by decide +kernel
theorem d_X6_pass_62 : decode mX6_pass.2.2.1 62 = .ok (.goto 4, 3) := by decide +kernel
theorem ok_X6_pass : e_m mX6_pass 3 := ⟨tblG_in (inT5 (List.mem_of_getElem? (i := 41) rfl)) rfl, plainFor_of_name (by decide), rfl, ini_6, by decide +kernel, by decide⟩
def mX6_joined : MD := (6, yX6_joined, cX6_joined, 3, some .int)
theorem d_X6_joined_0 : decode mX6_joined.2.2.1 0 = .ok (.iload_n 0, 1) := by decide +kernel
theorem d_X6_joined_1 : decode mX6_joined.2.2.1 1 = .ok (.tableswitch 163 6 16 #[59, 68, 77, 86, 100, 114, 120, 126, 137, 148, 159], 59) := by decide +kernel
theorem d_X6_joined_164 : decode mX6_joined.2.2.1 164 = .ok (.iload_n 1, 1) := by decide +kernel
theorem d_X6_joined_165 : decode mX6_joined.2.2.1 165 = .ok (.iload_n 2, 1) := by decide +kernel
theorem d_X6_joined_166 : decode mX6_joined.2.2.1 166 = .ok (.ior, 1) := by decide +kernel
theorem d_X6_joined_167 : decode mX6_joined.2.2.1 167 = .ok (.ireturn, 1) := by decide +kernel
theorem d_X6_joined_160 : decode mX6_joined.2.2.1 160 = .ok (.iload_n 1, 1) := by decide +kernel
theorem d_X6_joined_161 : decode mX6_joined.2.2.1 161 = .ok (.iload_n 2, 1) := by decide +kernel
theorem d_X6_joined_162 : decode mX6_joined.2.2.1 162 = .ok (.iand, 1) := by decide +kernel
theorem d_X6_joined_163 : decode mX6_joined.2.2.1 163 = .ok (.ireturn, 1) := by decide +kernel
theorem d_X6_joined_149 : decode mX6_joined.2.2.1 149 = .ok (.iload_n 1, 1) := by decide +kernel
theorem d_X6_joined_150 : decode mX6_joined.2.2.1 150 = .ok (.iload_n 2, 1) := by decide +kernel
theorem d_X6_joined_151 : decode mX6_joined.2.2.1 151 = .ok (.if_icmp .ne 7, 3) := by decide +kernel
theorem d_X6_joined_158 : decode mX6_joined.2.2.1 158 = .ok (.iconst 0, 1) := by decide +kernel
theorem d_X6_joined_159 : decode mX6_joined.2.2.1 159 = .ok (.ireturn, 1) := by decide +kernel
theorem d_X6_joined_154 : decode mX6_joined.2.2.1 154 = .ok (.iconst 1, 1) := by decide +kernel
theorem d_X6_joined_155 : decode mX6_joined.2.2.1 155 = .ok (.goto 4, 3) := by decide +kernel
theorem d_X6_joined_138 : decode mX6_joined.2.2.1 138 = .ok (.iload_n 1, 1) := by decide +kernel
theorem d_X6_joined_139 : decode mX6_joined.2.2.1 139 = .ok (.iload_n 2, 1) := by decide +kernel
theorem d_X6_joined_140 : decode mX6_joined.2.2.1 140 = .ok (.if_icmp .le 7, 3) := by decide +kernel
theorem d_X6_joined_147 : decode mX6_joined.2.2.1 147 = .ok (.iconst 0, 1) := by decide +kernel
theorem d_X6_joined_148 : decode mX6_joined.2.2.1 148 = .ok (.ireturn, 1) := by decide +kernel
theorem d_X6_joined_143 : decode mX6_joined.2.2.1 143 = .ok (.iconst 1, 1) := by decide +kernel
theorem d_X6_joined_144 : decode mX6_joined.2.2.1 144 = .ok (.goto 4, 3) := by decide +kernel
theorem d_X6_joined_127 : decode mX6_joined.2.2.1 127 = .ok (.iload_n 1, 1) := by decide +kernel
theorem d_X6_joined_128 : decode mX6_joined.2.2.1 128 = .ok (.iload_n 2, 1) := by decide +kernel
theorem d_X6_joined_129 : decode mX6_joined.2.2.1 129 = .ok (.if_icmp .ge 7, 3) := by decide +kernel
theorem d_X6_joined_136 : decode mX6_joined.2.2.1 136 = .ok (.iconst 0, 1) := by decide +kernel
theorem d_X6_joined_137 : decode mX6_joined.2.2.1 137 = .ok (.ireturn, 1) := by decide +kernel
theorem d_X6_joined_132 : decode mX6_joined.2.2.1 132 = .ok (.iconst 1, 1) := by decide +kernel
theorem d_X6_joined_133 : decode mX6_joined.2.2.1 133 = .ok (.goto 4, 3) := by decide +kernel
theorem d_X6_joined_121 : decode mX6_joined.2.2.1 121 = .ok (.iload_n 1, 1) := by decide +kernel
theorem d_X6_joined_122 : decode mX6_joined.2.2.1 122 = .ok (.iload_n 2, 1) := by decide +kernel
theorem d_X6_joined_123 : decode mX6_joined.2.2.1 123 = .ok (.invokestatic 119, 3) := by decide +kernel
theorem mw_mmax : Cond.static Lib.Math.max.name ∈ tblG ∧ Cond.initialized "java/lang/Math" ∈ tblG ∧ Cond.code Lib.Math.max.name Lib.Math.max.code 2 (some .int) ∈ tblG := ⟨tblG_in (inT3 (List.mem_of_getElem? (i := 210) rfl)) rfl, tblG_in (inT1 (List.mem_of_getElem? (i := 19) rfl)) rfl, tblG_in (inT3 (List.mem_of_getElem? (i := 211) rfl)) rfl⟩
theorem ml_6_119 : Cond.methodLink (e_cn 6) 119 Lib.Math.max.name ∈ tblG := tblG_in (inT5 (List.mem_of_getElem? (i := 79) rfl)) rfl
theorem d_X6_joined_126 : decode mX6_joined.2.2.1 126 = .ok (.ireturn, 1) := by decide +kernel
theorem d_X6_joined_115 : decode mX6_joined.2.2.1 115 = .ok (.iload_n 1, 1) := by decide +kernel
theorem d_X6_joined_116 : decode mX6_joined.2.2.1 116 = .ok (.iload_n 2, 1) := by decide +kernel
theorem d_X6_joined_117 : decode mX6_joined.2.2.1 117 = .ok (.invokestatic 158, 3) := by decide +kernel
theorem d_X6_joined_120 : decode mX6_joined.2.2.1 120 = .ok (.ireturn, 1) := by decide +kernel
theorem d_X6_joined_101 : decode mX6_joined.2.2.1 101 = .ok (.iload_n 2, 1) := by decide +kernel
theorem d_X6_joined_102 : decode mX6_joined.2.2.1 102 = .ok (.ifCond .ne 7, 3) := by decide +kernel
theorem d_X6_joined_109 : decode mX6_joined.2.2.1 109 = .ok (.iload_n 1, 1) := by decide +kernel
theorem d_X6_joined_110 : decode mX6_joined.2.2.1 110 = .ok (.iload_n 2, 1) := by decide +kernel
theorem d_X6_joined_111 : decode mX6_joined.2.2.1 111 = .ok (.invokestatic 171, 3) := by decide +kernel
def mJ9_floorMod_7cf53 : MD := (15, yJ9_floorMod_7cf53, cJ9_floorMod_7cf53, 3, some .int)
theorem s_6_171 : e_siteS 6 171 mJ9_floorMod_7cf53 := ⟨tblG_in (inT5 (List.mem_of_getElem? (i := 76) rfl)) rfl, tblG_in (inT5 (List.mem_of_getElem? (i := 77) rfl)) rfl⟩
theorem d_J9_floorMod_7cf53_0 : decode mJ9_floorMod_7cf53.2.2.1 0 = .ok (.iload_n 0, 1) := by decide +kernel
theorem d_J9_floorMod_7cf53_1 : decode mJ9_floorMod_7cf53.2.2.1 1 = .ok (.iload_n 1, 1) := by decide +kernel
theorem d_J9_floorMod_7cf53_2 : decode mJ9_floorMod_7cf53.2.2.1 2 = .ok (.irem, 1) := by decide +kernel
theorem d_J9_floorMod_7cf53_3 : decode mJ9_floorMod_7cf53.2.2.1 3 = .ok (.istore_n 2, 1) := by decide +kernel
theorem d_J9_floorMod_7cf53_4 : decode mJ9_floorMod_7cf53.2.2.1 4 = .ok (.iload_n 0, 1) := by decide +kernel
theorem d_J9_floorMod_7cf53_5 : decode mJ9_floorMod_7cf53.2.2.1 5 = .ok (.iload_n 1, 1) := by decide +kernel
theorem d_J9_floorMod_7cf53_6 : decode mJ9_floorMod_7cf53.2.2.1 6 = .ok (.ixor, 1) := by decide +kernel
theorem d_J9_floorMod_7cf53_7 : decode mJ9_floorMod_7cf53.2.2.1 7 = .ok (.ifCond .ge 11, 3) := by decide +kernel
theorem d_J9_floorMod_7cf53_18 : decode mJ9_floorMod_7cf53.2.2.1 18 = .ok (.iload_n 2, 1) := by decide +kernel
theorem d_J9_floorMod_7cf53_19 : decode mJ9_floorMod_7cf53.2.2.1 19 = .ok (.ireturn, 1) := by decide +kernel
theorem d_J9_floorMod_7cf53_10 : decode mJ9_floorMod_7cf53.2.2.1 10 = .ok (.iload_n 2, 1) := by decide +kernel
theorem d_J9_floorMod_7cf53_11 : decode mJ9_floorMod_7cf53.2.2.1 11 = .ok (.ifCond .eq 7, 3) := by decide +kernel
theorem d_J9_floorMod_7cf53_14 : decode mJ9_floorMod_7cf53.2.2.1 14 = .ok (.iload_n 2, 1) := by decide +kernel
theorem d_J9_floorMod_7cf53_15 : decode mJ9_floorMod_7cf53.2.2.1 15 = .ok (.iload_n 1, 1) := by decide +kernel
theorem d_J9_floorMod_7cf53_16 : decode mJ9_floorMod_7cf53.2.2.1 16 = .ok (.iadd, 1) := by decide +kernel
theorem d_J9_floorMod_7cf53_17 : decode mJ9_floorMod_7cf53.2.2.1 17 = .ok (.ireturn, 1) := by decide +kernel
theorem ini_15 : Cond.initialized "java/lang/Math" ∈ tblG := tblG_in (inT1 (List.mem_of_getElem? (i := 19) rfl)) rfl
theorem ok_J9_floorMod_7cf53 : e_m mJ9_floorMod_7cf53 2 := ⟨tblG_in (inT5 (List.mem_of_getElem? (i := 78) rfl)) rfl, by decide +kernel, rfl, ini_15, by decide +kernel, by decide⟩
theorem d_X6_joined_114 : decode mX6_joined.2.2.1 114 = .ok (.ireturn, 1) := by decide +kernel
theorem d_X6_joined_105 : decode mX6_joined.2.2.1 105 = .ok (.iconst 0, 1) := by decide +kernel
theorem d_X6_joined_106 : decode mX6_joined.2.2.1 106 = .ok (.goto 8, 3) := by decide +kernel
theorem d_X6_joined_87 : decode mX6_joined.2.2.1 87 = .ok (.iload_n 2, 1) := by decide +kernel
theorem d_X6_joined_88 : decode mX6_joined.2.2.1 88 = .ok (.ifCond .ne 7, 3) := by decide +kernel
theorem d_X6_joined_95 : decode mX6_joined.2.2.1 95 = .ok (.iload_n 1, 1) := by decide +kernel
theorem d_X6_joined_96 : decode mX6_joined.2.2.1 96 = .ok (.iload_n 2, 1) := by decide +kernel
theorem d_X6_joined_97 : decode mX6_joined.2.2.1 97 = .ok (.invokestatic 245, 3) := by decide +kernel
def mJ9_floorDiv_7cf53 : MD := (15, yJ9_floorDiv_7cf53, cJ9_floorDiv_7cf53, 3, some .int)
theorem s_6_245 : e_siteS 6 245 mJ9_floorDiv_7cf53 := ⟨tblG_in (inT5 (List.mem_of_getElem? (i := 73) rfl)) rfl, tblG_in (inT5 (List.mem_of_getElem? (i := 74) rfl)) rfl⟩
theorem d_J9_floorDiv_7cf53_0 : decode mJ9_floorDiv_7cf53.2.2.1 0 = .ok (.iload_n 0, 1) := by decide +kernel
theorem d_J9_floorDiv_7cf53_1 : decode mJ9_floorDiv_7cf53.2.2.1 1 = .ok (.iload_n 1, 1) := by decide +kernel
theorem d_J9_floorDiv_7cf53_2 : decode mJ9_floorDiv_7cf53.2.2.1 2 = .ok (.idiv, 1) := by decide +kernel
theorem d_J9_floorDiv_7cf53_3 : decode mJ9_floorDiv_7cf53.2.2.1 3 = .ok (.istore_n 2, 1) := by decide +kernel
theorem d_J9_floorDiv_7cf53_4 : decode mJ9_floorDiv_7cf53.2.2.1 4 = .ok (.iload_n 0, 1) := by decide +kernel
theorem d_J9_floorDiv_7cf53_5 : decode mJ9_floorDiv_7cf53.2.2.1 5 = .ok (.iload_n 1, 1) := by decide +kernel
theorem d_J9_floorDiv_7cf53_6 : decode mJ9_floorDiv_7cf53.2.2.1 6 = .ok (.ixor, 1) := by decide +kernel
theorem d_J9_floorDiv_7cf53_7 : decode mJ9_floorDiv_7cf53.2.2.1 7 = .ok (.ifCond .ge 14, 3) := by decide +kernel
theorem d_J9_floorDiv_7cf53_21 : decode mJ9_floorDiv_7cf53.2.2.1 21 = .ok (.iload_n 2, 1) := by decide +kernel
theorem d_J9_floorDiv_7cf53_22 : decode mJ9_floorDiv_7cf53.2.2.1 22 = .ok (.ireturn, 1) := by decide +kernel
theorem d_J9_floorDiv_7cf53_10 : decode mJ9_floorDiv_7cf53.2.2.1 10 = .ok (.iload_n 2, 1) := by decide +kernel
theorem d_J9_floorDiv_7cf53_11 : decode mJ9_floorDiv_7cf53.2.2.1 11 = .ok (.iload_n 1, 1) := by decide +kernel
theorem d_J9_floorDiv_7cf53_12 : decode mJ9_floorDiv_7cf53.2.2.1 12 = .ok (.imul, 1) := by decide +kernel
theorem d_J9_floorDiv_7cf53_13 : decode mJ9_floorDiv_7cf53.2.2.1 13 = .ok (.iload_n 0, 1) := by decide +kernel
theorem d_J9_floorDiv_7cf53_14 : decode mJ9_floorDiv_7cf53.2.2.1 14 = .ok (.if_icmp .eq 7, 3) := by decide +kernel
theorem d_J9_floorDiv_7cf53_17 : decode mJ9_floorDiv_7cf53.2.2.1 17 = .ok (.iload_n 2, 1) := by decide +kernel
theorem d_J9_floorDiv_7cf53_18 : decode mJ9_floorDiv_7cf53.2.2.1 18 = .ok (.iconst 1, 1) := by decide +kernel
theorem d_J9_floorDiv_7cf53_19 : decode mJ9_floorDiv_7cf53.2.2.1 19 = .ok (.isub, 1) := by decide +kernel
theorem d_J9_floorDiv_7cf53_20 : decode mJ9_floorDiv_7cf53.2.2.1 20 = .ok (.ireturn, 1) := by decide +kernel
theorem ok_J9_floorDiv_7cf53 : e_m mJ9_floorDiv_7cf53 2 := ⟨tblG_in (inT5 (List.mem_of_getElem? (i := 75) rfl)) rfl, by decide +kernel, rfl, ini_15, by decide +kernel, by decide⟩
theorem d_X6_joined_100 : decode mX6_joined.2.2.1 100 = .ok (.ireturn, 1) := by decide +kernel
theorem d_X6_joined_91 : decode mX6_joined.2.2.1 91 = .ok (.iconst 0, 1) := by decide +kernel
theorem d_X6_joined_92 : decode mX6_joined.2.2.1 92 = .ok (.goto 8, 3) := by decide +kernel
theorem d_X6_joined_78 : decode mX6_joined.2.2.1 78 = .ok (.iload_n 1, 1) := by decide +kernel
theorem d_X6_joined_79 : decode mX6_joined.2.2.1 79 = .ok (.i2l, 1) := by decide +kernel
theorem d_X6_joined_80 : decode mX6_joined.2.2.1 80 = .ok (.iload_n 2, 1) := by decide +kernel
theorem d_X6_joined_81 : decode mX6_joined.2.2.1 81 = .ok (.i2l, 1) := by decide +kernel
theorem d_X6_joined_82 : decode mX6_joined.2.2.1 82 = .ok (.lmul, 1) := by decide +kernel
theorem d_X6_joined_83 : decode mX6_joined.2.2.1 83 = .ok (.invokestatic 241, 3) := by decide +kernel
def mX6_bounded : MD := (6, yX6_bounded, cX6_bounded, 2, some .int)
theorem s_6_241 : e_siteS 6 241 mX6_bounded := ⟨tblG_in (inT5 (List.mem_of_getElem? (i := 62) rfl)) rfl, tblG_in (inT5 (List.mem_of_getElem? (i := 63) rfl)) rfl⟩
theorem d_X6_bounded_0 : decode mX6_bounded.2.2.1 0 = .ok (.lload_n 0, 1) := by decide +kernel
theorem d_X6_bounded_1 : decode mX6_bounded.2.2.1 1 = .ok (.ldc2_w 248, 3) := by decide +kernel
theorem kl_6_248 : Jvm.Cond.constantLong (e_cn 6) 248 (Int64.ofInt (-1000000)) ∈ tblG := tblG_in (inT5 (List.mem_of_getElem? (i := 65) rfl)) rfl
theorem d_X6_bounded_4 : decode mX6_bounded.2.2.1 4 = .ok (.invokestatic 250, 3) := by decide +kernel
theorem mw_mmaxL : Cond.static Lib.MathLoose.max_long.x ∈ tblG ∧ Cond.initialized "java/lang/Math" ∈ tblG ∧ Cond.code Lib.MathLoose.max_long.x Lib.MathLoose.max_long.code 4 (some .long) ∈ tblG := ⟨tblG_in (inT5 (List.mem_of_getElem? (i := 67) rfl)) rfl, tblG_in (inT1 (List.mem_of_getElem? (i := 19) rfl)) rfl, tblG_in (inT5 (List.mem_of_getElem? (i := 68) rfl)) rfl⟩
theorem ml_6_250 : Cond.methodLink (e_cn 6) 250 Lib.MathLoose.max_long.x ∈ tblG := tblG_in (inT5 (List.mem_of_getElem? (i := 66) rfl)) rfl
theorem d_X6_bounded_7 : decode mX6_bounded.2.2.1 7 = .ok (.ldc2_w 253, 3) := by decide +kernel
theorem kl_6_253 : Jvm.Cond.constantLong (e_cn 6) 253 (Int64.ofInt 1000000) ∈ tblG := tblG_in (inT5 (List.mem_of_getElem? (i := 69) rfl)) rfl
theorem d_X6_bounded_10 : decode mX6_bounded.2.2.1 10 = .ok (.invokestatic 255, 3) := by decide +kernel
theorem mw_mminL : Cond.static Lib.MathLoose.min_long.x ∈ tblG ∧ Cond.initialized "java/lang/Math" ∈ tblG ∧ Cond.code Lib.MathLoose.min_long.x Lib.MathLoose.min_long.code 4 (some .long) ∈ tblG := ⟨tblG_in (inT5 (List.mem_of_getElem? (i := 71) rfl)) rfl, tblG_in (inT1 (List.mem_of_getElem? (i := 19) rfl)) rfl, tblG_in (inT5 (List.mem_of_getElem? (i := 72) rfl)) rfl⟩
theorem ml_6_255 : Cond.methodLink (e_cn 6) 255 Lib.MathLoose.min_long.x ∈ tblG := tblG_in (inT5 (List.mem_of_getElem? (i := 70) rfl)) rfl
theorem d_X6_bounded_13 : decode mX6_bounded.2.2.1 13 = .ok (.l2i, 1) := by decide +kernel
