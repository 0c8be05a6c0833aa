theorem d_X6_single_55 : decode mX6_single.2.2.1 55 = .ok (.iload_n 2, 1) := by decide +kernel
theorem d_X6_single_56 : decode mX6_single.2.2.1 56 = .ok (.iaload, 1) := by decide +kernel
theorem d_X6_single_57 : decode mX6_single.2.2.1 57 = .ok (.ireturn, 1) := by decide +kernel
theorem d_X6_single_46 : decode mX6_single.2.2.1 46 = .ok (.aload_n 0, 1) := by decide +kernel
theorem d_X6_single_47 : decode mX6_single.2.2.1 47 = .ok (.getfield 68, 3) := by decide +kernel
theorem d_X6_single_50 : decode mX6_single.2.2.1 50 = .ok (.ireturn, 1) := by decide +kernel
theorem d_X6_single_39 : decode mX6_single.2.2.1 39 = .ok (.aload_n 0, 1) := by decide +kernel
theorem d_X6_single_40 : decode mX6_single.2.2.1 40 = .ok (.getfield 15, 3) := by decide +kernel
theorem d_X6_single_43 : decode mX6_single.2.2.1 43 = .ok (.iload_n 2, 1) := by decide +kernel
theorem d_X6_single_44 : decode mX6_single.2.2.1 44 = .ok (.iaload, 1) := by decide +kernel
theorem d_X6_single_45 : decode mX6_single.2.2.1 45 = .ok (.ireturn, 1) := by decide +kernel
theorem d_X6_single_32 : decode mX6_single.2.2.1 32 = .ok (.aload_n 0, 1) := by decide +kernel
theorem d_X6_single_33 : decode mX6_single.2.2.1 33 = .ok (.getfield 9, 3) := by decide +kernel
theorem d_X6_single_36 : decode mX6_single.2.2.1 36 = .ok (.iload_n 2, 1) := by decide +kernel
theorem d_X6_single_37 : decode mX6_single.2.2.1 37 = .ok (.iaload, 1) := by decide +kernel
theorem d_X6_single_38 : decode mX6_single.2.2.1 38 = .ok (.ireturn, 1) := by decide +kernel
theorem ok_X6_single : e_m mX6_single 2 := ⟨tblG_in (inT5 (List.mem_of_getElem? (i := 58) rfl)) rfl, plainFor_of_name (by decide), rfl, ini_6, by decide +kernel, by decide⟩
theorem d_X6_worked_72 : decode mX6_worked.2.2.1 72 = .ok (.iastore, 1) := by decide +kernel
theorem d_X6_worked_73 : decode mX6_worked.2.2.1 73 = .ok (.iinc 3 1, 3) := by decide +kernel
theorem d_X6_worked_76 : decode mX6_worked.2.2.1 76 = .ok (.goto 74, 3) := by decide +kernel
theorem d_X6_worked_150 : decode mX6_worked.2.2.1 150 = .ok (.iinc 4 1, 3) := by decide +kernel
theorem d_X6_worked_153 : decode mX6_worked.2.2.1 153 = .ok (.goto (-135), 3) := by decide +kernel
theorem d_X6_worked_161 : decode mX6_worked.2.2.1 161 = .ok (.aload_n 0, 1) := by decide +kernel
theorem d_X6_worked_162 : decode mX6_worked.2.2.1 162 = .ok (.getfield 18, 3) := by decide +kernel
theorem d_X6_worked_165 : decode mX6_worked.2.2.1 165 = .ok (.iconst 0, 1) := by decide +kernel
theorem d_X6_worked_166 : decode mX6_worked.2.2.1 166 = .ok (.iaload, 1) := by decide +kernel
theorem d_X6_worked_167 : decode mX6_worked.2.2.1 167 = .ok (.goto 4, 3) := by decide +kernel
theorem d_X6_worked_92 : decode mX6_worked.2.2.1 92 = .ok (.aload_n 0, 1) := by decide +kernel
theorem d_X6_worked_93 : decode mX6_worked.2.2.1 93 = .ok (.getfield 18, 3) := by decide +kernel
theorem d_X6_worked_96 : decode mX6_worked.2.2.1 96 = .ok (.iload_n 3, 1) := by decide +kernel
theorem d_X6_worked_97 : decode mX6_worked.2.2.1 97 = .ok (.iconst 1, 1) := by decide +kernel
theorem d_X6_worked_98 : decode mX6_worked.2.2.1 98 = .ok (.isub, 1) := by decide +kernel
theorem d_X6_worked_99 : decode mX6_worked.2.2.1 99 = .ok (.iconst 1, 1) := by decide +kernel
theorem d_X6_worked_100 : decode mX6_worked.2.2.1 100 = .ok (.aload_n 0, 1) := by decide +kernel
theorem d_X6_worked_101 : decode mX6_worked.2.2.1 101 = .ok (.getfield 18, 3) := by decide +kernel
theorem d_X6_worked_104 : decode mX6_worked.2.2.1 104 = .ok (.iload_n 3, 1) := by decide +kernel
theorem d_X6_worked_105 : decode mX6_worked.2.2.1 105 = .ok (.iconst 1, 1) := by decide +kernel
theorem d_X6_worked_106 : decode mX6_worked.2.2.1 106 = .ok (.isub, 1) := by decide +kernel
theorem d_X6_worked_107 : decode mX6_worked.2.2.1 107 = .ok (.iaload, 1) := by decide +kernel
theorem d_X6_worked_108 : decode mX6_worked.2.2.1 108 = .ok (.isub, 1) := by decide +kernel
theorem d_X6_worked_109 : decode mX6_worked.2.2.1 109 = .ok (.iastore, 1) := by decide +kernel
theorem d_X6_worked_110 : decode mX6_worked.2.2.1 110 = .ok (.goto 40, 3) := by decide +kernel
theorem d_X6_worked_120 : decode mX6_worked.2.2.1 120 = .ok (.iinc 3 (-1), 3) := by decide +kernel
theorem d_X6_worked_123 : decode mX6_worked.2.2.1 123 = .ok (.aload_n 0, 1) := by decide +kernel
theorem d_X6_worked_124 : decode mX6_worked.2.2.1 124 = .ok (.getfield 18, 3) := by decide +kernel
theorem d_X6_worked_127 : decode mX6_worked.2.2.1 127 = .ok (.iload_n 3, 1) := by decide +kernel
theorem d_X6_worked_128 : decode mX6_worked.2.2.1 128 = .ok (.iconst 1, 1) := by decide +kernel
theorem d_X6_worked_129 : decode mX6_worked.2.2.1 129 = .ok (.isub, 1) := by decide +kernel
theorem d_X6_worked_130 : decode mX6_worked.2.2.1 130 = .ok (.iload 5, 2) := by decide +kernel
theorem d_X6_worked_132 : decode mX6_worked.2.2.1 132 = .ok (.aload_n 0, 1) := by decide +kernel
theorem d_X6_worked_133 : decode mX6_worked.2.2.1 133 = .ok (.getfield 18, 3) := by decide +kernel
theorem d_X6_worked_136 : decode mX6_worked.2.2.1 136 = .ok (.iload_n 3, 1) := by decide +kernel
theorem d_X6_worked_137 : decode mX6_worked.2.2.1 137 = .ok (.iconst 1, 1) := by decide +kernel
theorem d_X6_worked_138 : decode mX6_worked.2.2.1 138 = .ok (.isub, 1) := by decide +kernel
theorem d_X6_worked_139 : decode mX6_worked.2.2.1 139 = .ok (.iaload, 1) := by decide +kernel
theorem d_X6_worked_140 : decode mX6_worked.2.2.1 140 = .ok (.aload_n 0, 1) := by decide +kernel
theorem d_X6_worked_141 : decode mX6_worked.2.2.1 141 = .ok (.getfield 18, 3) := by decide +kernel
theorem d_X6_worked_144 : decode mX6_worked.2.2.1 144 = .ok (.iload_n 3, 1) := by decide +kernel
theorem d_X6_worked_145 : decode mX6_worked.2.2.1 145 = .ok (.iaload, 1) := by decide +kernel
theorem d_X6_worked_146 : decode mX6_worked.2.2.1 146 = .ok (.invokestatic 238, 3) := by decide +kernel
def mX6_joined : MD := (6, yX6_joined, cX6_joined, 3, some .int)
theorem s_6_238 : e_siteS 6 238 mX6_joined := ⟨tblG_in (inT5 (List.mem_of_getElem? (i := 59) rfl)) rfl, tblG_in (inT5 (List.mem_of_getElem? (i := 60) rfl)) rfl⟩
theorem d_X6_joined_0 : decode mX6_joined.2.2.1 0 = .ok (.iload_n 0, 1) := by decide +kernel
theorem d_X6_joined_1 : decode mX6_joined.2.2.1 1 = .ok (.tableswitch 163 6 16 #[59, 68, 77, 86, 100, 114, 120, 126, 137, 148, 159], 59) := by decide +kernel
theorem d_X6_joined_164 : decode mX6_joined.2.2.1 164 = .ok (.iload_n 1, 1) := by decide +kernel
theorem d_X6_joined_165 : decode mX6_joined.2.2.1 165 = .ok (.iload_n 2, 1) := by decide +kernel
theorem d_X6_joined_166 : decode mX6_joined.2.2.1 166 = .ok (.ior, 1) := by decide +kernel
theorem d_X6_joined_167 : decode mX6_joined.2.2.1 167 = .ok (.ireturn, 1) := by decide +kernel
theorem d_X6_joined_160 : decode mX6_joined.2.2.1 160 = .ok (.iload_n 1, 1) := by decide +kernel
theorem d_X6_joined_161 : decode mX6_joined.2.2.1 161 = .ok (.iload_n 2, 1) := by decide +kernel
theorem d_X6_joined_162 : decode mX6_joined.2.2.1 162 = .ok (.iand, 1) := by decide +kernel
theorem d_X6_joined_163 : decode mX6_joined.2.2.1 163 = .ok (.ireturn, 1) := by decide +kernel
theorem d_X6_joined_149 : decode mX6_joined.2.2.1 149 = .ok (.iload_n 1, 1) := by decide +kernel
theorem d_X6_joined_150 : decode mX6_joined.2.2.1 150 = .ok (.iload_n 2, 1) := by decide +kernel
theorem d_X6_joined_151 : decode mX6_joined.2.2.1 151 = .ok (.if_icmp .ne 7, 3) := by decide +kernel
theorem d_X6_joined_158 : decode mX6_joined.2.2.1 158 = .ok (.iconst 0, 1) := by decide +kernel
theorem d_X6_joined_159 : decode mX6_joined.2.2.1 159 = .ok (.ireturn, 1) := by decide +kernel
theorem d_X6_joined_154 : decode mX6_joined.2.2.1 154 = .ok (.iconst 1, 1) := by decide +kernel
theorem d_X6_joined_155 : decode mX6_joined.2.2.1 155 = .ok (.goto 4, 3) := by decide +kernel
theorem d_X6_joined_138 : decode mX6_joined.2.2.1 138 = .ok (.iload_n 1, 1) := by decide +kernel
theorem d_X6_joined_139 : decode mX6_joined.2.2.1 139 = .ok (.iload_n 2, 1) := by decide +kernel
theorem d_X6_joined_140 : decode mX6_joined.2.2.1 140 = .ok (.if_icmp .le 7, 3) := by decide +kernel
theorem d_X6_joined_147 : decode mX6_joined.2.2.1 147 = .ok (.iconst 0, 1) := by decide +kernel
theorem d_X6_joined_148 : decode mX6_joined.2.2.1 148 = .ok (.ireturn, 1) := by decide +kernel
theorem d_X6_joined_143 : decode mX6_joined.2.2.1 143 = .ok (.iconst 1, 1) := by decide +kernel
theorem d_X6_joined_144 : decode mX6_joined.2.2.1 144 = .ok (.goto 4, 3) := by decide +kernel
theorem d_X6_joined_127 : decode mX6_joined.2.2.1 127 = .ok (.iload_n 1, 1) := by decide +kernel
theorem d_X6_joined_128 : decode mX6_joined.2.2.1 128 = .ok (.iload_n 2, 1) := by decide +kernel
theorem d_X6_joined_129 : decode mX6_joined.2.2.1 129 = .ok (.if_icmp .ge 7, 3) := by decide +kernel
theorem d_X6_joined_136 : decode mX6_joined.2.2.1 136 = .ok (.iconst 0, 1) := by decide +kernel
theorem d_X6_joined_137 : decode mX6_joined.2.2.1 137 = .ok (.ireturn, 1) := by decide +kernel
theorem d_X6_joined_132 : decode mX6_joined.2.2.1 132 = .ok (.iconst 1, 1) := by decide +kernel
theorem d_X6_joined_133 : decode mX6_joined.2.2.1 133 = .ok (.goto 4, 3) := by decide +kernel
theorem d_X6_joined_121 : decode mX6_joined.2.2.1 121 = .ok (.iload_n 1, 1) := by decide +kernel
theorem d_X6_joined_122 : decode mX6_joined.2.2.1 122 = .ok (.iload_n 2, 1) := by decide +kernel
theorem d_X6_joined_123 : decode mX6_joined.2.2.1 123 = .ok (.invokestatic 119, 3) := by decide +kernel
theorem mw_mmax : Cond.static Lib.Math.max.name ∈ tblG ∧ Cond.initialized "java/lang/Math" ∈ tblG ∧ Cond.code Lib.Math.max.name Lib.Math.max.code 2 (some .int) ∈ tblG := ⟨tblG_in (inT3 (List.mem_of_getElem? (i := 210) rfl)) rfl, tblG_in (inT1 (List.mem_of_getElem? (i := 19) rfl)) rfl, tblG_in (inT3 (List.mem_of_getElem? (i := 211) rfl)) rfl⟩
theorem ml_6_119 : Cond.methodLink (e_cn 6) 119 Lib.Math.max.name ∈ tblG := tblG_in (inT5 (List.mem_of_getElem? (i := 79) rfl)) rfl
theorem d_X6_joined_126 : decode mX6_joined.2.2.1 126 = .ok (.ireturn, 1) := by decide +kernel
theorem d_X6_joined_115 : decode mX6_joined.2.2.1 115 = .ok (.iload_n 1, 1) := by decide +kernel
theorem d_X6_joined_116 : decode mX6_joined.2.2.1 116 = .ok (.iload_n 2, 1) := by decide +kernel
theorem d_X6_joined_117 : decode mX6_joined.2.2.1 117 = .ok (.invokestatic 158, 3) := by decide +kernel
theorem d_X6_joined_120 : decode mX6_joined.2.2.1 120 = .ok (.ireturn, 1) := by decide +kernel
theorem d_X6_joined_101 : decode mX6_joined.2.2.1 101 = .ok (.iload_n 2, 1) := by decide +kernel
theorem d_X6_joined_102 : decode mX6_joined.2.2.1 102 = .ok (.ifCond .ne 7, 3) := by decide +kernel
theorem d_X6_joined_109 : decode mX6_joined.2.2.1 109 = .ok (.iload_n 1, 1) := by decide +kernel
theorem d_X6_joined_110 : decode mX6_joined.2.2.1 110 = .ok (.iload_n 2, 1) := by decide +kernel
theorem d_X6_joined_111 : decode mX6_joined.2.2.1 111 = .ok (.invokestatic 171, 3) := by decide +kernel
def mJ9_floorMod_7cf53 : MD := (15, yJ9_floorMod_7cf53, cJ9_floorMod_7cf53, 3, some .int)
theorem s_6_171 : e_siteS 6 171 mJ9_floorMod_7cf53 := ⟨tblG_in (inT5 (List.mem_of_getElem? (i := 76) rfl)) rfl, tblG_in (inT5 (List.mem_of_getElem? (i := 77) rfl)) rfl⟩
theorem d_J9_floorMod_7cf53_0 : decode mJ9_floorMod_7cf53.2.2.1 0 = .ok (.iload_n 0, 1) := by decide +kernel
theorem d_J9_floorMod_7cf53_1 : decode mJ9_floorMod_7cf53.2.2.1 1 = .ok (.iload_n 1, 1) := by decide +kernel
theorem d_J9_floorMod_7cf53_2 : decode mJ9_floorMod_7cf53.2.2.1 2 = .ok (.irem, 1) := by decide +kernel
theorem d_J9_floorMod_7cf53_3 : decode mJ9_floorMod_7cf53.2.2.1 3 = .ok (.istore_n 2, 1) := by decide +kernel
theorem d_J9_floorMod_7cf53_4 : decode mJ9_floorMod_7cf53.2.2.1 4 = .ok (.iload_n 0, 1) := by decide +kernel
theorem d_J9_floorMod_7cf53_5 : decode mJ9_floorMod_7cf53.2.2.1 5 = .ok (.iload_n 1, 1) := by decide +kernel
theorem d_J9_floorMod_7cf53_6 : decode mJ9_floorMod_7cf53.2.2.1 6 = .ok (.ixor, 1) := by decide +kernel
theorem d_J9_floorMod_7cf53_7 : decode mJ9_floorMod_7cf53.2.2.1 7 = .ok (.ifCond .ge 11, 3) := by decide +kernel
theorem d_J9_floorMod_7cf53_18 : decode mJ9_floorMod_7cf53.2.2.1 18 = .ok (.iload_n 2, 1) := by decide +kernel
theorem d_J9_floorMod_7cf53_19 : decode mJ9_floorMod_7cf53.2.2.1 19 = .ok (.ireturn, 1) := by decide +kernel
theorem d_J9_floorMod_7cf53_10 : decode mJ9_floorMod_7cf53.2.2.1 10 = .ok (.iload_n 2, 1) := by decide +kernel
theorem d_J9_floorMod_7cf53_11 : decode mJ9_floorMod_7cf53.2.2.1 11 = .ok (.ifCond .eq 7, 3) := by decide +kernel
theorem d_J9_floorMod_7cf53_14 : decode mJ9_floorMod_7cf53.2.2.1 14 = .ok (.iload_n 2, 1) := by decide +kernel
theorem d_J9_floorMod_7cf53_15 : decode mJ9_floorMod_7cf53.2.2.1 15 = .ok (.iload_n 1, 1) := by decide +kernel
theorem d_J9_floorMod_7cf53_16 : decode mJ9_floorMod_7cf53.2.2.1 16 = .ok (.iadd, 1) := by decide +kernel
theorem d_J9_floorMod_7cf53_17 : decode mJ9_floorMod_7cf53.2.2.1 17 = .ok (.ireturn, 1) := by decide +kernel
theorem ini_15 : Cond.initialized "java/lang/Math" ∈ tblG := tblG_in (inT1 (List.mem_of_getElem? (i := 19) rfl)) rfl
theorem ok_J9_floorMod_7cf53 : e_m mJ9_floorMod_7cf53 2 := ⟨tblG_in (inT5 (List.mem_of_getElem? (i := 78) rfl)) rfl, by decide +kernel, rfl, ini_15, by decide +kernel, by decide⟩
theorem d_X6_joined_114 : decode mX6_joined.2.2.1 114 = .ok (.ireturn, 1) := by decide +kernel
theorem d_X6_joined_105 : decode mX6_joined.2.2.1 105 = .ok (.iconst 0, 1) := by decide +kernel
theorem d_X6_joined_106 : decode mX6_joined.2.2.1 106 = .ok (.goto 8, 3) := by decide +kernel
theorem d_X6_joined_87 : decode mX6_joined.2.2.1 87 = .ok (.iload_n 2, 1) := by decide +kernel
theorem d_X6_joined_88 : decode mX6_joined.2.2.1 88 = .ok (.ifCond .ne 7, 3) := by decide +kernel
theorem d_X6_joined_95 : decode mX6_joined.2.2.1 95 = .ok (.iload_n 1, 1) := by decide +kernel
theorem d_X6_joined_96 : decode mX6_joined.2.2.1 96 = .ok (.iload_n 2, 1) := by decide +kernel
theorem d_X6_joined_97 : decode mX6_joined.2.2.1 97 = .ok (.invokestatic 245, 3) := by decide +kernel
def mJ9_floorDiv_7cf53 : MD := (15, yJ9_floorDiv_7cf53, cJ9_floorDiv_7cf53, 3, some .int)
theorem s_6_245 : e_siteS 6 245 mJ9_floorDiv_7cf53 := ⟨tblG_in (inT5 (List.mem_of_getElem? (i := 73) rfl)) rfl, tblG_in (inT5 (List.mem_of_getElem? (i := 74) rfl)) rfl⟩
theorem d_J9_floorDiv_7cf53_0 : decode mJ9_floorDiv_7cf53.2.2.1 0 = .ok (.iload_n 0, 1) := by decide +kernel
theorem d_J9_floorDiv_7cf53_1 : decode mJ9_floorDiv_7cf53.2.2.1 1 = .ok (.iload_n 1, 1) := by decide +kernel
theorem d_J9_floorDiv_7cf53_2 : decode mJ9_floorDiv_7cf53.2.2.1 2 = .ok (.idiv, 1) := by decide +kernel
theorem d_J9_floorDiv_7cf53_3 : decode mJ9_floorDiv_7cf53.2.2.1 3 = .ok (.istore_n 2, 1) := by decide +kernel
theorem d_J9_floorDiv_7cf53_4 : decode mJ9_floorDiv_7cf53.2.2.1 4 = .ok (.iload_n 0, 1) := by decide +kernel
theorem d_J9_floorDiv_7cf53_5 : decode mJ9_floorDiv_7cf53.2.2.1 5 = .ok (.iload_n 1, 1) := by decide +kernel
theorem d_J9_floorDiv_7cf53_6 : decode mJ9_floorDiv_7cf53.2.2.1 6 = .ok (.ixor, 1) := by decide +kernel
theorem d_J9_floorDiv_7cf53_7 : decode mJ9_floorDiv_7cf53.2.2.1 7 = .ok (.ifCond .ge 14, 3) := by decide +kernel
theorem d_J9_floorDiv_7cf53_21 : decode mJ9_floorDiv_7cf53.2.2.1 21 = .ok (.iload_n 2, 1) := by decide +kernel
theorem d_J9_floorDiv_7cf53_22 : decode mJ9_floorDiv_7cf53.2.2.1 22 = .ok (.ireturn, 1) := by decide +kernel
theorem d_J9_floorDiv_7cf53_10 : decode mJ9_floorDiv_7cf53.2.2.1 10 = .ok (.iload_n 2, 1) := by decide +kernel
theorem d_J9_floorDiv_7cf53_11 : decode mJ9_floorDiv_7cf53.2.2.1 11 = .ok (.iload_n 1, 1) := by decide +kernel
theorem d_J9_floorDiv_7cf53_12 : decode mJ9_floorDiv_7cf53.2.2.1 12 = .ok (.imul, 1) := by decide +kernel
theorem d_J9_floorDiv_7cf53_13 : decode mJ9_floorDiv_7cf53.2.2.1 13 = .ok (.iload_n 0, 1) := by decide +kernel
theorem d_J9_floorDiv_7cf53_14 : decode mJ9_floorDiv_7cf53.2.2.1 14 = .ok (.if_icmp .eq 7, 3) := by decide +kernel
theorem d_J9_floorDiv_7cf53_17 : decode mJ9_floorDiv_7cf53.2.2.1 17 = .ok (.iload_n 2, 1) := by decide +kernel
theorem d_J9_floorDiv_7cf53_18 : decode mJ9_floorDiv_7cf53.2.2.1 18 = .ok (.iconst 1, 1) := by decide +kernel
theorem d_J9_floorDiv_7cf53_19 : decode mJ9_floorDiv_7cf53.2.2.1 19 = .ok (.isub, 1) := by decide +kernel
theorem d_J9_floorDiv_7cf53_20 : decode mJ9_floorDiv_7cf53.2.2.1 20 = .ok (.ireturn, 1) := by decide +kernel
theorem ok_J9_floorDiv_7cf53 : e_m mJ9_floorDiv_7cf53 2 := ⟨tblG_in (inT5 (List.mem_of_getElem? (i := 75) rfl)) rfl, by decide +kernel, rfl, ini_15, by decide +kernel, by decide⟩
theorem d_X6_joined_100 : decode mX6_joined.2.2.1 100 = .ok (.ireturn, 1) := by decide +kernel
theorem d_X6_joined_91 : decode mX6_joined.2.2.1 91 = .ok (.iconst 0, 1) := by decide +kernel
theorem d_X6_joined_92 : decode mX6_joined.2.2.1 92 = .ok (.goto 8, 3) := by decide +kernel
theorem d_X6_joined_78 : decode mX6_joined.2.2.1 78 = .ok (.iload_n 1, 1) := by decide +kernel
theorem d_X6_joined_79 : decode mX6_joined.2.2.1 79 = .ok (.i2l, 1) := by decide +kernel
theorem d_X6_joined_80 : decode mX6_joined.2.2.1 80 = .ok (.iload_n 2, 1) := by decide +kernel
theorem d_X6_joined_81 : decode mX6_joined.2.2.1 81 = .ok (.i2l, 1) := by decide +kernel
theorem d_X6_joined_82 : decode mX6_joined.2.2.1 82 = .ok (.lmul, 1) := by decide +kernel
theorem d_X6_joined_83 : decode mX6_joined.2.2.1 83 = .ok (.invokestatic 241, 3) := by decide +kernel
def mX6_bounded : MD := (6, yX6_bounded, cX6_bounded, 2, some .int)
theorem s_6_241 : e_siteS 6 241 mX6_bounded := ⟨tblG_in (inT5 (List.mem_of_getElem? (i := 62) rfl)) rfl, tblG_in (inT5 (List.mem_of_getElem? (i := 63) rfl)) rfl⟩
theorem d_X6_bounded_0 : decode mX6_bounded.2.2.1 0 = .ok (.lload_n 0, 1) := by decide +kernel
theorem d_X6_bounded_1 : decode mX6_bounded.2.2.1 1 = .ok (.ldc2_w 248, 3) := by decide +kernel
theorem kl_6_248 : Jvm.Cond.constantLong (e_cn 6) 248 (Int64.ofInt (-1000000)) ∈ tblG := tblG_in (inT5 (List.mem_of_getElem? (i := 65) rfl)) rfl
theorem d_X6_bounded_4 : decode mX6_bounded.2.2.1 4 = .ok (.invokestatic 250, 3) := by decide +kernel
theorem mw_mmaxL : Cond.static Lib.MathLoose.max_long.x ∈ tblG ∧ Cond.initialized "java/lang/Math" ∈ tblG ∧ Cond.code Lib.MathLoose.max_long.x Lib.MathLoose.max_long.code 4 (some .long) ∈ tblG := ⟨tblG_in (inT5 (List.mem_of_getElem? (i := 67) rfl)) rfl, tblG_in (inT1 (List.mem_of_getElem? (i := 19) rfl)) rfl, tblG_in (inT5 (List.mem_of_getElem? (i := 68) rfl)) rfl⟩
theorem ml_6_250 : Cond.methodLink (e_cn 6) 250 Lib.MathLoose.max_long.x ∈ tblG := tblG_in (inT5 (List.mem_of_getElem? (i := 66) rfl)) rfl
theorem d_X6_bounded_7 : decode mX6_bounded.2.2.1 7 = .ok (.ldc2_w 253, 3) := by decide +kernel
theorem kl_6_253 : Jvm.Cond.constantLong (e_cn 6) 253 (Int64.ofInt 1000000) ∈ tblG := tblG_in (inT5 (List.mem_of_getElem? (i := 69) rfl)) rfl
theorem d_X6_bounded_10 : decode mX6_bounded.2.2.1 10 = .ok (.invokestatic 255, 3) := by decide +kernel
theorem mw_mminL : Cond.static Lib.MathLoose.min_long.x ∈ tblG ∧ Cond.initialized "java/lang/Math" ∈ tblG ∧ Cond.code Lib.MathLoose.min_long.x Lib.MathLoose.min_long.code 4 (some .long) ∈ tblG := ⟨tblG_in (inT5 (List.mem_of_getElem? (i := 71) rfl)) rfl, tblG_in (inT1 (List.mem_of_getElem? (i := 19) rfl)) rfl, tblG_in (inT5 (List.mem_of_getElem? (i := 72) rfl)) rfl⟩
theorem ml_6_255 : Cond.methodLink (e_cn 6) 255 Lib.MathLoose.min_long.x ∈ tblG := tblG_in (inT5 (List.mem_of_getElem? (i := 70) rfl)) rfl
theorem d_X6_bounded_13 : decode mX6_bounded.2.2.1 13 = .ok (.l2i, 1) := by decide +kernel
theorem d_X6_bounded_14 : decode mX6_bounded.2.2.1 14 = .ok (.ireturn, 1) := by decide +kernel
theorem ok_X6_bounded : e_m mX6_bounded 1 := ⟨tblG_in (inT5 (List.mem_of_getElem? (i := 64) rfl)) rfl, plainFor_of_name (by decide), rfl, ini_6, by decide +kernel, by decide⟩
theorem d_X6_joined_86 : decode mX6_joined.2.2.1 86 = .ok (.ireturn, 1) := by decide +kernel
theorem d_X6_joined_69 : decode mX6_joined.2.2.1 69 = .ok (.iload_n 1, 1) := by decide +kernel
theorem d_X6_joined_70 : decode mX6_joined.2.2.1 70 = .ok (.i2l, 1) := by decide +kernel
theorem d_X6_joined_71 : decode mX6_joined.2.2.1 71 = .ok (.iload_n 2, 1) := by decide +kernel
theorem d_X6_joined_72 : decode mX6_joined.2.2.1 72 = .ok (.i2l, 1) := by decide +kernel
theorem d_X6_joined_73 : decode mX6_joined.2.2.1 73 = .ok (.lsub, 1) := by decide +kernel
theorem d_X6_joined_74 : decode mX6_joined.2.2.1 74 = .ok (.invokestatic 241, 3) := by decide +kernel
theorem d_X6_joined_77 : decode mX6_joined.2.2.1 77 = .ok (.ireturn, 1) := by decide +kernel
theorem d_X6_joined_60 : decode mX6_joined.2.2.1 60 = .ok (.iload_n 1, 1) := by decide +kernel
theorem d_X6_joined_61 : decode mX6_joined.2.2.1 61 = .ok (.i2l, 1) := by decide +kernel
theorem d_X6_joined_62 : decode mX6_joined.2.2.1 62 = .ok (.iload_n 2, 1) := by decide +kernel
theorem d_X6_joined_63 : decode mX6_joined.2.2.1 63 = .ok (.i2l, 1) := by decide +kernel
theorem d_X6_joined_64 : decode mX6_joined.2.2.1 64 = .ok (.ladd, 1) := by decide +kernel
theorem d_X6_joined_65 : decode mX6_joined.2.2.1 65 = .ok (.invokestatic 241, 3) := by decide +kernel
theorem d_X6_joined_68 : decode mX6_joined.2.2.1 68 = .ok (.ireturn, 1) := by decide +kernel
theorem ok_X6_joined : e_m mX6_joined 3 := ⟨tblG_in (inT5 (List.mem_of_getElem? (i := 61) rfl)) rfl, plainFor_of_name (by decide), rfl, ini_6, by decide +kernel, by decide⟩
theorem d_X6_worked_149 : decode mX6_worked.2.2.1 149 = .ok (.iastore, 1) := by decide +kernel
theorem d_X6_worked_52 : decode mX6_worked.2.2.1 52 = .ok (.iconst 0, 1) := by decide +kernel
theorem d_X6_worked_53 : decode mX6_worked.2.2.1 53 = .ok (.ireturn, 1) := by decide +kernel
theorem ok_X6_worked : e_m mX6_worked 1 := ⟨tblG_in (inT5 (List.mem_of_getElem? (i := 54) rfl)) rfl, plainFor_of_name (by decide), rfl, ini_6, by decide +kernel, by decide⟩
theorem d_X6_step_182 : decode mX6_step.2.2.1 182 = .ok (.ifCond .eq 12, 3) := by decide +kernel
theorem d_X6_step_194 : decode mX6_step.2.2.1 194 = .ok (.aload_n 2, 1) := by decide +kernel
theorem d_X6_step_195 : decode mX6_step.2.2.1 195 = .ok (.getfield 180, 3) := by decide +kernel
theorem f_6_180 : e_fld 6 180 4 5 13 2 true := ⟨RX4, TX4, 5, rfl, rfl, by decide, rfl, rfl, rfl, iX4, tblG_in (inT1 (List.mem_of_getElem? (i := 120) rfl)) rfl, tyX4_ok, nmX4⟩
theorem d_X6_step_198 : decode mX6_step.2.2.1 198 = .ok (.iload_n 1, 1) := by decide +kernel
theorem d_X6_step_199 : decode mX6_step.2.2.1 199 = .ok (.iaload, 1) := by decide +kernel
theorem d_X6_step_200 : decode mX6_step.2.2.1 200 = .ok (.ireturn, 1) := by decide +kernel
theorem d_X6_step_185 : decode mX6_step.2.2.1 185 = .ok (.aload_n 2, 1) := by decide +kernel
theorem d_X6_step_186 : decode mX6_step.2.2.1 186 = .ok (.getfield 177, 3) := by decide +kernel
theorem f_6_177 : e_fld 6 177 4 4 13 2 true := ⟨RX4, TX4, 4, rfl, rfl, by decide, rfl, rfl, rfl, iX4, tblG_in (inT1 (List.mem_of_getElem? (i := 117) rfl)) rfl, tyX4_ok, nmX4⟩
theorem d_X6_step_189 : decode mX6_step.2.2.1 189 = .ok (.iload_n 1, 1) := by decide +kernel
theorem d_X6_step_190 : decode mX6_step.2.2.1 190 = .ok (.iaload, 1) := by decide +kernel
theorem d_X6_step_191 : decode mX6_step.2.2.1 191 = .ok (.goto 9, 3) := by decide +kernel
theorem d_X6_step_159 : decode mX6_step.2.2.1 159 = .ok (.aload_n 0, 1) := by decide +kernel
theorem d_X6_step_160 : decode mX6_step.2.2.1 160 = .ok (.aload_n 0, 1) := by decide +kernel
theorem d_X6_step_161 : decode mX6_step.2.2.1 161 = .ok (.iload_n 1, 1) := by decide +kernel
theorem d_X6_step_162 : decode mX6_step.2.2.1 162 = .ok (.invokevirtual 155, 3) := by decide +kernel
theorem d_X6_step_165 : decode mX6_step.2.2.1 165 = .ok (.sipush 1000, 3) := by decide +kernel
theorem d_X6_step_168 : decode mX6_step.2.2.1 168 = .ok (.invokestatic 171, 3) := by decide +kernel
theorem d_X6_step_171 : decode mX6_step.2.2.1 171 = .ok (.invokevirtual 174, 3) := by decide +kernel
def mX6_touch : MD := (6, yX6_touch, cX6_touch, 4, none)
theorem sel_X6_touch : Cond.instanceMethod mX6_touch.2.1 ∈ tblG ∧ Cond.selects mX6_touch.2.1.cls mX6_touch.2.1 mX6_touch.2.1 ∈ tblG := ⟨tblG_in (inT5 (List.mem_of_getElem? (i := 146) rfl)) rfl, tblG_in (inP4 (q := (mX6_touch.2.1, 18)) (List.mem_of_getElem? (i := 8) rfl)) rfl⟩
theorem s_6_174 : e_siteV 6 174 mX6_touch 6 := ⟨tblG_in (inT5 (List.mem_of_getElem? (i := 144) rfl)) rfl, sel_X6_touch.1, sel_X6_touch.2, rfl⟩
theorem d_X6_touch_0 : decode mX6_touch.2.2.1 0 = .ok (.aload_n 0, 1) := by decide +kernel
theorem d_X6_touch_1 : decode mX6_touch.2.2.1 1 = .ok (.dup, 1) := by decide +kernel
theorem d_X6_touch_2 : decode mX6_touch.2.2.1 2 = .ok (.getfield 103, 3) := by decide +kernel
theorem d_X6_touch_5 : decode mX6_touch.2.2.1 5 = .ok (.iconst 1, 1) := by decide +kernel
