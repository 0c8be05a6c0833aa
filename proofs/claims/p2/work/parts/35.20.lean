theorem ok_X12_holdsBack : e_m mX12_holdsBack 1 := ⟨tblG_in (inT8 (List.mem_of_getElem? (i := 238) rfl)) rfl, plainFor_of_name (by decide), rfl, ini_12, by decide +kernel, by decide⟩
theorem d_X12_operand_54 : decode mX12_operand.2.2.1 54 = .ok (.aload_n 0, 1) := by decide +kernel
theorem d_X12_operand_55 : decode mX12_operand.2.2.1 55 = .ok (.invokevirtual 396, 3) := by decide +kernel
theorem d_X12_operand_58 : decode mX12_operand.2.2.1 58 = .ok (.iconst 0, 1) := by decide +kernel
theorem d_X12_operand_59 : decode mX12_operand.2.2.1 59 = .ok (.ireturn, 1) := by decide +kernel
theorem d_X12_operand_60 : decode mX12_operand.2.2.1 60 = .ok (.aload_n 0, 1) := by decide +kernel
theorem d_X12_operand_61 : decode mX12_operand.2.2.1 61 = .ok (.getfield 133, 3) := by decide +kernel
theorem d_X12_operand_64 : decode mX12_operand.2.2.1 64 = .ok (.iload_n 1, 1) := by decide +kernel
theorem d_X12_operand_65 : decode mX12_operand.2.2.1 65 = .ok (.iconst 0, 1) := by decide +kernel
theorem d_X12_operand_66 : decode mX12_operand.2.2.1 66 = .ok (.bastore, 1) := by decide +kernel
theorem d_X12_operand_67 : decode mX12_operand.2.2.1 67 = .ok (.iload_n 2, 1) := by decide +kernel
theorem d_X12_operand_68 : decode mX12_operand.2.2.1 68 = .ok (.ifCond .eq 19, 3) := by decide +kernel
theorem d_X12_operand_71 : decode mX12_operand.2.2.1 71 = .ok (.aload_n 0, 1) := by decide +kernel
theorem d_X12_operand_72 : decode mX12_operand.2.2.1 72 = .ok (.bipush 91, 2) := by decide +kernel
theorem d_X12_operand_74 : decode mX12_operand.2.2.1 74 = .ok (.invokevirtual 393, 3) := by decide +kernel
theorem d_X12_operand_77 : decode mX12_operand.2.2.1 77 = .ok (.ifCond .eq 10, 3) := by decide +kernel
theorem d_X12_operand_80 : decode mX12_operand.2.2.1 80 = .ok (.aload_n 0, 1) := by decide +kernel
theorem d_X12_operand_81 : decode mX12_operand.2.2.1 81 = .ok (.iconst 5, 1) := by decide +kernel
theorem d_X12_operand_82 : decode mX12_operand.2.2.1 82 = .ok (.invokevirtual 490, 3) := by decide +kernel
def mX12_opens : MD := (12, yX12_opens, cX12_opens, 2, none)
theorem sel_X12_opens : Cond.instanceMethod mX12_opens.2.1 ∈ tblG ∧ Cond.selects mX12_opens.2.1.cls mX12_opens.2.1 mX12_opens.2.1 ∈ tblG := ⟨tblG_in (inT9 (List.mem_of_getElem? (i := 1) rfl)) rfl, tblG_in (inP7 (q := (mX12_opens.2.1, 121)) (List.mem_of_getElem? (i := 4) rfl)) rfl⟩
theorem s_12_490 : e_siteV 12 490 mX12_opens 12 := ⟨tblG_in (inT8 (List.mem_of_getElem? (i := 239) rfl)) rfl, sel_X12_opens.1, sel_X12_opens.2, rfl⟩
theorem d_X12_opens_0 : decode mX12_opens.2.2.1 0 = .ok (.aload_n 0, 1) := by decide +kernel
theorem d_X12_opens_1 : decode mX12_opens.2.2.1 1 = .ok (.getfield 146, 3) := by decide +kernel
theorem d_X12_opens_4 : decode mX12_opens.2.2.1 4 = .ok (.bipush 8, 2) := by decide +kernel
theorem d_X12_opens_6 : decode mX12_opens.2.2.1 6 = .ok (.if_icmp .ne 12, 3) := by decide +kernel
theorem d_X12_opens_9 : decode mX12_opens.2.2.1 9 = .ok (.aload_n 0, 1) := by decide +kernel
theorem d_X12_opens_10 : decode mX12_opens.2.2.1 10 = .ok (.iconst 5, 1) := by decide +kernel
theorem d_X12_opens_11 : decode mX12_opens.2.2.1 11 = .ok (.aload_n 0, 1) := by decide +kernel
theorem d_X12_opens_12 : decode mX12_opens.2.2.1 12 = .ok (.getfield 23, 3) := by decide +kernel
theorem d_X12_opens_15 : decode mX12_opens.2.2.1 15 = .ok (.invokevirtual 389, 3) := by decide +kernel
theorem d_X12_opens_18 : decode mX12_opens.2.2.1 18 = .ok (.aload_n 0, 1) := by decide +kernel
theorem d_X12_opens_19 : decode mX12_opens.2.2.1 19 = .ok (.getfield 36, 3) := by decide +kernel
theorem d_X12_opens_22 : decode mX12_opens.2.2.1 22 = .ok (.ifCond .le 4, 3) := by decide +kernel
theorem d_X12_opens_26 : decode mX12_opens.2.2.1 26 = .ok (.aload_n 0, 1) := by decide +kernel
theorem d_X12_opens_27 : decode mX12_opens.2.2.1 27 = .ok (.dup, 1) := by decide +kernel
theorem d_X12_opens_28 : decode mX12_opens.2.2.1 28 = .ok (.getfield 146, 3) := by decide +kernel
theorem d_X12_opens_31 : decode mX12_opens.2.2.1 31 = .ok (.iconst 1, 1) := by decide +kernel
theorem d_X12_opens_32 : decode mX12_opens.2.2.1 32 = .ok (.iadd, 1) := by decide +kernel
theorem d_X12_opens_33 : decode mX12_opens.2.2.1 33 = .ok (.putfield 146, 3) := by decide +kernel
theorem d_X12_opens_36 : decode mX12_opens.2.2.1 36 = .ok (.aload_n 0, 1) := by decide +kernel
theorem d_X12_opens_37 : decode mX12_opens.2.2.1 37 = .ok (.invokevirtual 396, 3) := by decide +kernel
theorem d_X12_opens_40 : decode mX12_opens.2.2.1 40 = .ok (.aload_n 0, 1) := by decide +kernel
theorem d_X12_opens_41 : decode mX12_opens.2.2.1 41 = .ok (.iload_n 1, 1) := by decide +kernel
theorem d_X12_opens_42 : decode mX12_opens.2.2.1 42 = .ok (.invokevirtual 478, 3) := by decide +kernel
theorem d_X12_opens_45 : decode mX12_opens.2.2.1 45 = .ok (.return_, 1) := by decide +kernel
theorem d_X12_opens_25 : decode mX12_opens.2.2.1 25 = .ok (.return_, 1) := by decide +kernel
theorem ok_X12_opens : e_m mX12_opens 1 := ⟨tblG_in (inT9 (List.mem_of_getElem? (i := 2) rfl)) rfl, plainFor_of_name (by decide), rfl, ini_12, by decide +kernel, by decide⟩
theorem d_X12_operand_85 : decode mX12_operand.2.2.1 85 = .ok (.iconst 0, 1) := by decide +kernel
theorem d_X12_operand_86 : decode mX12_operand.2.2.1 86 = .ok (.ireturn, 1) := by decide +kernel
theorem d_X12_operand_87 : decode mX12_operand.2.2.1 87 = .ok (.iload_n 2, 1) := by decide +kernel
theorem d_X12_operand_88 : decode mX12_operand.2.2.1 88 = .ok (.ifCond .eq 32, 3) := by decide +kernel
theorem d_X12_operand_91 : decode mX12_operand.2.2.1 91 = .ok (.aload_n 0, 1) := by decide +kernel
theorem d_X12_operand_92 : decode mX12_operand.2.2.1 92 = .ok (.ldc2_w 443, 3) := by decide +kernel
theorem d_X12_operand_95 : decode mX12_operand.2.2.1 95 = .ok (.invokevirtual 484, 3) := by decide +kernel
theorem d_X12_operand_98 : decode mX12_operand.2.2.1 98 = .ok (.ifCond .eq 22, 3) := by decide +kernel
theorem d_X12_operand_101 : decode mX12_operand.2.2.1 101 = .ok (.aload_n 0, 1) := by decide +kernel
theorem d_X12_operand_102 : decode mX12_operand.2.2.1 102 = .ok (.iconst 5, 1) := by decide +kernel
theorem d_X12_operand_103 : decode mX12_operand.2.2.1 103 = .ok (.iconst 0, 1) := by decide +kernel
theorem d_X12_operand_104 : decode mX12_operand.2.2.1 104 = .ok (.invokevirtual 475, 3) := by decide +kernel
def mX12_add : MD := (12, yX12_add, cX12_add, 3, none)
theorem sel_X12_add : Cond.instanceMethod mX12_add.2.1 ∈ tblG ∧ Cond.selects mX12_add.2.1.cls mX12_add.2.1 mX12_add.2.1 ∈ tblG := ⟨tblG_in (inT9 (List.mem_of_getElem? (i := 5) rfl)) rfl, tblG_in (inP7 (q := (mX12_add.2.1, 121)) (List.mem_of_getElem? (i := 5) rfl)) rfl⟩
theorem s_12_475 : e_siteV 12 475 mX12_add 12 := ⟨tblG_in (inT9 (List.mem_of_getElem? (i := 3) rfl)) rfl, sel_X12_add.1, sel_X12_add.2, rfl⟩
theorem d_X12_add_0 : decode mX12_add.2.2.1 0 = .ok (.aload_n 0, 1) := by decide +kernel
theorem d_X12_add_1 : decode mX12_add.2.2.1 1 = .ok (.getfield 115, 3) := by decide +kernel
theorem d_X12_add_4 : decode mX12_add.2.2.1 4 = .ok (.sipush 900, 3) := by decide +kernel
theorem d_X12_add_7 : decode mX12_add.2.2.1 7 = .ok (.aload_n 0, 1) := by decide +kernel
theorem d_X12_add_8 : decode mX12_add.2.2.1 8 = .ok (.getfield 124, 3) := by decide +kernel
theorem d_X12_add_11 : decode mX12_add.2.2.1 11 = .ok (.imul, 1) := by decide +kernel
theorem d_X12_add_12 : decode mX12_add.2.2.1 12 = .ok (.aload_n 0, 1) := by decide +kernel
theorem d_X12_add_13 : decode mX12_add.2.2.1 13 = .ok (.getfield 121, 3) := by decide +kernel
theorem d_X12_add_16 : decode mX12_add.2.2.1 16 = .ok (.iadd, 1) := by decide +kernel
theorem d_X12_add_17 : decode mX12_add.2.2.1 17 = .ok (.iload_n 1, 1) := by decide +kernel
theorem d_X12_add_18 : decode mX12_add.2.2.1 18 = .ok (.iastore, 1) := by decide +kernel
theorem d_X12_add_19 : decode mX12_add.2.2.1 19 = .ok (.aload_n 0, 1) := by decide +kernel
theorem d_X12_add_20 : decode mX12_add.2.2.1 20 = .ok (.getfield 118, 3) := by decide +kernel
theorem d_X12_add_23 : decode mX12_add.2.2.1 23 = .ok (.sipush 900, 3) := by decide +kernel
theorem d_X12_add_26 : decode mX12_add.2.2.1 26 = .ok (.aload_n 0, 1) := by decide +kernel
theorem d_X12_add_27 : decode mX12_add.2.2.1 27 = .ok (.getfield 124, 3) := by decide +kernel
theorem d_X12_add_30 : decode mX12_add.2.2.1 30 = .ok (.imul, 1) := by decide +kernel
theorem d_X12_add_31 : decode mX12_add.2.2.1 31 = .ok (.aload_n 0, 1) := by decide +kernel
theorem d_X12_add_32 : decode mX12_add.2.2.1 32 = .ok (.getfield 121, 3) := by decide +kernel
theorem d_X12_add_35 : decode mX12_add.2.2.1 35 = .ok (.iadd, 1) := by decide +kernel
theorem d_X12_add_36 : decode mX12_add.2.2.1 36 = .ok (.iload_n 2, 1) := by decide +kernel
theorem d_X12_add_37 : decode mX12_add.2.2.1 37 = .ok (.iastore, 1) := by decide +kernel
theorem d_X12_add_38 : decode mX12_add.2.2.1 38 = .ok (.aload_n 0, 1) := by decide +kernel
theorem d_X12_add_39 : decode mX12_add.2.2.1 39 = .ok (.dup, 1) := by decide +kernel
theorem d_X12_add_40 : decode mX12_add.2.2.1 40 = .ok (.getfield 121, 3) := by decide +kernel
theorem d_X12_add_43 : decode mX12_add.2.2.1 43 = .ok (.iconst 1, 1) := by decide +kernel
theorem d_X12_add_44 : decode mX12_add.2.2.1 44 = .ok (.iadd, 1) := by decide +kernel
theorem d_X12_add_45 : decode mX12_add.2.2.1 45 = .ok (.putfield 121, 3) := by decide +kernel
theorem d_X12_add_48 : decode mX12_add.2.2.1 48 = .ok (.return_, 1) := by decide +kernel
theorem ok_X12_add : e_m mX12_add 2 := ⟨tblG_in (inT9 (List.mem_of_getElem? (i := 6) rfl)) rfl, plainFor_of_name (by decide), rfl, ini_12, by decide +kernel, by decide⟩
theorem d_X12_operand_107 : decode mX12_operand.2.2.1 107 = .ok (.aload_n 0, 1) := by decide +kernel
theorem d_X12_operand_108 : decode mX12_operand.2.2.1 108 = .ok (.getfield 130, 3) := by decide +kernel
theorem d_X12_operand_111 : decode mX12_operand.2.2.1 111 = .ok (.iload_n 1, 1) := by decide +kernel
theorem d_X12_operand_112 : decode mX12_operand.2.2.1 112 = .ok (.iconst 2, 1) := by decide +kernel
theorem d_X12_operand_113 : decode mX12_operand.2.2.1 113 = .ok (.iastore, 1) := by decide +kernel
theorem d_X12_operand_114 : decode mX12_operand.2.2.1 114 = .ok (.aload_n 0, 1) := by decide +kernel
theorem d_X12_operand_115 : decode mX12_operand.2.2.1 115 = .ok (.invokevirtual 396, 3) := by decide +kernel
theorem d_X12_operand_118 : decode mX12_operand.2.2.1 118 = .ok (.iconst 1, 1) := by decide +kernel
theorem d_X12_operand_119 : decode mX12_operand.2.2.1 119 = .ok (.ireturn, 1) := by decide +kernel
theorem d_X12_operand_120 : decode mX12_operand.2.2.1 120 = .ok (.iload_n 2, 1) := by decide +kernel
theorem d_X12_operand_121 : decode mX12_operand.2.2.1 121 = .ok (.ifCond .eq 45, 3) := by decide +kernel
theorem d_X12_operand_124 : decode mX12_operand.2.2.1 124 = .ok (.aload_n 0, 1) := by decide +kernel
theorem d_X12_operand_125 : decode mX12_operand.2.2.1 125 = .ok (.ldc2_w 445, 3) := by decide +kernel
theorem d_X12_operand_128 : decode mX12_operand.2.2.1 128 = .ok (.invokevirtual 484, 3) := by decide +kernel
theorem d_X12_operand_131 : decode mX12_operand.2.2.1 131 = .ok (.ifCond .eq 35, 3) := by decide +kernel
theorem d_X12_operand_134 : decode mX12_operand.2.2.1 134 = .ok (.aload_n 0, 1) := by decide +kernel
theorem d_X12_operand_135 : decode mX12_operand.2.2.1 135 = .ok (.invokevirtual 396, 3) := by decide +kernel
theorem d_X12_operand_138 : decode mX12_operand.2.2.1 138 = .ok (.aload_n 0, 1) := by decide +kernel
theorem d_X12_operand_139 : decode mX12_operand.2.2.1 139 = .ok (.iconst 0, 1) := by decide +kernel
theorem d_X12_operand_140 : decode mX12_operand.2.2.1 140 = .ok (.invokevirtual 493, 3) := by decide +kernel
theorem d_X12_operand_143 : decode mX12_operand.2.2.1 143 = .ok (.istore_n 3, 1) := by decide +kernel
theorem d_X12_operand_144 : decode mX12_operand.2.2.1 144 = .ok (.aload_n 0, 1) := by decide +kernel
theorem d_X12_operand_145 : decode mX12_operand.2.2.1 145 = .ok (.getfield 36, 3) := by decide +kernel
theorem d_X12_operand_148 : decode mX12_operand.2.2.1 148 = .ok (.ifCond .ne 9, 3) := by decide +kernel
theorem d_X12_operand_151 : decode mX12_operand.2.2.1 151 = .ok (.aload_n 0, 1) := by decide +kernel
theorem d_X12_operand_152 : decode mX12_operand.2.2.1 152 = .ok (.iconst 4, 1) := by decide +kernel
theorem d_X12_operand_153 : decode mX12_operand.2.2.1 153 = .ok (.iload_n 3, 1) := by decide +kernel
theorem d_X12_operand_154 : decode mX12_operand.2.2.1 154 = .ok (.invokevirtual 475, 3) := by decide +kernel
theorem d_X12_operand_166 : decode mX12_operand.2.2.1 166 = .ok (.aload_n 0, 1) := by decide +kernel
theorem d_X12_operand_167 : decode mX12_operand.2.2.1 167 = .ok (.bipush 40, 2) := by decide +kernel
theorem d_X12_operand_169 : decode mX12_operand.2.2.1 169 = .ok (.invokevirtual 393, 3) := by decide +kernel
theorem d_X12_operand_172 : decode mX12_operand.2.2.1 172 = .ok (.ifCond .eq 10, 3) := by decide +kernel
theorem d_X12_operand_182 : decode mX12_operand.2.2.1 182 = .ok (.aload_n 0, 1) := by decide +kernel
theorem d_X12_operand_183 : decode mX12_operand.2.2.1 183 = .ok (.ldc2_w 449, 3) := by decide +kernel
theorem d_X12_operand_186 : decode mX12_operand.2.2.1 186 = .ok (.invokevirtual 484, 3) := by decide +kernel
theorem d_X12_operand_189 : decode mX12_operand.2.2.1 189 = .ok (.ifCond .ne 13, 3) := by decide +kernel
theorem d_X12_operand_192 : decode mX12_operand.2.2.1 192 = .ok (.aload_n 0, 1) := by decide +kernel
theorem d_X12_operand_193 : decode mX12_operand.2.2.1 193 = .ok (.ldc2_w 451, 3) := by decide +kernel
theorem d_X12_operand_196 : decode mX12_operand.2.2.1 196 = .ok (.invokevirtual 484, 3) := by decide +kernel
theorem d_X12_operand_199 : decode mX12_operand.2.2.1 199 = .ok (.ifCond .eq 69, 3) := by decide +kernel
theorem d_X12_operand_268 : decode mX12_operand.2.2.1 268 = .ok (.aload_n 0, 1) := by decide +kernel
theorem d_X12_operand_269 : decode mX12_operand.2.2.1 269 = .ok (.getfield 20, 3) := by decide +kernel
theorem d_X12_operand_272 : decode mX12_operand.2.2.1 272 = .ok (.iconst 2, 1) := by decide +kernel
theorem d_X12_operand_273 : decode mX12_operand.2.2.1 273 = .ok (.if_icmp .ne 7, 3) := by decide +kernel
theorem d_X12_operand_280 : decode mX12_operand.2.2.1 280 = .ok (.aload_n 0, 1) := by decide +kernel
theorem d_X12_operand_281 : decode mX12_operand.2.2.1 281 = .ok (.ldc2_w 447, 3) := by decide +kernel
theorem d_X12_operand_284 : decode mX12_operand.2.2.1 284 = .ok (.invokevirtual 484, 3) := by decide +kernel
theorem d_X12_operand_287 : decode mX12_operand.2.2.1 287 = .ok (.ifCond .eq 7, 3) := by decide +kernel
theorem d_X12_operand_294 : decode mX12_operand.2.2.1 294 = .ok (.iconst 1, 1) := by decide +kernel
theorem d_X12_operand_290 : decode mX12_operand.2.2.1 290 = .ok (.iconst 3, 1) := by decide +kernel
theorem d_X12_operand_291 : decode mX12_operand.2.2.1 291 = .ok (.goto 4, 3) := by decide +kernel
theorem d_X12_operand_276 : decode mX12_operand.2.2.1 276 = .ok (.iconst 0, 1) := by decide +kernel
theorem d_X12_operand_277 : decode mX12_operand.2.2.1 277 = .ok (.goto 18, 3) := by decide +kernel
theorem d_X12_operand_175 : decode mX12_operand.2.2.1 175 = .ok (.aload_n 0, 1) := by decide +kernel
theorem d_X12_operand_176 : decode mX12_operand.2.2.1 176 = .ok (.iconst 2, 1) := by decide +kernel
theorem d_X12_operand_177 : decode mX12_operand.2.2.1 177 = .ok (.invokevirtual 490, 3) := by decide +kernel
theorem d_X12_operand_180 : decode mX12_operand.2.2.1 180 = .ok (.iconst 0, 1) := by decide +kernel
theorem d_X12_operand_181 : decode mX12_operand.2.2.1 181 = .ok (.ireturn, 1) := by decide +kernel
theorem d_X12_operand_295 : decode mX12_operand.2.2.1 295 = .ok (.istore_n 3, 1) := by decide +kernel
theorem d_X12_operand_296 : decode mX12_operand.2.2.1 296 = .ok (.aload_n 0, 1) := by decide +kernel
theorem d_X12_operand_297 : decode mX12_operand.2.2.1 297 = .ok (.getfield 29, 3) := by decide +kernel
theorem d_X12_operand_300 : decode mX12_operand.2.2.1 300 = .ok (.istore 4, 2) := by decide +kernel
theorem d_X12_operand_302 : decode mX12_operand.2.2.1 302 = .ok (.iload_n 3, 1) := by decide +kernel
theorem d_X12_operand_303 : decode mX12_operand.2.2.1 303 = .ok (.iconst 1, 1) := by decide +kernel
theorem d_X12_operand_304 : decode mX12_operand.2.2.1 304 = .ok (.if_icmp .ne 92, 3) := by decide +kernel
theorem d_X12_operand_307 : decode mX12_operand.2.2.1 307 = .ok (.aload_n 0, 1) := by decide +kernel
theorem d_X12_operand_308 : decode mX12_operand.2.2.1 308 = .ok (.getfield 20, 3) := by decide +kernel
theorem d_X12_operand_311 : decode mX12_operand.2.2.1 311 = .ok (.iconst 1, 1) := by decide +kernel
theorem d_X12_operand_312 : decode mX12_operand.2.2.1 312 = .ok (.if_icmp .ne 14, 3) := by decide +kernel
theorem d_X12_operand_315 : decode mX12_operand.2.2.1 315 = .ok (.aload_n 0, 1) := by decide +kernel
theorem d_X12_operand_316 : decode mX12_operand.2.2.1 316 = .ok (.aload_n 0, 1) := by decide +kernel
theorem d_X12_operand_317 : decode mX12_operand.2.2.1 317 = .ok (.getfield 32, 3) := by decide +kernel
theorem d_X12_operand_320 : decode mX12_operand.2.2.1 320 = .ok (.invokevirtual 453, 3) := by decide +kernel
theorem d_X12_operand_323 : decode mX12_operand.2.2.1 323 = .ok (.ifCond .eq 12, 3) := by decide +kernel
theorem d_X12_operand_326 : decode mX12_operand.2.2.1 326 = .ok (.aload_n 0, 1) := by decide +kernel
theorem d_X12_operand_327 : decode mX12_operand.2.2.1 327 = .ok (.iconst 1, 1) := by decide +kernel
theorem d_X12_operand_328 : decode mX12_operand.2.2.1 328 = .ok (.aload_n 0, 1) := by decide +kernel
theorem d_X12_operand_329 : decode mX12_operand.2.2.1 329 = .ok (.getfield 23, 3) := by decide +kernel
theorem d_X12_operand_332 : decode mX12_operand.2.2.1 332 = .ok (.invokevirtual 389, 3) := by decide +kernel
theorem d_X12_operand_335 : decode mX12_operand.2.2.1 335 = .ok (.aload_n 0, 1) := by decide +kernel
theorem d_X12_operand_336 : decode mX12_operand.2.2.1 336 = .ok (.getfield 36, 3) := by decide +kernel
theorem d_X12_operand_339 : decode mX12_operand.2.2.1 339 = .ok (.ifCond .le 7, 3) := by decide +kernel
theorem d_X12_operand_346 : decode mX12_operand.2.2.1 346 = .ok (.aload_n 0, 1) := by decide +kernel
theorem d_X12_operand_347 : decode mX12_operand.2.2.1 347 = .ok (.aload_n 0, 1) := by decide +kernel
theorem d_X12_operand_348 : decode mX12_operand.2.2.1 348 = .ok (.getfield 32, 3) := by decide +kernel
theorem d_X12_operand_351 : decode mX12_operand.2.2.1 351 = .ok (.invokevirtual 461, 3) := by decide +kernel
theorem d_X12_operand_342 : decode mX12_operand.2.2.1 342 = .ok (.iconst 0, 1) := by decide +kernel
theorem d_X12_operand_343 : decode mX12_operand.2.2.1 343 = .ok (.goto 11, 3) := by decide +kernel
theorem d_X12_operand_354 : decode mX12_operand.2.2.1 354 = .ok (.istore 4, 2) := by decide +kernel
theorem d_X12_operand_356 : decode mX12_operand.2.2.1 356 = .ok (.iload 4, 2) := by decide +kernel
theorem d_X12_operand_358 : decode mX12_operand.2.2.1 358 = .ok (.iconst (-1), 1) := by decide +kernel
theorem d_X12_operand_359 : decode mX12_operand.2.2.1 359 = .ok (.if_icmp .ne 15, 3) := by decide +kernel
theorem d_X12_operand_362 : decode mX12_operand.2.2.1 362 = .ok (.iconst 2, 1) := by decide +kernel
theorem d_X12_operand_363 : decode mX12_operand.2.2.1 363 = .ok (.istore_n 3, 1) := by decide +kernel
theorem d_X12_operand_364 : decode mX12_operand.2.2.1 364 = .ok (.aload_n 0, 1) := by decide +kernel
theorem d_X12_operand_365 : decode mX12_operand.2.2.1 365 = .ok (.aload_n 0, 1) := by decide +kernel
theorem d_X12_operand_366 : decode mX12_operand.2.2.1 366 = .ok (.getfield 32, 3) := by decide +kernel
theorem d_X12_operand_369 : decode mX12_operand.2.2.1 369 = .ok (.invokevirtual 464, 3) := by decide +kernel
theorem d_X12_operand_372 : decode mX12_operand.2.2.1 372 = .ok (.istore 4, 2) := by decide +kernel
theorem d_X12_operand_374 : decode mX12_operand.2.2.1 374 = .ok (.aload_n 0, 1) := by decide +kernel
theorem d_X12_operand_375 : decode mX12_operand.2.2.1 375 = .ok (.getfield 36, 3) := by decide +kernel
theorem d_X12_operand_378 : decode mX12_operand.2.2.1 378 = .ok (.ifCond .ne 18, 3) := by decide +kernel
theorem d_X12_operand_381 : decode mX12_operand.2.2.1 381 = .ok (.iload 4, 2) := by decide +kernel
theorem d_X12_operand_383 : decode mX12_operand.2.2.1 383 = .ok (.iconst (-1), 1) := by decide +kernel
theorem d_X12_operand_384 : decode mX12_operand.2.2.1 384 = .ok (.if_icmp .ne 12, 3) := by decide +kernel
theorem d_X12_operand_387 : decode mX12_operand.2.2.1 387 = .ok (.aload_n 0, 1) := by decide +kernel
theorem d_X12_operand_388 : decode mX12_operand.2.2.1 388 = .ok (.iconst 3, 1) := by decide +kernel
theorem d_X12_operand_389 : decode mX12_operand.2.2.1 389 = .ok (.aload_n 0, 1) := by decide +kernel
theorem d_X12_operand_390 : decode mX12_operand.2.2.1 390 = .ok (.getfield 23, 3) := by decide +kernel
theorem d_X12_operand_393 : decode mX12_operand.2.2.1 393 = .ok (.invokevirtual 389, 3) := by decide +kernel
theorem d_X12_operand_396 : decode mX12_operand.2.2.1 396 = .ok (.aload_n 0, 1) := by decide +kernel
theorem d_X12_operand_397 : decode mX12_operand.2.2.1 397 = .ok (.getfield 36, 3) := by decide +kernel
theorem d_X12_operand_400 : decode mX12_operand.2.2.1 400 = .ok (.ifCond .le 5, 3) := by decide +kernel
theorem d_X12_operand_405 : decode mX12_operand.2.2.1 405 = .ok (.aload_n 0, 1) := by decide +kernel
theorem d_X12_operand_406 : decode mX12_operand.2.2.1 406 = .ok (.iload_n 3, 1) := by decide +kernel
theorem d_X12_operand_407 : decode mX12_operand.2.2.1 407 = .ok (.iload 4, 2) := by decide +kernel
theorem d_X12_operand_409 : decode mX12_operand.2.2.1 409 = .ok (.invokevirtual 475, 3) := by decide +kernel
theorem d_X12_operand_412 : decode mX12_operand.2.2.1 412 = .ok (.aload_n 0, 1) := by decide +kernel
theorem d_X12_operand_413 : decode mX12_operand.2.2.1 413 = .ok (.invokevirtual 396, 3) := by decide +kernel
theorem d_X12_operand_416 : decode mX12_operand.2.2.1 416 = .ok (.iconst 1, 1) := by decide +kernel
theorem d_X12_operand_417 : decode mX12_operand.2.2.1 417 = .ok (.ireturn, 1) := by decide +kernel
theorem d_X12_operand_403 : decode mX12_operand.2.2.1 403 = .ok (.iconst 1, 1) := by decide +kernel
theorem d_X12_operand_404 : decode mX12_operand.2.2.1 404 = .ok (.ireturn, 1) := by decide +kernel
theorem d_X12_operand_202 : decode mX12_operand.2.2.1 202 = .ok (.aload_n 0, 1) := by decide +kernel
theorem d_X12_operand_203 : decode mX12_operand.2.2.1 203 = .ok (.ldc2_w 449, 3) := by decide +kernel
theorem d_X12_operand_206 : decode mX12_operand.2.2.1 206 = .ok (.invokevirtual 484, 3) := by decide +kernel
theorem d_X12_operand_209 : decode mX12_operand.2.2.1 209 = .ok (.ifCond .eq 8, 3) := by decide +kernel
theorem d_X12_operand_217 : decode mX12_operand.2.2.1 217 = .ok (.bipush 12, 2) := by decide +kernel
theorem d_X12_operand_212 : decode mX12_operand.2.2.1 212 = .ok (.bipush 11, 2) := by decide +kernel
theorem d_X12_operand_214 : decode mX12_operand.2.2.1 214 = .ok (.goto 5, 3) := by decide +kernel
theorem d_X12_operand_219 : decode mX12_operand.2.2.1 219 = .ok (.istore_n 3, 1) := by decide +kernel
theorem d_X12_operand_220 : decode mX12_operand.2.2.1 220 = .ok (.aload_n 0, 1) := by decide +kernel
theorem d_X12_operand_221 : decode mX12_operand.2.2.1 221 = .ok (.invokevirtual 396, 3) := by decide +kernel
theorem d_X12_operand_224 : decode mX12_operand.2.2.1 224 = .ok (.aload_n 0, 1) := by decide +kernel
theorem d_X12_operand_225 : decode mX12_operand.2.2.1 225 = .ok (.bipush 40, 2) := by decide +kernel
theorem d_X12_operand_227 : decode mX12_operand.2.2.1 227 = .ok (.invokevirtual 393, 3) := by decide +kernel
theorem d_X12_operand_230 : decode mX12_operand.2.2.1 230 = .ok (.ifCond .ne 12, 3) := by decide +kernel
