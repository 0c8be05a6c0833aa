def mX12_isOwn : MD := (12, yX12_isOwn, cX12_isOwn, 3, some .boolean)
theorem sel_X12_isOwn : Cond.instanceMethod mX12_isOwn.2.1 ∈ tblG ∧ Cond.selects mX12_isOwn.2.1.cls mX12_isOwn.2.1 mX12_isOwn.2.1 ∈ tblG := ⟨tblG_in (inT8 (List.mem_of_getElem? (i := 138) rfl)) rfl, tblG_in (inP6 (q := (mX12_isOwn.2.1, 121)) (List.mem_of_getElem? (i := 1) rfl)) rfl⟩
theorem s_12_453 : e_siteV 12 453 mX12_isOwn 12 := ⟨tblG_in (inT8 (List.mem_of_getElem? (i := 136) rfl)) rfl, sel_X12_isOwn.1, sel_X12_isOwn.2, rfl⟩
theorem d_X12_isOwn_0 : decode mX12_isOwn.2.2.1 0 = .ok (.lload_n 1, 1) := by decide +kernel
theorem d_X12_isOwn_1 : decode mX12_isOwn.2.2.1 1 = .ok (.ldc2_w 399, 3) := by decide +kernel
theorem d_X12_isOwn_4 : decode mX12_isOwn.2.2.1 4 = .ok (.lcmp, 1) := by decide +kernel
theorem d_X12_isOwn_5 : decode mX12_isOwn.2.2.1 5 = .ok (.ifCond .eq 35, 3) := by decide +kernel
theorem d_X12_isOwn_40 : decode mX12_isOwn.2.2.1 40 = .ok (.iconst 1, 1) := by decide +kernel
theorem d_X12_isOwn_41 : decode mX12_isOwn.2.2.1 41 = .ok (.ireturn, 1) := by decide +kernel
theorem d_X12_isOwn_8 : decode mX12_isOwn.2.2.1 8 = .ok (.lload_n 1, 1) := by decide +kernel
theorem d_X12_isOwn_9 : decode mX12_isOwn.2.2.1 9 = .ok (.ldc2_w 401, 3) := by decide +kernel
theorem d_X12_isOwn_12 : decode mX12_isOwn.2.2.1 12 = .ok (.lcmp, 1) := by decide +kernel
theorem d_X12_isOwn_13 : decode mX12_isOwn.2.2.1 13 = .ok (.ifCond .eq 27, 3) := by decide +kernel
theorem d_X12_isOwn_16 : decode mX12_isOwn.2.2.1 16 = .ok (.lload_n 1, 1) := by decide +kernel
theorem d_X12_isOwn_17 : decode mX12_isOwn.2.2.1 17 = .ok (.ldc2_w 403, 3) := by decide +kernel
theorem d_X12_isOwn_20 : decode mX12_isOwn.2.2.1 20 = .ok (.lcmp, 1) := by decide +kernel
theorem d_X12_isOwn_21 : decode mX12_isOwn.2.2.1 21 = .ok (.ifCond .eq 19, 3) := by decide +kernel
theorem d_X12_isOwn_24 : decode mX12_isOwn.2.2.1 24 = .ok (.lload_n 1, 1) := by decide +kernel
theorem d_X12_isOwn_25 : decode mX12_isOwn.2.2.1 25 = .ok (.ldc2_w 405, 3) := by decide +kernel
theorem kl_12_405 : Jvm.Cond.constantLong (e_cn 12) 405 (Int64.ofInt 495739823472) ∈ tblG := tblG_in (inT8 (List.mem_of_getElem? (i := 140) rfl)) rfl
theorem d_X12_isOwn_28 : decode mX12_isOwn.2.2.1 28 = .ok (.lcmp, 1) := by decide +kernel
theorem d_X12_isOwn_29 : decode mX12_isOwn.2.2.1 29 = .ok (.ifCond .eq 11, 3) := by decide +kernel
theorem d_X12_isOwn_32 : decode mX12_isOwn.2.2.1 32 = .ok (.lload_n 1, 1) := by decide +kernel
theorem d_X12_isOwn_33 : decode mX12_isOwn.2.2.1 33 = .ok (.ldc2_w 407, 3) := by decide +kernel
theorem kl_12_407 : Jvm.Cond.constantLong (e_cn 12) 407 (Int64.ofInt 2002873189) ∈ tblG := tblG_in (inT8 (List.mem_of_getElem? (i := 141) rfl)) rfl
theorem d_X12_isOwn_36 : decode mX12_isOwn.2.2.1 36 = .ok (.lcmp, 1) := by decide +kernel
theorem d_X12_isOwn_37 : decode mX12_isOwn.2.2.1 37 = .ok (.ifCond .ne 5, 3) := by decide +kernel
theorem d_X12_isOwn_42 : decode mX12_isOwn.2.2.1 42 = .ok (.lload_n 1, 1) := by decide +kernel
theorem d_X12_isOwn_43 : decode mX12_isOwn.2.2.1 43 = .ok (.ldc2_w 409, 3) := by decide +kernel
theorem kl_12_409 : Jvm.Cond.constantLong (e_cn 12) 409 (Int64.ofInt 28526) ∈ tblG := tblG_in (inT8 (List.mem_of_getElem? (i := 142) rfl)) rfl
theorem d_X12_isOwn_46 : decode mX12_isOwn.2.2.1 46 = .ok (.lcmp, 1) := by decide +kernel
theorem d_X12_isOwn_47 : decode mX12_isOwn.2.2.1 47 = .ok (.ifCond .eq 35, 3) := by decide +kernel
theorem d_X12_isOwn_82 : decode mX12_isOwn.2.2.1 82 = .ok (.iconst 1, 1) := by decide +kernel
theorem d_X12_isOwn_83 : decode mX12_isOwn.2.2.1 83 = .ok (.ireturn, 1) := by decide +kernel
theorem d_X12_isOwn_50 : decode mX12_isOwn.2.2.1 50 = .ok (.lload_n 1, 1) := by decide +kernel
theorem d_X12_isOwn_51 : decode mX12_isOwn.2.2.1 51 = .ok (.ldc2_w 411, 3) := by decide +kernel
theorem kl_12_411 : Jvm.Cond.constantLong (e_cn 12) 411 (Int64.ofInt 2003792491) ∈ tblG := tblG_in (inT8 (List.mem_of_getElem? (i := 143) rfl)) rfl
theorem d_X12_isOwn_54 : decode mX12_isOwn.2.2.1 54 = .ok (.lcmp, 1) := by decide +kernel
theorem d_X12_isOwn_55 : decode mX12_isOwn.2.2.1 55 = .ok (.ifCond .eq 27, 3) := by decide +kernel
theorem d_X12_isOwn_58 : decode mX12_isOwn.2.2.1 58 = .ok (.lload_n 1, 1) := by decide +kernel
theorem d_X12_isOwn_59 : decode mX12_isOwn.2.2.1 59 = .ok (.ldc2_w 413, 3) := by decide +kernel
theorem kl_12_413 : Jvm.Cond.constantLong (e_cn 12) 413 (Int64.ofInt 1952541036) ∈ tblG := tblG_in (inT8 (List.mem_of_getElem? (i := 144) rfl)) rfl
theorem d_X12_isOwn_62 : decode mX12_isOwn.2.2.1 62 = .ok (.lcmp, 1) := by decide +kernel
theorem d_X12_isOwn_63 : decode mX12_isOwn.2.2.1 63 = .ok (.ifCond .eq 19, 3) := by decide +kernel
theorem d_X12_isOwn_66 : decode mX12_isOwn.2.2.1 66 = .ok (.lload_n 1, 1) := by decide +kernel
theorem d_X12_isOwn_67 : decode mX12_isOwn.2.2.1 67 = .ok (.ldc2_w 415, 3) := by decide +kernel
theorem d_X12_isOwn_70 : decode mX12_isOwn.2.2.1 70 = .ok (.lcmp, 1) := by decide +kernel
theorem d_X12_isOwn_71 : decode mX12_isOwn.2.2.1 71 = .ok (.ifCond .eq 11, 3) := by decide +kernel
theorem d_X12_isOwn_74 : decode mX12_isOwn.2.2.1 74 = .ok (.lload_n 1, 1) := by decide +kernel
theorem d_X12_isOwn_75 : decode mX12_isOwn.2.2.1 75 = .ok (.ldc2_w 417, 3) := by decide +kernel
theorem d_X12_isOwn_78 : decode mX12_isOwn.2.2.1 78 = .ok (.lcmp, 1) := by decide +kernel
theorem d_X12_isOwn_79 : decode mX12_isOwn.2.2.1 79 = .ok (.ifCond .ne 5, 3) := by decide +kernel
theorem d_X12_isOwn_84 : decode mX12_isOwn.2.2.1 84 = .ok (.lload_n 1, 1) := by decide +kernel
theorem d_X12_isOwn_85 : decode mX12_isOwn.2.2.1 85 = .ok (.ldc2_w 419, 3) := by decide +kernel
theorem kl_12_419 : Jvm.Cond.constantLong (e_cn 12) 419 (Int64.ofInt 7562612) ∈ tblG := tblG_in (inT8 (List.mem_of_getElem? (i := 147) rfl)) rfl
theorem d_X12_isOwn_88 : decode mX12_isOwn.2.2.1 88 = .ok (.lcmp, 1) := by decide +kernel
theorem d_X12_isOwn_89 : decode mX12_isOwn.2.2.1 89 = .ok (.ifCond .eq 35, 3) := by decide +kernel
theorem d_X12_isOwn_124 : decode mX12_isOwn.2.2.1 124 = .ok (.iconst 1, 1) := by decide +kernel
theorem d_X12_isOwn_125 : decode mX12_isOwn.2.2.1 125 = .ok (.ireturn, 1) := by decide +kernel
theorem d_X12_isOwn_92 : decode mX12_isOwn.2.2.1 92 = .ok (.lload_n 1, 1) := by decide +kernel
theorem d_X12_isOwn_93 : decode mX12_isOwn.2.2.1 93 = .ok (.ldc2_w 421, 3) := by decide +kernel
theorem kl_12_421 : Jvm.Cond.constantLong (e_cn 12) 421 (Int64.ofInt 7697253) ∈ tblG := tblG_in (inT8 (List.mem_of_getElem? (i := 148) rfl)) rfl
theorem d_X12_isOwn_96 : decode mX12_isOwn.2.2.1 96 = .ok (.lcmp, 1) := by decide +kernel
theorem d_X12_isOwn_97 : decode mX12_isOwn.2.2.1 97 = .ok (.ifCond .eq 27, 3) := by decide +kernel
theorem d_X12_isOwn_100 : decode mX12_isOwn.2.2.1 100 = .ok (.lload_n 1, 1) := by decide +kernel
theorem d_X12_isOwn_101 : decode mX12_isOwn.2.2.1 101 = .ok (.ldc2_w 423, 3) := by decide +kernel
theorem kl_12_423 : Jvm.Cond.constantLong (e_cn 12) 423 (Int64.ofInt 1752132708) ∈ tblG := tblG_in (inT8 (List.mem_of_getElem? (i := 149) rfl)) rfl
theorem d_X12_isOwn_104 : decode mX12_isOwn.2.2.1 104 = .ok (.lcmp, 1) := by decide +kernel
theorem d_X12_isOwn_105 : decode mX12_isOwn.2.2.1 105 = .ok (.ifCond .eq 19, 3) := by decide +kernel
theorem d_X12_isOwn_108 : decode mX12_isOwn.2.2.1 108 = .ok (.lload_n 1, 1) := by decide +kernel
theorem d_X12_isOwn_109 : decode mX12_isOwn.2.2.1 109 = .ok (.ldc2_w 425, 3) := by decide +kernel
theorem kl_12_425 : Jvm.Cond.constantLong (e_cn 12) 425 (Int64.ofInt 1718773093) ∈ tblG := tblG_in (inT8 (List.mem_of_getElem? (i := 150) rfl)) rfl
theorem d_X12_isOwn_112 : decode mX12_isOwn.2.2.1 112 = .ok (.lcmp, 1) := by decide +kernel
theorem d_X12_isOwn_113 : decode mX12_isOwn.2.2.1 113 = .ok (.ifCond .eq 11, 3) := by decide +kernel
theorem d_X12_isOwn_116 : decode mX12_isOwn.2.2.1 116 = .ok (.lload_n 1, 1) := by decide +kernel
theorem d_X12_isOwn_117 : decode mX12_isOwn.2.2.1 117 = .ok (.ldc2_w 427, 3) := by decide +kernel
theorem kl_12_427 : Jvm.Cond.constantLong (e_cn 12) 427 (Int64.ofInt 2002872692) ∈ tblG := tblG_in (inT8 (List.mem_of_getElem? (i := 151) rfl)) rfl
theorem d_X12_isOwn_120 : decode mX12_isOwn.2.2.1 120 = .ok (.lcmp, 1) := by decide +kernel
theorem d_X12_isOwn_121 : decode mX12_isOwn.2.2.1 121 = .ok (.ifCond .ne 5, 3) := by decide +kernel
theorem d_X12_isOwn_126 : decode mX12_isOwn.2.2.1 126 = .ok (.lload_n 1, 1) := by decide +kernel
theorem d_X12_isOwn_127 : decode mX12_isOwn.2.2.1 127 = .ok (.ldc2_w 429, 3) := by decide +kernel
theorem kl_12_429 : Jvm.Cond.constantLong (e_cn 12) 429 (Int64.ofInt 500086170472) ∈ tblG := tblG_in (inT8 (List.mem_of_getElem? (i := 152) rfl)) rfl
theorem d_X12_isOwn_130 : decode mX12_isOwn.2.2.1 130 = .ok (.lcmp, 1) := by decide +kernel
theorem d_X12_isOwn_131 : decode mX12_isOwn.2.2.1 131 = .ok (.ifCond .eq 35, 3) := by decide +kernel
theorem d_X12_isOwn_166 : decode mX12_isOwn.2.2.1 166 = .ok (.iconst 1, 1) := by decide +kernel
theorem d_X12_isOwn_167 : decode mX12_isOwn.2.2.1 167 = .ok (.ireturn, 1) := by decide +kernel
theorem d_X12_isOwn_134 : decode mX12_isOwn.2.2.1 134 = .ok (.lload_n 1, 1) := by decide +kernel
theorem d_X12_isOwn_135 : decode mX12_isOwn.2.2.1 135 = .ok (.ldc2_w 431, 3) := by decide +kernel
theorem kl_12_431 : Jvm.Cond.constantLong (e_cn 12) 431 (Int64.ofInt 26982) ∈ tblG := tblG_in (inT8 (List.mem_of_getElem? (i := 153) rfl)) rfl
theorem d_X12_isOwn_138 : decode mX12_isOwn.2.2.1 138 = .ok (.lcmp, 1) := by decide +kernel
theorem d_X12_isOwn_139 : decode mX12_isOwn.2.2.1 139 = .ok (.ifCond .eq 27, 3) := by decide +kernel
theorem d_X12_isOwn_142 : decode mX12_isOwn.2.2.1 142 = .ok (.lload_n 1, 1) := by decide +kernel
theorem d_X12_isOwn_143 : decode mX12_isOwn.2.2.1 143 = .ok (.ldc2_w 433, 3) := by decide +kernel
theorem kl_12_433 : Jvm.Cond.constantLong (e_cn 12) 433 (Int64.ofInt 1701606245) ∈ tblG := tblG_in (inT8 (List.mem_of_getElem? (i := 154) rfl)) rfl
theorem d_X12_isOwn_146 : decode mX12_isOwn.2.2.1 146 = .ok (.lcmp, 1) := by decide +kernel
theorem d_X12_isOwn_147 : decode mX12_isOwn.2.2.1 147 = .ok (.ifCond .eq 19, 3) := by decide +kernel
theorem d_X12_isOwn_150 : decode mX12_isOwn.2.2.1 150 = .ok (.lload_n 1, 1) := by decide +kernel
theorem d_X12_isOwn_151 : decode mX12_isOwn.2.2.1 151 = .ok (.ldc2_w 435, 3) := by decide +kernel
theorem kl_12_435 : Jvm.Cond.constantLong (e_cn 12) 435 (Int64.ofInt 512852847717) ∈ tblG := tblG_in (inT8 (List.mem_of_getElem? (i := 155) rfl)) rfl
theorem d_X12_isOwn_154 : decode mX12_isOwn.2.2.1 154 = .ok (.lcmp, 1) := by decide +kernel
theorem d_X12_isOwn_155 : decode mX12_isOwn.2.2.1 155 = .ok (.ifCond .eq 11, 3) := by decide +kernel
theorem d_X12_isOwn_158 : decode mX12_isOwn.2.2.1 158 = .ok (.lload_n 1, 1) := by decide +kernel
theorem d_X12_isOwn_159 : decode mX12_isOwn.2.2.1 159 = .ok (.ldc2_w 437, 3) := by decide +kernel
theorem kl_12_437 : Jvm.Cond.constantLong (e_cn 12) 437 (Int64.ofInt 28530) ∈ tblG := tblG_in (inT8 (List.mem_of_getElem? (i := 156) rfl)) rfl
theorem d_X12_isOwn_162 : decode mX12_isOwn.2.2.1 162 = .ok (.lcmp, 1) := by decide +kernel
theorem d_X12_isOwn_163 : decode mX12_isOwn.2.2.1 163 = .ok (.ifCond .ne 5, 3) := by decide +kernel
theorem d_X12_isOwn_168 : decode mX12_isOwn.2.2.1 168 = .ok (.lload_n 1, 1) := by decide +kernel
theorem d_X12_isOwn_169 : decode mX12_isOwn.2.2.1 169 = .ok (.ldc2_w 439, 3) := by decide +kernel
theorem kl_12_439 : Jvm.Cond.constantLong (e_cn 12) 439 (Int64.ofInt 6385252) ∈ tblG := tblG_in (inT8 (List.mem_of_getElem? (i := 157) rfl)) rfl
theorem d_X12_isOwn_172 : decode mX12_isOwn.2.2.1 172 = .ok (.lcmp, 1) := by decide +kernel
theorem d_X12_isOwn_173 : decode mX12_isOwn.2.2.1 173 = .ok (.ifCond .eq 35, 3) := by decide +kernel
theorem d_X12_isOwn_208 : decode mX12_isOwn.2.2.1 208 = .ok (.iconst 1, 1) := by decide +kernel
theorem d_X12_isOwn_209 : decode mX12_isOwn.2.2.1 209 = .ok (.ireturn, 1) := by decide +kernel
theorem d_X12_isOwn_176 : decode mX12_isOwn.2.2.1 176 = .ok (.lload_n 1, 1) := by decide +kernel
theorem d_X12_isOwn_177 : decode mX12_isOwn.2.2.1 177 = .ok (.ldc2_w 441, 3) := by decide +kernel
theorem kl_12_441 : Jvm.Cond.constantLong (e_cn 12) 441 (Int64.ofInt 7237492) ∈ tblG := tblG_in (inT8 (List.mem_of_getElem? (i := 158) rfl)) rfl
theorem d_X12_isOwn_180 : decode mX12_isOwn.2.2.1 180 = .ok (.lcmp, 1) := by decide +kernel
theorem d_X12_isOwn_181 : decode mX12_isOwn.2.2.1 181 = .ok (.ifCond .eq 27, 3) := by decide +kernel
theorem d_X12_isOwn_184 : decode mX12_isOwn.2.2.1 184 = .ok (.lload_n 1, 1) := by decide +kernel
theorem d_X12_isOwn_185 : decode mX12_isOwn.2.2.1 185 = .ok (.ldc2_w 443, 3) := by decide +kernel
theorem kl_12_443 : Jvm.Cond.constantLong (e_cn 12) 443 (Int64.ofInt 6384748) ∈ tblG := tblG_in (inT8 (List.mem_of_getElem? (i := 159) rfl)) rfl
theorem d_X12_isOwn_188 : decode mX12_isOwn.2.2.1 188 = .ok (.lcmp, 1) := by decide +kernel
theorem d_X12_isOwn_189 : decode mX12_isOwn.2.2.1 189 = .ok (.ifCond .eq 19, 3) := by decide +kernel
theorem d_X12_isOwn_192 : decode mX12_isOwn.2.2.1 192 = .ok (.lload_n 1, 1) := by decide +kernel
theorem d_X12_isOwn_193 : decode mX12_isOwn.2.2.1 193 = .ok (.ldc2_w 445, 3) := by decide +kernel
theorem kl_12_445 : Jvm.Cond.constantLong (e_cn 12) 445 (Int64.ofInt 1751477348) ∈ tblG := tblG_in (inT8 (List.mem_of_getElem? (i := 160) rfl)) rfl
theorem d_X12_isOwn_196 : decode mX12_isOwn.2.2.1 196 = .ok (.lcmp, 1) := by decide +kernel
theorem d_X12_isOwn_197 : decode mX12_isOwn.2.2.1 197 = .ok (.ifCond .eq 11, 3) := by decide +kernel
theorem d_X12_isOwn_200 : decode mX12_isOwn.2.2.1 200 = .ok (.lload_n 1, 1) := by decide +kernel
theorem d_X12_isOwn_201 : decode mX12_isOwn.2.2.1 201 = .ok (.ldc2_w 447, 3) := by decide +kernel
theorem kl_12_447 : Jvm.Cond.constantLong (e_cn 12) 447 (Int64.ofInt 1953063787) ∈ tblG := tblG_in (inT8 (List.mem_of_getElem? (i := 161) rfl)) rfl
theorem d_X12_isOwn_204 : decode mX12_isOwn.2.2.1 204 = .ok (.lcmp, 1) := by decide +kernel
theorem d_X12_isOwn_205 : decode mX12_isOwn.2.2.1 205 = .ok (.ifCond .ne 5, 3) := by decide +kernel
theorem d_X12_isOwn_210 : decode mX12_isOwn.2.2.1 210 = .ok (.lload_n 1, 1) := by decide +kernel
theorem d_X12_isOwn_211 : decode mX12_isOwn.2.2.1 211 = .ok (.ldc2_w 449, 3) := by decide +kernel
theorem kl_12_449 : Jvm.Cond.constantLong (e_cn 12) 449 (Int64.ofInt 7170414) ∈ tblG := tblG_in (inT8 (List.mem_of_getElem? (i := 162) rfl)) rfl
theorem d_X12_isOwn_214 : decode mX12_isOwn.2.2.1 214 = .ok (.lcmp, 1) := by decide +kernel
theorem d_X12_isOwn_215 : decode mX12_isOwn.2.2.1 215 = .ok (.ifCond .eq 11, 3) := by decide +kernel
theorem d_X12_isOwn_226 : decode mX12_isOwn.2.2.1 226 = .ok (.iconst 1, 1) := by decide +kernel
theorem d_X12_isOwn_227 : decode mX12_isOwn.2.2.1 227 = .ok (.ireturn, 1) := by decide +kernel
theorem d_X12_isOwn_218 : decode mX12_isOwn.2.2.1 218 = .ok (.lload_n 1, 1) := by decide +kernel
theorem d_X12_isOwn_219 : decode mX12_isOwn.2.2.1 219 = .ok (.ldc2_w 451, 3) := by decide +kernel
theorem kl_12_451 : Jvm.Cond.constantLong (e_cn 12) 451 (Int64.ofInt 7168376) ∈ tblG := tblG_in (inT8 (List.mem_of_getElem? (i := 163) rfl)) rfl
theorem d_X12_isOwn_222 : decode mX12_isOwn.2.2.1 222 = .ok (.lcmp, 1) := by decide +kernel
theorem d_X12_isOwn_223 : decode mX12_isOwn.2.2.1 223 = .ok (.ifCond .ne 5, 3) := by decide +kernel
theorem d_X12_isOwn_228 : decode mX12_isOwn.2.2.1 228 = .ok (.iconst 0, 1) := by decide +kernel
theorem d_X12_isOwn_229 : decode mX12_isOwn.2.2.1 229 = .ok (.ireturn, 1) := by decide +kernel
theorem ok_X12_isOwn : e_m mX12_isOwn 1 := ⟨tblG_in (inT8 (List.mem_of_getElem? (i := 139) rfl)) rfl, plainFor_of_name (by decide), rfl, ini_12, by decide +kernel, by decide⟩
theorem d_X12_fresh_25 : decode mX12_fresh.2.2.1 25 = .ok (.ifCond .eq 12, 3) := by decide +kernel
theorem d_X12_fresh_7 : decode mX12_fresh.2.2.1 7 = .ok (.lconst 0, 1) := by decide +kernel
theorem d_X12_fresh_8 : decode mX12_fresh.2.2.1 8 = .ok (.lreturn, 1) := by decide +kernel
theorem d_X12_fresh_28 : decode mX12_fresh.2.2.1 28 = .ok (.aload_n 0, 1) := by decide +kernel
theorem d_X12_fresh_29 : decode mX12_fresh.2.2.1 29 = .ok (.iconst 1, 1) := by decide +kernel
theorem d_X12_fresh_30 : decode mX12_fresh.2.2.1 30 = .ok (.aload_n 0, 1) := by decide +kernel
theorem d_X12_fresh_31 : decode mX12_fresh.2.2.1 31 = .ok (.getfield 23, 3) := by decide +kernel
theorem d_X12_fresh_34 : decode mX12_fresh.2.2.1 34 = .ok (.invokevirtual 389, 3) := by decide +kernel
theorem d_X12_fresh_37 : decode mX12_fresh.2.2.1 37 = .ok (.aload_n 0, 1) := by decide +kernel
theorem d_X12_fresh_38 : decode mX12_fresh.2.2.1 38 = .ok (.getfield 36, 3) := by decide +kernel
theorem d_X12_fresh_41 : decode mX12_fresh.2.2.1 41 = .ok (.ifCond .ne 48, 3) := by decide +kernel
theorem d_X12_fresh_44 : decode mX12_fresh.2.2.1 44 = .ok (.aload_n 0, 1) := by decide +kernel
theorem d_X12_fresh_45 : decode mX12_fresh.2.2.1 45 = .ok (.aload_n 0, 1) := by decide +kernel
theorem d_X12_fresh_46 : decode mX12_fresh.2.2.1 46 = .ok (.getfield 32, 3) := by decide +kernel
theorem d_X12_fresh_49 : decode mX12_fresh.2.2.1 49 = .ok (.invokevirtual 457, 3) := by decide +kernel
def mX12_partOf : MD := (12, yX12_partOf, cX12_partOf, 4, some .int)
theorem sel_X12_partOf : Cond.instanceMethod mX12_partOf.2.1 ∈ tblG ∧ Cond.selects mX12_partOf.2.1.cls mX12_partOf.2.1 mX12_partOf.2.1 ∈ tblG := ⟨tblG_in (inT8 (List.mem_of_getElem? (i := 166) rfl)) rfl, tblG_in (inP6 (q := (mX12_partOf.2.1, 121)) (List.mem_of_getElem? (i := 2) rfl)) rfl⟩
theorem s_12_457 : e_siteV 12 457 mX12_partOf 12 := ⟨tblG_in (inT8 (List.mem_of_getElem? (i := 164) rfl)) rfl, sel_X12_partOf.1, sel_X12_partOf.2, rfl⟩
theorem d_X12_partOf_0 : decode mX12_partOf.2.2.1 0 = .ok (.iconst 0, 1) := by decide +kernel
theorem d_X12_partOf_1 : decode mX12_partOf.2.2.1 1 = .ok (.istore_n 3, 1) := by decide +kernel
theorem d_X12_partOf_2 : decode mX12_partOf.2.2.1 2 = .ok (.iload_n 3, 1) := by decide +kernel
theorem d_X12_partOf_3 : decode mX12_partOf.2.2.1 3 = .ok (.aload_n 0, 1) := by decide +kernel
theorem d_X12_partOf_4 : decode mX12_partOf.2.2.1 4 = .ok (.getfield 63, 3) := by decide +kernel
theorem d_X12_partOf_7 : decode mX12_partOf.2.2.1 7 = .ok (.aload_n 0, 1) := by decide +kernel
theorem d_X12_partOf_8 : decode mX12_partOf.2.2.1 8 = .ok (.getfield 124, 3) := by decide +kernel
theorem d_X12_partOf_11 : decode mX12_partOf.2.2.1 11 = .ok (.iaload, 1) := by decide +kernel
theorem d_X12_partOf_12 : decode mX12_partOf.2.2.1 12 = .ok (.if_icmp .ge 30, 3) := by decide +kernel
theorem d_X12_partOf_42 : decode mX12_partOf.2.2.1 42 = .ok (.iconst (-1), 1) := by decide +kernel
theorem d_X12_partOf_43 : decode mX12_partOf.2.2.1 43 = .ok (.ireturn, 1) := by decide +kernel
theorem d_X12_partOf_15 : decode mX12_partOf.2.2.1 15 = .ok (.aload_n 0, 1) := by decide +kernel
theorem d_X12_partOf_16 : decode mX12_partOf.2.2.1 16 = .ok (.getfield 75, 3) := by decide +kernel
theorem d_X12_partOf_19 : decode mX12_partOf.2.2.1 19 = .ok (.bipush 6, 2) := by decide +kernel
theorem d_X12_partOf_21 : decode mX12_partOf.2.2.1 21 = .ok (.aload_n 0, 1) := by decide +kernel
theorem d_X12_partOf_22 : decode mX12_partOf.2.2.1 22 = .ok (.getfield 124, 3) := by decide +kernel
theorem d_X12_partOf_25 : decode mX12_partOf.2.2.1 25 = .ok (.imul, 1) := by decide +kernel
theorem d_X12_partOf_26 : decode mX12_partOf.2.2.1 26 = .ok (.iload_n 3, 1) := by decide +kernel
theorem d_X12_partOf_27 : decode mX12_partOf.2.2.1 27 = .ok (.iadd, 1) := by decide +kernel
theorem d_X12_partOf_28 : decode mX12_partOf.2.2.1 28 = .ok (.laload, 1) := by decide +kernel
theorem d_X12_partOf_29 : decode mX12_partOf.2.2.1 29 = .ok (.lload_n 1, 1) := by decide +kernel
theorem d_X12_partOf_30 : decode mX12_partOf.2.2.1 30 = .ok (.lcmp, 1) := by decide +kernel
theorem d_X12_partOf_31 : decode mX12_partOf.2.2.1 31 = .ok (.ifCond .ne 5, 3) := by decide +kernel
theorem d_X12_partOf_36 : decode mX12_partOf.2.2.1 36 = .ok (.iinc 3 1, 3) := by decide +kernel
theorem d_X12_partOf_39 : decode mX12_partOf.2.2.1 39 = .ok (.goto (-37), 3) := by decide +kernel
theorem d_X12_partOf_34 : decode mX12_partOf.2.2.1 34 = .ok (.iload_n 3, 1) := by decide +kernel
theorem d_X12_partOf_35 : decode mX12_partOf.2.2.1 35 = .ok (.ireturn, 1) := by decide +kernel
theorem ok_X12_partOf : e_m mX12_partOf 1 := ⟨tblG_in (inT8 (List.mem_of_getElem? (i := 167) rfl)) rfl, plainFor_of_name (by decide), rfl, ini_12, by decide +kernel, by decide⟩
theorem d_X12_fresh_52 : decode mX12_fresh.2.2.1 52 = .ok (.iconst (-1), 1) := by decide +kernel
theorem d_X12_fresh_53 : decode mX12_fresh.2.2.1 53 = .ok (.if_icmp .ne 27, 3) := by decide +kernel
theorem d_X12_fresh_56 : decode mX12_fresh.2.2.1 56 = .ok (.aload_n 0, 1) := by decide +kernel
theorem d_X12_fresh_57 : decode mX12_fresh.2.2.1 57 = .ok (.aload_n 0, 1) := by decide +kernel
theorem d_X12_fresh_58 : decode mX12_fresh.2.2.1 58 = .ok (.getfield 32, 3) := by decide +kernel
theorem d_X12_fresh_61 : decode mX12_fresh.2.2.1 61 = .ok (.invokevirtual 461, 3) := by decide +kernel
def mX12_inputOf : MD := (12, yX12_inputOf, cX12_inputOf, 4, some .int)
theorem sel_X12_inputOf : Cond.instanceMethod mX12_inputOf.2.1 ∈ tblG ∧ Cond.selects mX12_inputOf.2.1.cls mX12_inputOf.2.1 mX12_inputOf.2.1 ∈ tblG := ⟨tblG_in (inT8 (List.mem_of_getElem? (i := 170) rfl)) rfl, tblG_in (inP6 (q := (mX12_inputOf.2.1, 121)) (List.mem_of_getElem? (i := 3) rfl)) rfl⟩
theorem s_12_461 : e_siteV 12 461 mX12_inputOf 12 := ⟨tblG_in (inT8 (List.mem_of_getElem? (i := 168) rfl)) rfl, sel_X12_inputOf.1, sel_X12_inputOf.2, rfl⟩
theorem d_X12_inputOf_0 : decode mX12_inputOf.2.2.1 0 = .ok (.iconst 0, 1) := by decide +kernel
theorem d_X12_inputOf_1 : decode mX12_inputOf.2.2.1 1 = .ok (.istore_n 3, 1) := by decide +kernel
theorem d_X12_inputOf_2 : decode mX12_inputOf.2.2.1 2 = .ok (.iload_n 3, 1) := by decide +kernel
theorem d_X12_inputOf_3 : decode mX12_inputOf.2.2.1 3 = .ok (.aload_n 0, 1) := by decide +kernel
theorem d_X12_inputOf_4 : decode mX12_inputOf.2.2.1 4 = .ok (.getfield 66, 3) := by decide +kernel
theorem d_X12_inputOf_7 : decode mX12_inputOf.2.2.1 7 = .ok (.aload_n 0, 1) := by decide +kernel
theorem d_X12_inputOf_8 : decode mX12_inputOf.2.2.1 8 = .ok (.getfield 124, 3) := by decide +kernel
theorem d_X12_inputOf_11 : decode mX12_inputOf.2.2.1 11 = .ok (.iaload, 1) := by decide +kernel
theorem d_X12_inputOf_12 : decode mX12_inputOf.2.2.1 12 = .ok (.if_icmp .ge 29, 3) := by decide +kernel
theorem d_X12_inputOf_41 : decode mX12_inputOf.2.2.1 41 = .ok (.iconst (-1), 1) := by decide +kernel
theorem d_X12_inputOf_42 : decode mX12_inputOf.2.2.1 42 = .ok (.ireturn, 1) := by decide +kernel
theorem d_X12_inputOf_15 : decode mX12_inputOf.2.2.1 15 = .ok (.aload_n 0, 1) := by decide +kernel
theorem d_X12_inputOf_16 : decode mX12_inputOf.2.2.1 16 = .ok (.getfield 82, 3) := by decide +kernel
theorem d_X12_inputOf_19 : decode mX12_inputOf.2.2.1 19 = .ok (.iconst 3, 1) := by decide +kernel
theorem d_X12_inputOf_20 : decode mX12_inputOf.2.2.1 20 = .ok (.aload_n 0, 1) := by decide +kernel
theorem d_X12_inputOf_21 : decode mX12_inputOf.2.2.1 21 = .ok (.getfield 124, 3) := by decide +kernel
theorem d_X12_inputOf_24 : decode mX12_inputOf.2.2.1 24 = .ok (.imul, 1) := by decide +kernel
theorem d_X12_inputOf_25 : decode mX12_inputOf.2.2.1 25 = .ok (.iload_n 3, 1) := by decide +kernel
theorem d_X12_inputOf_26 : decode mX12_inputOf.2.2.1 26 = .ok (.iadd, 1) := by decide +kernel
theorem d_X12_inputOf_27 : decode mX12_inputOf.2.2.1 27 = .ok (.laload, 1) := by decide +kernel
theorem d_X12_inputOf_28 : decode mX12_inputOf.2.2.1 28 = .ok (.lload_n 1, 1) := by decide +kernel
theorem d_X12_inputOf_29 : decode mX12_inputOf.2.2.1 29 = .ok (.lcmp, 1) := by decide +kernel
theorem d_X12_inputOf_30 : decode mX12_inputOf.2.2.1 30 = .ok (.ifCond .ne 5, 3) := by decide +kernel
theorem d_X12_inputOf_35 : decode mX12_inputOf.2.2.1 35 = .ok (.iinc 3 1, 3) := by decide +kernel
theorem d_X12_inputOf_38 : decode mX12_inputOf.2.2.1 38 = .ok (.goto (-36), 3) := by decide +kernel
theorem d_X12_inputOf_33 : decode mX12_inputOf.2.2.1 33 = .ok (.iload_n 3, 1) := by decide +kernel
theorem d_X12_inputOf_34 : decode mX12_inputOf.2.2.1 34 = .ok (.ireturn, 1) := by decide +kernel
