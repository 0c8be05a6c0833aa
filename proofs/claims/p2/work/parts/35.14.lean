theorem d_X12_next_138 : decode mX12_next.2.2.1 138 = .ok (.putfield 32, 3) := by decide +kernel
theorem d_X12_next_141 : decode mX12_next.2.2.1 141 = .ok (.aload_n 0, 1) := by decide +kernel
theorem d_X12_next_142 : decode mX12_next.2.2.1 142 = .ok (.iconst 3, 1) := by decide +kernel
theorem d_X12_next_143 : decode mX12_next.2.2.1 143 = .ok (.putfield 20, 3) := by decide +kernel
theorem d_X12_next_146 : decode mX12_next.2.2.1 146 = .ok (.aload_n 0, 1) := by decide +kernel
theorem d_X12_next_147 : decode mX12_next.2.2.1 147 = .ok (.iload_n 1, 1) := by decide +kernel
theorem d_X12_next_148 : decode mX12_next.2.2.1 148 = .ok (.iconst 1, 1) := by decide +kernel
theorem d_X12_next_149 : decode mX12_next.2.2.1 149 = .ok (.iadd, 1) := by decide +kernel
theorem d_X12_next_150 : decode mX12_next.2.2.1 150 = .ok (.putfield 26, 3) := by decide +kernel
theorem d_X12_next_153 : decode mX12_next.2.2.1 153 = .ok (.iload_n 2, 1) := by decide +kernel
theorem d_X12_next_154 : decode mX12_next.2.2.1 154 = .ok (.ifCond .ne 18, 3) := by decide +kernel
theorem d_X12_next_157 : decode mX12_next.2.2.1 157 = .ok (.iload_n 3, 1) := by decide +kernel
theorem d_X12_next_158 : decode mX12_next.2.2.1 158 = .ok (.ifCond .ne 14, 3) := by decide +kernel
theorem d_X12_next_161 : decode mX12_next.2.2.1 161 = .ok (.aload_n 0, 1) := by decide +kernel
theorem d_X12_next_162 : decode mX12_next.2.2.1 162 = .ok (.aload_n 0, 1) := by decide +kernel
theorem d_X12_next_163 : decode mX12_next.2.2.1 163 = .ok (.getfield 7, 3) := by decide +kernel
theorem d_X12_next_166 : decode mX12_next.2.2.1 166 = .ok (.iload_n 1, 1) := by decide +kernel
theorem d_X12_next_167 : decode mX12_next.2.2.1 167 = .ok (.iaload, 1) := by decide +kernel
theorem d_X12_next_168 : decode mX12_next.2.2.1 168 = .ok (.putfield 29, 3) := by decide +kernel
theorem d_X12_next_171 : decode mX12_next.2.2.1 171 = .ok (.return_, 1) := by decide +kernel
theorem d_X12_next_172 : decode mX12_next.2.2.1 172 = .ok (.aload_n 0, 1) := by decide +kernel
theorem d_X12_next_173 : decode mX12_next.2.2.1 173 = .ok (.iload_n 2, 1) := by decide +kernel
theorem d_X12_next_174 : decode mX12_next.2.2.1 174 = .ok (.ifCond .eq 7, 3) := by decide +kernel
theorem d_X12_next_181 : decode mX12_next.2.2.1 181 = .ok (.iconst 2, 1) := by decide +kernel
theorem d_X12_next_177 : decode mX12_next.2.2.1 177 = .ok (.iconst 1, 1) := by decide +kernel
theorem d_X12_next_178 : decode mX12_next.2.2.1 178 = .ok (.goto 4, 3) := by decide +kernel
theorem d_X12_next_182 : decode mX12_next.2.2.1 182 = .ok (.putfield 20, 3) := by decide +kernel
theorem d_X12_next_185 : decode mX12_next.2.2.1 185 = .ok (.iload_n 2, 1) := by decide +kernel
theorem d_X12_next_186 : decode mX12_next.2.2.1 186 = .ok (.ifCond .eq 8, 3) := by decide +kernel
theorem d_X12_next_194 : decode mX12_next.2.2.1 194 = .ok (.iconst 4, 1) := by decide +kernel
theorem d_X12_next_189 : decode mX12_next.2.2.1 189 = .ok (.bipush 6, 2) := by decide +kernel
theorem d_X12_next_191 : decode mX12_next.2.2.1 191 = .ok (.goto 4, 3) := by decide +kernel
theorem d_X12_next_195 : decode mX12_next.2.2.1 195 = .ok (.istore 4, 2) := by decide +kernel
theorem d_X12_next_197 : decode mX12_next.2.2.1 197 = .ok (.iconst 0, 1) := by decide +kernel
theorem d_X12_next_198 : decode mX12_next.2.2.1 198 = .ok (.istore 5, 2) := by decide +kernel
theorem d_X12_next_200 : decode mX12_next.2.2.1 200 = .ok (.iload_n 1, 1) := by decide +kernel
theorem d_X12_next_201 : decode mX12_next.2.2.1 201 = .ok (.aload_n 0, 1) := by decide +kernel
theorem d_X12_next_202 : decode mX12_next.2.2.1 202 = .ok (.getfield 17, 3) := by decide +kernel
theorem d_X12_next_205 : decode mX12_next.2.2.1 205 = .ok (.if_icmp .ge 118, 3) := by decide +kernel
theorem d_X12_next_323 : decode mX12_next.2.2.1 323 = .ok (.aload_n 0, 1) := by decide +kernel
theorem d_X12_next_324 : decode mX12_next.2.2.1 324 = .ok (.iload_n 1, 1) := by decide +kernel
theorem d_X12_next_325 : decode mX12_next.2.2.1 325 = .ok (.putfield 26, 3) := by decide +kernel
theorem d_X12_next_328 : decode mX12_next.2.2.1 328 = .ok (.return_, 1) := by decide +kernel
theorem d_X12_next_208 : decode mX12_next.2.2.1 208 = .ok (.iload_n 2, 1) := by decide +kernel
theorem d_X12_next_209 : decode mX12_next.2.2.1 209 = .ok (.ifCond .eq 18, 3) := by decide +kernel
theorem d_X12_next_227 : decode mX12_next.2.2.1 227 = .ok (.aload_n 0, 1) := by decide +kernel
theorem d_X12_next_228 : decode mX12_next.2.2.1 228 = .ok (.getfield 7, 3) := by decide +kernel
theorem d_X12_next_231 : decode mX12_next.2.2.1 231 = .ok (.iload_n 1, 1) := by decide +kernel
theorem d_X12_next_232 : decode mX12_next.2.2.1 232 = .ok (.iaload, 1) := by decide +kernel
theorem d_X12_next_233 : decode mX12_next.2.2.1 233 = .ok (.invokestatic 386, 3) := by decide +kernel
theorem d_X12_next_236 : decode mX12_next.2.2.1 236 = .ok (.ifCond .eq 87, 3) := by decide +kernel
theorem d_X12_next_212 : decode mX12_next.2.2.1 212 = .ok (.aload_n 0, 1) := by decide +kernel
theorem d_X12_next_213 : decode mX12_next.2.2.1 213 = .ok (.getfield 7, 3) := by decide +kernel
theorem d_X12_next_216 : decode mX12_next.2.2.1 216 = .ok (.iload_n 1, 1) := by decide +kernel
theorem d_X12_next_217 : decode mX12_next.2.2.1 217 = .ok (.iaload, 1) := by decide +kernel
theorem d_X12_next_218 : decode mX12_next.2.2.1 218 = .ok (.invokestatic 382, 3) := by decide +kernel
theorem d_X12_next_221 : decode mX12_next.2.2.1 221 = .ok (.ifCond .eq 102, 3) := by decide +kernel
theorem d_X12_next_224 : decode mX12_next.2.2.1 224 = .ok (.goto 15, 3) := by decide +kernel
theorem d_X12_next_239 : decode mX12_next.2.2.1 239 = .ok (.iload 5, 2) := by decide +kernel
theorem d_X12_next_241 : decode mX12_next.2.2.1 241 = .ok (.iload 4, 2) := by decide +kernel
theorem d_X12_next_243 : decode mX12_next.2.2.1 243 = .ok (.if_icmp .ne 9, 3) := by decide +kernel
theorem d_X12_next_252 : decode mX12_next.2.2.1 252 = .ok (.iload 5, 2) := by decide +kernel
theorem d_X12_next_254 : decode mX12_next.2.2.1 254 = .ok (.iload 4, 2) := by decide +kernel
theorem d_X12_next_256 : decode mX12_next.2.2.1 256 = .ok (.if_icmp .ge 26, 3) := by decide +kernel
theorem d_X12_next_259 : decode mX12_next.2.2.1 259 = .ok (.iload_n 2, 1) := by decide +kernel
theorem d_X12_next_260 : decode mX12_next.2.2.1 260 = .ok (.ifCond .eq 22, 3) := by decide +kernel
theorem d_X12_next_263 : decode mX12_next.2.2.1 263 = .ok (.aload_n 0, 1) := by decide +kernel
theorem d_X12_next_264 : decode mX12_next.2.2.1 264 = .ok (.aload_n 0, 1) := by decide +kernel
theorem d_X12_next_265 : decode mX12_next.2.2.1 265 = .ok (.getfield 32, 3) := by decide +kernel
theorem d_X12_next_268 : decode mX12_next.2.2.1 268 = .ok (.bipush 8, 2) := by decide +kernel
theorem d_X12_next_270 : decode mX12_next.2.2.1 270 = .ok (.lshl, 1) := by decide +kernel
theorem d_X12_next_271 : decode mX12_next.2.2.1 271 = .ok (.aload_n 0, 1) := by decide +kernel
theorem d_X12_next_272 : decode mX12_next.2.2.1 272 = .ok (.getfield 7, 3) := by decide +kernel
theorem d_X12_next_275 : decode mX12_next.2.2.1 275 = .ok (.iload_n 1, 1) := by decide +kernel
theorem d_X12_next_276 : decode mX12_next.2.2.1 276 = .ok (.iaload, 1) := by decide +kernel
theorem d_X12_next_277 : decode mX12_next.2.2.1 277 = .ok (.i2l, 1) := by decide +kernel
theorem d_X12_next_278 : decode mX12_next.2.2.1 278 = .ok (.lor, 1) := by decide +kernel
theorem d_X12_next_279 : decode mX12_next.2.2.1 279 = .ok (.putfield 32, 3) := by decide +kernel
theorem d_X12_next_282 : decode mX12_next.2.2.1 282 = .ok (.iload 5, 2) := by decide +kernel
theorem d_X12_next_284 : decode mX12_next.2.2.1 284 = .ok (.iload 4, 2) := by decide +kernel
theorem d_X12_next_286 : decode mX12_next.2.2.1 286 = .ok (.if_icmp .ge 28, 3) := by decide +kernel
theorem d_X12_next_289 : decode mX12_next.2.2.1 289 = .ok (.iload_n 3, 1) := by decide +kernel
theorem d_X12_next_290 : decode mX12_next.2.2.1 290 = .ok (.ifCond .eq 24, 3) := by decide +kernel
theorem d_X12_next_293 : decode mX12_next.2.2.1 293 = .ok (.aload_n 0, 1) := by decide +kernel
theorem d_X12_next_294 : decode mX12_next.2.2.1 294 = .ok (.bipush 10, 2) := by decide +kernel
theorem d_X12_next_296 : decode mX12_next.2.2.1 296 = .ok (.aload_n 0, 1) := by decide +kernel
theorem d_X12_next_297 : decode mX12_next.2.2.1 297 = .ok (.getfield 29, 3) := by decide +kernel
theorem d_X12_next_300 : decode mX12_next.2.2.1 300 = .ok (.imul, 1) := by decide +kernel
theorem d_X12_next_301 : decode mX12_next.2.2.1 301 = .ok (.aload_n 0, 1) := by decide +kernel
theorem d_X12_next_302 : decode mX12_next.2.2.1 302 = .ok (.getfield 7, 3) := by decide +kernel
theorem d_X12_next_305 : decode mX12_next.2.2.1 305 = .ok (.iload_n 1, 1) := by decide +kernel
theorem d_X12_next_306 : decode mX12_next.2.2.1 306 = .ok (.iaload, 1) := by decide +kernel
theorem d_X12_next_307 : decode mX12_next.2.2.1 307 = .ok (.iadd, 1) := by decide +kernel
theorem d_X12_next_308 : decode mX12_next.2.2.1 308 = .ok (.bipush 48, 2) := by decide +kernel
theorem d_X12_next_310 : decode mX12_next.2.2.1 310 = .ok (.isub, 1) := by decide +kernel
theorem d_X12_next_311 : decode mX12_next.2.2.1 311 = .ok (.putfield 29, 3) := by decide +kernel
theorem d_X12_next_314 : decode mX12_next.2.2.1 314 = .ok (.iinc 5 1, 3) := by decide +kernel
theorem d_X12_next_317 : decode mX12_next.2.2.1 317 = .ok (.iinc 1 1, 3) := by decide +kernel
theorem d_X12_next_320 : decode mX12_next.2.2.1 320 = .ok (.goto (-120), 3) := by decide +kernel
theorem d_X12_next_246 : decode mX12_next.2.2.1 246 = .ok (.aload_n 0, 1) := by decide +kernel
theorem d_X12_next_247 : decode mX12_next.2.2.1 247 = .ok (.iconst 1, 1) := by decide +kernel
theorem d_X12_next_248 : decode mX12_next.2.2.1 248 = .ok (.iload_n 1, 1) := by decide +kernel
theorem d_X12_next_249 : decode mX12_next.2.2.1 249 = .ok (.invokevirtual 389, 3) := by decide +kernel
theorem d_X12_next_35 : decode mX12_next.2.2.1 35 = .ok (.iinc 1 1, 3) := by decide +kernel
theorem d_X12_next_38 : decode mX12_next.2.2.1 38 = .ok (.goto (-33), 3) := by decide +kernel
theorem ok_X12_next : e_m mX12_next 0 := ⟨tblG_in (inT8 (List.mem_of_getElem? (i := 95) rfl)) rfl, plainFor_of_name (by decide), rfl, ini_12, by decide +kernel, by decide⟩
theorem d_X12_text_147 : decode mX12_text.2.2.1 147 = .ok (.iconst 1, 1) := by decide +kernel
theorem d_X12_text_148 : decode mX12_text.2.2.1 148 = .ok (.istore_n 1, 1) := by decide +kernel
theorem d_X12_text_149 : decode mX12_text.2.2.1 149 = .ok (.aload_n 0, 1) := by decide +kernel
theorem d_X12_text_150 : decode mX12_text.2.2.1 150 = .ok (.getfield 36, 3) := by decide +kernel
theorem d_X12_text_153 : decode mX12_text.2.2.1 153 = .ok (.ifCond .ne 30, 3) := by decide +kernel
theorem d_X12_text_156 : decode mX12_text.2.2.1 156 = .ok (.iload_n 1, 1) := by decide +kernel
theorem d_X12_text_157 : decode mX12_text.2.2.1 157 = .ok (.ifCond .eq 26, 3) := by decide +kernel
theorem d_X12_text_160 : decode mX12_text.2.2.1 160 = .ok (.aload_n 0, 1) := by decide +kernel
theorem d_X12_text_161 : decode mX12_text.2.2.1 161 = .ok (.getfield 20, 3) := by decide +kernel
theorem d_X12_text_164 : decode mX12_text.2.2.1 164 = .ok (.ifCond .eq 14, 3) := by decide +kernel
theorem d_X12_text_167 : decode mX12_text.2.2.1 167 = .ok (.aload_n 0, 1) := by decide +kernel
theorem d_X12_text_168 : decode mX12_text.2.2.1 168 = .ok (.invokevirtual 544, 3) := by decide +kernel
def mX12_declares : MD := (12, yX12_declares, cX12_declares, 1, some .boolean)
theorem sel_X12_declares : Cond.instanceMethod mX12_declares.2.1 ∈ tblG ∧ Cond.selects mX12_declares.2.1.cls mX12_declares.2.1 mX12_declares.2.1 ∈ tblG := ⟨tblG_in (inT8 (List.mem_of_getElem? (i := 108) rfl)) rfl, tblG_in (inP5 (q := (mX12_declares.2.1, 121)) (List.mem_of_getElem? (i := 11) rfl)) rfl⟩
theorem s_12_544 : e_siteV 12 544 mX12_declares 12 := ⟨tblG_in (inT8 (List.mem_of_getElem? (i := 106) rfl)) rfl, sel_X12_declares.1, sel_X12_declares.2, rfl⟩
theorem d_X12_declares_0 : decode mX12_declares.2.2.1 0 = .ok (.aload_n 0, 1) := by decide +kernel
theorem d_X12_declares_1 : decode mX12_declares.2.2.1 1 = .ok (.ldc2_w 399, 3) := by decide +kernel
theorem kl_12_399 : Jvm.Cond.constantLong (e_cn 12) 399 (Int64.ofInt 448377483892) ∈ tblG := tblG_in (inT8 (List.mem_of_getElem? (i := 110) rfl)) rfl
theorem d_X12_declares_4 : decode mX12_declares.2.2.1 4 = .ok (.invokevirtual 484, 3) := by decide +kernel
def mX12_isWord : MD := (12, yX12_isWord, cX12_isWord, 3, some .boolean)
theorem sel_X12_isWord : Cond.instanceMethod mX12_isWord.2.1 ∈ tblG ∧ Cond.selects mX12_isWord.2.1.cls mX12_isWord.2.1 mX12_isWord.2.1 ∈ tblG := ⟨tblG_in (inT8 (List.mem_of_getElem? (i := 113) rfl)) rfl, tblG_in (inP5 (q := (mX12_isWord.2.1, 121)) (List.mem_of_getElem? (i := 12) rfl)) rfl⟩
theorem s_12_484 : e_siteV 12 484 mX12_isWord 12 := ⟨tblG_in (inT8 (List.mem_of_getElem? (i := 111) rfl)) rfl, sel_X12_isWord.1, sel_X12_isWord.2, rfl⟩
theorem d_X12_isWord_0 : decode mX12_isWord.2.2.1 0 = .ok (.aload_n 0, 1) := by decide +kernel
theorem d_X12_isWord_1 : decode mX12_isWord.2.2.1 1 = .ok (.getfield 20, 3) := by decide +kernel
theorem d_X12_isWord_4 : decode mX12_isWord.2.2.1 4 = .ok (.iconst 1, 1) := by decide +kernel
theorem d_X12_isWord_5 : decode mX12_isWord.2.2.1 5 = .ok (.if_icmp .ne 16, 3) := by decide +kernel
theorem d_X12_isWord_21 : decode mX12_isWord.2.2.1 21 = .ok (.iconst 0, 1) := by decide +kernel
theorem d_X12_isWord_22 : decode mX12_isWord.2.2.1 22 = .ok (.ireturn, 1) := by decide +kernel
theorem d_X12_isWord_8 : decode mX12_isWord.2.2.1 8 = .ok (.aload_n 0, 1) := by decide +kernel
theorem d_X12_isWord_9 : decode mX12_isWord.2.2.1 9 = .ok (.getfield 32, 3) := by decide +kernel
theorem d_X12_isWord_12 : decode mX12_isWord.2.2.1 12 = .ok (.lload_n 1, 1) := by decide +kernel
theorem d_X12_isWord_13 : decode mX12_isWord.2.2.1 13 = .ok (.lcmp, 1) := by decide +kernel
theorem d_X12_isWord_14 : decode mX12_isWord.2.2.1 14 = .ok (.ifCond .ne 7, 3) := by decide +kernel
theorem d_X12_isWord_17 : decode mX12_isWord.2.2.1 17 = .ok (.iconst 1, 1) := by decide +kernel
theorem d_X12_isWord_18 : decode mX12_isWord.2.2.1 18 = .ok (.goto 4, 3) := by decide +kernel
theorem ok_X12_isWord : e_m mX12_isWord 1 := ⟨tblG_in (inT8 (List.mem_of_getElem? (i := 114) rfl)) rfl, plainFor_of_name (by decide), rfl, ini_12, by decide +kernel, by decide⟩
theorem d_X12_declares_7 : decode mX12_declares.2.2.1 7 = .ok (.ifCond .eq 27, 3) := by decide +kernel
theorem d_X12_declares_34 : decode mX12_declares.2.2.1 34 = .ok (.aload_n 0, 1) := by decide +kernel
theorem d_X12_declares_35 : decode mX12_declares.2.2.1 35 = .ok (.ldc2_w 401, 3) := by decide +kernel
theorem kl_12_401 : Jvm.Cond.constantLong (e_cn 12) 401 (Int64.ofInt 426835667045) ∈ tblG := tblG_in (inT8 (List.mem_of_getElem? (i := 122) rfl)) rfl
theorem d_X12_declares_38 : decode mX12_declares.2.2.1 38 = .ok (.invokevirtual 484, 3) := by decide +kernel
theorem d_X12_declares_41 : decode mX12_declares.2.2.1 41 = .ok (.ifCond .eq 58, 3) := by decide +kernel
theorem d_X12_declares_99 : decode mX12_declares.2.2.1 99 = .ok (.aload_n 0, 1) := by decide +kernel
theorem d_X12_declares_100 : decode mX12_declares.2.2.1 100 = .ok (.ldc2_w 403, 3) := by decide +kernel
theorem kl_12_403 : Jvm.Cond.constantLong (e_cn 12) 403 (Int64.ofInt 1885434484) ∈ tblG := tblG_in (inT8 (List.mem_of_getElem? (i := 123) rfl)) rfl
theorem d_X12_declares_103 : decode mX12_declares.2.2.1 103 = .ok (.invokevirtual 484, 3) := by decide +kernel
theorem d_X12_declares_106 : decode mX12_declares.2.2.1 106 = .ok (.ifCond .eq 10, 3) := by decide +kernel
theorem d_X12_declares_116 : decode mX12_declares.2.2.1 116 = .ok (.aload_n 0, 1) := by decide +kernel
theorem d_X12_declares_117 : decode mX12_declares.2.2.1 117 = .ok (.ldc2_w 415, 3) := by decide +kernel
theorem kl_12_415 : Jvm.Cond.constantLong (e_cn 12) 415 (Int64.ofInt 452824429940) ∈ tblG := tblG_in (inT8 (List.mem_of_getElem? (i := 145) rfl)) rfl
theorem d_X12_declares_120 : decode mX12_declares.2.2.1 120 = .ok (.invokevirtual 484, 3) := by decide +kernel
theorem d_X12_declares_123 : decode mX12_declares.2.2.1 123 = .ok (.ifCond .eq 10, 3) := by decide +kernel
theorem d_X12_declares_133 : decode mX12_declares.2.2.1 133 = .ok (.aload_n 0, 1) := by decide +kernel
theorem d_X12_declares_134 : decode mX12_declares.2.2.1 134 = .ok (.ldc2_w 417, 3) := by decide +kernel
theorem kl_12_417 : Jvm.Cond.constantLong (e_cn 12) 417 (Int64.ofInt 7758194) ∈ tblG := tblG_in (inT8 (List.mem_of_getElem? (i := 146) rfl)) rfl
theorem d_X12_declares_137 : decode mX12_declares.2.2.1 137 = .ok (.invokevirtual 484, 3) := by decide +kernel
theorem d_X12_declares_140 : decode mX12_declares.2.2.1 140 = .ok (.ifCond .eq 10, 3) := by decide +kernel
theorem d_X12_declares_150 : decode mX12_declares.2.2.1 150 = .ok (.iconst 0, 1) := by decide +kernel
theorem d_X12_declares_151 : decode mX12_declares.2.2.1 151 = .ok (.ireturn, 1) := by decide +kernel
theorem d_X12_declares_143 : decode mX12_declares.2.2.1 143 = .ok (.aload_n 0, 1) := by decide +kernel
theorem d_X12_declares_144 : decode mX12_declares.2.2.1 144 = .ok (.invokevirtual 526, 3) := by decide +kernel
def mX12_variable : MD := (12, yX12_variable, cX12_variable, 1, none)
theorem sel_X12_variable : Cond.instanceMethod mX12_variable.2.1 ∈ tblG ∧ Cond.selects mX12_variable.2.1.cls mX12_variable.2.1 mX12_variable.2.1 ∈ tblG := ⟨tblG_in (inT8 (List.mem_of_getElem? (i := 186) rfl)) rfl, tblG_in (inP6 (q := (mX12_variable.2.1, 121)) (List.mem_of_getElem? (i := 7) rfl)) rfl⟩
theorem s_12_526 : e_siteV 12 526 mX12_variable 12 := ⟨tblG_in (inT8 (List.mem_of_getElem? (i := 184) rfl)) rfl, sel_X12_variable.1, sel_X12_variable.2, rfl⟩
theorem d_X12_variable_0 : decode mX12_variable.2.2.1 0 = .ok (.aload_n 0, 1) := by decide +kernel
theorem d_X12_variable_1 : decode mX12_variable.2.2.1 1 = .ok (.aload_n 0, 1) := by decide +kernel
theorem d_X12_variable_2 : decode mX12_variable.2.2.1 2 = .ok (.getfield 69, 3) := by decide +kernel
theorem d_X12_variable_5 : decode mX12_variable.2.2.1 5 = .ok (.aload_n 0, 1) := by decide +kernel
theorem d_X12_variable_6 : decode mX12_variable.2.2.1 6 = .ok (.getfield 124, 3) := by decide +kernel
theorem d_X12_variable_9 : decode mX12_variable.2.2.1 9 = .ok (.iaload, 1) := by decide +kernel
theorem d_X12_variable_10 : decode mX12_variable.2.2.1 10 = .ok (.bipush 6, 2) := by decide +kernel
theorem d_X12_variable_12 : decode mX12_variable.2.2.1 12 = .ok (.if_icmp .ne 7, 3) := by decide +kernel
theorem d_X12_variable_19 : decode mX12_variable.2.2.1 19 = .ok (.iconst 0, 1) := by decide +kernel
theorem d_X12_variable_15 : decode mX12_variable.2.2.1 15 = .ok (.iconst 1, 1) := by decide +kernel
theorem d_X12_variable_16 : decode mX12_variable.2.2.1 16 = .ok (.goto 4, 3) := by decide +kernel
theorem d_X12_variable_20 : decode mX12_variable.2.2.1 20 = .ok (.invokevirtual 505, 3) := by decide +kernel
def mX12_counts : MD := (12, yX12_counts, cX12_counts, 2, none)
theorem sel_X12_counts : Cond.instanceMethod mX12_counts.2.1 ∈ tblG ∧ Cond.selects mX12_counts.2.1.cls mX12_counts.2.1 mX12_counts.2.1 ∈ tblG := ⟨tblG_in (inT8 (List.mem_of_getElem? (i := 130) rfl)) rfl, tblG_in (inP5 (q := (mX12_counts.2.1, 121)) (List.mem_of_getElem? (i := 15) rfl)) rfl⟩
theorem s_12_505 : e_siteV 12 505 mX12_counts 12 := ⟨tblG_in (inT8 (List.mem_of_getElem? (i := 128) rfl)) rfl, sel_X12_counts.1, sel_X12_counts.2, rfl⟩
theorem d_X12_counts_0 : decode mX12_counts.2.2.1 0 = .ok (.iload_n 1, 1) := by decide +kernel
theorem d_X12_counts_1 : decode mX12_counts.2.2.1 1 = .ok (.ifCond .eq 12, 3) := by decide +kernel
theorem d_X12_counts_4 : decode mX12_counts.2.2.1 4 = .ok (.aload_n 0, 1) := by decide +kernel
theorem d_X12_counts_5 : decode mX12_counts.2.2.1 5 = .ok (.iconst 5, 1) := by decide +kernel
theorem d_X12_counts_6 : decode mX12_counts.2.2.1 6 = .ok (.aload_n 0, 1) := by decide +kernel
theorem d_X12_counts_7 : decode mX12_counts.2.2.1 7 = .ok (.getfield 23, 3) := by decide +kernel
theorem d_X12_counts_10 : decode mX12_counts.2.2.1 10 = .ok (.invokevirtual 389, 3) := by decide +kernel
theorem d_X12_counts_13 : decode mX12_counts.2.2.1 13 = .ok (.aload_n 0, 1) := by decide +kernel
theorem d_X12_counts_14 : decode mX12_counts.2.2.1 14 = .ok (.getfield 36, 3) := by decide +kernel
theorem d_X12_counts_17 : decode mX12_counts.2.2.1 17 = .ok (.ifCond .ne 7, 3) := by decide +kernel
theorem d_X12_counts_24 : decode mX12_counts.2.2.1 24 = .ok (.return_, 1) := by decide +kernel
theorem d_X12_counts_20 : decode mX12_counts.2.2.1 20 = .ok (.aload_n 0, 1) := by decide +kernel
theorem d_X12_counts_21 : decode mX12_counts.2.2.1 21 = .ok (.invokevirtual 396, 3) := by decide +kernel
theorem ok_X12_counts : e_m mX12_counts 1 := ⟨tblG_in (inT8 (List.mem_of_getElem? (i := 131) rfl)) rfl, plainFor_of_name (by decide), rfl, ini_12, by decide +kernel, by decide⟩
theorem d_X12_variable_23 : decode mX12_variable.2.2.1 23 = .ok (.aload_n 0, 1) := by decide +kernel
theorem d_X12_variable_24 : decode mX12_variable.2.2.1 24 = .ok (.getfield 36, 3) := by decide +kernel
theorem d_X12_variable_27 : decode mX12_variable.2.2.1 27 = .ok (.ifCond .le 4, 3) := by decide +kernel
theorem d_X12_variable_31 : decode mX12_variable.2.2.1 31 = .ok (.aload_n 0, 1) := by decide +kernel
theorem d_X12_variable_32 : decode mX12_variable.2.2.1 32 = .ok (.getfield 91, 3) := by decide +kernel
theorem d_X12_variable_35 : decode mX12_variable.2.2.1 35 = .ok (.bipush 6, 2) := by decide +kernel
theorem d_X12_variable_37 : decode mX12_variable.2.2.1 37 = .ok (.aload_n 0, 1) := by decide +kernel
theorem d_X12_variable_38 : decode mX12_variable.2.2.1 38 = .ok (.getfield 124, 3) := by decide +kernel
theorem d_X12_variable_41 : decode mX12_variable.2.2.1 41 = .ok (.imul, 1) := by decide +kernel
theorem d_X12_variable_42 : decode mX12_variable.2.2.1 42 = .ok (.aload_n 0, 1) := by decide +kernel
theorem d_X12_variable_43 : decode mX12_variable.2.2.1 43 = .ok (.getfield 69, 3) := by decide +kernel
theorem d_X12_variable_46 : decode mX12_variable.2.2.1 46 = .ok (.aload_n 0, 1) := by decide +kernel
theorem d_X12_variable_47 : decode mX12_variable.2.2.1 47 = .ok (.getfield 124, 3) := by decide +kernel
theorem d_X12_variable_50 : decode mX12_variable.2.2.1 50 = .ok (.iaload, 1) := by decide +kernel
theorem d_X12_variable_51 : decode mX12_variable.2.2.1 51 = .ok (.iadd, 1) := by decide +kernel
theorem d_X12_variable_52 : decode mX12_variable.2.2.1 52 = .ok (.aload_n 0, 1) := by decide +kernel
theorem d_X12_variable_53 : decode mX12_variable.2.2.1 53 = .ok (.invokevirtual 508, 3) := by decide +kernel
def mX12_fresh : MD := (12, yX12_fresh, cX12_fresh, 3, some .long)
theorem sel_X12_fresh : Cond.instanceMethod mX12_fresh.2.1 ∈ tblG ∧ Cond.selects mX12_fresh.2.1.cls mX12_fresh.2.1 mX12_fresh.2.1 ∈ tblG := ⟨tblG_in (inT8 (List.mem_of_getElem? (i := 134) rfl)) rfl, tblG_in (inP6 (q := (mX12_fresh.2.1, 121)) (List.mem_of_getElem? (i := 0) rfl)) rfl⟩
theorem s_12_508 : e_siteV 12 508 mX12_fresh 12 := ⟨tblG_in (inT8 (List.mem_of_getElem? (i := 132) rfl)) rfl, sel_X12_fresh.1, sel_X12_fresh.2, rfl⟩
theorem d_X12_fresh_0 : decode mX12_fresh.2.2.1 0 = .ok (.aload_n 0, 1) := by decide +kernel
theorem d_X12_fresh_1 : decode mX12_fresh.2.2.1 1 = .ok (.getfield 36, 3) := by decide +kernel
theorem d_X12_fresh_4 : decode mX12_fresh.2.2.1 4 = .ok (.ifCond .le 5, 3) := by decide +kernel
theorem d_X12_fresh_9 : decode mX12_fresh.2.2.1 9 = .ok (.aload_n 0, 1) := by decide +kernel
theorem d_X12_fresh_10 : decode mX12_fresh.2.2.1 10 = .ok (.getfield 20, 3) := by decide +kernel
theorem d_X12_fresh_13 : decode mX12_fresh.2.2.1 13 = .ok (.iconst 1, 1) := by decide +kernel
theorem d_X12_fresh_14 : decode mX12_fresh.2.2.1 14 = .ok (.if_icmp .ne 14, 3) := by decide +kernel
theorem d_X12_fresh_17 : decode mX12_fresh.2.2.1 17 = .ok (.aload_n 0, 1) := by decide +kernel
theorem d_X12_fresh_18 : decode mX12_fresh.2.2.1 18 = .ok (.aload_n 0, 1) := by decide +kernel
theorem d_X12_fresh_19 : decode mX12_fresh.2.2.1 19 = .ok (.getfield 32, 3) := by decide +kernel
theorem d_X12_fresh_22 : decode mX12_fresh.2.2.1 22 = .ok (.invokevirtual 453, 3) := by decide +kernel
