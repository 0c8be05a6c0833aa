/-! 50w.00 -/
section
theorem d_L_law_160 : decode mL_law.2.2.1 160 = .ok (.aload_n 1, 1) := by decide +kernel
theorem d_L_law_161 : decode mL_law.2.2.1 161 = .ok (.aload_n 0, 1) := by decide +kernel
theorem d_L_law_162 : decode mL_law.2.2.1 162 = .ok (.iload_n 3, 1) := by decide +kernel
theorem d_L_law_163 : decode mL_law.2.2.1 163 = .ok (.iconst 1, 1) := by decide +kernel
theorem d_L_law_164 : decode mL_law.2.2.1 164 = .ok (.iadd, 1) := by decide +kernel
theorem d_L_law_165 : decode mL_law.2.2.1 165 = .ok (.iaload, 1) := by decide +kernel
theorem d_L_law_166 : decode mL_law.2.2.1 166 = .ok (.aload_n 0, 1) := by decide +kernel
theorem d_L_law_167 : decode mL_law.2.2.1 167 = .ok (.iload_n 3, 1) := by decide +kernel
theorem d_L_law_168 : decode mL_law.2.2.1 168 = .ok (.iconst 2, 1) := by decide +kernel
theorem d_L_law_169 : decode mL_law.2.2.1 169 = .ok (.iadd, 1) := by decide +kernel
theorem d_L_law_170 : decode mL_law.2.2.1 170 = .ok (.iaload, 1) := by decide +kernel
theorem d_L_law_171 : decode mL_law.2.2.1 171 = .ok (.aload_n 0, 1) := by decide +kernel
theorem d_L_law_172 : decode mL_law.2.2.1 172 = .ok (.iload_n 3, 1) := by decide +kernel
theorem d_L_law_173 : decode mL_law.2.2.1 173 = .ok (.iconst 3, 1) := by decide +kernel
theorem d_L_law_174 : decode mL_law.2.2.1 174 = .ok (.iadd, 1) := by decide +kernel
theorem d_L_law_175 : decode mL_law.2.2.1 175 = .ok (.iaload, 1) := by decide +kernel
theorem d_L_law_176 : decode mL_law.2.2.1 176 = .ok (.aload_n 0, 1) := by decide +kernel
theorem d_L_law_177 : decode mL_law.2.2.1 177 = .ok (.iload_n 3, 1) := by decide +kernel
theorem d_L_law_178 : decode mL_law.2.2.1 178 = .ok (.iconst 4, 1) := by decide +kernel
theorem d_L_law_179 : decode mL_law.2.2.1 179 = .ok (.iadd, 1) := by decide +kernel
theorem d_L_law_180 : decode mL_law.2.2.1 180 = .ok (.iaload, 1) := by decide +kernel
theorem d_L_law_181 : decode mL_law.2.2.1 181 = .ok (.aload_n 0, 1) := by decide +kernel
theorem d_L_law_182 : decode mL_law.2.2.1 182 = .ok (.iload_n 3, 1) := by decide +kernel
theorem d_L_law_183 : decode mL_law.2.2.1 183 = .ok (.iconst 5, 1) := by decide +kernel
theorem d_L_law_184 : decode mL_law.2.2.1 184 = .ok (.iadd, 1) := by decide +kernel
theorem d_L_law_185 : decode mL_law.2.2.1 185 = .ok (.iaload, 1) := by decide +kernel
theorem d_L_law_186 : decode mL_law.2.2.1 186 = .ok (.invokevirtual 13, 3) := by decide +kernel
theorem sel_X11_feed : Cond.instanceMethod mX11_feed.2.1 ∈ tblG ∧ Cond.selects mX11_feed.2.1.cls mX11_feed.2.1 mX11_feed.2.1 ∈ tblG := ⟨tblG_in (inT3 (List.mem_of_getElem? (i := 92) rfl)) rfl, tblG_in (inT3 (List.mem_of_getElem? (i := 93) rfl)) rfl⟩
theorem s_13_13 : e_siteV 13 13 mX11_feed 11 := ⟨tblG_in (inT3 (List.mem_of_getElem? (i := 91) rfl)) rfl, sel_X11_feed.1, sel_X11_feed.2, rfl⟩
theorem ok_X11_feed : e_m mX11_feed 5 := ⟨tblG_in (inT3 (List.mem_of_getElem? (i := 94) rfl)) rfl, plainFor_of_name (by decide), rfl, ini_11, by decide +kernel, by decide⟩
theorem d_L_law_189 : decode mL_law.2.2.1 189 = .ok (.pop, 1) := by decide +kernel
theorem d_L_law_190 : decode mL_law.2.2.1 190 = .ok (.aload_n 2, 1) := by decide +kernel
theorem d_L_law_191 : decode mL_law.2.2.1 191 = .ok (.aload_n 0, 1) := by decide +kernel
theorem d_L_law_192 : decode mL_law.2.2.1 192 = .ok (.iload_n 3, 1) := by decide +kernel
theorem d_L_law_193 : decode mL_law.2.2.1 193 = .ok (.iconst 1, 1) := by decide +kernel
theorem d_L_law_194 : decode mL_law.2.2.1 194 = .ok (.iadd, 1) := by decide +kernel
theorem d_L_law_195 : decode mL_law.2.2.1 195 = .ok (.iaload, 1) := by decide +kernel
theorem d_L_law_196 : decode mL_law.2.2.1 196 = .ok (.aload_n 0, 1) := by decide +kernel
theorem d_L_law_197 : decode mL_law.2.2.1 197 = .ok (.iload_n 3, 1) := by decide +kernel
theorem d_L_law_198 : decode mL_law.2.2.1 198 = .ok (.iconst 2, 1) := by decide +kernel
theorem d_L_law_199 : decode mL_law.2.2.1 199 = .ok (.iadd, 1) := by decide +kernel
theorem d_L_law_200 : decode mL_law.2.2.1 200 = .ok (.iaload, 1) := by decide +kernel
theorem d_L_law_201 : decode mL_law.2.2.1 201 = .ok (.aload_n 0, 1) := by decide +kernel
theorem d_L_law_202 : decode mL_law.2.2.1 202 = .ok (.iload_n 3, 1) := by decide +kernel
theorem d_L_law_203 : decode mL_law.2.2.1 203 = .ok (.iconst 3, 1) := by decide +kernel
theorem d_L_law_204 : decode mL_law.2.2.1 204 = .ok (.iadd, 1) := by decide +kernel
theorem d_L_law_205 : decode mL_law.2.2.1 205 = .ok (.iaload, 1) := by decide +kernel
theorem d_L_law_206 : decode mL_law.2.2.1 206 = .ok (.aload_n 0, 1) := by decide +kernel
theorem d_L_law_207 : decode mL_law.2.2.1 207 = .ok (.iload_n 3, 1) := by decide +kernel
theorem d_L_law_208 : decode mL_law.2.2.1 208 = .ok (.iconst 4, 1) := by decide +kernel
theorem d_L_law_209 : decode mL_law.2.2.1 209 = .ok (.iadd, 1) := by decide +kernel
theorem d_L_law_210 : decode mL_law.2.2.1 210 = .ok (.iaload, 1) := by decide +kernel
theorem d_L_law_211 : decode mL_law.2.2.1 211 = .ok (.aload_n 0, 1) := by decide +kernel
theorem d_L_law_212 : decode mL_law.2.2.1 212 = .ok (.iload_n 3, 1) := by decide +kernel
theorem d_L_law_213 : decode mL_law.2.2.1 213 = .ok (.iconst 5, 1) := by decide +kernel
theorem d_L_law_214 : decode mL_law.2.2.1 214 = .ok (.iadd, 1) := by decide +kernel
theorem d_L_law_215 : decode mL_law.2.2.1 215 = .ok (.iaload, 1) := by decide +kernel
theorem d_L_law_216 : decode mL_law.2.2.1 216 = .ok (.invokevirtual 17, 3) := by decide +kernel
theorem sel_X12_feed : Cond.instanceMethod mX12_feed.2.1 ∈ tblG ∧ Cond.selects mX12_feed.2.1.cls mX12_feed.2.1 mX12_feed.2.1 ∈ tblG := ⟨tblG_in (inT8 (List.mem_of_getElem? (i := 77) rfl)) rfl, tblG_in (inT8 (List.mem_of_getElem? (i := 78) rfl)) rfl⟩
theorem s_13_17 : e_siteV 13 17 mX12_feed 12 := ⟨tblG_in (inT8 (List.mem_of_getElem? (i := 76) rfl)) rfl, sel_X12_feed.1, sel_X12_feed.2, rfl⟩
theorem ok_X12_feed : e_m mX12_feed 5 := ⟨tblG_in (inT8 (List.mem_of_getElem? (i := 79) rfl)) rfl, plainFor_of_name (by decide), rfl, ini_12, by decide +kernel, by decide⟩
theorem d_L_law_219 : decode mL_law.2.2.1 219 = .ok (.pop, 1) := by decide +kernel
theorem d_L_law_220 : decode mL_law.2.2.1 220 = .ok (.goto 776, 3) := by decide +kernel
theorem d_L_law_223 : decode mL_law.2.2.1 223 = .ok (.aload_n 1, 1) := by decide +kernel
theorem d_L_law_224 : decode mL_law.2.2.1 224 = .ok (.aload_n 0, 1) := by decide +kernel
theorem d_L_law_225 : decode mL_law.2.2.1 225 = .ok (.iload_n 3, 1) := by decide +kernel
theorem d_L_law_226 : decode mL_law.2.2.1 226 = .ok (.iconst 1, 1) := by decide +kernel
theorem d_L_law_227 : decode mL_law.2.2.1 227 = .ok (.iadd, 1) := by decide +kernel
theorem d_L_law_228 : decode mL_law.2.2.1 228 = .ok (.iaload, 1) := by decide +kernel
theorem d_L_law_229 : decode mL_law.2.2.1 229 = .ok (.invokevirtual 18, 3) := by decide +kernel
theorem sel_X11_end : Cond.instanceMethod mX11_end.2.1 ∈ tblG ∧ Cond.selects mX11_end.2.1.cls mX11_end.2.1 mX11_end.2.1 ∈ tblG := ⟨tblG_in (inT3 (List.mem_of_getElem? (i := 100) rfl)) rfl, tblG_in (inT3 (List.mem_of_getElem? (i := 101) rfl)) rfl⟩
theorem s_13_18 : e_siteV 13 18 mX11_end 11 := ⟨tblG_in (inT3 (List.mem_of_getElem? (i := 99) rfl)) rfl, sel_X11_end.1, sel_X11_end.2, rfl⟩
theorem ok_X11_end : e_m mX11_end 1 := ⟨tblG_in (inT3 (List.mem_of_getElem? (i := 102) rfl)) rfl, plainFor_of_name (by decide), rfl, ini_11, by decide +kernel, by decide⟩
theorem d_L_law_232 : decode mL_law.2.2.1 232 = .ok (.pop, 1) := by decide +kernel
theorem d_L_law_233 : decode mL_law.2.2.1 233 = .ok (.aload_n 2, 1) := by decide +kernel
theorem d_L_law_234 : decode mL_law.2.2.1 234 = .ok (.aload_n 0, 1) := by decide +kernel
theorem d_L_law_235 : decode mL_law.2.2.1 235 = .ok (.iload_n 3, 1) := by decide +kernel
theorem d_L_law_236 : decode mL_law.2.2.1 236 = .ok (.iconst 1, 1) := by decide +kernel
theorem d_L_law_237 : decode mL_law.2.2.1 237 = .ok (.iadd, 1) := by decide +kernel
theorem d_L_law_238 : decode mL_law.2.2.1 238 = .ok (.iaload, 1) := by decide +kernel
theorem d_L_law_239 : decode mL_law.2.2.1 239 = .ok (.invokevirtual 22, 3) := by decide +kernel
theorem sel_X12_end : Cond.instanceMethod mX12_end.2.1 ∈ tblG ∧ Cond.selects mX12_end.2.1.cls mX12_end.2.1 mX12_end.2.1 ∈ tblG := ⟨tblG_in (inT8 (List.mem_of_getElem? (i := 85) rfl)) rfl, tblG_in (inT8 (List.mem_of_getElem? (i := 86) rfl)) rfl⟩
theorem s_13_22 : e_siteV 13 22 mX12_end 12 := ⟨tblG_in (inT8 (List.mem_of_getElem? (i := 84) rfl)) rfl, sel_X12_end.1, sel_X12_end.2, rfl⟩
theorem ok_X12_end : e_m mX12_end 1 := ⟨tblG_in (inT8 (List.mem_of_getElem? (i := 87) rfl)) rfl, plainFor_of_name (by decide), rfl, ini_12, by decide +kernel, by decide⟩
theorem d_L_law_242 : decode mL_law.2.2.1 242 = .ok (.pop, 1) := by decide +kernel
theorem d_L_law_243 : decode mL_law.2.2.1 243 = .ok (.goto 753, 3) := by decide +kernel
theorem d_L_law_246 : decode mL_law.2.2.1 246 = .ok (.aload_n 1, 1) := by decide +kernel
theorem d_L_law_247 : decode mL_law.2.2.1 247 = .ok (.invokevirtual 23, 3) := by decide +kernel
theorem sel_X11_text : Cond.instanceMethod mX11_text.2.1 ∈ tblG ∧ Cond.selects mX11_text.2.1.cls mX11_text.2.1 mX11_text.2.1 ∈ tblG := ⟨tblG_in (inT3 (List.mem_of_getElem? (i := 104) rfl)) rfl, tblG_in (inT3 (List.mem_of_getElem? (i := 105) rfl)) rfl⟩
theorem s_13_23 : e_siteV 13 23 mX11_text 11 := ⟨tblG_in (inT3 (List.mem_of_getElem? (i := 103) rfl)) rfl, sel_X11_text.1, sel_X11_text.2, rfl⟩
theorem ok_X11_text : e_m mX11_text 0 := ⟨tblG_in (inT3 (List.mem_of_getElem? (i := 106) rfl)) rfl, plainFor_of_name (by decide), rfl, ini_11, by decide +kernel, by decide⟩
theorem d_L_law_250 : decode mL_law.2.2.1 250 = .ok (.pop, 1) := by decide +kernel
theorem d_L_law_251 : decode mL_law.2.2.1 251 = .ok (.aload_n 2, 1) := by decide +kernel
theorem d_L_law_252 : decode mL_law.2.2.1 252 = .ok (.invokevirtual 27, 3) := by decide +kernel
theorem sel_X12_text : Cond.instanceMethod mX12_text.2.1 ∈ tblG ∧ Cond.selects mX12_text.2.1.cls mX12_text.2.1 mX12_text.2.1 ∈ tblG := ⟨tblG_in (inT8 (List.mem_of_getElem? (i := 89) rfl)) rfl, tblG_in (inT8 (List.mem_of_getElem? (i := 90) rfl)) rfl⟩
theorem s_13_27 : e_siteV 13 27 mX12_text 12 := ⟨tblG_in (inT8 (List.mem_of_getElem? (i := 88) rfl)) rfl, sel_X12_text.1, sel_X12_text.2, rfl⟩
theorem ok_X12_text : e_m mX12_text 0 := ⟨tblG_in (inT8 (List.mem_of_getElem? (i := 91) rfl)) rfl, plainFor_of_name (by decide), rfl, ini_12, by decide +kernel, by decide⟩
theorem d_L_law_255 : decode mL_law.2.2.1 255 = .ok (.pop, 1) := by decide +kernel
theorem d_L_law_256 : decode mL_law.2.2.1 256 = .ok (.goto 740, 3) := by decide +kernel
theorem d_L_law_259 : decode mL_law.2.2.1 259 = .ok (.aload_n 1, 1) := by decide +kernel
theorem d_L_law_260 : decode mL_law.2.2.1 260 = .ok (.aload_n 0, 1) := by decide +kernel
theorem d_L_law_261 : decode mL_law.2.2.1 261 = .ok (.iload_n 3, 1) := by decide +kernel
theorem d_L_law_262 : decode mL_law.2.2.1 262 = .ok (.iconst 1, 1) := by decide +kernel
theorem d_L_law_263 : decode mL_law.2.2.1 263 = .ok (.iadd, 1) := by decide +kernel
theorem d_L_law_264 : decode mL_law.2.2.1 264 = .ok (.iaload, 1) := by decide +kernel
theorem d_L_law_265 : decode mL_law.2.2.1 265 = .ok (.invokevirtual 28, 3) := by decide +kernel
theorem sel_X11_fault : Cond.instanceMethod mX11_fault.2.1 ∈ tblG ∧ Cond.selects mX11_fault.2.1.cls mX11_fault.2.1 mX11_fault.2.1 ∈ tblG := ⟨tblG_in (inT4 (List.mem_of_getElem? (i := 203) rfl)) rfl, tblG_in (inT4 (List.mem_of_getElem? (i := 204) rfl)) rfl⟩
theorem s_13_28 : e_siteV 13 28 mX11_fault 11 := ⟨tblG_in (inT4 (List.mem_of_getElem? (i := 202) rfl)) rfl, sel_X11_fault.1, sel_X11_fault.2, rfl⟩
theorem ok_X11_fault : e_m mX11_fault 1 := ⟨tblG_in (inT4 (List.mem_of_getElem? (i := 205) rfl)) rfl, plainFor_of_name (by decide), rfl, ini_11, by decide +kernel, by decide⟩
theorem d_L_law_268 : decode mL_law.2.2.1 268 = .ok (.pop, 1) := by decide +kernel
theorem d_L_law_269 : decode mL_law.2.2.1 269 = .ok (.aload_n 2, 1) := by decide +kernel
theorem d_L_law_270 : decode mL_law.2.2.1 270 = .ok (.aload_n 0, 1) := by decide +kernel
theorem d_L_law_271 : decode mL_law.2.2.1 271 = .ok (.iload_n 3, 1) := by decide +kernel
theorem d_L_law_272 : decode mL_law.2.2.1 272 = .ok (.iconst 1, 1) := by decide +kernel
theorem d_L_law_273 : decode mL_law.2.2.1 273 = .ok (.iadd, 1) := by decide +kernel
theorem d_L_law_274 : decode mL_law.2.2.1 274 = .ok (.iaload, 1) := by decide +kernel
theorem d_L_law_275 : decode mL_law.2.2.1 275 = .ok (.invokevirtual 32, 3) := by decide +kernel
theorem sel_X12_fault : Cond.instanceMethod mX12_fault.2.1 ∈ tblG ∧ Cond.selects mX12_fault.2.1.cls mX12_fault.2.1 mX12_fault.2.1 ∈ tblG := ⟨tblG_in (inT9 (List.mem_of_getElem? (i := 19) rfl)) rfl, tblG_in (inT9 (List.mem_of_getElem? (i := 20) rfl)) rfl⟩
theorem s_13_32 : e_siteV 13 32 mX12_fault 12 := ⟨tblG_in (inT9 (List.mem_of_getElem? (i := 18) rfl)) rfl, sel_X12_fault.1, sel_X12_fault.2, rfl⟩
theorem ok_X12_fault : e_m mX12_fault 1 := ⟨tblG_in (inT9 (List.mem_of_getElem? (i := 21) rfl)) rfl, plainFor_of_name (by decide), rfl, ini_12, by decide +kernel, by decide⟩
theorem d_L_law_278 : decode mL_law.2.2.1 278 = .ok (.pop, 1) := by decide +kernel
theorem d_L_law_279 : decode mL_law.2.2.1 279 = .ok (.goto 717, 3) := by decide +kernel
theorem d_L_law_282 : decode mL_law.2.2.1 282 = .ok (.aload_n 1, 1) := by decide +kernel
theorem d_L_law_283 : decode mL_law.2.2.1 283 = .ok (.aload_n 0, 1) := by decide +kernel
theorem d_L_law_284 : decode mL_law.2.2.1 284 = .ok (.iload_n 3, 1) := by decide +kernel
theorem d_L_law_285 : decode mL_law.2.2.1 285 = .ok (.iconst 1, 1) := by decide +kernel
theorem d_L_law_286 : decode mL_law.2.2.1 286 = .ok (.iadd, 1) := by decide +kernel
theorem d_L_law_287 : decode mL_law.2.2.1 287 = .ok (.iaload, 1) := by decide +kernel
theorem d_L_law_288 : decode mL_law.2.2.1 288 = .ok (.invokevirtual 33, 3) := by decide +kernel
theorem sel_X11_has : Cond.instanceMethod mX11_has.2.1 ∈ tblG ∧ Cond.selects mX11_has.2.1.cls mX11_has.2.1 mX11_has.2.1 ∈ tblG := ⟨tblG_in (inT4 (List.mem_of_getElem? (i := 207) rfl)) rfl, tblG_in (inT4 (List.mem_of_getElem? (i := 208) rfl)) rfl⟩
theorem s_13_33 : e_siteV 13 33 mX11_has 11 := ⟨tblG_in (inT4 (List.mem_of_getElem? (i := 206) rfl)) rfl, sel_X11_has.1, sel_X11_has.2, rfl⟩
theorem ok_X11_has : e_m mX11_has 1 := ⟨tblG_in (inT4 (List.mem_of_getElem? (i := 209) rfl)) rfl, plainFor_of_name (by decide), rfl, ini_11, by decide +kernel, by decide⟩
theorem d_L_law_291 : decode mL_law.2.2.1 291 = .ok (.pop, 1) := by decide +kernel
theorem d_L_law_292 : decode mL_law.2.2.1 292 = .ok (.aload_n 2, 1) := by decide +kernel
theorem d_L_law_293 : decode mL_law.2.2.1 293 = .ok (.aload_n 0, 1) := by decide +kernel
theorem d_L_law_294 : decode mL_law.2.2.1 294 = .ok (.iload_n 3, 1) := by decide +kernel
theorem d_L_law_295 : decode mL_law.2.2.1 295 = .ok (.iconst 1, 1) := by decide +kernel
theorem d_L_law_296 : decode mL_law.2.2.1 296 = .ok (.iadd, 1) := by decide +kernel
theorem d_L_law_297 : decode mL_law.2.2.1 297 = .ok (.iaload, 1) := by decide +kernel
theorem d_L_law_298 : decode mL_law.2.2.1 298 = .ok (.invokevirtual 36, 3) := by decide +kernel
theorem sel_X12_has : Cond.instanceMethod mX12_has.2.1 ∈ tblG ∧ Cond.selects mX12_has.2.1.cls mX12_has.2.1 mX12_has.2.1 ∈ tblG := ⟨tblG_in (inT9 (List.mem_of_getElem? (i := 23) rfl)) rfl, tblG_in (inT9 (List.mem_of_getElem? (i := 24) rfl)) rfl⟩
theorem s_13_36 : e_siteV 13 36 mX12_has 12 := ⟨tblG_in (inT9 (List.mem_of_getElem? (i := 22) rfl)) rfl, sel_X12_has.1, sel_X12_has.2, rfl⟩
theorem ok_X12_has : e_m mX12_has 1 := ⟨tblG_in (inT9 (List.mem_of_getElem? (i := 25) rfl)) rfl, plainFor_of_name (by decide), rfl, ini_12, by decide +kernel, by decide⟩
theorem d_L_law_301 : decode mL_law.2.2.1 301 = .ok (.pop, 1) := by decide +kernel
theorem d_L_law_302 : decode mL_law.2.2.1 302 = .ok (.goto 694, 3) := by decide +kernel
theorem d_L_law_305 : decode mL_law.2.2.1 305 = .ok (.aload_n 1, 1) := by decide +kernel
theorem d_L_law_306 : decode mL_law.2.2.1 306 = .ok (.aload_n 0, 1) := by decide +kernel
theorem d_L_law_307 : decode mL_law.2.2.1 307 = .ok (.iload_n 3, 1) := by decide +kernel
theorem d_L_law_308 : decode mL_law.2.2.1 308 = .ok (.iconst 1, 1) := by decide +kernel
theorem d_L_law_309 : decode mL_law.2.2.1 309 = .ok (.iadd, 1) := by decide +kernel
theorem d_L_law_310 : decode mL_law.2.2.1 310 = .ok (.iaload, 1) := by decide +kernel
theorem d_L_law_311 : decode mL_law.2.2.1 311 = .ok (.aload_n 0, 1) := by decide +kernel
theorem d_L_law_312 : decode mL_law.2.2.1 312 = .ok (.iload_n 3, 1) := by decide +kernel
theorem d_L_law_313 : decode mL_law.2.2.1 313 = .ok (.iconst 2, 1) := by decide +kernel
theorem d_L_law_314 : decode mL_law.2.2.1 314 = .ok (.iadd, 1) := by decide +kernel
theorem d_L_law_315 : decode mL_law.2.2.1 315 = .ok (.iaload, 1) := by decide +kernel
theorem d_L_law_316 : decode mL_law.2.2.1 316 = .ok (.aload_n 0, 1) := by decide +kernel
theorem d_L_law_317 : decode mL_law.2.2.1 317 = .ok (.iload_n 3, 1) := by decide +kernel
theorem d_L_law_318 : decode mL_law.2.2.1 318 = .ok (.iconst 3, 1) := by decide +kernel
theorem d_L_law_319 : decode mL_law.2.2.1 319 = .ok (.iadd, 1) := by decide +kernel
theorem d_L_law_320 : decode mL_law.2.2.1 320 = .ok (.iaload, 1) := by decide +kernel
theorem d_L_law_321 : decode mL_law.2.2.1 321 = .ok (.invokevirtual 37, 3) := by decide +kernel
theorem sel_X11_letter : Cond.instanceMethod mX11_letter.2.1 ∈ tblG ∧ Cond.selects mX11_letter.2.1.cls mX11_letter.2.1 mX11_letter.2.1 ∈ tblG := ⟨tblG_in (inT4 (List.mem_of_getElem? (i := 211) rfl)) rfl, tblG_in (inT4 (List.mem_of_getElem? (i := 212) rfl)) rfl⟩
theorem s_13_37 : e_siteV 13 37 mX11_letter 11 := ⟨tblG_in (inT4 (List.mem_of_getElem? (i := 210) rfl)) rfl, sel_X11_letter.1, sel_X11_letter.2, rfl⟩
theorem ok_X11_letter : e_m mX11_letter 3 := ⟨tblG_in (inT4 (List.mem_of_getElem? (i := 213) rfl)) rfl, plainFor_of_name (by decide), rfl, ini_11, by decide +kernel, by decide⟩
theorem d_L_law_324 : decode mL_law.2.2.1 324 = .ok (.pop, 1) := by decide +kernel
theorem d_L_law_325 : decode mL_law.2.2.1 325 = .ok (.aload_n 2, 1) := by decide +kernel
theorem d_L_law_326 : decode mL_law.2.2.1 326 = .ok (.aload_n 0, 1) := by decide +kernel
theorem d_L_law_327 : decode mL_law.2.2.1 327 = .ok (.iload_n 3, 1) := by decide +kernel
theorem d_L_law_328 : decode mL_law.2.2.1 328 = .ok (.iconst 1, 1) := by decide +kernel
theorem d_L_law_329 : decode mL_law.2.2.1 329 = .ok (.iadd, 1) := by decide +kernel
theorem d_L_law_330 : decode mL_law.2.2.1 330 = .ok (.iaload, 1) := by decide +kernel
theorem d_L_law_331 : decode mL_law.2.2.1 331 = .ok (.aload_n 0, 1) := by decide +kernel
theorem d_L_law_332 : decode mL_law.2.2.1 332 = .ok (.iload_n 3, 1) := by decide +kernel
theorem d_L_law_333 : decode mL_law.2.2.1 333 = .ok (.iconst 2, 1) := by decide +kernel
theorem d_L_law_334 : decode mL_law.2.2.1 334 = .ok (.iadd, 1) := by decide +kernel
theorem d_L_law_335 : decode mL_law.2.2.1 335 = .ok (.iaload, 1) := by decide +kernel
theorem d_L_law_336 : decode mL_law.2.2.1 336 = .ok (.aload_n 0, 1) := by decide +kernel
theorem d_L_law_337 : decode mL_law.2.2.1 337 = .ok (.iload_n 3, 1) := by decide +kernel
theorem d_L_law_338 : decode mL_law.2.2.1 338 = .ok (.iconst 3, 1) := by decide +kernel
theorem d_L_law_339 : decode mL_law.2.2.1 339 = .ok (.iadd, 1) := by decide +kernel
theorem d_L_law_340 : decode mL_law.2.2.1 340 = .ok (.iaload, 1) := by decide +kernel
theorem d_L_law_341 : decode mL_law.2.2.1 341 = .ok (.invokevirtual 41, 3) := by decide +kernel
theorem sel_X12_letter : Cond.instanceMethod mX12_letter.2.1 ∈ tblG ∧ Cond.selects mX12_letter.2.1.cls mX12_letter.2.1 mX12_letter.2.1 ∈ tblG := ⟨tblG_in (inT9 (List.mem_of_getElem? (i := 27) rfl)) rfl, tblG_in (inT9 (List.mem_of_getElem? (i := 28) rfl)) rfl⟩
theorem s_13_41 : e_siteV 13 41 mX12_letter 12 := ⟨tblG_in (inT9 (List.mem_of_getElem? (i := 26) rfl)) rfl, sel_X12_letter.1, sel_X12_letter.2, rfl⟩
theorem ok_X12_letter : e_m mX12_letter 3 := ⟨tblG_in (inT9 (List.mem_of_getElem? (i := 29) rfl)) rfl, plainFor_of_name (by decide), rfl, ini_12, by decide +kernel, by decide⟩
theorem d_L_law_344 : decode mL_law.2.2.1 344 = .ok (.pop, 1) := by decide +kernel
theorem d_L_law_345 : decode mL_law.2.2.1 345 = .ok (.goto 651, 3) := by decide +kernel
theorem d_L_law_348 : decode mL_law.2.2.1 348 = .ok (.aload_n 1, 1) := by decide +kernel
theorem d_L_law_349 : decode mL_law.2.2.1 349 = .ok (.aload_n 0, 1) := by decide +kernel
theorem d_L_law_350 : decode mL_law.2.2.1 350 = .ok (.iload_n 3, 1) := by decide +kernel
theorem d_L_law_351 : decode mL_law.2.2.1 351 = .ok (.iconst 1, 1) := by decide +kernel
theorem d_L_law_352 : decode mL_law.2.2.1 352 = .ok (.iadd, 1) := by decide +kernel
theorem d_L_law_353 : decode mL_law.2.2.1 353 = .ok (.iaload, 1) := by decide +kernel
theorem d_L_law_354 : decode mL_law.2.2.1 354 = .ok (.aload_n 0, 1) := by decide +kernel
theorem d_L_law_355 : decode mL_law.2.2.1 355 = .ok (.iload_n 3, 1) := by decide +kernel
theorem d_L_law_356 : decode mL_law.2.2.1 356 = .ok (.iconst 2, 1) := by decide +kernel
theorem d_L_law_357 : decode mL_law.2.2.1 357 = .ok (.iadd, 1) := by decide +kernel
theorem d_L_law_358 : decode mL_law.2.2.1 358 = .ok (.iaload, 1) := by decide +kernel
theorem d_L_law_359 : decode mL_law.2.2.1 359 = .ok (.invokevirtual 42, 3) := by decide +kernel
theorem sel_X11_put : Cond.instanceMethod mX11_put.2.1 ∈ tblG ∧ Cond.selects mX11_put.2.1.cls mX11_put.2.1 mX11_put.2.1 ∈ tblG := ⟨tblG_in (inT4 (List.mem_of_getElem? (i := 219) rfl)) rfl, tblG_in (inT4 (List.mem_of_getElem? (i := 220) rfl)) rfl⟩
theorem s_13_42 : e_siteV 13 42 mX11_put 11 := ⟨tblG_in (inT4 (List.mem_of_getElem? (i := 218) rfl)) rfl, sel_X11_put.1, sel_X11_put.2, rfl⟩
theorem ok_X11_put : e_m mX11_put 2 := ⟨tblG_in (inT4 (List.mem_of_getElem? (i := 221) rfl)) rfl, plainFor_of_name (by decide), rfl, ini_11, by decide +kernel, by decide⟩
theorem d_L_law_362 : decode mL_law.2.2.1 362 = .ok (.pop, 1) := by decide +kernel
theorem d_L_law_363 : decode mL_law.2.2.1 363 = .ok (.aload_n 2, 1) := by decide +kernel
theorem d_L_law_364 : decode mL_law.2.2.1 364 = .ok (.aload_n 0, 1) := by decide +kernel
theorem d_L_law_365 : decode mL_law.2.2.1 365 = .ok (.iload_n 3, 1) := by decide +kernel
theorem d_L_law_366 : decode mL_law.2.2.1 366 = .ok (.iconst 1, 1) := by decide +kernel
theorem d_L_law_367 : decode mL_law.2.2.1 367 = .ok (.iadd, 1) := by decide +kernel
theorem d_L_law_368 : decode mL_law.2.2.1 368 = .ok (.iaload, 1) := by decide +kernel
theorem d_L_law_369 : decode mL_law.2.2.1 369 = .ok (.aload_n 0, 1) := by decide +kernel
theorem d_L_law_370 : decode mL_law.2.2.1 370 = .ok (.iload_n 3, 1) := by decide +kernel
theorem d_L_law_371 : decode mL_law.2.2.1 371 = .ok (.iconst 2, 1) := by decide +kernel
theorem d_L_law_372 : decode mL_law.2.2.1 372 = .ok (.iadd, 1) := by decide +kernel
theorem d_L_law_373 : decode mL_law.2.2.1 373 = .ok (.iaload, 1) := by decide +kernel
theorem d_L_law_374 : decode mL_law.2.2.1 374 = .ok (.invokevirtual 46, 3) := by decide +kernel
theorem sel_X12_put_ : Cond.instanceMethod mX12_put_.2.1 ∈ tblG ∧ Cond.selects mX12_put_.2.1.cls mX12_put_.2.1 mX12_put_.2.1 ∈ tblG := ⟨tblG_in (inT9 (List.mem_of_getElem? (i := 43) rfl)) rfl, tblG_in (inT9 (List.mem_of_getElem? (i := 44) rfl)) rfl⟩
theorem s_13_46 : e_siteV 13 46 mX12_put_ 12 := ⟨tblG_in (inT9 (List.mem_of_getElem? (i := 42) rfl)) rfl, sel_X12_put_.1, sel_X12_put_.2, rfl⟩
theorem ok_X12_put_ : e_m mX12_put_ 2 := ⟨tblG_in (inT9 (List.mem_of_getElem? (i := 45) rfl)) rfl, plainFor_of_name (by decide), rfl, ini_12, by decide +kernel, by decide⟩
theorem d_L_law_377 : decode mL_law.2.2.1 377 = .ok (.pop, 1) := by decide +kernel
theorem d_L_law_378 : decode mL_law.2.2.1 378 = .ok (.goto 618, 3) := by decide +kernel
theorem d_L_law_381 : decode mL_law.2.2.1 381 = .ok (.aload_n 1, 1) := by decide +kernel
theorem d_L_law_382 : decode mL_law.2.2.1 382 = .ok (.aload_n 0, 1) := by decide +kernel
theorem d_L_law_383 : decode mL_law.2.2.1 383 = .ok (.iload_n 3, 1) := by decide +kernel
theorem d_L_law_384 : decode mL_law.2.2.1 384 = .ok (.iconst 1, 1) := by decide +kernel
theorem d_L_law_385 : decode mL_law.2.2.1 385 = .ok (.iadd, 1) := by decide +kernel
theorem d_L_law_386 : decode mL_law.2.2.1 386 = .ok (.iaload, 1) := by decide +kernel
theorem d_L_law_387 : decode mL_law.2.2.1 387 = .ok (.invokevirtual 47, 3) := by decide +kernel
theorem sel_X11_run : Cond.instanceMethod mX11_run.2.1 ∈ tblG ∧ Cond.selects mX11_run.2.1.cls mX11_run.2.1 mX11_run.2.1 ∈ tblG := ⟨tblG_in (inT4 (List.mem_of_getElem? (i := 223) rfl)) rfl, tblG_in (inT4 (List.mem_of_getElem? (i := 224) rfl)) rfl⟩
theorem s_13_47 : e_siteV 13 47 mX11_run 11 := ⟨tblG_in (inT4 (List.mem_of_getElem? (i := 222) rfl)) rfl, sel_X11_run.1, sel_X11_run.2, rfl⟩
end
/-! 50w.01 -/
section
theorem ok_X11_run : e_m mX11_run 1 := ⟨tblG_in (inT4 (List.mem_of_getElem? (i := 225) rfl)) rfl, plainFor_of_name (by decide), rfl, ini_11, by decide +kernel, by decide⟩
theorem d_L_law_390 : decode mL_law.2.2.1 390 = .ok (.pop, 1) := by decide +kernel
theorem d_L_law_391 : decode mL_law.2.2.1 391 = .ok (.aload_n 2, 1) := by decide +kernel
theorem d_L_law_392 : decode mL_law.2.2.1 392 = .ok (.aload_n 0, 1) := by decide +kernel
theorem d_L_law_393 : decode mL_law.2.2.1 393 = .ok (.iload_n 3, 1) := by decide +kernel
theorem d_L_law_394 : decode mL_law.2.2.1 394 = .ok (.iconst 1, 1) := by decide +kernel
theorem d_L_law_395 : decode mL_law.2.2.1 395 = .ok (.iadd, 1) := by decide +kernel
theorem d_L_law_396 : decode mL_law.2.2.1 396 = .ok (.iaload, 1) := by decide +kernel
theorem d_L_law_397 : decode mL_law.2.2.1 397 = .ok (.invokevirtual 50, 3) := by decide +kernel
theorem sel_X12_run : Cond.instanceMethod mX12_run.2.1 ∈ tblG ∧ Cond.selects mX12_run.2.1.cls mX12_run.2.1 mX12_run.2.1 ∈ tblG := ⟨tblG_in (inT9 (List.mem_of_getElem? (i := 47) rfl)) rfl, tblG_in (inT9 (List.mem_of_getElem? (i := 48) rfl)) rfl⟩
theorem s_13_50 : e_siteV 13 50 mX12_run 12 := ⟨tblG_in (inT9 (List.mem_of_getElem? (i := 46) rfl)) rfl, sel_X12_run.1, sel_X12_run.2, rfl⟩
theorem ok_X12_run : e_m mX12_run 1 := ⟨tblG_in (inT9 (List.mem_of_getElem? (i := 49) rfl)) rfl, plainFor_of_name (by decide), rfl, ini_12, by decide +kernel, by decide⟩
theorem d_L_law_400 : decode mL_law.2.2.1 400 = .ok (.pop, 1) := by decide +kernel
theorem d_L_law_401 : decode mL_law.2.2.1 401 = .ok (.goto 595, 3) := by decide +kernel
theorem d_L_law_404 : decode mL_law.2.2.1 404 = .ok (.aload_n 1, 1) := by decide +kernel
theorem d_L_law_405 : decode mL_law.2.2.1 405 = .ok (.aload_n 0, 1) := by decide +kernel
theorem d_L_law_406 : decode mL_law.2.2.1 406 = .ok (.iload_n 3, 1) := by decide +kernel
theorem d_L_law_407 : decode mL_law.2.2.1 407 = .ok (.iconst 1, 1) := by decide +kernel
theorem d_L_law_408 : decode mL_law.2.2.1 408 = .ok (.iadd, 1) := by decide +kernel
theorem d_L_law_409 : decode mL_law.2.2.1 409 = .ok (.iaload, 1) := by decide +kernel
theorem d_L_law_410 : decode mL_law.2.2.1 410 = .ok (.invokevirtual 51, 3) := by decide +kernel
theorem sel_X11_ran : Cond.instanceMethod mX11_ran.2.1 ∈ tblG ∧ Cond.selects mX11_ran.2.1.cls mX11_ran.2.1 mX11_ran.2.1 ∈ tblG := ⟨tblG_in (inT5 (List.mem_of_getElem? (i := 166) rfl)) rfl, tblG_in (inT5 (List.mem_of_getElem? (i := 167) rfl)) rfl⟩
theorem s_13_51 : e_siteV 13 51 mX11_ran 11 := ⟨tblG_in (inT5 (List.mem_of_getElem? (i := 165) rfl)) rfl, sel_X11_ran.1, sel_X11_ran.2, rfl⟩
theorem ok_X11_ran : e_m mX11_ran 1 := ⟨tblG_in (inT5 (List.mem_of_getElem? (i := 168) rfl)) rfl, plainFor_of_name (by decide), rfl, ini_11, by decide +kernel, by decide⟩
theorem d_L_law_413 : decode mL_law.2.2.1 413 = .ok (.pop, 1) := by decide +kernel
theorem d_L_law_414 : decode mL_law.2.2.1 414 = .ok (.aload_n 2, 1) := by decide +kernel
theorem d_L_law_415 : decode mL_law.2.2.1 415 = .ok (.aload_n 0, 1) := by decide +kernel
theorem d_L_law_416 : decode mL_law.2.2.1 416 = .ok (.iload_n 3, 1) := by decide +kernel
theorem d_L_law_417 : decode mL_law.2.2.1 417 = .ok (.iconst 1, 1) := by decide +kernel
theorem d_L_law_418 : decode mL_law.2.2.1 418 = .ok (.iadd, 1) := by decide +kernel
theorem d_L_law_419 : decode mL_law.2.2.1 419 = .ok (.iaload, 1) := by decide +kernel
theorem d_L_law_420 : decode mL_law.2.2.1 420 = .ok (.invokevirtual 54, 3) := by decide +kernel
theorem sel_X12_ran : Cond.instanceMethod mX12_ran.2.1 ∈ tblG ∧ Cond.selects mX12_ran.2.1.cls mX12_ran.2.1 mX12_ran.2.1 ∈ tblG := ⟨tblG_in (inT9 (List.mem_of_getElem? (i := 134) rfl)) rfl, tblG_in (inT9 (List.mem_of_getElem? (i := 135) rfl)) rfl⟩
theorem s_13_54 : e_siteV 13 54 mX12_ran 12 := ⟨tblG_in (inT9 (List.mem_of_getElem? (i := 133) rfl)) rfl, sel_X12_ran.1, sel_X12_ran.2, rfl⟩
theorem ok_X12_ran : e_m mX12_ran 1 := ⟨tblG_in (inT9 (List.mem_of_getElem? (i := 136) rfl)) rfl, plainFor_of_name (by decide), rfl, ini_12, by decide +kernel, by decide⟩
theorem d_L_law_423 : decode mL_law.2.2.1 423 = .ok (.pop, 1) := by decide +kernel
theorem d_L_law_424 : decode mL_law.2.2.1 424 = .ok (.goto 572, 3) := by decide +kernel
theorem d_L_law_427 : decode mL_law.2.2.1 427 = .ok (.aload_n 1, 1) := by decide +kernel
theorem d_L_law_428 : decode mL_law.2.2.1 428 = .ok (.aload_n 0, 1) := by decide +kernel
theorem d_L_law_429 : decode mL_law.2.2.1 429 = .ok (.iload_n 3, 1) := by decide +kernel
theorem d_L_law_430 : decode mL_law.2.2.1 430 = .ok (.iconst 1, 1) := by decide +kernel
theorem d_L_law_431 : decode mL_law.2.2.1 431 = .ok (.iadd, 1) := by decide +kernel
theorem d_L_law_432 : decode mL_law.2.2.1 432 = .ok (.iaload, 1) := by decide +kernel
theorem d_L_law_433 : decode mL_law.2.2.1 433 = .ok (.invokevirtual 55, 3) := by decide +kernel
theorem sel_X11_value : Cond.instanceMethod mX11_value.2.1 ∈ tblG ∧ Cond.selects mX11_value.2.1.cls mX11_value.2.1 mX11_value.2.1 ∈ tblG := ⟨tblG_in (inT5 (List.mem_of_getElem? (i := 170) rfl)) rfl, tblG_in (inT5 (List.mem_of_getElem? (i := 171) rfl)) rfl⟩
theorem s_13_55 : e_siteV 13 55 mX11_value 11 := ⟨tblG_in (inT5 (List.mem_of_getElem? (i := 169) rfl)) rfl, sel_X11_value.1, sel_X11_value.2, rfl⟩
theorem ok_X11_value : e_m mX11_value 1 := ⟨tblG_in (inT5 (List.mem_of_getElem? (i := 172) rfl)) rfl, plainFor_of_name (by decide), rfl, ini_11, by decide +kernel, by decide⟩
theorem d_L_law_436 : decode mL_law.2.2.1 436 = .ok (.pop, 1) := by decide +kernel
theorem d_L_law_437 : decode mL_law.2.2.1 437 = .ok (.aload_n 2, 1) := by decide +kernel
theorem d_L_law_438 : decode mL_law.2.2.1 438 = .ok (.aload_n 0, 1) := by decide +kernel
theorem d_L_law_439 : decode mL_law.2.2.1 439 = .ok (.iload_n 3, 1) := by decide +kernel
theorem d_L_law_440 : decode mL_law.2.2.1 440 = .ok (.iconst 1, 1) := by decide +kernel
theorem d_L_law_441 : decode mL_law.2.2.1 441 = .ok (.iadd, 1) := by decide +kernel
theorem d_L_law_442 : decode mL_law.2.2.1 442 = .ok (.iaload, 1) := by decide +kernel
theorem d_L_law_443 : decode mL_law.2.2.1 443 = .ok (.invokevirtual 58, 3) := by decide +kernel
theorem sel_X12_value : Cond.instanceMethod mX12_value.2.1 ∈ tblG ∧ Cond.selects mX12_value.2.1.cls mX12_value.2.1 mX12_value.2.1 ∈ tblG := ⟨tblG_in (inT9 (List.mem_of_getElem? (i := 138) rfl)) rfl, tblG_in (inT9 (List.mem_of_getElem? (i := 139) rfl)) rfl⟩
theorem s_13_58 : e_siteV 13 58 mX12_value 12 := ⟨tblG_in (inT9 (List.mem_of_getElem? (i := 137) rfl)) rfl, sel_X12_value.1, sel_X12_value.2, rfl⟩
theorem ok_X12_value : e_m mX12_value 1 := ⟨tblG_in (inT9 (List.mem_of_getElem? (i := 140) rfl)) rfl, plainFor_of_name (by decide), rfl, ini_12, by decide +kernel, by decide⟩
theorem d_L_law_446 : decode mL_law.2.2.1 446 = .ok (.pop, 1) := by decide +kernel
theorem d_L_law_447 : decode mL_law.2.2.1 447 = .ok (.goto 549, 3) := by decide +kernel
theorem d_L_law_450 : decode mL_law.2.2.1 450 = .ok (.aload_n 1, 1) := by decide +kernel
theorem d_L_law_451 : decode mL_law.2.2.1 451 = .ok (.aload_n 0, 1) := by decide +kernel
theorem d_L_law_452 : decode mL_law.2.2.1 452 = .ok (.iload_n 3, 1) := by decide +kernel
theorem d_L_law_453 : decode mL_law.2.2.1 453 = .ok (.iconst 1, 1) := by decide +kernel
theorem d_L_law_454 : decode mL_law.2.2.1 454 = .ok (.iadd, 1) := by decide +kernel
theorem d_L_law_455 : decode mL_law.2.2.1 455 = .ok (.iaload, 1) := by decide +kernel
theorem d_L_law_456 : decode mL_law.2.2.1 456 = .ok (.aload_n 0, 1) := by decide +kernel
theorem d_L_law_457 : decode mL_law.2.2.1 457 = .ok (.iload_n 3, 1) := by decide +kernel
theorem d_L_law_458 : decode mL_law.2.2.1 458 = .ok (.iconst 2, 1) := by decide +kernel
theorem d_L_law_459 : decode mL_law.2.2.1 459 = .ok (.iadd, 1) := by decide +kernel
theorem d_L_law_460 : decode mL_law.2.2.1 460 = .ok (.iaload, 1) := by decide +kernel
theorem d_L_law_461 : decode mL_law.2.2.1 461 = .ok (.invokevirtual 59, 3) := by decide +kernel
theorem sel_X11_spent : Cond.instanceMethod mX11_spent.2.1 ∈ tblG ∧ Cond.selects mX11_spent.2.1.cls mX11_spent.2.1 mX11_spent.2.1 ∈ tblG := ⟨tblG_in (inT5 (List.mem_of_getElem? (i := 175) rfl)) rfl, tblG_in (inT5 (List.mem_of_getElem? (i := 176) rfl)) rfl⟩
theorem s_13_59 : e_siteV 13 59 mX11_spent 11 := ⟨tblG_in (inT5 (List.mem_of_getElem? (i := 174) rfl)) rfl, sel_X11_spent.1, sel_X11_spent.2, rfl⟩
theorem ok_X11_spent : e_m mX11_spent 2 := ⟨tblG_in (inT5 (List.mem_of_getElem? (i := 177) rfl)) rfl, plainFor_of_name (by decide), rfl, ini_11, by decide +kernel, by decide⟩
theorem d_L_law_464 : decode mL_law.2.2.1 464 = .ok (.pop, 1) := by decide +kernel
theorem d_L_law_465 : decode mL_law.2.2.1 465 = .ok (.aload_n 2, 1) := by decide +kernel
theorem d_L_law_466 : decode mL_law.2.2.1 466 = .ok (.aload_n 0, 1) := by decide +kernel
theorem d_L_law_467 : decode mL_law.2.2.1 467 = .ok (.iload_n 3, 1) := by decide +kernel
theorem d_L_law_468 : decode mL_law.2.2.1 468 = .ok (.iconst 1, 1) := by decide +kernel
theorem d_L_law_469 : decode mL_law.2.2.1 469 = .ok (.iadd, 1) := by decide +kernel
theorem d_L_law_470 : decode mL_law.2.2.1 470 = .ok (.iaload, 1) := by decide +kernel
theorem d_L_law_471 : decode mL_law.2.2.1 471 = .ok (.aload_n 0, 1) := by decide +kernel
theorem d_L_law_472 : decode mL_law.2.2.1 472 = .ok (.iload_n 3, 1) := by decide +kernel
theorem d_L_law_473 : decode mL_law.2.2.1 473 = .ok (.iconst 2, 1) := by decide +kernel
theorem d_L_law_474 : decode mL_law.2.2.1 474 = .ok (.iadd, 1) := by decide +kernel
theorem d_L_law_475 : decode mL_law.2.2.1 475 = .ok (.iaload, 1) := by decide +kernel
theorem d_L_law_476 : decode mL_law.2.2.1 476 = .ok (.invokevirtual 63, 3) := by decide +kernel
theorem sel_X12_spent : Cond.instanceMethod mX12_spent.2.1 ∈ tblG ∧ Cond.selects mX12_spent.2.1.cls mX12_spent.2.1 mX12_spent.2.1 ∈ tblG := ⟨tblG_in (inT9 (List.mem_of_getElem? (i := 143) rfl)) rfl, tblG_in (inT9 (List.mem_of_getElem? (i := 144) rfl)) rfl⟩
theorem s_13_63 : e_siteV 13 63 mX12_spent 12 := ⟨tblG_in (inT9 (List.mem_of_getElem? (i := 142) rfl)) rfl, sel_X12_spent.1, sel_X12_spent.2, rfl⟩
theorem ok_X12_spent : e_m mX12_spent 2 := ⟨tblG_in (inT9 (List.mem_of_getElem? (i := 145) rfl)) rfl, plainFor_of_name (by decide), rfl, ini_12, by decide +kernel, by decide⟩
theorem d_L_law_479 : decode mL_law.2.2.1 479 = .ok (.pop, 1) := by decide +kernel
theorem d_L_law_480 : decode mL_law.2.2.1 480 = .ok (.goto 516, 3) := by decide +kernel
theorem d_L_law_483 : decode mL_law.2.2.1 483 = .ok (.aload_n 1, 1) := by decide +kernel
theorem d_L_law_484 : decode mL_law.2.2.1 484 = .ok (.aload_n 0, 1) := by decide +kernel
theorem d_L_law_485 : decode mL_law.2.2.1 485 = .ok (.iload_n 3, 1) := by decide +kernel
theorem d_L_law_486 : decode mL_law.2.2.1 486 = .ok (.iconst 1, 1) := by decide +kernel
theorem d_L_law_487 : decode mL_law.2.2.1 487 = .ok (.iadd, 1) := by decide +kernel
theorem d_L_law_488 : decode mL_law.2.2.1 488 = .ok (.iaload, 1) := by decide +kernel
theorem d_L_law_489 : decode mL_law.2.2.1 489 = .ok (.aload_n 0, 1) := by decide +kernel
theorem d_L_law_490 : decode mL_law.2.2.1 490 = .ok (.iload_n 3, 1) := by decide +kernel
theorem d_L_law_491 : decode mL_law.2.2.1 491 = .ok (.iconst 2, 1) := by decide +kernel
theorem d_L_law_492 : decode mL_law.2.2.1 492 = .ok (.iadd, 1) := by decide +kernel
theorem d_L_law_493 : decode mL_law.2.2.1 493 = .ok (.iaload, 1) := by decide +kernel
theorem d_L_law_494 : decode mL_law.2.2.1 494 = .ok (.invokevirtual 64, 3) := by decide +kernel
theorem sel_X11_pays : Cond.instanceMethod mX11_pays.2.1 ∈ tblG ∧ Cond.selects mX11_pays.2.1.cls mX11_pays.2.1 mX11_pays.2.1 ∈ tblG := ⟨tblG_in (inT5 (List.mem_of_getElem? (i := 183) rfl)) rfl, tblG_in (inT5 (List.mem_of_getElem? (i := 184) rfl)) rfl⟩
theorem s_13_64 : e_siteV 13 64 mX11_pays 11 := ⟨tblG_in (inT5 (List.mem_of_getElem? (i := 182) rfl)) rfl, sel_X11_pays.1, sel_X11_pays.2, rfl⟩
theorem ok_X11_pays : e_m mX11_pays 2 := ⟨tblG_in (inT5 (List.mem_of_getElem? (i := 185) rfl)) rfl, plainFor_of_name (by decide), rfl, ini_11, by decide +kernel, by decide⟩
theorem d_L_law_497 : decode mL_law.2.2.1 497 = .ok (.pop, 1) := by decide +kernel
theorem d_L_law_498 : decode mL_law.2.2.1 498 = .ok (.aload_n 2, 1) := by decide +kernel
theorem d_L_law_499 : decode mL_law.2.2.1 499 = .ok (.aload_n 0, 1) := by decide +kernel
theorem d_L_law_500 : decode mL_law.2.2.1 500 = .ok (.iload_n 3, 1) := by decide +kernel
theorem d_L_law_501 : decode mL_law.2.2.1 501 = .ok (.iconst 1, 1) := by decide +kernel
theorem d_L_law_502 : decode mL_law.2.2.1 502 = .ok (.iadd, 1) := by decide +kernel
theorem d_L_law_503 : decode mL_law.2.2.1 503 = .ok (.iaload, 1) := by decide +kernel
theorem d_L_law_504 : decode mL_law.2.2.1 504 = .ok (.aload_n 0, 1) := by decide +kernel
theorem d_L_law_505 : decode mL_law.2.2.1 505 = .ok (.iload_n 3, 1) := by decide +kernel
theorem d_L_law_506 : decode mL_law.2.2.1 506 = .ok (.iconst 2, 1) := by decide +kernel
theorem d_L_law_507 : decode mL_law.2.2.1 507 = .ok (.iadd, 1) := by decide +kernel
theorem d_L_law_508 : decode mL_law.2.2.1 508 = .ok (.iaload, 1) := by decide +kernel
theorem d_L_law_509 : decode mL_law.2.2.1 509 = .ok (.invokevirtual 67, 3) := by decide +kernel
theorem sel_X12_pays : Cond.instanceMethod mX12_pays.2.1 ∈ tblG ∧ Cond.selects mX12_pays.2.1.cls mX12_pays.2.1 mX12_pays.2.1 ∈ tblG := ⟨tblG_in (inT9 (List.mem_of_getElem? (i := 175) rfl)) rfl, tblG_in (inT9 (List.mem_of_getElem? (i := 176) rfl)) rfl⟩
theorem s_13_67 : e_siteV 13 67 mX12_pays 12 := ⟨tblG_in (inT9 (List.mem_of_getElem? (i := 174) rfl)) rfl, sel_X12_pays.1, sel_X12_pays.2, rfl⟩
theorem ok_X12_pays : e_m mX12_pays 2 := ⟨tblG_in (inT9 (List.mem_of_getElem? (i := 177) rfl)) rfl, plainFor_of_name (by decide), rfl, ini_12, by decide +kernel, by decide⟩
theorem d_L_law_512 : decode mL_law.2.2.1 512 = .ok (.pop, 1) := by decide +kernel
theorem d_L_law_513 : decode mL_law.2.2.1 513 = .ok (.goto 483, 3) := by decide +kernel
theorem d_L_law_516 : decode mL_law.2.2.1 516 = .ok (.aload_n 1, 1) := by decide +kernel
theorem d_L_law_517 : decode mL_law.2.2.1 517 = .ok (.aload_n 0, 1) := by decide +kernel
theorem d_L_law_518 : decode mL_law.2.2.1 518 = .ok (.iload_n 3, 1) := by decide +kernel
theorem d_L_law_519 : decode mL_law.2.2.1 519 = .ok (.iconst 1, 1) := by decide +kernel
theorem d_L_law_520 : decode mL_law.2.2.1 520 = .ok (.iadd, 1) := by decide +kernel
theorem d_L_law_521 : decode mL_law.2.2.1 521 = .ok (.iaload, 1) := by decide +kernel
theorem d_L_law_522 : decode mL_law.2.2.1 522 = .ok (.invokevirtual 68, 3) := by decide +kernel
theorem sel_X11_stretches : Cond.instanceMethod mX11_stretches.2.1 ∈ tblG ∧ Cond.selects mX11_stretches.2.1.cls mX11_stretches.2.1 mX11_stretches.2.1 ∈ tblG := ⟨tblG_in (inT5 (List.mem_of_getElem? (i := 212) rfl)) rfl, tblG_in (inT5 (List.mem_of_getElem? (i := 213) rfl)) rfl⟩
theorem s_13_68 : e_siteV 13 68 mX11_stretches 11 := ⟨tblG_in (inT5 (List.mem_of_getElem? (i := 211) rfl)) rfl, sel_X11_stretches.1, sel_X11_stretches.2, rfl⟩
theorem ok_X11_stretches : e_m mX11_stretches 1 := ⟨tblG_in (inT5 (List.mem_of_getElem? (i := 214) rfl)) rfl, plainFor_of_name (by decide), rfl, ini_11, by decide +kernel, by decide⟩
theorem d_L_law_525 : decode mL_law.2.2.1 525 = .ok (.pop, 1) := by decide +kernel
theorem d_L_law_526 : decode mL_law.2.2.1 526 = .ok (.aload_n 2, 1) := by decide +kernel
theorem d_L_law_527 : decode mL_law.2.2.1 527 = .ok (.aload_n 0, 1) := by decide +kernel
theorem d_L_law_528 : decode mL_law.2.2.1 528 = .ok (.iload_n 3, 1) := by decide +kernel
theorem d_L_law_529 : decode mL_law.2.2.1 529 = .ok (.iconst 1, 1) := by decide +kernel
theorem d_L_law_530 : decode mL_law.2.2.1 530 = .ok (.iadd, 1) := by decide +kernel
theorem d_L_law_531 : decode mL_law.2.2.1 531 = .ok (.iaload, 1) := by decide +kernel
theorem d_L_law_532 : decode mL_law.2.2.1 532 = .ok (.invokevirtual 71, 3) := by decide +kernel
theorem sel_X12_stretches : Cond.instanceMethod mX12_stretches.2.1 ∈ tblG ∧ Cond.selects mX12_stretches.2.1.cls mX12_stretches.2.1 mX12_stretches.2.1 ∈ tblG := ⟨tblG_in (inT9 (List.mem_of_getElem? (i := 147) rfl)) rfl, tblG_in (inT9 (List.mem_of_getElem? (i := 148) rfl)) rfl⟩
theorem s_13_71 : e_siteV 13 71 mX12_stretches 12 := ⟨tblG_in (inT9 (List.mem_of_getElem? (i := 146) rfl)) rfl, sel_X12_stretches.1, sel_X12_stretches.2, rfl⟩
theorem ok_X12_stretches : e_m mX12_stretches 1 := ⟨tblG_in (inT9 (List.mem_of_getElem? (i := 149) rfl)) rfl, plainFor_of_name (by decide), rfl, ini_12, by decide +kernel, by decide⟩
theorem d_L_law_535 : decode mL_law.2.2.1 535 = .ok (.pop, 1) := by decide +kernel
theorem d_L_law_536 : decode mL_law.2.2.1 536 = .ok (.goto 460, 3) := by decide +kernel
theorem d_L_law_539 : decode mL_law.2.2.1 539 = .ok (.aload_n 1, 1) := by decide +kernel
theorem d_L_law_540 : decode mL_law.2.2.1 540 = .ok (.aload_n 0, 1) := by decide +kernel
theorem d_L_law_541 : decode mL_law.2.2.1 541 = .ok (.iload_n 3, 1) := by decide +kernel
theorem d_L_law_542 : decode mL_law.2.2.1 542 = .ok (.iconst 1, 1) := by decide +kernel
theorem d_L_law_543 : decode mL_law.2.2.1 543 = .ok (.iadd, 1) := by decide +kernel
theorem d_L_law_544 : decode mL_law.2.2.1 544 = .ok (.iaload, 1) := by decide +kernel
theorem d_L_law_545 : decode mL_law.2.2.1 545 = .ok (.aload_n 0, 1) := by decide +kernel
theorem d_L_law_546 : decode mL_law.2.2.1 546 = .ok (.iload_n 3, 1) := by decide +kernel
theorem d_L_law_547 : decode mL_law.2.2.1 547 = .ok (.iconst 2, 1) := by decide +kernel
theorem d_L_law_548 : decode mL_law.2.2.1 548 = .ok (.iadd, 1) := by decide +kernel
theorem d_L_law_549 : decode mL_law.2.2.1 549 = .ok (.iaload, 1) := by decide +kernel
theorem d_L_law_550 : decode mL_law.2.2.1 550 = .ok (.aload_n 0, 1) := by decide +kernel
theorem d_L_law_551 : decode mL_law.2.2.1 551 = .ok (.iload_n 3, 1) := by decide +kernel
theorem d_L_law_552 : decode mL_law.2.2.1 552 = .ok (.iconst 3, 1) := by decide +kernel
theorem d_L_law_553 : decode mL_law.2.2.1 553 = .ok (.iadd, 1) := by decide +kernel
theorem d_L_law_554 : decode mL_law.2.2.1 554 = .ok (.iaload, 1) := by decide +kernel
theorem d_L_law_555 : decode mL_law.2.2.1 555 = .ok (.invokevirtual 72, 3) := by decide +kernel
theorem sel_X11_stretch : Cond.instanceMethod mX11_stretch.2.1 ∈ tblG ∧ Cond.selects mX11_stretch.2.1.cls mX11_stretch.2.1 mX11_stretch.2.1 ∈ tblG := ⟨tblG_in (inT5 (List.mem_of_getElem? (i := 220) rfl)) rfl, tblG_in (inT5 (List.mem_of_getElem? (i := 221) rfl)) rfl⟩
theorem s_13_72 : e_siteV 13 72 mX11_stretch 11 := ⟨tblG_in (inT5 (List.mem_of_getElem? (i := 219) rfl)) rfl, sel_X11_stretch.1, sel_X11_stretch.2, rfl⟩
theorem ok_X11_stretch : e_m mX11_stretch 3 := ⟨tblG_in (inT5 (List.mem_of_getElem? (i := 222) rfl)) rfl, plainFor_of_name (by decide), rfl, ini_11, by decide +kernel, by decide⟩
theorem d_L_law_558 : decode mL_law.2.2.1 558 = .ok (.pop, 1) := by decide +kernel
theorem d_L_law_559 : decode mL_law.2.2.1 559 = .ok (.aload_n 2, 1) := by decide +kernel
theorem d_L_law_560 : decode mL_law.2.2.1 560 = .ok (.aload_n 0, 1) := by decide +kernel
theorem d_L_law_561 : decode mL_law.2.2.1 561 = .ok (.iload_n 3, 1) := by decide +kernel
theorem d_L_law_562 : decode mL_law.2.2.1 562 = .ok (.iconst 1, 1) := by decide +kernel
theorem d_L_law_563 : decode mL_law.2.2.1 563 = .ok (.iadd, 1) := by decide +kernel
theorem d_L_law_564 : decode mL_law.2.2.1 564 = .ok (.iaload, 1) := by decide +kernel
theorem d_L_law_565 : decode mL_law.2.2.1 565 = .ok (.aload_n 0, 1) := by decide +kernel
theorem d_L_law_566 : decode mL_law.2.2.1 566 = .ok (.iload_n 3, 1) := by decide +kernel
theorem d_L_law_567 : decode mL_law.2.2.1 567 = .ok (.iconst 2, 1) := by decide +kernel
theorem d_L_law_568 : decode mL_law.2.2.1 568 = .ok (.iadd, 1) := by decide +kernel
theorem d_L_law_569 : decode mL_law.2.2.1 569 = .ok (.iaload, 1) := by decide +kernel
theorem d_L_law_570 : decode mL_law.2.2.1 570 = .ok (.aload_n 0, 1) := by decide +kernel
theorem d_L_law_571 : decode mL_law.2.2.1 571 = .ok (.iload_n 3, 1) := by decide +kernel
theorem d_L_law_572 : decode mL_law.2.2.1 572 = .ok (.iconst 3, 1) := by decide +kernel
theorem d_L_law_573 : decode mL_law.2.2.1 573 = .ok (.iadd, 1) := by decide +kernel
theorem d_L_law_574 : decode mL_law.2.2.1 574 = .ok (.iaload, 1) := by decide +kernel
theorem d_L_law_575 : decode mL_law.2.2.1 575 = .ok (.invokevirtual 75, 3) := by decide +kernel
theorem sel_X12_stretch : Cond.instanceMethod mX12_stretch.2.1 ∈ tblG ∧ Cond.selects mX12_stretch.2.1.cls mX12_stretch.2.1 mX12_stretch.2.1 ∈ tblG := ⟨tblG_in (inT9 (List.mem_of_getElem? (i := 159) rfl)) rfl, tblG_in (inT9 (List.mem_of_getElem? (i := 160) rfl)) rfl⟩
theorem s_13_75 : e_siteV 13 75 mX12_stretch 12 := ⟨tblG_in (inT9 (List.mem_of_getElem? (i := 158) rfl)) rfl, sel_X12_stretch.1, sel_X12_stretch.2, rfl⟩
theorem ok_X12_stretch : e_m mX12_stretch 3 := ⟨tblG_in (inT9 (List.mem_of_getElem? (i := 161) rfl)) rfl, plainFor_of_name (by decide), rfl, ini_12, by decide +kernel, by decide⟩
theorem d_L_law_578 : decode mL_law.2.2.1 578 = .ok (.pop, 1) := by decide +kernel
theorem d_L_law_579 : decode mL_law.2.2.1 579 = .ok (.goto 417, 3) := by decide +kernel
theorem d_L_law_582 : decode mL_law.2.2.1 582 = .ok (.aload_n 1, 1) := by decide +kernel
theorem d_L_law_583 : decode mL_law.2.2.1 583 = .ok (.aload_n 0, 1) := by decide +kernel
theorem d_L_law_584 : decode mL_law.2.2.1 584 = .ok (.iload_n 3, 1) := by decide +kernel
theorem d_L_law_585 : decode mL_law.2.2.1 585 = .ok (.iconst 1, 1) := by decide +kernel
theorem d_L_law_586 : decode mL_law.2.2.1 586 = .ok (.iadd, 1) := by decide +kernel
theorem d_L_law_587 : decode mL_law.2.2.1 587 = .ok (.iaload, 1) := by decide +kernel
theorem d_L_law_588 : decode mL_law.2.2.1 588 = .ok (.aload_n 0, 1) := by decide +kernel
theorem d_L_law_589 : decode mL_law.2.2.1 589 = .ok (.iload_n 3, 1) := by decide +kernel
theorem d_L_law_590 : decode mL_law.2.2.1 590 = .ok (.iconst 2, 1) := by decide +kernel
theorem d_L_law_591 : decode mL_law.2.2.1 591 = .ok (.iadd, 1) := by decide +kernel
theorem d_L_law_592 : decode mL_law.2.2.1 592 = .ok (.iaload, 1) := by decide +kernel
theorem d_L_law_593 : decode mL_law.2.2.1 593 = .ok (.invokevirtual 76, 3) := by decide +kernel
theorem sel_X11_lines : Cond.instanceMethod mX11_lines.2.1 ∈ tblG ∧ Cond.selects mX11_lines.2.1.cls mX11_lines.2.1 mX11_lines.2.1 ∈ tblG := ⟨tblG_in (inT5 (List.mem_of_getElem? (i := 232) rfl)) rfl, tblG_in (inT5 (List.mem_of_getElem? (i := 233) rfl)) rfl⟩
theorem s_13_76 : e_siteV 13 76 mX11_lines 11 := ⟨tblG_in (inT5 (List.mem_of_getElem? (i := 231) rfl)) rfl, sel_X11_lines.1, sel_X11_lines.2, rfl⟩
theorem ok_X11_lines : e_m mX11_lines 2 := ⟨tblG_in (inT5 (List.mem_of_getElem? (i := 234) rfl)) rfl, plainFor_of_name (by decide), rfl, ini_11, by decide +kernel, by decide⟩
theorem d_L_law_596 : decode mL_law.2.2.1 596 = .ok (.pop2, 1) := by decide +kernel
theorem d_L_law_597 : decode mL_law.2.2.1 597 = .ok (.aload_n 2, 1) := by decide +kernel
theorem d_L_law_598 : decode mL_law.2.2.1 598 = .ok (.aload_n 0, 1) := by decide +kernel
theorem d_L_law_599 : decode mL_law.2.2.1 599 = .ok (.iload_n 3, 1) := by decide +kernel
theorem d_L_law_600 : decode mL_law.2.2.1 600 = .ok (.iconst 1, 1) := by decide +kernel
theorem d_L_law_601 : decode mL_law.2.2.1 601 = .ok (.iadd, 1) := by decide +kernel
theorem d_L_law_602 : decode mL_law.2.2.1 602 = .ok (.iaload, 1) := by decide +kernel
theorem d_L_law_603 : decode mL_law.2.2.1 603 = .ok (.aload_n 0, 1) := by decide +kernel
theorem d_L_law_604 : decode mL_law.2.2.1 604 = .ok (.iload_n 3, 1) := by decide +kernel
theorem d_L_law_605 : decode mL_law.2.2.1 605 = .ok (.iconst 2, 1) := by decide +kernel
theorem d_L_law_606 : decode mL_law.2.2.1 606 = .ok (.iadd, 1) := by decide +kernel
theorem d_L_law_607 : decode mL_law.2.2.1 607 = .ok (.iaload, 1) := by decide +kernel
theorem d_L_law_608 : decode mL_law.2.2.1 608 = .ok (.invokevirtual 80, 3) := by decide +kernel
theorem sel_X12_lines : Cond.instanceMethod mX12_lines.2.1 ∈ tblG ∧ Cond.selects mX12_lines.2.1.cls mX12_lines.2.1 mX12_lines.2.1 ∈ tblG := ⟨tblG_in (inT9 (List.mem_of_getElem? (i := 167) rfl)) rfl, tblG_in (inT9 (List.mem_of_getElem? (i := 168) rfl)) rfl⟩
theorem s_13_80 : e_siteV 13 80 mX12_lines 12 := ⟨tblG_in (inT9 (List.mem_of_getElem? (i := 166) rfl)) rfl, sel_X12_lines.1, sel_X12_lines.2, rfl⟩
theorem ok_X12_lines : e_m mX12_lines 2 := ⟨tblG_in (inT9 (List.mem_of_getElem? (i := 169) rfl)) rfl, plainFor_of_name (by decide), rfl, ini_12, by decide +kernel, by decide⟩
theorem d_L_law_611 : decode mL_law.2.2.1 611 = .ok (.pop2, 1) := by decide +kernel
theorem d_L_law_612 : decode mL_law.2.2.1 612 = .ok (.goto 384, 3) := by decide +kernel
theorem d_L_law_615 : decode mL_law.2.2.1 615 = .ok (.aload_n 1, 1) := by decide +kernel
theorem d_L_law_616 : decode mL_law.2.2.1 616 = .ok (.aload_n 0, 1) := by decide +kernel
theorem d_L_law_617 : decode mL_law.2.2.1 617 = .ok (.iload_n 3, 1) := by decide +kernel
theorem d_L_law_618 : decode mL_law.2.2.1 618 = .ok (.iconst 1, 1) := by decide +kernel
theorem d_L_law_619 : decode mL_law.2.2.1 619 = .ok (.iadd, 1) := by decide +kernel
end
/-! 50w.02 -/
section
theorem d_L_law_620 : decode mL_law.2.2.1 620 = .ok (.iaload, 1) := by decide +kernel
theorem d_L_law_621 : decode mL_law.2.2.1 621 = .ok (.aload_n 0, 1) := by decide +kernel
theorem d_L_law_622 : decode mL_law.2.2.1 622 = .ok (.iload_n 3, 1) := by decide +kernel
theorem d_L_law_623 : decode mL_law.2.2.1 623 = .ok (.iconst 2, 1) := by decide +kernel
theorem d_L_law_624 : decode mL_law.2.2.1 624 = .ok (.iadd, 1) := by decide +kernel
theorem d_L_law_625 : decode mL_law.2.2.1 625 = .ok (.iaload, 1) := by decide +kernel
theorem d_L_law_626 : decode mL_law.2.2.1 626 = .ok (.aload_n 0, 1) := by decide +kernel
theorem d_L_law_627 : decode mL_law.2.2.1 627 = .ok (.iload_n 3, 1) := by decide +kernel
theorem d_L_law_628 : decode mL_law.2.2.1 628 = .ok (.iconst 3, 1) := by decide +kernel
theorem d_L_law_629 : decode mL_law.2.2.1 629 = .ok (.iadd, 1) := by decide +kernel
theorem d_L_law_630 : decode mL_law.2.2.1 630 = .ok (.iaload, 1) := by decide +kernel
theorem d_L_law_631 : decode mL_law.2.2.1 631 = .ok (.aload_n 0, 1) := by decide +kernel
theorem d_L_law_632 : decode mL_law.2.2.1 632 = .ok (.iload_n 3, 1) := by decide +kernel
theorem d_L_law_633 : decode mL_law.2.2.1 633 = .ok (.iconst 4, 1) := by decide +kernel
theorem d_L_law_634 : decode mL_law.2.2.1 634 = .ok (.iadd, 1) := by decide +kernel
theorem d_L_law_635 : decode mL_law.2.2.1 635 = .ok (.iaload, 1) := by decide +kernel
theorem d_L_law_636 : decode mL_law.2.2.1 636 = .ok (.ifCond .eq 7, 3) := by decide +kernel
theorem d_L_law_639 : decode mL_law.2.2.1 639 = .ok (.iconst 1, 1) := by decide +kernel
theorem d_L_law_640 : decode mL_law.2.2.1 640 = .ok (.goto 4, 3) := by decide +kernel
theorem d_L_law_643 : decode mL_law.2.2.1 643 = .ok (.iconst 0, 1) := by decide +kernel
theorem d_L_law_644 : decode mL_law.2.2.1 644 = .ok (.invokevirtual 81, 3) := by decide +kernel
theorem sel_X11_byTurns : Cond.instanceMethod mX11_byTurns.2.1 ∈ tblG ∧ Cond.selects mX11_byTurns.2.1.cls mX11_byTurns.2.1 mX11_byTurns.2.1 ∈ tblG := ⟨tblG_in (inT5 (List.mem_of_getElem? (i := 236) rfl)) rfl, tblG_in (inT5 (List.mem_of_getElem? (i := 237) rfl)) rfl⟩
theorem s_13_81 : e_siteV 13 81 mX11_byTurns 11 := ⟨tblG_in (inT5 (List.mem_of_getElem? (i := 235) rfl)) rfl, sel_X11_byTurns.1, sel_X11_byTurns.2, rfl⟩
theorem ok_X11_byTurns : e_m mX11_byTurns 4 := ⟨tblG_in (inT5 (List.mem_of_getElem? (i := 238) rfl)) rfl, plainFor_of_name (by decide), rfl, ini_11, by decide +kernel, by decide⟩
theorem d_L_law_647 : decode mL_law.2.2.1 647 = .ok (.pop2, 1) := by decide +kernel
theorem d_L_law_648 : decode mL_law.2.2.1 648 = .ok (.aload_n 2, 1) := by decide +kernel
theorem d_L_law_649 : decode mL_law.2.2.1 649 = .ok (.aload_n 0, 1) := by decide +kernel
theorem d_L_law_650 : decode mL_law.2.2.1 650 = .ok (.iload_n 3, 1) := by decide +kernel
theorem d_L_law_651 : decode mL_law.2.2.1 651 = .ok (.iconst 1, 1) := by decide +kernel
theorem d_L_law_652 : decode mL_law.2.2.1 652 = .ok (.iadd, 1) := by decide +kernel
theorem d_L_law_653 : decode mL_law.2.2.1 653 = .ok (.iaload, 1) := by decide +kernel
theorem d_L_law_654 : decode mL_law.2.2.1 654 = .ok (.aload_n 0, 1) := by decide +kernel
theorem d_L_law_655 : decode mL_law.2.2.1 655 = .ok (.iload_n 3, 1) := by decide +kernel
theorem d_L_law_656 : decode mL_law.2.2.1 656 = .ok (.iconst 2, 1) := by decide +kernel
theorem d_L_law_657 : decode mL_law.2.2.1 657 = .ok (.iadd, 1) := by decide +kernel
theorem d_L_law_658 : decode mL_law.2.2.1 658 = .ok (.iaload, 1) := by decide +kernel
theorem d_L_law_659 : decode mL_law.2.2.1 659 = .ok (.aload_n 0, 1) := by decide +kernel
theorem d_L_law_660 : decode mL_law.2.2.1 660 = .ok (.iload_n 3, 1) := by decide +kernel
theorem d_L_law_661 : decode mL_law.2.2.1 661 = .ok (.iconst 3, 1) := by decide +kernel
theorem d_L_law_662 : decode mL_law.2.2.1 662 = .ok (.iadd, 1) := by decide +kernel
theorem d_L_law_663 : decode mL_law.2.2.1 663 = .ok (.iaload, 1) := by decide +kernel
theorem d_L_law_664 : decode mL_law.2.2.1 664 = .ok (.aload_n 0, 1) := by decide +kernel
theorem d_L_law_665 : decode mL_law.2.2.1 665 = .ok (.iload_n 3, 1) := by decide +kernel
theorem d_L_law_666 : decode mL_law.2.2.1 666 = .ok (.iconst 4, 1) := by decide +kernel
theorem d_L_law_667 : decode mL_law.2.2.1 667 = .ok (.iadd, 1) := by decide +kernel
theorem d_L_law_668 : decode mL_law.2.2.1 668 = .ok (.iaload, 1) := by decide +kernel
theorem d_L_law_669 : decode mL_law.2.2.1 669 = .ok (.ifCond .eq 7, 3) := by decide +kernel
theorem d_L_law_672 : decode mL_law.2.2.1 672 = .ok (.iconst 1, 1) := by decide +kernel
theorem d_L_law_673 : decode mL_law.2.2.1 673 = .ok (.goto 4, 3) := by decide +kernel
theorem d_L_law_676 : decode mL_law.2.2.1 676 = .ok (.iconst 0, 1) := by decide +kernel
theorem d_L_law_677 : decode mL_law.2.2.1 677 = .ok (.invokevirtual 85, 3) := by decide +kernel
theorem sel_X12_byTurns : Cond.instanceMethod mX12_byTurns.2.1 ∈ tblG ∧ Cond.selects mX12_byTurns.2.1.cls mX12_byTurns.2.1 mX12_byTurns.2.1 ∈ tblG := ⟨tblG_in (inT9 (List.mem_of_getElem? (i := 194) rfl)) rfl, tblG_in (inT9 (List.mem_of_getElem? (i := 195) rfl)) rfl⟩
theorem s_13_85 : e_siteV 13 85 mX12_byTurns 12 := ⟨tblG_in (inT9 (List.mem_of_getElem? (i := 193) rfl)) rfl, sel_X12_byTurns.1, sel_X12_byTurns.2, rfl⟩
theorem ok_X12_byTurns : e_m mX12_byTurns 4 := ⟨tblG_in (inT9 (List.mem_of_getElem? (i := 196) rfl)) rfl, plainFor_of_name (by decide), rfl, ini_12, by decide +kernel, by decide⟩
theorem d_L_law_680 : decode mL_law.2.2.1 680 = .ok (.pop2, 1) := by decide +kernel
theorem d_L_law_681 : decode mL_law.2.2.1 681 = .ok (.goto 315, 3) := by decide +kernel
theorem d_L_law_684 : decode mL_law.2.2.1 684 = .ok (.aload_n 1, 1) := by decide +kernel
theorem d_L_law_685 : decode mL_law.2.2.1 685 = .ok (.aload_n 0, 1) := by decide +kernel
theorem d_L_law_686 : decode mL_law.2.2.1 686 = .ok (.iload_n 3, 1) := by decide +kernel
theorem d_L_law_687 : decode mL_law.2.2.1 687 = .ok (.iconst 1, 1) := by decide +kernel
theorem d_L_law_688 : decode mL_law.2.2.1 688 = .ok (.iadd, 1) := by decide +kernel
theorem d_L_law_689 : decode mL_law.2.2.1 689 = .ok (.iaload, 1) := by decide +kernel
theorem d_L_law_690 : decode mL_law.2.2.1 690 = .ok (.invokevirtual 86, 3) := by decide +kernel
theorem sel_X11_wasted : Cond.instanceMethod mX11_wasted.2.1 ∈ tblG ∧ Cond.selects mX11_wasted.2.1.cls mX11_wasted.2.1 mX11_wasted.2.1 ∈ tblG := ⟨tblG_in (inT6 (List.mem_of_getElem? (i := 47) rfl)) rfl, tblG_in (inT6 (List.mem_of_getElem? (i := 48) rfl)) rfl⟩
theorem s_13_86 : e_siteV 13 86 mX11_wasted 11 := ⟨tblG_in (inT6 (List.mem_of_getElem? (i := 46) rfl)) rfl, sel_X11_wasted.1, sel_X11_wasted.2, rfl⟩
theorem ok_X11_wasted : e_m mX11_wasted 1 := ⟨tblG_in (inT6 (List.mem_of_getElem? (i := 49) rfl)) rfl, plainFor_of_name (by decide), rfl, ini_11, by decide +kernel, by decide⟩
theorem d_L_law_693 : decode mL_law.2.2.1 693 = .ok (.pop, 1) := by decide +kernel
theorem d_L_law_694 : decode mL_law.2.2.1 694 = .ok (.aload_n 2, 1) := by decide +kernel
theorem d_L_law_695 : decode mL_law.2.2.1 695 = .ok (.aload_n 0, 1) := by decide +kernel
theorem d_L_law_696 : decode mL_law.2.2.1 696 = .ok (.iload_n 3, 1) := by decide +kernel
theorem d_L_law_697 : decode mL_law.2.2.1 697 = .ok (.iconst 1, 1) := by decide +kernel
theorem d_L_law_698 : decode mL_law.2.2.1 698 = .ok (.iadd, 1) := by decide +kernel
theorem d_L_law_699 : decode mL_law.2.2.1 699 = .ok (.iaload, 1) := by decide +kernel
theorem d_L_law_700 : decode mL_law.2.2.1 700 = .ok (.invokevirtual 89, 3) := by decide +kernel
theorem sel_X12_wasted : Cond.instanceMethod mX12_wasted.2.1 ∈ tblG ∧ Cond.selects mX12_wasted.2.1.cls mX12_wasted.2.1 mX12_wasted.2.1 ∈ tblG := ⟨tblG_in (inT9 (List.mem_of_getElem? (i := 190) rfl)) rfl, tblG_in (inT9 (List.mem_of_getElem? (i := 191) rfl)) rfl⟩
theorem s_13_89 : e_siteV 13 89 mX12_wasted 12 := ⟨tblG_in (inT9 (List.mem_of_getElem? (i := 189) rfl)) rfl, sel_X12_wasted.1, sel_X12_wasted.2, rfl⟩
theorem ok_X12_wasted : e_m mX12_wasted 1 := ⟨tblG_in (inT9 (List.mem_of_getElem? (i := 192) rfl)) rfl, plainFor_of_name (by decide), rfl, ini_12, by decide +kernel, by decide⟩
theorem d_L_law_703 : decode mL_law.2.2.1 703 = .ok (.pop, 1) := by decide +kernel
theorem d_L_law_704 : decode mL_law.2.2.1 704 = .ok (.goto 292, 3) := by decide +kernel
theorem d_L_law_707 : decode mL_law.2.2.1 707 = .ok (.aload_n 1, 1) := by decide +kernel
theorem d_L_law_708 : decode mL_law.2.2.1 708 = .ok (.aload_n 0, 1) := by decide +kernel
theorem d_L_law_709 : decode mL_law.2.2.1 709 = .ok (.iload_n 3, 1) := by decide +kernel
theorem d_L_law_710 : decode mL_law.2.2.1 710 = .ok (.iconst 1, 1) := by decide +kernel
theorem d_L_law_711 : decode mL_law.2.2.1 711 = .ok (.iadd, 1) := by decide +kernel
theorem d_L_law_712 : decode mL_law.2.2.1 712 = .ok (.iaload, 1) := by decide +kernel
theorem d_L_law_713 : decode mL_law.2.2.1 713 = .ok (.ifCond .eq 7, 3) := by decide +kernel
theorem d_L_law_716 : decode mL_law.2.2.1 716 = .ok (.iconst 1, 1) := by decide +kernel
theorem d_L_law_717 : decode mL_law.2.2.1 717 = .ok (.goto 4, 3) := by decide +kernel
theorem d_L_law_720 : decode mL_law.2.2.1 720 = .ok (.iconst 0, 1) := by decide +kernel
theorem d_L_law_721 : decode mL_law.2.2.1 721 = .ok (.invokevirtual 90, 3) := by decide +kernel
theorem sel_X11_over : Cond.instanceMethod mX11_over.2.1 ∈ tblG ∧ Cond.selects mX11_over.2.1.cls mX11_over.2.1 mX11_over.2.1 ∈ tblG := ⟨tblG_in (inT6 (List.mem_of_getElem? (i := 51) rfl)) rfl, tblG_in (inT6 (List.mem_of_getElem? (i := 52) rfl)) rfl⟩
theorem s_13_90 : e_siteV 13 90 mX11_over 11 := ⟨tblG_in (inT6 (List.mem_of_getElem? (i := 50) rfl)) rfl, sel_X11_over.1, sel_X11_over.2, rfl⟩
theorem ok_X11_over : e_m mX11_over 1 := ⟨tblG_in (inT6 (List.mem_of_getElem? (i := 53) rfl)) rfl, plainFor_of_name (by decide), rfl, ini_11, by decide +kernel, by decide⟩
theorem d_L_law_724 : decode mL_law.2.2.1 724 = .ok (.pop, 1) := by decide +kernel
theorem d_L_law_725 : decode mL_law.2.2.1 725 = .ok (.aload_n 2, 1) := by decide +kernel
theorem d_L_law_726 : decode mL_law.2.2.1 726 = .ok (.aload_n 0, 1) := by decide +kernel
theorem d_L_law_727 : decode mL_law.2.2.1 727 = .ok (.iload_n 3, 1) := by decide +kernel
theorem d_L_law_728 : decode mL_law.2.2.1 728 = .ok (.iconst 1, 1) := by decide +kernel
theorem d_L_law_729 : decode mL_law.2.2.1 729 = .ok (.iadd, 1) := by decide +kernel
theorem d_L_law_730 : decode mL_law.2.2.1 730 = .ok (.iaload, 1) := by decide +kernel
theorem d_L_law_731 : decode mL_law.2.2.1 731 = .ok (.ifCond .eq 7, 3) := by decide +kernel
theorem d_L_law_734 : decode mL_law.2.2.1 734 = .ok (.iconst 1, 1) := by decide +kernel
theorem d_L_law_735 : decode mL_law.2.2.1 735 = .ok (.goto 4, 3) := by decide +kernel
theorem d_L_law_738 : decode mL_law.2.2.1 738 = .ok (.iconst 0, 1) := by decide +kernel
theorem d_L_law_739 : decode mL_law.2.2.1 739 = .ok (.invokevirtual 94, 3) := by decide +kernel
theorem sel_X12_over : Cond.instanceMethod mX12_over.2.1 ∈ tblG ∧ Cond.selects mX12_over.2.1.cls mX12_over.2.1 mX12_over.2.1 ∈ tblG := ⟨tblG_in (inT9 (List.mem_of_getElem? (i := 217) rfl)) rfl, tblG_in (inT9 (List.mem_of_getElem? (i := 218) rfl)) rfl⟩
theorem s_13_94 : e_siteV 13 94 mX12_over 12 := ⟨tblG_in (inT9 (List.mem_of_getElem? (i := 216) rfl)) rfl, sel_X12_over.1, sel_X12_over.2, rfl⟩
theorem ok_X12_over : e_m mX12_over 1 := ⟨tblG_in (inT9 (List.mem_of_getElem? (i := 219) rfl)) rfl, plainFor_of_name (by decide), rfl, ini_12, by decide +kernel, by decide⟩
theorem d_L_law_742 : decode mL_law.2.2.1 742 = .ok (.pop, 1) := by decide +kernel
theorem d_L_law_743 : decode mL_law.2.2.1 743 = .ok (.goto 253, 3) := by decide +kernel
theorem d_L_law_746 : decode mL_law.2.2.1 746 = .ok (.aload_n 1, 1) := by decide +kernel
theorem d_L_law_747 : decode mL_law.2.2.1 747 = .ok (.aload_n 0, 1) := by decide +kernel
theorem d_L_law_748 : decode mL_law.2.2.1 748 = .ok (.iload_n 3, 1) := by decide +kernel
theorem d_L_law_749 : decode mL_law.2.2.1 749 = .ok (.iconst 1, 1) := by decide +kernel
theorem d_L_law_750 : decode mL_law.2.2.1 750 = .ok (.iadd, 1) := by decide +kernel
theorem d_L_law_751 : decode mL_law.2.2.1 751 = .ok (.iaload, 1) := by decide +kernel
theorem d_L_law_752 : decode mL_law.2.2.1 752 = .ok (.invokevirtual 95, 3) := by decide +kernel
theorem sel_X11_where : Cond.instanceMethod mX11_where.2.1 ∈ tblG ∧ Cond.selects mX11_where.2.1.cls mX11_where.2.1 mX11_where.2.1 ∈ tblG := ⟨tblG_in (inT6 (List.mem_of_getElem? (i := 75) rfl)) rfl, tblG_in (inT6 (List.mem_of_getElem? (i := 76) rfl)) rfl⟩
theorem s_13_95 : e_siteV 13 95 mX11_where 11 := ⟨tblG_in (inT6 (List.mem_of_getElem? (i := 74) rfl)) rfl, sel_X11_where.1, sel_X11_where.2, rfl⟩
theorem ok_X11_where : e_m mX11_where 1 := ⟨tblG_in (inT6 (List.mem_of_getElem? (i := 77) rfl)) rfl, plainFor_of_name (by decide), rfl, ini_11, by decide +kernel, by decide⟩
theorem d_L_law_755 : decode mL_law.2.2.1 755 = .ok (.pop, 1) := by decide +kernel
theorem d_L_law_756 : decode mL_law.2.2.1 756 = .ok (.aload_n 2, 1) := by decide +kernel
theorem d_L_law_757 : decode mL_law.2.2.1 757 = .ok (.aload_n 0, 1) := by decide +kernel
theorem d_L_law_758 : decode mL_law.2.2.1 758 = .ok (.iload_n 3, 1) := by decide +kernel
theorem d_L_law_759 : decode mL_law.2.2.1 759 = .ok (.iconst 1, 1) := by decide +kernel
theorem d_L_law_760 : decode mL_law.2.2.1 760 = .ok (.iadd, 1) := by decide +kernel
theorem d_L_law_761 : decode mL_law.2.2.1 761 = .ok (.iaload, 1) := by decide +kernel
theorem d_L_law_762 : decode mL_law.2.2.1 762 = .ok (.invokevirtual 98, 3) := by decide +kernel
theorem sel_X12_where : Cond.instanceMethod mX12_where.2.1 ∈ tblG ∧ Cond.selects mX12_where.2.1.cls mX12_where.2.1 mX12_where.2.1 ∈ tblG := ⟨tblG_in (inT9 (List.mem_of_getElem? (i := 230) rfl)) rfl, tblG_in (inT9 (List.mem_of_getElem? (i := 231) rfl)) rfl⟩
theorem s_13_98 : e_siteV 13 98 mX12_where 12 := ⟨tblG_in (inT9 (List.mem_of_getElem? (i := 229) rfl)) rfl, sel_X12_where.1, sel_X12_where.2, rfl⟩
theorem ok_X12_where : e_m mX12_where 1 := ⟨tblG_in (inT9 (List.mem_of_getElem? (i := 232) rfl)) rfl, plainFor_of_name (by decide), rfl, ini_12, by decide +kernel, by decide⟩
theorem d_L_law_765 : decode mL_law.2.2.1 765 = .ok (.pop, 1) := by decide +kernel
theorem d_L_law_766 : decode mL_law.2.2.1 766 = .ok (.goto 230, 3) := by decide +kernel
theorem d_L_law_769 : decode mL_law.2.2.1 769 = .ok (.aload_n 1, 1) := by decide +kernel
theorem d_L_law_770 : decode mL_law.2.2.1 770 = .ok (.aload_n 0, 1) := by decide +kernel
theorem d_L_law_771 : decode mL_law.2.2.1 771 = .ok (.iload_n 3, 1) := by decide +kernel
theorem d_L_law_772 : decode mL_law.2.2.1 772 = .ok (.iconst 1, 1) := by decide +kernel
theorem d_L_law_773 : decode mL_law.2.2.1 773 = .ok (.iadd, 1) := by decide +kernel
theorem d_L_law_774 : decode mL_law.2.2.1 774 = .ok (.iaload, 1) := by decide +kernel
theorem d_L_law_775 : decode mL_law.2.2.1 775 = .ok (.invokevirtual 99, 3) := by decide +kernel
theorem sel_X11_measure : Cond.instanceMethod mX11_measure.2.1 ∈ tblG ∧ Cond.selects mX11_measure.2.1.cls mX11_measure.2.1 mX11_measure.2.1 ∈ tblG := ⟨tblG_in (inT6 (List.mem_of_getElem? (i := 83) rfl)) rfl, tblG_in (inT6 (List.mem_of_getElem? (i := 84) rfl)) rfl⟩
theorem s_13_99 : e_siteV 13 99 mX11_measure 11 := ⟨tblG_in (inT6 (List.mem_of_getElem? (i := 82) rfl)) rfl, sel_X11_measure.1, sel_X11_measure.2, rfl⟩
theorem ok_X11_measure : e_m mX11_measure 1 := ⟨tblG_in (inT6 (List.mem_of_getElem? (i := 85) rfl)) rfl, plainFor_of_name (by decide), rfl, ini_11, by decide +kernel, by decide⟩
theorem d_L_law_778 : decode mL_law.2.2.1 778 = .ok (.pop, 1) := by decide +kernel
theorem d_L_law_779 : decode mL_law.2.2.1 779 = .ok (.aload_n 2, 1) := by decide +kernel
theorem d_L_law_780 : decode mL_law.2.2.1 780 = .ok (.aload_n 0, 1) := by decide +kernel
theorem d_L_law_781 : decode mL_law.2.2.1 781 = .ok (.iload_n 3, 1) := by decide +kernel
theorem d_L_law_782 : decode mL_law.2.2.1 782 = .ok (.iconst 1, 1) := by decide +kernel
theorem d_L_law_783 : decode mL_law.2.2.1 783 = .ok (.iadd, 1) := by decide +kernel
theorem d_L_law_784 : decode mL_law.2.2.1 784 = .ok (.iaload, 1) := by decide +kernel
theorem d_L_law_785 : decode mL_law.2.2.1 785 = .ok (.invokevirtual 102, 3) := by decide +kernel
theorem sel_X12_measure : Cond.instanceMethod mX12_measure.2.1 ∈ tblG ∧ Cond.selects mX12_measure.2.1.cls mX12_measure.2.1 mX12_measure.2.1 ∈ tblG := ⟨tblG_in (inT9 (List.mem_of_getElem? (i := 234) rfl)) rfl, tblG_in (inT9 (List.mem_of_getElem? (i := 235) rfl)) rfl⟩
theorem s_13_102 : e_siteV 13 102 mX12_measure 12 := ⟨tblG_in (inT9 (List.mem_of_getElem? (i := 233) rfl)) rfl, sel_X12_measure.1, sel_X12_measure.2, rfl⟩
theorem ok_X12_measure : e_m mX12_measure 1 := ⟨tblG_in (inT9 (List.mem_of_getElem? (i := 236) rfl)) rfl, plainFor_of_name (by decide), rfl, ini_12, by decide +kernel, by decide⟩
theorem d_L_law_788 : decode mL_law.2.2.1 788 = .ok (.pop, 1) := by decide +kernel
theorem d_L_law_789 : decode mL_law.2.2.1 789 = .ok (.goto 207, 3) := by decide +kernel
theorem d_L_law_792 : decode mL_law.2.2.1 792 = .ok (.aload_n 1, 1) := by decide +kernel
theorem d_L_law_793 : decode mL_law.2.2.1 793 = .ok (.aload_n 0, 1) := by decide +kernel
theorem d_L_law_794 : decode mL_law.2.2.1 794 = .ok (.iload_n 3, 1) := by decide +kernel
theorem d_L_law_795 : decode mL_law.2.2.1 795 = .ok (.iconst 1, 1) := by decide +kernel
theorem d_L_law_796 : decode mL_law.2.2.1 796 = .ok (.iadd, 1) := by decide +kernel
theorem d_L_law_797 : decode mL_law.2.2.1 797 = .ok (.iaload, 1) := by decide +kernel
theorem d_L_law_798 : decode mL_law.2.2.1 798 = .ok (.invokevirtual 103, 3) := by decide +kernel
theorem sel_X11_fit : Cond.instanceMethod mX11_fit.2.1 ∈ tblG ∧ Cond.selects mX11_fit.2.1.cls mX11_fit.2.1 mX11_fit.2.1 ∈ tblG := ⟨tblG_in (inT6 (List.mem_of_getElem? (i := 93) rfl)) rfl, tblG_in (inT6 (List.mem_of_getElem? (i := 94) rfl)) rfl⟩
theorem s_13_103 : e_siteV 13 103 mX11_fit 11 := ⟨tblG_in (inT6 (List.mem_of_getElem? (i := 92) rfl)) rfl, sel_X11_fit.1, sel_X11_fit.2, rfl⟩
theorem ok_X11_fit : e_m mX11_fit 1 := ⟨tblG_in (inT6 (List.mem_of_getElem? (i := 95) rfl)) rfl, plainFor_of_name (by decide), rfl, ini_11, by decide +kernel, by decide⟩
theorem d_L_law_801 : decode mL_law.2.2.1 801 = .ok (.pop, 1) := by decide +kernel
theorem d_L_law_802 : decode mL_law.2.2.1 802 = .ok (.aload_n 2, 1) := by decide +kernel
theorem d_L_law_803 : decode mL_law.2.2.1 803 = .ok (.aload_n 0, 1) := by decide +kernel
theorem d_L_law_804 : decode mL_law.2.2.1 804 = .ok (.iload_n 3, 1) := by decide +kernel
theorem d_L_law_805 : decode mL_law.2.2.1 805 = .ok (.iconst 1, 1) := by decide +kernel
theorem d_L_law_806 : decode mL_law.2.2.1 806 = .ok (.iadd, 1) := by decide +kernel
theorem d_L_law_807 : decode mL_law.2.2.1 807 = .ok (.iaload, 1) := by decide +kernel
theorem d_L_law_808 : decode mL_law.2.2.1 808 = .ok (.invokevirtual 106, 3) := by decide +kernel
theorem sel_X12_fit : Cond.instanceMethod mX12_fit.2.1 ∈ tblG ∧ Cond.selects mX12_fit.2.1.cls mX12_fit.2.1 mX12_fit.2.1 ∈ tblG := ⟨tblG_in (inT9 (List.mem_of_getElem? (i := 239) rfl)) rfl, tblG_in (inT10 (List.mem_of_getElem? (i := 0) rfl)) rfl⟩
theorem s_13_106 : e_siteV 13 106 mX12_fit 12 := ⟨tblG_in (inT9 (List.mem_of_getElem? (i := 238) rfl)) rfl, sel_X12_fit.1, sel_X12_fit.2, rfl⟩
theorem ok_X12_fit : e_m mX12_fit 1 := ⟨tblG_in (inT10 (List.mem_of_getElem? (i := 1) rfl)) rfl, plainFor_of_name (by decide), rfl, ini_12, by decide +kernel, by decide⟩
theorem d_L_law_811 : decode mL_law.2.2.1 811 = .ok (.pop, 1) := by decide +kernel
theorem d_L_law_812 : decode mL_law.2.2.1 812 = .ok (.goto 184, 3) := by decide +kernel
theorem d_L_law_815 : decode mL_law.2.2.1 815 = .ok (.aload_n 1, 1) := by decide +kernel
theorem d_L_law_816 : decode mL_law.2.2.1 816 = .ok (.aload_n 0, 1) := by decide +kernel
theorem d_L_law_817 : decode mL_law.2.2.1 817 = .ok (.iload_n 3, 1) := by decide +kernel
theorem d_L_law_818 : decode mL_law.2.2.1 818 = .ok (.iconst 1, 1) := by decide +kernel
theorem d_L_law_819 : decode mL_law.2.2.1 819 = .ok (.iadd, 1) := by decide +kernel
theorem d_L_law_820 : decode mL_law.2.2.1 820 = .ok (.iaload, 1) := by decide +kernel
theorem d_L_law_821 : decode mL_law.2.2.1 821 = .ok (.invokevirtual 107, 3) := by decide +kernel
theorem sel_X11_fitted : Cond.instanceMethod mX11_fitted.2.1 ∈ tblG ∧ Cond.selects mX11_fitted.2.1.cls mX11_fitted.2.1 mX11_fitted.2.1 ∈ tblG := ⟨tblG_in (inT6 (List.mem_of_getElem? (i := 112) rfl)) rfl, tblG_in (inT6 (List.mem_of_getElem? (i := 113) rfl)) rfl⟩
theorem s_13_107 : e_siteV 13 107 mX11_fitted 11 := ⟨tblG_in (inT6 (List.mem_of_getElem? (i := 111) rfl)) rfl, sel_X11_fitted.1, sel_X11_fitted.2, rfl⟩
theorem ok_X11_fitted : e_m mX11_fitted 1 := ⟨tblG_in (inT6 (List.mem_of_getElem? (i := 114) rfl)) rfl, plainFor_of_name (by decide), rfl, ini_11, by decide +kernel, by decide⟩
theorem d_L_law_824 : decode mL_law.2.2.1 824 = .ok (.pop, 1) := by decide +kernel
theorem d_L_law_825 : decode mL_law.2.2.1 825 = .ok (.aload_n 2, 1) := by decide +kernel
theorem d_L_law_826 : decode mL_law.2.2.1 826 = .ok (.aload_n 0, 1) := by decide +kernel
theorem d_L_law_827 : decode mL_law.2.2.1 827 = .ok (.iload_n 3, 1) := by decide +kernel
theorem d_L_law_828 : decode mL_law.2.2.1 828 = .ok (.iconst 1, 1) := by decide +kernel
theorem d_L_law_829 : decode mL_law.2.2.1 829 = .ok (.iadd, 1) := by decide +kernel
theorem d_L_law_830 : decode mL_law.2.2.1 830 = .ok (.iaload, 1) := by decide +kernel
theorem d_L_law_831 : decode mL_law.2.2.1 831 = .ok (.invokevirtual 110, 3) := by decide +kernel
theorem sel_X12_fitted : Cond.instanceMethod mX12_fitted.2.1 ∈ tblG ∧ Cond.selects mX12_fitted.2.1.cls mX12_fitted.2.1 mX12_fitted.2.1 ∈ tblG := ⟨tblG_in (inT10 (List.mem_of_getElem? (i := 3) rfl)) rfl, tblG_in (inT10 (List.mem_of_getElem? (i := 4) rfl)) rfl⟩
theorem s_13_110 : e_siteV 13 110 mX12_fitted 12 := ⟨tblG_in (inT10 (List.mem_of_getElem? (i := 2) rfl)) rfl, sel_X12_fitted.1, sel_X12_fitted.2, rfl⟩
theorem ok_X12_fitted : e_m mX12_fitted 1 := ⟨tblG_in (inT10 (List.mem_of_getElem? (i := 5) rfl)) rfl, plainFor_of_name (by decide), rfl, ini_12, by decide +kernel, by decide⟩
theorem d_L_law_834 : decode mL_law.2.2.1 834 = .ok (.pop, 1) := by decide +kernel
theorem d_L_law_835 : decode mL_law.2.2.1 835 = .ok (.goto 161, 3) := by decide +kernel
theorem d_L_law_838 : decode mL_law.2.2.1 838 = .ok (.aload_n 1, 1) := by decide +kernel
theorem d_L_law_839 : decode mL_law.2.2.1 839 = .ok (.aload_n 0, 1) := by decide +kernel
theorem d_L_law_840 : decode mL_law.2.2.1 840 = .ok (.iload_n 3, 1) := by decide +kernel
theorem d_L_law_841 : decode mL_law.2.2.1 841 = .ok (.iconst 1, 1) := by decide +kernel
theorem d_L_law_842 : decode mL_law.2.2.1 842 = .ok (.iadd, 1) := by decide +kernel
theorem d_L_law_843 : decode mL_law.2.2.1 843 = .ok (.iaload, 1) := by decide +kernel
theorem d_L_law_844 : decode mL_law.2.2.1 844 = .ok (.aload_n 0, 1) := by decide +kernel
theorem d_L_law_845 : decode mL_law.2.2.1 845 = .ok (.iload_n 3, 1) := by decide +kernel
theorem d_L_law_846 : decode mL_law.2.2.1 846 = .ok (.iconst 2, 1) := by decide +kernel
theorem d_L_law_847 : decode mL_law.2.2.1 847 = .ok (.iadd, 1) := by decide +kernel
theorem d_L_law_848 : decode mL_law.2.2.1 848 = .ok (.iaload, 1) := by decide +kernel
theorem d_L_law_849 : decode mL_law.2.2.1 849 = .ok (.aload_n 0, 1) := by decide +kernel
theorem d_L_law_850 : decode mL_law.2.2.1 850 = .ok (.iload_n 3, 1) := by decide +kernel
theorem d_L_law_851 : decode mL_law.2.2.1 851 = .ok (.iconst 3, 1) := by decide +kernel
theorem d_L_law_852 : decode mL_law.2.2.1 852 = .ok (.iadd, 1) := by decide +kernel
theorem d_L_law_853 : decode mL_law.2.2.1 853 = .ok (.iaload, 1) := by decide +kernel
theorem d_L_law_854 : decode mL_law.2.2.1 854 = .ok (.invokevirtual 111, 3) := by decide +kernel
theorem sel_X11_ask : Cond.instanceMethod mX11_ask.2.1 ∈ tblG ∧ Cond.selects mX11_ask.2.1.cls mX11_ask.2.1 mX11_ask.2.1 ∈ tblG := ⟨tblG_in (inT6 (List.mem_of_getElem? (i := 116) rfl)) rfl, tblG_in (inT6 (List.mem_of_getElem? (i := 117) rfl)) rfl⟩
theorem s_13_111 : e_siteV 13 111 mX11_ask 11 := ⟨tblG_in (inT6 (List.mem_of_getElem? (i := 115) rfl)) rfl, sel_X11_ask.1, sel_X11_ask.2, rfl⟩
theorem ok_X11_ask : e_m mX11_ask 3 := ⟨tblG_in (inT6 (List.mem_of_getElem? (i := 118) rfl)) rfl, plainFor_of_name (by decide), rfl, ini_11, by decide +kernel, by decide⟩
theorem d_L_law_857 : decode mL_law.2.2.1 857 = .ok (.pop, 1) := by decide +kernel
theorem d_L_law_858 : decode mL_law.2.2.1 858 = .ok (.aload_n 2, 1) := by decide +kernel
theorem d_L_law_859 : decode mL_law.2.2.1 859 = .ok (.aload_n 0, 1) := by decide +kernel
theorem d_L_law_860 : decode mL_law.2.2.1 860 = .ok (.iload_n 3, 1) := by decide +kernel
theorem d_L_law_861 : decode mL_law.2.2.1 861 = .ok (.iconst 1, 1) := by decide +kernel
theorem d_L_law_862 : decode mL_law.2.2.1 862 = .ok (.iadd, 1) := by decide +kernel
theorem d_L_law_863 : decode mL_law.2.2.1 863 = .ok (.iaload, 1) := by decide +kernel
theorem d_L_law_864 : decode mL_law.2.2.1 864 = .ok (.aload_n 0, 1) := by decide +kernel
end
/-! 50w.03 -/
section
theorem d_L_law_865 : decode mL_law.2.2.1 865 = .ok (.iload_n 3, 1) := by decide +kernel
theorem d_L_law_866 : decode mL_law.2.2.1 866 = .ok (.iconst 2, 1) := by decide +kernel
theorem d_L_law_867 : decode mL_law.2.2.1 867 = .ok (.iadd, 1) := by decide +kernel
theorem d_L_law_868 : decode mL_law.2.2.1 868 = .ok (.iaload, 1) := by decide +kernel
theorem d_L_law_869 : decode mL_law.2.2.1 869 = .ok (.aload_n 0, 1) := by decide +kernel
theorem d_L_law_870 : decode mL_law.2.2.1 870 = .ok (.iload_n 3, 1) := by decide +kernel
theorem d_L_law_871 : decode mL_law.2.2.1 871 = .ok (.iconst 3, 1) := by decide +kernel
theorem d_L_law_872 : decode mL_law.2.2.1 872 = .ok (.iadd, 1) := by decide +kernel
theorem d_L_law_873 : decode mL_law.2.2.1 873 = .ok (.iaload, 1) := by decide +kernel
theorem d_L_law_874 : decode mL_law.2.2.1 874 = .ok (.invokevirtual 114, 3) := by decide +kernel
theorem sel_X12_ask : Cond.instanceMethod mX12_ask.2.1 ∈ tblG ∧ Cond.selects mX12_ask.2.1.cls mX12_ask.2.1 mX12_ask.2.1 ∈ tblG := ⟨tblG_in (inT10 (List.mem_of_getElem? (i := 7) rfl)) rfl, tblG_in (inT10 (List.mem_of_getElem? (i := 8) rfl)) rfl⟩
theorem s_13_114 : e_siteV 13 114 mX12_ask 12 := ⟨tblG_in (inT10 (List.mem_of_getElem? (i := 6) rfl)) rfl, sel_X12_ask.1, sel_X12_ask.2, rfl⟩
theorem ok_X12_ask : e_m mX12_ask 3 := ⟨tblG_in (inT10 (List.mem_of_getElem? (i := 9) rfl)) rfl, plainFor_of_name (by decide), rfl, ini_12, by decide +kernel, by decide⟩
theorem d_L_law_877 : decode mL_law.2.2.1 877 = .ok (.pop, 1) := by decide +kernel
theorem d_L_law_878 : decode mL_law.2.2.1 878 = .ok (.goto 118, 3) := by decide +kernel
theorem d_L_law_881 : decode mL_law.2.2.1 881 = .ok (.aload_n 1, 1) := by decide +kernel
theorem d_L_law_882 : decode mL_law.2.2.1 882 = .ok (.invokevirtual 115, 3) := by decide +kernel
theorem sel_X11_forget : Cond.instanceMethod mX11_forget.2.1 ∈ tblG ∧ Cond.selects mX11_forget.2.1.cls mX11_forget.2.1 mX11_forget.2.1 ∈ tblG := ⟨tblG_in (inT6 (List.mem_of_getElem? (i := 124) rfl)) rfl, tblG_in (inT6 (List.mem_of_getElem? (i := 125) rfl)) rfl⟩
theorem s_13_115 : e_siteV 13 115 mX11_forget 11 := ⟨tblG_in (inT6 (List.mem_of_getElem? (i := 123) rfl)) rfl, sel_X11_forget.1, sel_X11_forget.2, rfl⟩
theorem ok_X11_forget : e_m mX11_forget 0 := ⟨tblG_in (inT6 (List.mem_of_getElem? (i := 126) rfl)) rfl, plainFor_of_name (by decide), rfl, ini_11, by decide +kernel, by decide⟩
theorem d_L_law_885 : decode mL_law.2.2.1 885 = .ok (.aload_n 2, 1) := by decide +kernel
theorem d_L_law_886 : decode mL_law.2.2.1 886 = .ok (.invokevirtual 118, 3) := by decide +kernel
theorem sel_X12_forget : Cond.instanceMethod mX12_forget.2.1 ∈ tblG ∧ Cond.selects mX12_forget.2.1.cls mX12_forget.2.1 mX12_forget.2.1 ∈ tblG := ⟨tblG_in (inT10 (List.mem_of_getElem? (i := 11) rfl)) rfl, tblG_in (inT10 (List.mem_of_getElem? (i := 12) rfl)) rfl⟩
theorem s_13_118 : e_siteV 13 118 mX12_forget 12 := ⟨tblG_in (inT10 (List.mem_of_getElem? (i := 10) rfl)) rfl, sel_X12_forget.1, sel_X12_forget.2, rfl⟩
theorem ok_X12_forget : e_m mX12_forget 0 := ⟨tblG_in (inT10 (List.mem_of_getElem? (i := 13) rfl)) rfl, plainFor_of_name (by decide), rfl, ini_12, by decide +kernel, by decide⟩
theorem d_L_law_889 : decode mL_law.2.2.1 889 = .ok (.if_icmp .eq 107, 3) := by decide +kernel
theorem d_L_law_894 : decode mL_law.2.2.1 894 = .ok (.aload_n 1, 1) := by decide +kernel
theorem d_L_law_895 : decode mL_law.2.2.1 895 = .ok (.aload_n 0, 1) := by decide +kernel
theorem d_L_law_896 : decode mL_law.2.2.1 896 = .ok (.iload_n 3, 1) := by decide +kernel
theorem d_L_law_897 : decode mL_law.2.2.1 897 = .ok (.iconst 1, 1) := by decide +kernel
theorem d_L_law_898 : decode mL_law.2.2.1 898 = .ok (.iadd, 1) := by decide +kernel
theorem d_L_law_899 : decode mL_law.2.2.1 899 = .ok (.iaload, 1) := by decide +kernel
theorem d_L_law_900 : decode mL_law.2.2.1 900 = .ok (.invokevirtual 119, 3) := by decide +kernel
theorem sel_X11_together : Cond.instanceMethod mX11_together.2.1 ∈ tblG ∧ Cond.selects mX11_together.2.1.cls mX11_together.2.1 mX11_together.2.1 ∈ tblG := ⟨tblG_in (inT6 (List.mem_of_getElem? (i := 128) rfl)) rfl, tblG_in (inT6 (List.mem_of_getElem? (i := 129) rfl)) rfl⟩
theorem s_13_119 : e_siteV 13 119 mX11_together 11 := ⟨tblG_in (inT6 (List.mem_of_getElem? (i := 127) rfl)) rfl, sel_X11_together.1, sel_X11_together.2, rfl⟩
theorem ok_X11_together : e_m mX11_together 1 := ⟨tblG_in (inT6 (List.mem_of_getElem? (i := 130) rfl)) rfl, plainFor_of_name (by decide), rfl, ini_11, by decide +kernel, by decide⟩
theorem d_L_law_903 : decode mL_law.2.2.1 903 = .ok (.pop, 1) := by decide +kernel
theorem d_L_law_904 : decode mL_law.2.2.1 904 = .ok (.aload_n 2, 1) := by decide +kernel
theorem d_L_law_905 : decode mL_law.2.2.1 905 = .ok (.aload_n 0, 1) := by decide +kernel
theorem d_L_law_906 : decode mL_law.2.2.1 906 = .ok (.iload_n 3, 1) := by decide +kernel
theorem d_L_law_907 : decode mL_law.2.2.1 907 = .ok (.iconst 1, 1) := by decide +kernel
theorem d_L_law_908 : decode mL_law.2.2.1 908 = .ok (.iadd, 1) := by decide +kernel
theorem d_L_law_909 : decode mL_law.2.2.1 909 = .ok (.iaload, 1) := by decide +kernel
theorem d_L_law_910 : decode mL_law.2.2.1 910 = .ok (.invokevirtual 122, 3) := by decide +kernel
theorem sel_X12_together : Cond.instanceMethod mX12_together.2.1 ∈ tblG ∧ Cond.selects mX12_together.2.1.cls mX12_together.2.1 mX12_together.2.1 ∈ tblG := ⟨tblG_in (inT10 (List.mem_of_getElem? (i := 15) rfl)) rfl, tblG_in (inT10 (List.mem_of_getElem? (i := 16) rfl)) rfl⟩
theorem s_13_122 : e_siteV 13 122 mX12_together 12 := ⟨tblG_in (inT10 (List.mem_of_getElem? (i := 14) rfl)) rfl, sel_X12_together.1, sel_X12_together.2, rfl⟩
theorem ok_X12_together : e_m mX12_together 1 := ⟨tblG_in (inT10 (List.mem_of_getElem? (i := 17) rfl)) rfl, plainFor_of_name (by decide), rfl, ini_12, by decide +kernel, by decide⟩
theorem d_L_law_913 : decode mL_law.2.2.1 913 = .ok (.pop, 1) := by decide +kernel
theorem d_L_law_914 : decode mL_law.2.2.1 914 = .ok (.goto 82, 3) := by decide +kernel
theorem d_L_law_917 : decode mL_law.2.2.1 917 = .ok (.aload_n 1, 1) := by decide +kernel
theorem d_L_law_918 : decode mL_law.2.2.1 918 = .ok (.aload_n 0, 1) := by decide +kernel
theorem d_L_law_919 : decode mL_law.2.2.1 919 = .ok (.iload_n 3, 1) := by decide +kernel
theorem d_L_law_920 : decode mL_law.2.2.1 920 = .ok (.iconst 1, 1) := by decide +kernel
theorem d_L_law_921 : decode mL_law.2.2.1 921 = .ok (.iadd, 1) := by decide +kernel
theorem d_L_law_922 : decode mL_law.2.2.1 922 = .ok (.iaload, 1) := by decide +kernel
theorem d_L_law_923 : decode mL_law.2.2.1 923 = .ok (.invokevirtual 123, 3) := by decide +kernel
theorem sel_X11_later : Cond.instanceMethod mX11_later.2.1 ∈ tblG ∧ Cond.selects mX11_later.2.1.cls mX11_later.2.1 mX11_later.2.1 ∈ tblG := ⟨tblG_in (inT6 (List.mem_of_getElem? (i := 155) rfl)) rfl, tblG_in (inT6 (List.mem_of_getElem? (i := 156) rfl)) rfl⟩
theorem s_13_123 : e_siteV 13 123 mX11_later 11 := ⟨tblG_in (inT6 (List.mem_of_getElem? (i := 154) rfl)) rfl, sel_X11_later.1, sel_X11_later.2, rfl⟩
theorem ok_X11_later : e_m mX11_later 1 := ⟨tblG_in (inT6 (List.mem_of_getElem? (i := 157) rfl)) rfl, plainFor_of_name (by decide), rfl, ini_11, by decide +kernel, by decide⟩
theorem d_L_law_926 : decode mL_law.2.2.1 926 = .ok (.pop, 1) := by decide +kernel
theorem d_L_law_927 : decode mL_law.2.2.1 927 = .ok (.aload_n 2, 1) := by decide +kernel
theorem d_L_law_928 : decode mL_law.2.2.1 928 = .ok (.aload_n 0, 1) := by decide +kernel
theorem d_L_law_929 : decode mL_law.2.2.1 929 = .ok (.iload_n 3, 1) := by decide +kernel
theorem d_L_law_930 : decode mL_law.2.2.1 930 = .ok (.iconst 1, 1) := by decide +kernel
theorem d_L_law_931 : decode mL_law.2.2.1 931 = .ok (.iadd, 1) := by decide +kernel
theorem d_L_law_932 : decode mL_law.2.2.1 932 = .ok (.iaload, 1) := by decide +kernel
theorem d_L_law_933 : decode mL_law.2.2.1 933 = .ok (.invokevirtual 126, 3) := by decide +kernel
theorem sel_X12_later : Cond.instanceMethod mX12_later.2.1 ∈ tblG ∧ Cond.selects mX12_later.2.1.cls mX12_later.2.1 mX12_later.2.1 ∈ tblG := ⟨tblG_in (inT10 (List.mem_of_getElem? (i := 23) rfl)) rfl, tblG_in (inT10 (List.mem_of_getElem? (i := 24) rfl)) rfl⟩
theorem s_13_126 : e_siteV 13 126 mX12_later 12 := ⟨tblG_in (inT10 (List.mem_of_getElem? (i := 22) rfl)) rfl, sel_X12_later.1, sel_X12_later.2, rfl⟩
theorem ok_X12_later : e_m mX12_later 1 := ⟨tblG_in (inT10 (List.mem_of_getElem? (i := 25) rfl)) rfl, plainFor_of_name (by decide), rfl, ini_12, by decide +kernel, by decide⟩
theorem d_L_law_936 : decode mL_law.2.2.1 936 = .ok (.pop, 1) := by decide +kernel
theorem d_L_law_937 : decode mL_law.2.2.1 937 = .ok (.goto 59, 3) := by decide +kernel
theorem d_L_law_940 : decode mL_law.2.2.1 940 = .ok (.aload_n 1, 1) := by decide +kernel
theorem d_L_law_941 : decode mL_law.2.2.1 941 = .ok (.invokevirtual 127, 3) := by decide +kernel
theorem sel_X11_never : Cond.instanceMethod mX11_never.2.1 ∈ tblG ∧ Cond.selects mX11_never.2.1.cls mX11_never.2.1 mX11_never.2.1 ∈ tblG := ⟨tblG_in (inT6 (List.mem_of_getElem? (i := 159) rfl)) rfl, tblG_in (inT6 (List.mem_of_getElem? (i := 160) rfl)) rfl⟩
theorem s_13_127 : e_siteV 13 127 mX11_never 11 := ⟨tblG_in (inT6 (List.mem_of_getElem? (i := 158) rfl)) rfl, sel_X11_never.1, sel_X11_never.2, rfl⟩
theorem ok_X11_never : e_m mX11_never 0 := ⟨tblG_in (inT6 (List.mem_of_getElem? (i := 161) rfl)) rfl, plainFor_of_name (by decide), rfl, ini_11, by decide +kernel, by decide⟩
theorem d_L_law_944 : decode mL_law.2.2.1 944 = .ok (.pop, 1) := by decide +kernel
theorem d_L_law_945 : decode mL_law.2.2.1 945 = .ok (.aload_n 2, 1) := by decide +kernel
theorem d_L_law_946 : decode mL_law.2.2.1 946 = .ok (.invokevirtual 130, 3) := by decide +kernel
theorem sel_X12_never : Cond.instanceMethod mX12_never.2.1 ∈ tblG ∧ Cond.selects mX12_never.2.1.cls mX12_never.2.1 mX12_never.2.1 ∈ tblG := ⟨tblG_in (inT10 (List.mem_of_getElem? (i := 27) rfl)) rfl, tblG_in (inT10 (List.mem_of_getElem? (i := 28) rfl)) rfl⟩
theorem s_13_130 : e_siteV 13 130 mX12_never 12 := ⟨tblG_in (inT10 (List.mem_of_getElem? (i := 26) rfl)) rfl, sel_X12_never.1, sel_X12_never.2, rfl⟩
theorem ok_X12_never : e_m mX12_never 0 := ⟨tblG_in (inT10 (List.mem_of_getElem? (i := 29) rfl)) rfl, plainFor_of_name (by decide), rfl, ini_12, by decide +kernel, by decide⟩
theorem d_L_law_949 : decode mL_law.2.2.1 949 = .ok (.pop, 1) := by decide +kernel
theorem d_L_law_950 : decode mL_law.2.2.1 950 = .ok (.goto 46, 3) := by decide +kernel
theorem d_L_law_953 : decode mL_law.2.2.1 953 = .ok (.aload_n 1, 1) := by decide +kernel
theorem d_L_law_954 : decode mL_law.2.2.1 954 = .ok (.aload_n 0, 1) := by decide +kernel
theorem d_L_law_955 : decode mL_law.2.2.1 955 = .ok (.iload_n 3, 1) := by decide +kernel
theorem d_L_law_956 : decode mL_law.2.2.1 956 = .ok (.iconst 1, 1) := by decide +kernel
theorem d_L_law_957 : decode mL_law.2.2.1 957 = .ok (.iadd, 1) := by decide +kernel
theorem d_L_law_958 : decode mL_law.2.2.1 958 = .ok (.iaload, 1) := by decide +kernel
theorem d_L_law_959 : decode mL_law.2.2.1 959 = .ok (.aload_n 0, 1) := by decide +kernel
theorem d_L_law_960 : decode mL_law.2.2.1 960 = .ok (.iload_n 3, 1) := by decide +kernel
theorem d_L_law_961 : decode mL_law.2.2.1 961 = .ok (.iconst 2, 1) := by decide +kernel
theorem d_L_law_962 : decode mL_law.2.2.1 962 = .ok (.iadd, 1) := by decide +kernel
theorem d_L_law_963 : decode mL_law.2.2.1 963 = .ok (.iaload, 1) := by decide +kernel
theorem d_L_law_964 : decode mL_law.2.2.1 964 = .ok (.aload_n 0, 1) := by decide +kernel
theorem d_L_law_965 : decode mL_law.2.2.1 965 = .ok (.iload_n 3, 1) := by decide +kernel
theorem d_L_law_966 : decode mL_law.2.2.1 966 = .ok (.iconst 3, 1) := by decide +kernel
theorem d_L_law_967 : decode mL_law.2.2.1 967 = .ok (.iadd, 1) := by decide +kernel
theorem d_L_law_968 : decode mL_law.2.2.1 968 = .ok (.iaload, 1) := by decide +kernel
theorem d_L_law_969 : decode mL_law.2.2.1 969 = .ok (.invokevirtual 131, 3) := by decide +kernel
theorem sel_X11_lasts : Cond.instanceMethod mX11_lasts.2.1 ∈ tblG ∧ Cond.selects mX11_lasts.2.1.cls mX11_lasts.2.1 mX11_lasts.2.1 ∈ tblG := ⟨tblG_in (inT6 (List.mem_of_getElem? (i := 176) rfl)) rfl, tblG_in (inT6 (List.mem_of_getElem? (i := 177) rfl)) rfl⟩
theorem s_13_131 : e_siteV 13 131 mX11_lasts 11 := ⟨tblG_in (inT6 (List.mem_of_getElem? (i := 175) rfl)) rfl, sel_X11_lasts.1, sel_X11_lasts.2, rfl⟩
theorem ok_X11_lasts : e_m mX11_lasts 3 := ⟨tblG_in (inT6 (List.mem_of_getElem? (i := 178) rfl)) rfl, plainFor_of_name (by decide), rfl, ini_11, by decide +kernel, by decide⟩
theorem d_L_law_972 : decode mL_law.2.2.1 972 = .ok (.pop, 1) := by decide +kernel
theorem d_L_law_973 : decode mL_law.2.2.1 973 = .ok (.aload_n 2, 1) := by decide +kernel
theorem d_L_law_974 : decode mL_law.2.2.1 974 = .ok (.aload_n 0, 1) := by decide +kernel
theorem d_L_law_975 : decode mL_law.2.2.1 975 = .ok (.iload_n 3, 1) := by decide +kernel
theorem d_L_law_976 : decode mL_law.2.2.1 976 = .ok (.iconst 1, 1) := by decide +kernel
theorem d_L_law_977 : decode mL_law.2.2.1 977 = .ok (.iadd, 1) := by decide +kernel
theorem d_L_law_978 : decode mL_law.2.2.1 978 = .ok (.iaload, 1) := by decide +kernel
theorem d_L_law_979 : decode mL_law.2.2.1 979 = .ok (.aload_n 0, 1) := by decide +kernel
theorem d_L_law_980 : decode mL_law.2.2.1 980 = .ok (.iload_n 3, 1) := by decide +kernel
theorem d_L_law_981 : decode mL_law.2.2.1 981 = .ok (.iconst 2, 1) := by decide +kernel
theorem d_L_law_982 : decode mL_law.2.2.1 982 = .ok (.iadd, 1) := by decide +kernel
theorem d_L_law_983 : decode mL_law.2.2.1 983 = .ok (.iaload, 1) := by decide +kernel
theorem d_L_law_984 : decode mL_law.2.2.1 984 = .ok (.aload_n 0, 1) := by decide +kernel
theorem d_L_law_985 : decode mL_law.2.2.1 985 = .ok (.iload_n 3, 1) := by decide +kernel
theorem d_L_law_986 : decode mL_law.2.2.1 986 = .ok (.iconst 3, 1) := by decide +kernel
theorem d_L_law_987 : decode mL_law.2.2.1 987 = .ok (.iadd, 1) := by decide +kernel
theorem d_L_law_988 : decode mL_law.2.2.1 988 = .ok (.iaload, 1) := by decide +kernel
theorem d_L_law_989 : decode mL_law.2.2.1 989 = .ok (.invokevirtual 134, 3) := by decide +kernel
theorem sel_X12_lasts : Cond.instanceMethod mX12_lasts.2.1 ∈ tblG ∧ Cond.selects mX12_lasts.2.1.cls mX12_lasts.2.1 mX12_lasts.2.1 ∈ tblG := ⟨tblG_in (inT10 (List.mem_of_getElem? (i := 34) rfl)) rfl, tblG_in (inT10 (List.mem_of_getElem? (i := 35) rfl)) rfl⟩
theorem s_13_134 : e_siteV 13 134 mX12_lasts 12 := ⟨tblG_in (inT10 (List.mem_of_getElem? (i := 33) rfl)) rfl, sel_X12_lasts.1, sel_X12_lasts.2, rfl⟩
theorem ok_X12_lasts : e_m mX12_lasts 3 := ⟨tblG_in (inT10 (List.mem_of_getElem? (i := 36) rfl)) rfl, plainFor_of_name (by decide), rfl, ini_12, by decide +kernel, by decide⟩
theorem d_L_law_992 : decode mL_law.2.2.1 992 = .ok (.pop, 1) := by decide +kernel
theorem d_L_law_993 : decode mL_law.2.2.1 993 = .ok (.goto 3, 3) := by decide +kernel
theorem d_L_law_18 : decode mL_law.2.2.1 18 = .ok (.iload_n 3, 1) := by decide +kernel
theorem d_L_law_19 : decode mL_law.2.2.1 19 = .ok (.aload_n 0, 1) := by decide +kernel
theorem d_L_law_20 : decode mL_law.2.2.1 20 = .ok (.arraylength, 1) := by decide +kernel
theorem d_L_law_21 : decode mL_law.2.2.1 21 = .ok (.bipush 6, 2) := by decide +kernel
theorem d_L_law_23 : decode mL_law.2.2.1 23 = .ok (.isub, 1) := by decide +kernel
theorem d_L_law_24 : decode mL_law.2.2.1 24 = .ok (.if_icmp .gt 978, 3) := by decide +kernel
theorem d_L_law_27 : decode mL_law.2.2.1 27 = .ok (.aload_n 0, 1) := by decide +kernel
theorem d_L_law_28 : decode mL_law.2.2.1 28 = .ok (.iload_n 3, 1) := by decide +kernel
theorem d_L_law_29 : decode mL_law.2.2.1 29 = .ok (.iaload, 1) := by decide +kernel
theorem d_L_law_30 : decode mL_law.2.2.1 30 = .ok (.bipush 31, 2) := by decide +kernel
theorem d_L_law_32 : decode mL_law.2.2.1 32 = .ok (.iand, 1) := by decide +kernel
theorem d_L_law_33 : decode mL_law.2.2.1 33 = .ok (.tableswitch 963 0 27 #[127, 190, 213, 226, 249, 272, 315, 348, 371, 394, 417, 450, 483, 506, 549, 582, 651, 674, 713, 736, 759, 782, 805, 848, 861, 884, 907, 920], 127) := by decide +kernel
theorem d_L_law_996 : decode mL_law.2.2.1 996 = .ok (.iinc 3 6, 3) := by decide +kernel
theorem d_L_law_999 : decode mL_law.2.2.1 999 = .ok (.goto (-981), 3) := by decide +kernel
theorem d_L_law_1002 : decode mL_law.2.2.1 1002 = .ok (.iconst 1, 1) := by decide +kernel
theorem d_L_law_1003 : decode mL_law.2.2.1 1003 = .ok (.ireturn, 1) := by decide +kernel
end
/-! 51.00 -/
section
set_option maxRecDepth 100000 in
set_option maxHeartbeats 4000000 in
theorem xu_feed {l : Launch} {K : EC} {xq : Int} {M0 : Mem} (hE : e_all K xq) (hI : In Tru M0) (hx : XI M0) (a1 : Int) (ha1 : (-2147483648) ≤ a1 ∧ a1 ≤ 2147483647) (a2 : Int) (ha2 : (-2147483648) ≤ a2 ∧ a2 ≤ 2147483647) (a3 : Int) (ha3 : (-2147483648) ≤ a3 ∧ a3 ≤ 2147483647) (a4 : Int) (ha4 : (-2147483648) ≤ a4 ∧ a4 ≤ 2147483647) (a5 : Int) (ha5 : (-2147483648) ≤ a5 ∧ a5 ≤ 2147483647) : Tr l K 59 mX11_feed 0 [(0, (2, 0)), (1, (0, a1)), (2, (0, a2)), (3, (0, a3)), (4, (0, a4)), (5, (0, a5))] [] M0 (fun M' r => In Tru M' ∧ XI M' ∧ FrX M0 M' ∧ ∃ v : Int, r = some (0, v) ∧ ((v = -1 ∧ rd M' 0 1 = rd M0 0 1 ∧ 880 < rd M0 0 1) ∨ (v = rd M' 0 1 ∧ rd M' 0 1 = rd M0 0 1 + 20 ∧ rd M0 0 1 ≤ 880)) ∧ rd M' 113 0 = rd M0 113 0) := by
  rcases id hx.2 with ⟨e04, e05, hy, e56⟩ | ⟨e04, e05, hy, e56⟩
  · refine Tr.imp (Tr.deep (by decide) (sp_X11_feed_0 hI a1 (by omega) a2 (by omega) a3 (by omega) a4 (by omega) a5 (by omega))) ?_
    rintro M' _ ⟨hS, v, rfl, hv⟩
    exact ⟨hS.1, XI.st hx hS (by decide +kernel) (by decide +kernel), St.fx hS (by decide +kernel), v, rfl, hv.2.2, St.kp hS (by decide) (by decide +kernel) (by decide +kernel)⟩
  · refine Tr.imp (Tr.deep (by decide) (sp_X11_feed_0 hI a1 (by omega) a2 (by omega) a3 (by omega) a4 (by omega) a5 (by omega))) ?_
    rintro M' _ ⟨hS, v, rfl, hv⟩
    exact ⟨hS.1, XI.st hx hS (by decide +kernel) (by decide +kernel), St.fx hS (by decide +kernel), v, rfl, hv.2.2, St.kp hS (by decide) (by decide +kernel) (by decide +kernel)⟩

set_option maxRecDepth 100000 in
set_option maxHeartbeats 4000000 in
theorem xu_end {l : Launch} {K : EC} {xq : Int} {M0 : Mem} (hE : e_all K xq) (hI : In Tru M0) (hx : XI M0) (a1 : Int) (ha1 : (-2147483648) ≤ a1 ∧ a1 ≤ 2147483647) : Tr l K 59 mX11_end 0 [(0, (2, 0)), (1, (0, a1))] [] M0 (fun M' r => In Tru M' ∧ XI M' ∧ FrX M0 M' ∧ ∃ v : Int, r = some (0, v) ∧ ((v = 1 ∧ rd M' 0 1 = a1 ∧ 0 ≤ a1 ∧ a1 ≤ rd M0 0 1) ∨ (v = 0 ∧ rd M' 0 1 = rd M0 0 1 ∧ (a1 < 0 ∨ rd M0 0 1 < a1))) ∧ rd M' 113 0 = rd M0 113 0) := by
  rcases id hx.2 with ⟨e04, e05, hy, e56⟩ | ⟨e04, e05, hy, e56⟩
  · refine Tr.imp (Tr.deep (by decide) (sp_X11_end_0 hI a1 (by omega))) ?_
    rintro M' _ ⟨hS, v, rfl, hv⟩
    exact ⟨hS.1, XI.st hx hS (by decide +kernel) (by decide +kernel), St.fx hS (by decide +kernel), v, rfl, hv.2.2, St.kp hS (by decide) (by decide +kernel) (by decide +kernel)⟩
  · refine Tr.imp (Tr.deep (by decide) (sp_X11_end_0 hI a1 (by omega))) ?_
    rintro M' _ ⟨hS, v, rfl, hv⟩
    exact ⟨hS.1, XI.st hx hS (by decide +kernel) (by decide +kernel), St.fx hS (by decide +kernel), v, rfl, hv.2.2, St.kp hS (by decide) (by decide +kernel) (by decide +kernel)⟩

set_option maxRecDepth 100000 in
set_option maxHeartbeats 4000000 in
theorem xu_text {l : Launch} {K : EC} {xq : Int} {M0 : Mem} (hE : e_all K xq) (hI : In Tru M0) (hx : XI M0) : Tr l K 59 mX11_text 0 [(0, (2, 0))] [] M0 (fun M' r => In Tru M' ∧ XI M' ∧ FrX M0 M' ∧ ∃ v : Int, r = some (0, v) ∧ rd M' 0 1 = 0 ∧ rd M' 113 0 = rd M0 113 0) := by
  rcases id hx.2 with ⟨e04, e05, hy, e56⟩ | ⟨e04, e05, hy, e56⟩
  · refine Tr.imp (Tr.deep (by decide) (sp_X11_text_0 hI hE e04 e05)) ?_
    rintro M' _ ⟨hS, o0, o1, o2, o3, v, rfl, hv⟩
    exact ⟨hS.1, XI.tx7 hx e05 hy e56 hS (by decide +kernel) (by decide +kernel) hv.2.2.2.1 hv.2.2.2.2, St.fx hS (by decide +kernel), v, rfl, hv.2.2.1, St.kp hS (by decide) (by decide +kernel) (by decide +kernel)⟩
  · refine Tr.imp (Tr.deep (by decide) (sp_X11_text_0_w1 hI hE e04 e05)) ?_
    rintro M' _ ⟨hS, o0, o1, o2, o3, v, rfl, hv⟩
    exact ⟨hS.1, XI.tx27 hx e05 hy e56 hS (by decide +kernel) (by decide +kernel) hv.2.2.2.1 hv.2.2.2.2, St.fx hS (by decide +kernel), v, rfl, hv.2.2.1, St.kp hS (by decide) (by decide +kernel) (by decide +kernel)⟩

set_option maxRecDepth 100000 in
set_option maxHeartbeats 4000000 in
theorem xu_fault {l : Launch} {K : EC} {xq : Int} {M0 : Mem} (hE : e_all K xq) (hI : In Tru M0) (hx : XI M0) (a1 : Int) (ha1 : (-2147483648) ≤ a1 ∧ a1 ≤ 2147483647) : Tr l K 59 mX11_fault 0 [(0, (2, 0)), (1, (0, a1))] [] M0 (fun M' r => In Tru M' ∧ XI M' ∧ FrX M0 M' ∧ ∃ v : Int, r = some (0, v) ∧ rd M' 0 1 = rd M0 0 1 ∧ rd M' 113 0 = rd M0 113 0) := by
  rcases id hx.2 with ⟨e04, e05, hy, e56⟩ | ⟨e04, e05, hy, e56⟩
  · refine Tr.imp (Tr.deep (by decide) (sp_X11_fault_0 hI a1 (by omega))) ?_
    rintro M' _ ⟨hS, v, rfl, hv⟩
    exact ⟨hS.1, XI.st hx hS (by decide +kernel) (by decide +kernel), St.fx hS (by decide +kernel), v, rfl, St.kp hS (by decide) (by decide +kernel) (by decide +kernel), St.kp hS (by decide) (by decide +kernel) (by decide +kernel)⟩
  · refine Tr.imp (Tr.deep (by decide) (sp_X11_fault_0 hI a1 (by omega))) ?_
    rintro M' _ ⟨hS, v, rfl, hv⟩
    exact ⟨hS.1, XI.st hx hS (by decide +kernel) (by decide +kernel), St.fx hS (by decide +kernel), v, rfl, St.kp hS (by decide) (by decide +kernel) (by decide +kernel), St.kp hS (by decide) (by decide +kernel) (by decide +kernel)⟩

set_option maxRecDepth 100000 in
set_option maxHeartbeats 4000000 in
theorem xu_has {l : Launch} {K : EC} {xq : Int} {M0 : Mem} (hE : e_all K xq) (hI : In Tru M0) (hx : XI M0) (a1 : Int) (ha1 : (-2147483648) ≤ a1 ∧ a1 ≤ 2147483647) : Tr l K 59 mX11_has 0 [(0, (2, 0)), (1, (0, a1))] [] M0 (fun M' r => In Tru M' ∧ XI M' ∧ FrX M0 M' ∧ ∃ v : Int, r = some (0, v) ∧ rd M' 0 1 = rd M0 0 1 ∧ rd M' 113 0 = rd M0 113 0) := by
  rcases id hx.2 with ⟨e04, e05, hy, e56⟩ | ⟨e04, e05, hy, e56⟩
  · refine Tr.imp (Tr.deep (by decide) (sp_X11_has_0 hI e04 a1 (by omega))) ?_
    rintro M' _ ⟨hS, v, rfl, hv⟩
    exact ⟨hS.1, XI.st hx hS (by decide +kernel) (by decide +kernel), St.fx hS (by decide +kernel), v, rfl, St.kp hS (by decide) (by decide +kernel) (by decide +kernel), St.kp hS (by decide) (by decide +kernel) (by decide +kernel)⟩
  · refine Tr.imp (Tr.deep (by decide) (sp_X11_has_0_w1 hI e04 a1 (by omega))) ?_
    rintro M' _ ⟨hS, v, rfl, hv⟩
    exact ⟨hS.1, XI.st hx hS (by decide +kernel) (by decide +kernel), St.fx hS (by decide +kernel), v, rfl, St.kp hS (by decide) (by decide +kernel) (by decide +kernel), St.kp hS (by decide) (by decide +kernel) (by decide +kernel)⟩

set_option maxRecDepth 100000 in
set_option maxHeartbeats 4000000 in
theorem xu_letter {l : Launch} {K : EC} {xq : Int} {M0 : Mem} (hE : e_all K xq) (hI : In Tru M0) (hx : XI M0) (a1 : Int) (ha1 : (-2147483648) ≤ a1 ∧ a1 ≤ 2147483647) (a2 : Int) (ha2 : (-2147483648) ≤ a2 ∧ a2 ≤ 2147483647) (a3 : Int) (ha3 : (-2147483648) ≤ a3 ∧ a3 ≤ 2147483647) : Tr l K 59 mX11_letter 0 [(0, (2, 0)), (1, (0, a1)), (2, (0, a2)), (3, (0, a3))] [] M0 (fun M' r => In Tru M' ∧ XI M' ∧ FrX M0 M' ∧ ∃ v : Int, r = some (0, v) ∧ rd M' 0 1 = rd M0 0 1 ∧ rd M' 113 0 = rd M0 113 0) := by
  rcases id hx.2 with ⟨e04, e05, hy, e56⟩ | ⟨e04, e05, hy, e56⟩
  · refine Tr.imp (Tr.deep (by decide) (sp_X11_letter_0 hI hE e04 a1 (by omega) a2 (by omega) a3 (by omega))) ?_
    rintro M' _ ⟨hS, v, rfl, hv⟩
    exact ⟨hS.1, XI.st hx hS (by decide +kernel) (by decide +kernel), St.fx hS (by decide +kernel), v, rfl, St.kp hS (by decide) (by decide +kernel) (by decide +kernel), St.kp hS (by decide) (by decide +kernel) (by decide +kernel)⟩
  · refine Tr.imp (Tr.deep (by decide) (sp_X11_letter_0_w1 hI hE e04 a1 (by omega) a2 (by omega) a3 (by omega))) ?_
    rintro M' _ ⟨hS, v, rfl, hv⟩
    exact ⟨hS.1, XI.st hx hS (by decide +kernel) (by decide +kernel), St.fx hS (by decide +kernel), v, rfl, St.kp hS (by decide) (by decide +kernel) (by decide +kernel), St.kp hS (by decide) (by decide +kernel) (by decide +kernel)⟩

set_option maxRecDepth 100000 in
set_option maxHeartbeats 4000000 in
theorem xu_put {l : Launch} {K : EC} {xq : Int} {M0 : Mem} (hE : e_all K xq) (hI : In Tru M0) (hx : XI M0) (a1 : Int) (ha1 : (-2147483648) ≤ a1 ∧ a1 ≤ 2147483647) (a2 : Int) (ha2 : (-2147483648) ≤ a2 ∧ a2 ≤ 2147483647) : Tr l K 59 mX11_put 0 [(0, (2, 0)), (1, (0, a1)), (2, (0, a2))] [] M0 (fun M' r => In Tru M' ∧ XI M' ∧ FrX M0 M' ∧ ∃ v : Int, r = some (0, v) ∧ rd M' 0 1 = rd M0 0 1 ∧ rd M' 113 0 = rd M0 113 0) := by
  rcases id hx.2 with ⟨e04, e05, hy, e56⟩ | ⟨e04, e05, hy, e56⟩
  · refine Tr.imp (Tr.deep (by decide) (sp_X11_put_0 hI e04 a1 (by omega) a2 (by omega))) ?_
    rintro M' _ ⟨hS, v, rfl, hv⟩
    exact ⟨hS.1, XI.st hx hS (by decide +kernel) (by decide +kernel), St.fx hS (by decide +kernel), v, rfl, St.kp hS (by decide) (by decide +kernel) (by decide +kernel), St.kp hS (by decide) (by decide +kernel) (by decide +kernel)⟩
  · refine Tr.imp (Tr.deep (by decide) (sp_X11_put_0_w1 hI e04 a1 (by omega) a2 (by omega))) ?_
    rintro M' _ ⟨hS, v, rfl, hv⟩
    exact ⟨hS.1, XI.st hx hS (by decide +kernel) (by decide +kernel), St.fx hS (by decide +kernel), v, rfl, St.kp hS (by decide) (by decide +kernel) (by decide +kernel), St.kp hS (by decide) (by decide +kernel) (by decide +kernel)⟩

set_option maxRecDepth 100000 in
set_option maxHeartbeats 4000000 in
theorem xu_run {l : Launch} {K : EC} {xq : Int} {M0 : Mem} (hE : e_all K xq) (hI : In Tru M0) (hx : XI M0) (a1 : Int) (ha1 : (-2147483648) ≤ a1 ∧ a1 ≤ 2147483647) : Tr l K 59 mX11_run 0 [(0, (2, 0)), (1, (0, a1))] [] M0 (fun M' r => In Tru M' ∧ XI M' ∧ FrX M0 M' ∧ ∃ v : Int, r = some (0, v) ∧ rd M' 0 1 = rd M0 0 1 ∧ rd M' 113 0 = rd M0 113 0) := by
  rcases id hx.2 with ⟨e04, e05, hy, e56⟩ | ⟨e04, e05, hy, e56⟩
  · refine Tr.imp (Tr.deep (by decide) (sp_X11_run_0 hI e04 a1 (by omega) hy)) ?_
    rintro M' _ ⟨hS, v, rfl, hv⟩
    rcases hv.2.2 with hz | hz
    · exact ⟨hS.1, XI.rn7 e04 e05 hy hS (by decide +kernel) (by decide +kernel) hz.1 hz.2.1 hz.2.2, St.fx hS (by decide +kernel), v, rfl, St.kp hS (by decide) (by decide +kernel) (by decide +kernel), St.kp hS (by decide) (by decide +kernel) (by decide +kernel)⟩
    · subst hz
      exact ⟨hS.1, hx, St.fx hS (by decide +kernel), v, rfl, rfl, rfl⟩
  · refine Tr.imp (Tr.deep (by decide) (sp_X11_run_0_w1 hI e04 a1 (by omega) hy)) ?_
    rintro M' _ ⟨hS, v, rfl, hv⟩
    rcases hv.2.2 with hz | hz
    · exact ⟨hS.1, XI.rn27 e04 e05 hy hS (by decide +kernel) (by decide +kernel) hz.1 hz.2.1 hz.2.2, St.fx hS (by decide +kernel), v, rfl, St.kp hS (by decide) (by decide +kernel) (by decide +kernel), St.kp hS (by decide) (by decide +kernel) (by decide +kernel)⟩
    · subst hz
      exact ⟨hS.1, hx, St.fx hS (by decide +kernel), v, rfl, rfl, rfl⟩

set_option maxRecDepth 100000 in
set_option maxHeartbeats 4000000 in
theorem xu_ran {l : Launch} {K : EC} {xq : Int} {M0 : Mem} (hE : e_all K xq) (hI : In Tru M0) (hx : XI M0) (a1 : Int) (ha1 : (-2147483648) ≤ a1 ∧ a1 ≤ 2147483647) : Tr l K 59 mX11_ran 0 [(0, (2, 0)), (1, (0, a1))] [] M0 (fun M' r => In Tru M' ∧ XI M' ∧ FrX M0 M' ∧ ∃ v : Int, r = some (0, v) ∧ rd M' 0 1 = rd M0 0 1 ∧ rd M' 113 0 = rd M0 113 0) := by
  rcases id hx.2 with ⟨e04, e05, hy, e56⟩ | ⟨e04, e05, hy, e56⟩
  · rcases (show rd M0 0 9 = 0 ∨ rd M0 0 9 = 1 by have := ir_0_9 hI.2.1; omega) with e09 | e09
    · refine Tr.imp (Tr.deep (by decide) (sp_X11_ran_0 hI e09 a1 (by omega))) ?_
      rintro M' _ ⟨hS, v, rfl, hv⟩
      exact ⟨hS.1, XI.st hx hS (by decide +kernel) (by decide +kernel), St.fx hS (by decide +kernel), v, rfl, St.kp hS (by decide) (by decide +kernel) (by decide +kernel), St.kp hS (by decide) (by decide +kernel) (by decide +kernel)⟩
    · refine Tr.imp (Tr.deep (by decide) (sp_X11_ran_0_w1 hI e09 a1 (by omega))) ?_
      rintro M' _ ⟨hS, v, rfl, hv⟩
      exact ⟨hS.1, XI.st hx hS (by decide +kernel) (by decide +kernel), St.fx hS (by decide +kernel), v, rfl, St.kp hS (by decide) (by decide +kernel) (by decide +kernel), St.kp hS (by decide) (by decide +kernel) (by decide +kernel)⟩
  · rcases (show rd M0 0 9 = 0 ∨ rd M0 0 9 = 1 by have := ir_0_9 hI.2.1; omega) with e09 | e09
    · refine Tr.imp (Tr.deep (by decide) (sp_X11_ran_0 hI e09 a1 (by omega))) ?_
      rintro M' _ ⟨hS, v, rfl, hv⟩
      exact ⟨hS.1, XI.st hx hS (by decide +kernel) (by decide +kernel), St.fx hS (by decide +kernel), v, rfl, St.kp hS (by decide) (by decide +kernel) (by decide +kernel), St.kp hS (by decide) (by decide +kernel) (by decide +kernel)⟩
    · refine Tr.imp (Tr.deep (by decide) (sp_X11_ran_0_w1 hI e09 a1 (by omega))) ?_
      rintro M' _ ⟨hS, v, rfl, hv⟩
      exact ⟨hS.1, XI.st hx hS (by decide +kernel) (by decide +kernel), St.fx hS (by decide +kernel), v, rfl, St.kp hS (by decide) (by decide +kernel) (by decide +kernel), St.kp hS (by decide) (by decide +kernel) (by decide +kernel)⟩

set_option maxRecDepth 100000 in
set_option maxHeartbeats 4000000 in
theorem xu_value {l : Launch} {K : EC} {xq : Int} {M0 : Mem} (hE : e_all K xq) (hI : In Tru M0) (hx : XI M0) (a1 : Int) (ha1 : (-2147483648) ≤ a1 ∧ a1 ≤ 2147483647) : Tr l K 59 mX11_value 0 [(0, (2, 0)), (1, (0, a1))] [] M0 (fun M' r => In Tru M' ∧ XI M' ∧ FrX M0 M' ∧ ∃ v : Int, r = some (0, v) ∧ rd M' 0 1 = rd M0 0 1 ∧ rd M' 113 0 = rd M0 113 0) := by
  rcases id hx.2 with ⟨e04, e05, hy, e56⟩ | ⟨e04, e05, hy, e56⟩
  · rcases (show rd M0 0 9 = 0 ∨ rd M0 0 9 = 1 by have := ir_0_9 hI.2.1; omega) with e09 | e09
    · refine Tr.imp (Tr.deep (by decide) (sp_X11_value_0 hI e09 a1 (by omega))) ?_
      rintro M' _ ⟨hS, v, rfl, hv⟩
      exact ⟨hS.1, XI.st hx hS (by decide +kernel) (by decide +kernel), St.fx hS (by decide +kernel), v, rfl, St.kp hS (by decide) (by decide +kernel) (by decide +kernel), St.kp hS (by decide) (by decide +kernel) (by decide +kernel)⟩
    · refine Tr.imp (Tr.deep (by decide) (sp_X11_value_0_w1 hI e04 e09 a1 (by omega))) ?_
      rintro M' _ ⟨hS, v, rfl, hv⟩
      exact ⟨hS.1, XI.st hx hS (by decide +kernel) (by decide +kernel), St.fx hS (by decide +kernel), v, rfl, St.kp hS (by decide) (by decide +kernel) (by decide +kernel), St.kp hS (by decide) (by decide +kernel) (by decide +kernel)⟩
  · rcases (show rd M0 0 9 = 0 ∨ rd M0 0 9 = 1 by have := ir_0_9 hI.2.1; omega) with e09 | e09
    · refine Tr.imp (Tr.deep (by decide) (sp_X11_value_0 hI e09 a1 (by omega))) ?_
      rintro M' _ ⟨hS, v, rfl, hv⟩
      exact ⟨hS.1, XI.st hx hS (by decide +kernel) (by decide +kernel), St.fx hS (by decide +kernel), v, rfl, St.kp hS (by decide) (by decide +kernel) (by decide +kernel), St.kp hS (by decide) (by decide +kernel) (by decide +kernel)⟩
    · refine Tr.imp (Tr.deep (by decide) (sp_X11_value_0_w2 hI e04 e09 a1 (by omega))) ?_
      rintro M' _ ⟨hS, v, rfl, hv⟩
      exact ⟨hS.1, XI.st hx hS (by decide +kernel) (by decide +kernel), St.fx hS (by decide +kernel), v, rfl, St.kp hS (by decide) (by decide +kernel) (by decide +kernel), St.kp hS (by decide) (by decide +kernel) (by decide +kernel)⟩

set_option maxRecDepth 100000 in
set_option maxHeartbeats 4000000 in
theorem xu_spent {l : Launch} {K : EC} {xq : Int} {M0 : Mem} (hE : e_all K xq) (hI : In Tru M0) (hx : XI M0) (a1 : Int) (ha1 : (-2147483648) ≤ a1 ∧ a1 ≤ 2147483647) (a2 : Int) (ha2 : (-2147483648) ≤ a2 ∧ a2 ≤ 2147483647) : Tr l K 59 mX11_spent 0 [(0, (2, 0)), (1, (0, a1)), (2, (0, a2))] [] M0 (fun M' r => In Tru M' ∧ XI M' ∧ FrX M0 M' ∧ ∃ v : Int, r = some (0, v) ∧ rd M' 0 1 = rd M0 0 1 ∧ rd M' 113 0 = rd M0 113 0) := by
  rcases id hx.2 with ⟨e04, e05, hy, e56⟩ | ⟨e04, e05, hy, e56⟩
  · rcases (show rd M0 0 9 = 0 ∨ rd M0 0 9 = 1 by have := ir_0_9 hI.2.1; omega) with e09 | e09
    · refine Tr.imp (Tr.deep (by decide) (sp_X11_spent_0 hI e09 a1 (by omega) a2 (by omega))) ?_
      rintro M' _ ⟨hS, v, rfl, hv⟩
      exact ⟨hS.1, XI.st hx hS (by decide +kernel) (by decide +kernel), St.fx hS (by decide +kernel), v, rfl, St.kp hS (by decide) (by decide +kernel) (by decide +kernel), St.kp hS (by decide) (by decide +kernel) (by decide +kernel)⟩
    · refine Tr.imp (Tr.deep (by decide) (sp_X11_spent_0_w1 hI e04 e09 a1 (by omega) a2 (by omega))) ?_
      rintro M' _ ⟨hS, v, rfl, hv⟩
      exact ⟨hS.1, XI.st hx hS (by decide +kernel) (by decide +kernel), St.fx hS (by decide +kernel), v, rfl, St.kp hS (by decide) (by decide +kernel) (by decide +kernel), St.kp hS (by decide) (by decide +kernel) (by decide +kernel)⟩
  · rcases (show rd M0 0 9 = 0 ∨ rd M0 0 9 = 1 by have := ir_0_9 hI.2.1; omega) with e09 | e09
    · refine Tr.imp (Tr.deep (by decide) (sp_X11_spent_0 hI e09 a1 (by omega) a2 (by omega))) ?_
      rintro M' _ ⟨hS, v, rfl, hv⟩
      exact ⟨hS.1, XI.st hx hS (by decide +kernel) (by decide +kernel), St.fx hS (by decide +kernel), v, rfl, St.kp hS (by decide) (by decide +kernel) (by decide +kernel), St.kp hS (by decide) (by decide +kernel) (by decide +kernel)⟩
    · refine Tr.imp (Tr.deep (by decide) (sp_X11_spent_0_w2 hI e04 e09 a1 (by omega) a2 (by omega))) ?_
      rintro M' _ ⟨hS, v, rfl, hv⟩
      exact ⟨hS.1, XI.st hx hS (by decide +kernel) (by decide +kernel), St.fx hS (by decide +kernel), v, rfl, St.kp hS (by decide) (by decide +kernel) (by decide +kernel), St.kp hS (by decide) (by decide +kernel) (by decide +kernel)⟩

set_option maxRecDepth 100000 in
set_option maxHeartbeats 4000000 in
theorem xu_pays {l : Launch} {K : EC} {xq : Int} {M0 : Mem} (hE : e_all K xq) (hI : In Tru M0) (hx : XI M0) (a1 : Int) (ha1 : (-2147483648) ≤ a1 ∧ a1 ≤ 2147483647) (a2 : Int) (ha2 : (-2147483648) ≤ a2 ∧ a2 ≤ 2147483647) : Tr l K 59 mX11_pays 0 [(0, (2, 0)), (1, (0, a1)), (2, (0, a2))] [] M0 (fun M' r => In Tru M' ∧ XI M' ∧ FrX M0 M' ∧ ∃ v : Int, r = some (0, v) ∧ rd M' 0 1 = rd M0 0 1 ∧ rd M' 113 0 = rd M0 113 0) := by
  rcases id hx.2 with ⟨e04, e05, hy, e56⟩ | ⟨e04, e05, hy, e56⟩
  · rcases (show rd M0 0 9 = 0 ∨ rd M0 0 9 = 1 by have := ir_0_9 hI.2.1; omega) with e09 | e09
    · refine Tr.imp (Tr.deep (by decide) (sp_X11_pays_0 hI e09 a1 (by omega) a2 (by omega))) ?_
      rintro M' _ ⟨hS, v, rfl, hv⟩
      exact ⟨hS.1, XI.st hx hS (by decide +kernel) (by decide +kernel), St.fx hS (by decide +kernel), v, rfl, St.kp hS (by decide) (by decide +kernel) (by decide +kernel), St.kp hS (by decide) (by decide +kernel) (by decide +kernel)⟩
    · refine Tr.imp (Tr.deep (by decide) (sp_X11_pays_0_w1 hI e04 e09 (e56 e09) a1 (by omega) a2 (by omega))) ?_
      rintro M' _ ⟨hS, v, rfl, hv⟩
      exact ⟨hS.1, XI.st hx hS (by decide +kernel) (by decide +kernel), St.fx hS (by decide +kernel), v, rfl, St.kp hS (by decide) (by decide +kernel) (by decide +kernel), St.kp hS (by decide) (by decide +kernel) (by decide +kernel)⟩
  · rcases (show rd M0 0 9 = 0 ∨ rd M0 0 9 = 1 by have := ir_0_9 hI.2.1; omega) with e09 | e09
    · refine Tr.imp (Tr.deep (by decide) (sp_X11_pays_0 hI e09 a1 (by omega) a2 (by omega))) ?_
      rintro M' _ ⟨hS, v, rfl, hv⟩
      exact ⟨hS.1, XI.st hx hS (by decide +kernel) (by decide +kernel), St.fx hS (by decide +kernel), v, rfl, St.kp hS (by decide) (by decide +kernel) (by decide +kernel), St.kp hS (by decide) (by decide +kernel) (by decide +kernel)⟩
    · refine Tr.imp (Tr.deep (by decide) (sp_X11_pays_0_w2 hI e04 e09 (e56 e09) a1 (by omega) a2 (by omega))) ?_
      rintro M' _ ⟨hS, v, rfl, hv⟩
      exact ⟨hS.1, XI.st hx hS (by decide +kernel) (by decide +kernel), St.fx hS (by decide +kernel), v, rfl, St.kp hS (by decide) (by decide +kernel) (by decide +kernel), St.kp hS (by decide) (by decide +kernel) (by decide +kernel)⟩

set_option maxRecDepth 100000 in
set_option maxHeartbeats 4000000 in
theorem xu_stretches {l : Launch} {K : EC} {xq : Int} {M0 : Mem} (hE : e_all K xq) (hI : In Tru M0) (hx : XI M0) (a1 : Int) (ha1 : (-2147483648) ≤ a1 ∧ a1 ≤ 2147483647) : Tr l K 59 mX11_stretches 0 [(0, (2, 0)), (1, (0, a1))] [] M0 (fun M' r => In Tru M' ∧ XI M' ∧ FrX M0 M' ∧ ∃ v : Int, r = some (0, v) ∧ rd M' 0 1 = rd M0 0 1 ∧ rd M' 113 0 = rd M0 113 0) := by
  rcases id hx.2 with ⟨e04, e05, hy, e56⟩ | ⟨e04, e05, hy, e56⟩
  · rcases (show rd M0 0 9 = 0 ∨ rd M0 0 9 = 1 by have := ir_0_9 hI.2.1; omega) with e09 | e09
    · refine Tr.imp (Tr.deep (by decide) (sp_X11_stretches_0 hI e09 a1 (by omega))) ?_
      rintro M' _ ⟨hS, v, rfl, hv⟩
      exact ⟨hS.1, XI.st hx hS (by decide +kernel) (by decide +kernel), St.fx hS (by decide +kernel), v, rfl, St.kp hS (by decide) (by decide +kernel) (by decide +kernel), St.kp hS (by decide) (by decide +kernel) (by decide +kernel)⟩
    · refine Tr.imp (Tr.deep (by decide) (sp_X11_stretches_0_w1 hI e04 e09 a1 (by omega))) ?_
      rintro M' _ ⟨hS, v, rfl, hv⟩
      exact ⟨hS.1, XI.st hx hS (by decide +kernel) (by decide +kernel), St.fx hS (by decide +kernel), v, rfl, St.kp hS (by decide) (by decide +kernel) (by decide +kernel), St.kp hS (by decide) (by decide +kernel) (by decide +kernel)⟩
  · rcases (show rd M0 0 9 = 0 ∨ rd M0 0 9 = 1 by have := ir_0_9 hI.2.1; omega) with e09 | e09
    · refine Tr.imp (Tr.deep (by decide) (sp_X11_stretches_0 hI e09 a1 (by omega))) ?_
      rintro M' _ ⟨hS, v, rfl, hv⟩
      exact ⟨hS.1, XI.st hx hS (by decide +kernel) (by decide +kernel), St.fx hS (by decide +kernel), v, rfl, St.kp hS (by decide) (by decide +kernel) (by decide +kernel), St.kp hS (by decide) (by decide +kernel) (by decide +kernel)⟩
    · refine Tr.imp (Tr.deep (by decide) (sp_X11_stretches_0_w2 hI e04 e09 a1 (by omega))) ?_
      rintro M' _ ⟨hS, v, rfl, hv⟩
      exact ⟨hS.1, XI.st hx hS (by decide +kernel) (by decide +kernel), St.fx hS (by decide +kernel), v, rfl, St.kp hS (by decide) (by decide +kernel) (by decide +kernel), St.kp hS (by decide) (by decide +kernel) (by decide +kernel)⟩

set_option maxRecDepth 100000 in
set_option maxHeartbeats 4000000 in
theorem xu_stretch {l : Launch} {K : EC} {xq : Int} {M0 : Mem} (hE : e_all K xq) (hI : In Tru M0) (hx : XI M0) (a1 : Int) (ha1 : (-2147483648) ≤ a1 ∧ a1 ≤ 2147483647) (a2 : Int) (ha2 : (-2147483648) ≤ a2 ∧ a2 ≤ 2147483647) (a3 : Int) (ha3 : (-2147483648) ≤ a3 ∧ a3 ≤ 2147483647) : Tr l K 59 mX11_stretch 0 [(0, (2, 0)), (1, (0, a1)), (2, (0, a2)), (3, (0, a3))] [] M0 (fun M' r => In Tru M' ∧ XI M' ∧ FrX M0 M' ∧ ∃ v : Int, r = some (0, v) ∧ rd M' 0 1 = rd M0 0 1 ∧ rd M' 113 0 = rd M0 113 0) := by
  rcases id hx.2 with ⟨e04, e05, hy, e56⟩ | ⟨e04, e05, hy, e56⟩
  · rcases (show rd M0 0 9 = 0 ∨ rd M0 0 9 = 1 by have := ir_0_9 hI.2.1; omega) with e09 | e09
    · refine Tr.imp (Tr.deep (by decide) (sp_X11_stretch_0 hI e09 a1 (by omega) a2 (by omega) a3 (by omega))) ?_
      rintro M' _ ⟨hS, v, rfl, hv⟩
      exact ⟨hS.1, XI.st hx hS (by decide +kernel) (by decide +kernel), St.fx hS (by decide +kernel), v, rfl, St.kp hS (by decide) (by decide +kernel) (by decide +kernel), St.kp hS (by decide) (by decide +kernel) (by decide +kernel)⟩
    · refine Tr.imp (Tr.deep (by decide) (sp_X11_stretch_0_w1 hI e04 e09 a1 (by omega) a2 (by omega) a3 (by omega))) ?_
      rintro M' _ ⟨hS, v, rfl, hv⟩
      exact ⟨hS.1, XI.st hx hS (by decide +kernel) (by decide +kernel), St.fx hS (by decide +kernel), v, rfl, St.kp hS (by decide) (by decide +kernel) (by decide +kernel), St.kp hS (by decide) (by decide +kernel) (by decide +kernel)⟩
  · rcases (show rd M0 0 9 = 0 ∨ rd M0 0 9 = 1 by have := ir_0_9 hI.2.1; omega) with e09 | e09
    · refine Tr.imp (Tr.deep (by decide) (sp_X11_stretch_0 hI e09 a1 (by omega) a2 (by omega) a3 (by omega))) ?_
      rintro M' _ ⟨hS, v, rfl, hv⟩
      exact ⟨hS.1, XI.st hx hS (by decide +kernel) (by decide +kernel), St.fx hS (by decide +kernel), v, rfl, St.kp hS (by decide) (by decide +kernel) (by decide +kernel), St.kp hS (by decide) (by decide +kernel) (by decide +kernel)⟩
    · refine Tr.imp (Tr.deep (by decide) (sp_X11_stretch_0_w2 hI e04 e09 a1 (by omega) a2 (by omega) a3 (by omega))) ?_
      rintro M' _ ⟨hS, v, rfl, hv⟩
      exact ⟨hS.1, XI.st hx hS (by decide +kernel) (by decide +kernel), St.fx hS (by decide +kernel), v, rfl, St.kp hS (by decide) (by decide +kernel) (by decide +kernel), St.kp hS (by decide) (by decide +kernel) (by decide +kernel)⟩

set_option maxRecDepth 100000 in
set_option maxHeartbeats 4000000 in
theorem xu_lines {l : Launch} {K : EC} {xq : Int} {M0 : Mem} (hE : e_all K xq) (hI : In Tru M0) (hx : XI M0) (a1 : Int) (ha1 : (-2147483648) ≤ a1 ∧ a1 ≤ 2147483647) (a2 : Int) (ha2 : (-2147483648) ≤ a2 ∧ a2 ≤ 2147483647) : Tr l K 59 mX11_lines 0 [(0, (2, 0)), (1, (0, a1)), (2, (0, a2))] [] M0 (fun M' r => In Tru M' ∧ XI M' ∧ FrX M0 M' ∧ ∃ v : Int, r = some (1, v) ∧ rd M' 0 1 = rd M0 0 1 ∧ rd M' 113 0 = rd M0 113 0) := by
  rcases id hx.2 with ⟨e04, e05, hy, e56⟩ | ⟨e04, e05, hy, e56⟩
  · rcases (show rd M0 0 9 = 0 ∨ rd M0 0 9 = 1 by have := ir_0_9 hI.2.1; omega) with e09 | e09
    · refine Tr.imp (Tr.deep (by decide) (sp_X11_lines_0 hI e09 a1 (by omega) a2 (by omega))) ?_
      rintro M' _ ⟨hS, v, rfl, hv⟩
      exact ⟨hS.1, XI.st hx hS (by decide +kernel) (by decide +kernel), St.fx hS (by decide +kernel), v, rfl, St.kp hS (by decide) (by decide +kernel) (by decide +kernel), St.kp hS (by decide) (by decide +kernel) (by decide +kernel)⟩
    · refine Tr.imp (Tr.deep (by decide) (sp_X11_lines_0_w1 hI e04 e09 a1 (by omega) a2 (by omega))) ?_
      rintro M' _ ⟨hS, v, rfl, hv⟩
      exact ⟨hS.1, XI.st hx hS (by decide +kernel) (by decide +kernel), St.fx hS (by decide +kernel), v, rfl, St.kp hS (by decide) (by decide +kernel) (by decide +kernel), St.kp hS (by decide) (by decide +kernel) (by decide +kernel)⟩
  · rcases (show rd M0 0 9 = 0 ∨ rd M0 0 9 = 1 by have := ir_0_9 hI.2.1; omega) with e09 | e09
    · refine Tr.imp (Tr.deep (by decide) (sp_X11_lines_0 hI e09 a1 (by omega) a2 (by omega))) ?_
      rintro M' _ ⟨hS, v, rfl, hv⟩
      exact ⟨hS.1, XI.st hx hS (by decide +kernel) (by decide +kernel), St.fx hS (by decide +kernel), v, rfl, St.kp hS (by decide) (by decide +kernel) (by decide +kernel), St.kp hS (by decide) (by decide +kernel) (by decide +kernel)⟩
    · refine Tr.imp (Tr.deep (by decide) (sp_X11_lines_0_w2 hI e04 e09 a1 (by omega) a2 (by omega))) ?_
      rintro M' _ ⟨hS, v, rfl, hv⟩
      exact ⟨hS.1, XI.st hx hS (by decide +kernel) (by decide +kernel), St.fx hS (by decide +kernel), v, rfl, St.kp hS (by decide) (by decide +kernel) (by decide +kernel), St.kp hS (by decide) (by decide +kernel) (by decide +kernel)⟩

set_option maxRecDepth 100000 in
set_option maxHeartbeats 4000000 in
theorem xu_byTurns {l : Launch} {K : EC} {xq : Int} {M0 : Mem} (hE : e_all K xq) (hI : In Tru M0) (hx : XI M0) (a1 : Int) (ha1 : (-2147483648) ≤ a1 ∧ a1 ≤ 2147483647) (a2 : Int) (ha2 : (-2147483648) ≤ a2 ∧ a2 ≤ 2147483647) (a3 : Int) (ha3 : (-2147483648) ≤ a3 ∧ a3 ≤ 2147483647) (a4 : Int) (ha4 : 0 ≤ a4 ∧ a4 ≤ 1) : Tr l K 59 mX11_byTurns 0 [(0, (2, 0)), (1, (0, a1)), (2, (0, a2)), (3, (0, a3)), (4, (0, a4))] [] M0 (fun M' r => In Tru M' ∧ XI M' ∧ FrX M0 M' ∧ ∃ v : Int, r = some (1, v) ∧ rd M' 0 1 = rd M0 0 1 ∧ rd M' 113 0 = rd M0 113 0) := by
  rcases id hx.2 with ⟨e04, e05, hy, e56⟩ | ⟨e04, e05, hy, e56⟩
  · rcases (show rd M0 0 9 = 0 ∨ rd M0 0 9 = 1 by have := ir_0_9 hI.2.1; omega) with e09 | e09
    · refine Tr.imp (Tr.deep (by decide) (sp_X11_byTurns_0 hI e09 a1 (by omega) a2 (by omega) a3 (by omega) a4 (by omega))) ?_
      rintro M' _ ⟨hS, v, rfl, hv⟩
      exact ⟨hS.1, XI.st hx hS (by decide +kernel) (by decide +kernel), St.fx hS (by decide +kernel), v, rfl, St.kp hS (by decide) (by decide +kernel) (by decide +kernel), St.kp hS (by decide) (by decide +kernel) (by decide +kernel)⟩
    · refine Tr.imp (Tr.deep (by decide) (sp_X11_byTurns_0_w1 hI hE e04 e09 a1 (by omega) a2 (by omega) a3 (by omega) a4 (by omega) hx.1)) ?_
      rintro M' _ ⟨hS, v, rfl, hv⟩
      exact ⟨hS.1, XI.st2 hx hS (by decide +kernel) hv.2.2, St.fx hS (by decide +kernel), v, rfl, St.kp hS (by decide) (by decide +kernel) (by decide +kernel), St.kp hS (by decide) (by decide +kernel) (by decide +kernel)⟩
  · rcases (show rd M0 0 9 = 0 ∨ rd M0 0 9 = 1 by have := ir_0_9 hI.2.1; omega) with e09 | e09
    · refine Tr.imp (Tr.deep (by decide) (sp_X11_byTurns_0 hI e09 a1 (by omega) a2 (by omega) a3 (by omega) a4 (by omega))) ?_
      rintro M' _ ⟨hS, v, rfl, hv⟩
      exact ⟨hS.1, XI.st hx hS (by decide +kernel) (by decide +kernel), St.fx hS (by decide +kernel), v, rfl, St.kp hS (by decide) (by decide +kernel) (by decide +kernel), St.kp hS (by decide) (by decide +kernel) (by decide +kernel)⟩
    · refine Tr.imp (Tr.deep (by decide) (sp_X11_byTurns_0_w2 hI hE e04 e09 a1 (by omega) a2 (by omega) a3 (by omega) a4 (by omega) hx.1)) ?_
      rintro M' _ ⟨hS, v, rfl, hv⟩
      exact ⟨hS.1, XI.st2 hx hS (by decide +kernel) hv.2.2, St.fx hS (by decide +kernel), v, rfl, St.kp hS (by decide) (by decide +kernel) (by decide +kernel), St.kp hS (by decide) (by decide +kernel) (by decide +kernel)⟩

set_option maxRecDepth 100000 in
set_option maxHeartbeats 4000000 in
theorem xu_wasted {l : Launch} {K : EC} {xq : Int} {M0 : Mem} (hE : e_all K xq) (hI : In Tru M0) (hx : XI M0) (a1 : Int) (ha1 : (-2147483648) ≤ a1 ∧ a1 ≤ 2147483647) : Tr l K 59 mX11_wasted 0 [(0, (2, 0)), (1, (0, a1))] [] M0 (fun M' r => In Tru M' ∧ XI M' ∧ FrX M0 M' ∧ ∃ v : Int, r = some (0, v) ∧ rd M' 0 1 = rd M0 0 1 ∧ rd M' 113 0 = rd M0 113 0) := by
  rcases id hx.2 with ⟨e04, e05, hy, e56⟩ | ⟨e04, e05, hy, e56⟩
  · rcases (show rd M0 0 9 = 0 ∨ rd M0 0 9 = 1 by have := ir_0_9 hI.2.1; omega) with e09 | e09
    · refine Tr.imp (Tr.deep (by decide) (sp_X11_wasted_0 hI e09 a1 (by omega))) ?_
      rintro M' _ ⟨hS, v, rfl, hv⟩
      exact ⟨hS.1, XI.st hx hS (by decide +kernel) (by decide +kernel), St.fx hS (by decide +kernel), v, rfl, St.kp hS (by decide) (by decide +kernel) (by decide +kernel), St.kp hS (by decide) (by decide +kernel) (by decide +kernel)⟩
    · refine Tr.imp (Tr.deep (by decide) (sp_X11_wasted_0_w1 hI e04 e09 a1 (by omega))) ?_
      rintro M' _ ⟨hS, v, rfl, hv⟩
      exact ⟨hS.1, XI.st hx hS (by decide +kernel) (by decide +kernel), St.fx hS (by decide +kernel), v, rfl, St.kp hS (by decide) (by decide +kernel) (by decide +kernel), St.kp hS (by decide) (by decide +kernel) (by decide +kernel)⟩
  · rcases (show rd M0 0 9 = 0 ∨ rd M0 0 9 = 1 by have := ir_0_9 hI.2.1; omega) with e09 | e09
    · refine Tr.imp (Tr.deep (by decide) (sp_X11_wasted_0 hI e09 a1 (by omega))) ?_
      rintro M' _ ⟨hS, v, rfl, hv⟩
      exact ⟨hS.1, XI.st hx hS (by decide +kernel) (by decide +kernel), St.fx hS (by decide +kernel), v, rfl, St.kp hS (by decide) (by decide +kernel) (by decide +kernel), St.kp hS (by decide) (by decide +kernel) (by decide +kernel)⟩
    · refine Tr.imp (Tr.deep (by decide) (sp_X11_wasted_0_w2 hI e04 e09 a1 (by omega))) ?_
      rintro M' _ ⟨hS, v, rfl, hv⟩
      exact ⟨hS.1, XI.st hx hS (by decide +kernel) (by decide +kernel), St.fx hS (by decide +kernel), v, rfl, St.kp hS (by decide) (by decide +kernel) (by decide +kernel), St.kp hS (by decide) (by decide +kernel) (by decide +kernel)⟩

set_option maxRecDepth 100000 in
set_option maxHeartbeats 4000000 in
theorem xu_over {l : Launch} {K : EC} {xq : Int} {M0 : Mem} (hE : e_all K xq) (hI : In Tru M0) (hx : XI M0) (a1 : Int) (ha1 : 0 ≤ a1 ∧ a1 ≤ 1) : Tr l K 59 mX11_over 0 [(0, (2, 0)), (1, (0, a1))] [] M0 (fun M' r => In Tru M' ∧ XI M' ∧ FrX M0 M' ∧ ∃ v : Int, r = some (0, v) ∧ rd M' 0 1 = rd M0 0 1 ∧ rd M' 113 0 = rd M0 113 0) := by
  rcases id hx.2 with ⟨e04, e05, hy, e56⟩ | ⟨e04, e05, hy, e56⟩
  · refine Tr.imp (Tr.deep (by decide) (sp_X11_over_0 hI e04 a1 (by omega) hy)) ?_
    rintro M' _ ⟨hS, v, rfl, hv⟩
    exact ⟨hS.1, XI.st hx hS (by decide +kernel) (by decide +kernel), St.fx hS (by decide +kernel), v, rfl, St.kp hS (by decide) (by decide +kernel) (by decide +kernel), St.kp hS (by decide) (by decide +kernel) (by decide +kernel)⟩
  · refine Tr.imp (Tr.deep (by decide) (sp_X11_over_0_w1 hI e04 a1 (by omega) hy)) ?_
    rintro M' _ ⟨hS, v, rfl, hv⟩
    exact ⟨hS.1, XI.st hx hS (by decide +kernel) (by decide +kernel), St.fx hS (by decide +kernel), v, rfl, St.kp hS (by decide) (by decide +kernel) (by decide +kernel), St.kp hS (by decide) (by decide +kernel) (by decide +kernel)⟩

set_option maxRecDepth 100000 in
set_option maxHeartbeats 4000000 in
theorem xu_where {l : Launch} {K : EC} {xq : Int} {M0 : Mem} (hE : e_all K xq) (hI : In Tru M0) (hx : XI M0) (a1 : Int) (ha1 : (-2147483648) ≤ a1 ∧ a1 ≤ 2147483647) : Tr l K 59 mX11_where 0 [(0, (2, 0)), (1, (0, a1))] [] M0 (fun M' r => In Tru M' ∧ XI M' ∧ FrX M0 M' ∧ ∃ v : Int, r = some (0, v) ∧ rd M' 0 1 = rd M0 0 1 ∧ rd M' 113 0 = rd M0 113 0) := by
  rcases id hx.2 with ⟨e04, e05, hy, e56⟩ | ⟨e04, e05, hy, e56⟩
  · refine Tr.imp (Tr.deep (by decide) (sp_X11_where_0 hI e04 a1 (by omega))) ?_
    rintro M' _ ⟨hS, v, rfl, hv⟩
    exact ⟨hS.1, XI.st hx hS (by decide +kernel) (by decide +kernel), St.fx hS (by decide +kernel), v, rfl, St.kp hS (by decide) (by decide +kernel) (by decide +kernel), St.kp hS (by decide) (by decide +kernel) (by decide +kernel)⟩
  · refine Tr.imp (Tr.deep (by decide) (sp_X11_where_0_w1 hI e04 a1 (by omega))) ?_
    rintro M' _ ⟨hS, v, rfl, hv⟩
    exact ⟨hS.1, XI.st hx hS (by decide +kernel) (by decide +kernel), St.fx hS (by decide +kernel), v, rfl, St.kp hS (by decide) (by decide +kernel) (by decide +kernel), St.kp hS (by decide) (by decide +kernel) (by decide +kernel)⟩

set_option maxRecDepth 100000 in
set_option maxHeartbeats 4000000 in
theorem xu_measure {l : Launch} {K : EC} {xq : Int} {M0 : Mem} (hE : e_all K xq) (hI : In Tru M0) (hx : XI M0) (a1 : Int) (ha1 : (-2147483648) ≤ a1 ∧ a1 ≤ 2147483647) : Tr l K 59 mX11_measure 0 [(0, (2, 0)), (1, (0, a1))] [] M0 (fun M' r => In Tru M' ∧ XI M' ∧ FrX M0 M' ∧ ∃ v : Int, r = some (0, v) ∧ rd M' 0 1 = rd M0 0 1 ∧ rd M' 113 0 = rd M0 113 0) := by
  rcases id hx.2 with ⟨e04, e05, hy, e56⟩ | ⟨e04, e05, hy, e56⟩
  · refine Tr.imp (Tr.deep (by decide) (sp_X11_measure_0 hI e04 a1 (by omega) hy)) ?_
    rintro M' _ ⟨hS, v, rfl, hv⟩
    exact ⟨hS.1, XI.st hx hS (by decide +kernel) (by decide +kernel), St.fx hS (by decide +kernel), v, rfl, St.kp hS (by decide) (by decide +kernel) (by decide +kernel), St.kp hS (by decide) (by decide +kernel) (by decide +kernel)⟩
  · refine Tr.imp (Tr.deep (by decide) (sp_X11_measure_0_w1 hI e04 a1 (by omega) hy)) ?_
    rintro M' _ ⟨hS, v, rfl, hv⟩
    exact ⟨hS.1, XI.st hx hS (by decide +kernel) (by decide +kernel), St.fx hS (by decide +kernel), v, rfl, St.kp hS (by decide) (by decide +kernel) (by decide +kernel), St.kp hS (by decide) (by decide +kernel) (by decide +kernel)⟩

set_option maxRecDepth 100000 in
set_option maxHeartbeats 4000000 in
theorem xu_fit {l : Launch} {K : EC} {xq : Int} {M0 : Mem} (hE : e_all K xq) (hI : In Tru M0) (hx : XI M0) (a1 : Int) (ha1 : (-2147483648) ≤ a1 ∧ a1 ≤ 2147483647) : Tr l K 59 mX11_fit 0 [(0, (2, 0)), (1, (0, a1))] [] M0 (fun M' r => In Tru M' ∧ XI M' ∧ FrX M0 M' ∧ ∃ v : Int, r = some (0, v) ∧ rd M' 0 1 = rd M0 0 1 ∧ rd M' 113 0 = rd M0 113 0) := by
  rcases id hx.2 with ⟨e04, e05, hy, e56⟩ | ⟨e04, e05, hy, e56⟩
  · refine Tr.imp (Tr.deep (by decide) (sp_X11_fit_0 hI e04 a1 (by omega))) ?_
    rintro M' _ ⟨hS, v, rfl, hv⟩
    exact ⟨hS.1, XI.st hx hS (by decide +kernel) (by decide +kernel), St.fx hS (by decide +kernel), v, rfl, St.kp hS (by decide) (by decide +kernel) (by decide +kernel), St.kp hS (by decide) (by decide +kernel) (by decide +kernel)⟩
  · refine Tr.imp (Tr.deep (by decide) (sp_X11_fit_0_w1 hI e04 a1 (by omega))) ?_
    rintro M' _ ⟨hS, v, rfl, hv⟩
    exact ⟨hS.1, XI.st hx hS (by decide +kernel) (by decide +kernel), St.fx hS (by decide +kernel), v, rfl, St.kp hS (by decide) (by decide +kernel) (by decide +kernel), St.kp hS (by decide) (by decide +kernel) (by decide +kernel)⟩

set_option maxRecDepth 100000 in
set_option maxHeartbeats 4000000 in
theorem xu_fitted {l : Launch} {K : EC} {xq : Int} {M0 : Mem} (hE : e_all K xq) (hI : In Tru M0) (hx : XI M0) (a1 : Int) (ha1 : (-2147483648) ≤ a1 ∧ a1 ≤ 2147483647) : Tr l K 59 mX11_fitted 0 [(0, (2, 0)), (1, (0, a1))] [] M0 (fun M' r => In Tru M' ∧ XI M' ∧ FrX M0 M' ∧ ∃ v : Int, r = some (0, v) ∧ rd M' 0 1 = rd M0 0 1 ∧ rd M' 113 0 = rd M0 113 0) := by
  rcases id hx.2 with ⟨e04, e05, hy, e56⟩ | ⟨e04, e05, hy, e56⟩
  · refine Tr.imp (Tr.deep (by decide) (sp_X11_fitted_0 hI a1 (by omega))) ?_
    rintro M' _ ⟨hS, v, rfl, hv⟩
    exact ⟨hS.1, XI.st hx hS (by decide +kernel) (by decide +kernel), St.fx hS (by decide +kernel), v, rfl, St.kp hS (by decide) (by decide +kernel) (by decide +kernel), St.kp hS (by decide) (by decide +kernel) (by decide +kernel)⟩
  · refine Tr.imp (Tr.deep (by decide) (sp_X11_fitted_0 hI a1 (by omega))) ?_
    rintro M' _ ⟨hS, v, rfl, hv⟩
    exact ⟨hS.1, XI.st hx hS (by decide +kernel) (by decide +kernel), St.fx hS (by decide +kernel), v, rfl, St.kp hS (by decide) (by decide +kernel) (by decide +kernel), St.kp hS (by decide) (by decide +kernel) (by decide +kernel)⟩

set_option maxRecDepth 100000 in
set_option maxHeartbeats 4000000 in
theorem xu_ask {l : Launch} {K : EC} {xq : Int} {M0 : Mem} (hE : e_all K xq) (hI : In Tru M0) (hx : XI M0) (a1 : Int) (ha1 : (-2147483648) ≤ a1 ∧ a1 ≤ 2147483647) (a2 : Int) (ha2 : (-2147483648) ≤ a2 ∧ a2 ≤ 2147483647) (a3 : Int) (ha3 : (-2147483648) ≤ a3 ∧ a3 ≤ 2147483647) : Tr l K 59 mX11_ask 0 [(0, (2, 0)), (1, (0, a1)), (2, (0, a2)), (3, (0, a3))] [] M0 (fun M' r => In Tru M' ∧ XI M' ∧ FrX M0 M' ∧ ∃ v : Int, r = some (0, v) ∧ ((v = rd M' 113 0 ∧ rd M' 113 0 = rd M0 113 0 + 1 ∧ 0 ≤ a1 ∧ a1 ≤ 200 ∧ 1 ≤ a2 ∧ a2 ≤ 20 ∧ 0 ≤ a3 ∧ a3 ≤ 5 ∧ rd M0 113 0 ≤ 5) ∨ (v = -1 ∧ rd M' 113 0 = rd M0 113 0 ∧ (a1 < 0 ∨ 200 < a1 ∨ a2 < 1 ∨ 20 < a2 ∨ a3 < 0 ∨ 5 < a3 ∨ 6 ≤ rd M0 113 0))) ∧ rd M' 0 1 = rd M0 0 1) := by
  rcases id hx.2 with ⟨e04, e05, hy, e56⟩ | ⟨e04, e05, hy, e56⟩
  · refine Tr.imp (Tr.deep (by decide) (sp_X11_ask_0 hI a1 (by omega) a2 (by omega) a3 (by omega))) ?_
    rintro M' _ ⟨hS, v, rfl, hv⟩
    exact ⟨hS.1, XI.st hx hS (by decide +kernel) (by decide +kernel), St.fx hS (by decide +kernel), v, rfl, hv.2.2, St.kp hS (by decide) (by decide +kernel) (by decide +kernel)⟩
  · refine Tr.imp (Tr.deep (by decide) (sp_X11_ask_0 hI a1 (by omega) a2 (by omega) a3 (by omega))) ?_
    rintro M' _ ⟨hS, v, rfl, hv⟩
    exact ⟨hS.1, XI.st hx hS (by decide +kernel) (by decide +kernel), St.fx hS (by decide +kernel), v, rfl, hv.2.2, St.kp hS (by decide) (by decide +kernel) (by decide +kernel)⟩

set_option maxRecDepth 100000 in
set_option maxHeartbeats 4000000 in
theorem xu_forget {l : Launch} {K : EC} {xq : Int} {M0 : Mem} (hE : e_all K xq) (hI : In Tru M0) (hx : XI M0) : Tr l K 59 mX11_forget 0 [(0, (2, 0))] [] M0 (fun M' r => In Tru M' ∧ XI M' ∧ FrX M0 M' ∧ ∃ v : Int, r = some (0, v) ∧ (v = rd M0 113 0 ∧ rd M' 113 0 = 0) ∧ rd M' 0 1 = rd M0 0 1) := by
  rcases id hx.2 with ⟨e04, e05, hy, e56⟩ | ⟨e04, e05, hy, e56⟩
  · refine Tr.imp (Tr.deep (by decide) (sp_X11_forget_0 hI)) ?_
    rintro M' _ ⟨hS, v, rfl, hv⟩
    exact ⟨hS.1, XI.st hx hS (by decide +kernel) (by decide +kernel), St.fx hS (by decide +kernel), v, rfl, hv.2.2, St.kp hS (by decide) (by decide +kernel) (by decide +kernel)⟩
  · refine Tr.imp (Tr.deep (by decide) (sp_X11_forget_0 hI)) ?_
    rintro M' _ ⟨hS, v, rfl, hv⟩
    exact ⟨hS.1, XI.st hx hS (by decide +kernel) (by decide +kernel), St.fx hS (by decide +kernel), v, rfl, hv.2.2, St.kp hS (by decide) (by decide +kernel) (by decide +kernel)⟩

set_option maxRecDepth 100000 in
set_option maxHeartbeats 4000000 in
theorem xu_together {l : Launch} {K : EC} {xq : Int} {M0 : Mem} (hE : e_all K xq) (hI : In Tru M0) (hx : XI M0) (a1 : Int) (ha1 : (-2147483648) ≤ a1 ∧ a1 ≤ 2147483647) : Tr l K 59 mX11_together 0 [(0, (2, 0)), (1, (0, a1))] [] M0 (fun M' r => In Tru M' ∧ XI M' ∧ FrX M0 M' ∧ ∃ v : Int, r = some (0, v) ∧ rd M' 0 1 = rd M0 0 1 ∧ rd M' 113 0 = rd M0 113 0) := by
  rcases id hx.2 with ⟨e04, e05, hy, e56⟩ | ⟨e04, e05, hy, e56⟩
  · refine Tr.imp (Tr.deep (by decide) (sp_X11_together_0 hI e04 a1 (by omega))) ?_
    rintro M' _ ⟨hS, v, rfl, hv⟩
    exact ⟨hS.1, XI.st hx hS (by decide +kernel) (by decide +kernel), St.fx hS (by decide +kernel), v, rfl, St.kp hS (by decide) (by decide +kernel) (by decide +kernel), St.kp hS (by decide) (by decide +kernel) (by decide +kernel)⟩
  · refine Tr.imp (Tr.deep (by decide) (sp_X11_together_0_w1 hI e04 a1 (by omega))) ?_
    rintro M' _ ⟨hS, v, rfl, hv⟩
    exact ⟨hS.1, XI.st hx hS (by decide +kernel) (by decide +kernel), St.fx hS (by decide +kernel), v, rfl, St.kp hS (by decide) (by decide +kernel) (by decide +kernel), St.kp hS (by decide) (by decide +kernel) (by decide +kernel)⟩

set_option maxRecDepth 100000 in
set_option maxHeartbeats 4000000 in
theorem xu_later {l : Launch} {K : EC} {xq : Int} {M0 : Mem} (hE : e_all K xq) (hI : In Tru M0) (hx : XI M0) (a1 : Int) (ha1 : (-2147483648) ≤ a1 ∧ a1 ≤ 2147483647) : Tr l K 59 mX11_later 0 [(0, (2, 0)), (1, (0, a1))] [] M0 (fun M' r => In Tru M' ∧ XI M' ∧ FrX M0 M' ∧ ∃ v : Int, r = some (0, v) ∧ rd M' 0 1 = rd M0 0 1 ∧ rd M' 113 0 = rd M0 113 0) := by
  rcases id hx.2 with ⟨e04, e05, hy, e56⟩ | ⟨e04, e05, hy, e56⟩
  · refine Tr.imp (Tr.deep (by decide) (sp_X11_later_0 hI a1 (by omega))) ?_
    rintro M' _ ⟨hS, v, rfl, hv⟩
    exact ⟨hS.1, XI.st hx hS (by decide +kernel) (by decide +kernel), St.fx hS (by decide +kernel), v, rfl, St.kp hS (by decide) (by decide +kernel) (by decide +kernel), St.kp hS (by decide) (by decide +kernel) (by decide +kernel)⟩
  · refine Tr.imp (Tr.deep (by decide) (sp_X11_later_0 hI a1 (by omega))) ?_
    rintro M' _ ⟨hS, v, rfl, hv⟩
    exact ⟨hS.1, XI.st hx hS (by decide +kernel) (by decide +kernel), St.fx hS (by decide +kernel), v, rfl, St.kp hS (by decide) (by decide +kernel) (by decide +kernel), St.kp hS (by decide) (by decide +kernel) (by decide +kernel)⟩

set_option maxRecDepth 100000 in
set_option maxHeartbeats 4000000 in
theorem xu_never {l : Launch} {K : EC} {xq : Int} {M0 : Mem} (hE : e_all K xq) (hI : In Tru M0) (hx : XI M0) : Tr l K 59 mX11_never 0 [(0, (2, 0))] [] M0 (fun M' r => In Tru M' ∧ XI M' ∧ FrX M0 M' ∧ ∃ v : Int, r = some (0, v) ∧ rd M' 0 1 = rd M0 0 1 ∧ rd M' 113 0 = rd M0 113 0) := by
  rcases id hx.2 with ⟨e04, e05, hy, e56⟩ | ⟨e04, e05, hy, e56⟩
  · refine Tr.imp (Tr.deep (by decide) (sp_X11_never_0 hI e04)) ?_
    rintro M' _ ⟨hS, v, rfl, hv⟩
    exact ⟨hS.1, XI.st hx hS (by decide +kernel) (by decide +kernel), St.fx hS (by decide +kernel), v, rfl, St.kp hS (by decide) (by decide +kernel) (by decide +kernel), St.kp hS (by decide) (by decide +kernel) (by decide +kernel)⟩
  · refine Tr.imp (Tr.deep (by decide) (sp_X11_never_0_w1 hI e04)) ?_
    rintro M' _ ⟨hS, v, rfl, hv⟩
    exact ⟨hS.1, XI.st hx hS (by decide +kernel) (by decide +kernel), St.fx hS (by decide +kernel), v, rfl, St.kp hS (by decide) (by decide +kernel) (by decide +kernel), St.kp hS (by decide) (by decide +kernel) (by decide +kernel)⟩

set_option maxRecDepth 100000 in
set_option maxHeartbeats 4000000 in
theorem xu_lasts {l : Launch} {K : EC} {xq : Int} {M0 : Mem} (hE : e_all K xq) (hI : In Tru M0) (hx : XI M0) (a1 : Int) (ha1 : (-2147483648) ≤ a1 ∧ a1 ≤ 2147483647) (a2 : Int) (ha2 : (-2147483648) ≤ a2 ∧ a2 ≤ 2147483647) (a3 : Int) (ha3 : (-2147483648) ≤ a3 ∧ a3 ≤ 2147483647) : Tr l K 59 mX11_lasts 0 [(0, (2, 0)), (1, (0, a1)), (2, (0, a2)), (3, (0, a3))] [] M0 (fun M' r => In Tru M' ∧ XI M' ∧ FrX M0 M' ∧ ∃ v : Int, r = some (0, v) ∧ rd M' 0 1 = rd M0 0 1 ∧ rd M' 113 0 = rd M0 113 0) := by
  rcases id hx.2 with ⟨e04, e05, hy, e56⟩ | ⟨e04, e05, hy, e56⟩
  · rcases (show rd M0 0 9 = 0 ∨ rd M0 0 9 = 1 by have := ir_0_9 hI.2.1; omega) with e09 | e09
    · refine Tr.imp (Tr.deep (by decide) (sp_X11_lasts_0 hI e09 a1 (by omega) a2 (by omega) a3 (by omega))) ?_
      rintro M' _ ⟨hS, v, rfl, hv⟩
      exact ⟨hS.1, XI.st hx hS (by decide +kernel) (by decide +kernel), St.fx hS (by decide +kernel), v, rfl, St.kp hS (by decide) (by decide +kernel) (by decide +kernel), St.kp hS (by decide) (by decide +kernel) (by decide +kernel)⟩
    · refine Tr.imp (Tr.deep (by decide) (sp_X11_lasts_0_w1 hI e04 e09 a1 (by omega) a2 (by omega) a3 (by omega))) ?_
      rintro M' _ ⟨hS, v, rfl, hv⟩
      exact ⟨hS.1, XI.st hx hS (by decide +kernel) (by decide +kernel), St.fx hS (by decide +kernel), v, rfl, St.kp hS (by decide) (by decide +kernel) (by decide +kernel), St.kp hS (by decide) (by decide +kernel) (by decide +kernel)⟩
  · rcases (show rd M0 0 9 = 0 ∨ rd M0 0 9 = 1 by have := ir_0_9 hI.2.1; omega) with e09 | e09
    · refine Tr.imp (Tr.deep (by decide) (sp_X11_lasts_0 hI e09 a1 (by omega) a2 (by omega) a3 (by omega))) ?_
      rintro M' _ ⟨hS, v, rfl, hv⟩
      exact ⟨hS.1, XI.st hx hS (by decide +kernel) (by decide +kernel), St.fx hS (by decide +kernel), v, rfl, St.kp hS (by decide) (by decide +kernel) (by decide +kernel), St.kp hS (by decide) (by decide +kernel) (by decide +kernel)⟩
    · refine Tr.imp (Tr.deep (by decide) (sp_X11_lasts_0_w2 hI e04 e09 a1 (by omega) a2 (by omega) a3 (by omega))) ?_
      rintro M' _ ⟨hS, v, rfl, hv⟩
      exact ⟨hS.1, XI.st hx hS (by decide +kernel) (by decide +kernel), St.fx hS (by decide +kernel), v, rfl, St.kp hS (by decide) (by decide +kernel) (by decide +kernel), St.kp hS (by decide) (by decide +kernel) (by decide +kernel)⟩


set_option maxRecDepth 100000 in
set_option maxHeartbeats 4000000 in
theorem mu_feed {l : Launch} {K : EC} {M0 : Mem} (hI : In Tru M0) (hm : MI M0) (a1 : Int) (ha1 : (-2147483648) ≤ a1 ∧ a1 ≤ 2147483647) (a2 : Int) (ha2 : (-2147483648) ≤ a2 ∧ a2 ≤ 2147483647) (a3 : Int) (ha3 : (-2147483648) ≤ a3 ∧ a3 ≤ 2147483647) (a4 : Int) (ha4 : (-2147483648) ≤ a4 ∧ a4 ≤ 2147483647) (a5 : Int) (ha5 : (-2147483648) ≤ a5 ∧ a5 ≤ 2147483647) : Tr l K 59 mX12_feed 0 [(0, (2, 120)), (1, (0, a1)), (2, (0, a2)), (3, (0, a3)), (4, (0, a4)), (5, (0, a5))] [] M0 (fun M' r => In Tru M' ∧ MI M' ∧ FrM M0 M' ∧ ∃ v : Int, r = some (0, v) ∧ ((v = -1 ∧ rd M' 120 1 = rd M0 120 1 ∧ 880 < rd M0 120 1) ∨ (v = rd M' 120 1 ∧ rd M' 120 1 = rd M0 120 1 + 20 ∧ rd M0 120 1 ≤ 880)) ∧ rd M' 120 113 = rd M0 120 113) := by
  refine Tr.imp (Tr.deep (by decide) (sp_X12_feed_120 hI a1 (by omega) a2 (by omega) a3 (by omega) a4 (by omega) a5 (by omega))) ?_
  rintro M' _ ⟨hS, v, rfl, hv⟩
  exact ⟨hS.1, MI.st hm hS (by decide +kernel) ((St.kp hS (by decide) (by decide +kernel) (by decide +kernel)).trans hm.1), St.fm hS (by decide +kernel), v, rfl, hv.2.2, St.kp hS (by decide) (by decide +kernel) (by decide +kernel)⟩

set_option maxRecDepth 100000 in
set_option maxHeartbeats 4000000 in
theorem mu_end {l : Launch} {K : EC} {M0 : Mem} (hI : In Tru M0) (hm : MI M0) (a1 : Int) (ha1 : (-2147483648) ≤ a1 ∧ a1 ≤ 2147483647) : Tr l K 59 mX12_end 0 [(0, (2, 120)), (1, (0, a1))] [] M0 (fun M' r => In Tru M' ∧ MI M' ∧ FrM M0 M' ∧ ∃ v : Int, r = some (0, v) ∧ ((v = 1 ∧ rd M' 120 1 = a1 ∧ 0 ≤ a1 ∧ a1 ≤ rd M0 120 1) ∨ (v = 0 ∧ rd M' 120 1 = rd M0 120 1 ∧ (a1 < 0 ∨ rd M0 120 1 < a1))) ∧ rd M' 120 113 = rd M0 120 113) := by
  refine Tr.imp (Tr.deep (by decide) (sp_X12_end_120 hI a1 (by omega))) ?_
  rintro M' _ ⟨hS, v, rfl, hv⟩
  exact ⟨hS.1, MI.st hm hS (by decide +kernel) ((St.kp hS (by decide) (by decide +kernel) (by decide +kernel)).trans hm.1), St.fm hS (by decide +kernel), v, rfl, hv.2.2, St.kp hS (by decide) (by decide +kernel) (by decide +kernel)⟩

set_option maxRecDepth 100000 in
set_option maxHeartbeats 4000000 in
theorem mu_text {l : Launch} {K : EC} {M0 : Mem} (hI : In Tru M0) (hm : MI M0) : Tr l K 59 mX12_text 0 [(0, (2, 120))] [] M0 (fun M' r => In Tru M' ∧ MI M' ∧ FrM M0 M' ∧ ∃ v : Int, r = some (0, v) ∧ rd M' 120 1 = 0 ∧ rd M' 120 113 = rd M0 120 113) := by
  rcases id hm.2 with ⟨en, hB⟩ | ⟨en, hB⟩
  · refine Tr.imp (Tr.deep (by decide) (sp_X12_text_120 hI en hB)) ?_
    rintro M' _ ⟨hS, v, rfl, hv⟩
    exact ⟨hS.1, MI.tx0 ((St.kp hS (by decide) (by decide +kernel) (by decide +kernel)).trans hm.1) hv.2.2.2, St.fm hS (by decide +kernel), v, rfl, hv.2.2.1, St.kp hS (by decide) (by decide +kernel) (by decide +kernel)⟩
  · refine Tr.imp (Tr.deep (by decide) (sp_X12_text_120_w1 hI en hB)) ?_
    rintro M' _ ⟨hS, v, rfl, hv⟩
    exact ⟨hS.1, MI.tx1 ((St.kp hS (by decide) (by decide +kernel) (by decide +kernel)).trans hm.1) hv.2.2.2, St.fm hS (by decide +kernel), v, rfl, hv.2.2.1, St.kp hS (by decide) (by decide +kernel) (by decide +kernel)⟩

set_option maxRecDepth 100000 in
set_option maxHeartbeats 4000000 in
theorem mu_fault {l : Launch} {K : EC} {M0 : Mem} (hI : In Tru M0) (hm : MI M0) (a1 : Int) (ha1 : (-2147483648) ≤ a1 ∧ a1 ≤ 2147483647) : Tr l K 59 mX12_fault 0 [(0, (2, 120)), (1, (0, a1))] [] M0 (fun M' r => In Tru M' ∧ MI M' ∧ FrM M0 M' ∧ ∃ v : Int, r = some (0, v) ∧ rd M' 120 1 = rd M0 120 1 ∧ rd M' 120 113 = rd M0 120 113) := by
  refine Tr.imp (Tr.deep (by decide) (sp_X12_fault_120 hI a1 (by omega))) ?_
  rintro M' _ ⟨hS, v, rfl, hv⟩
  exact ⟨hS.1, MI.st hm hS (by decide +kernel) ((St.kp hS (by decide) (by decide +kernel) (by decide +kernel)).trans hm.1), St.fm hS (by decide +kernel), v, rfl, St.kp hS (by decide) (by decide +kernel) (by decide +kernel), St.kp hS (by decide) (by decide +kernel) (by decide +kernel)⟩

set_option maxRecDepth 100000 in
set_option maxHeartbeats 4000000 in
theorem mu_has {l : Launch} {K : EC} {M0 : Mem} (hI : In Tru M0) (hm : MI M0) (a1 : Int) (ha1 : (-2147483648) ≤ a1 ∧ a1 ≤ 2147483647) : Tr l K 59 mX12_has 0 [(0, (2, 120)), (1, (0, a1))] [] M0 (fun M' r => In Tru M' ∧ MI M' ∧ FrM M0 M' ∧ ∃ v : Int, r = some (0, v) ∧ rd M' 120 1 = rd M0 120 1 ∧ rd M' 120 113 = rd M0 120 113) := by
  rcases id hm.2 with ⟨en, hB⟩ | ⟨en, hB⟩
  · refine Tr.imp (Tr.deep (by decide) (sp_X12_has_120 hI en a1 (by omega))) ?_
    rintro M' _ ⟨hS, v, rfl, hv⟩
    exact ⟨hS.1, MI.st hm hS (by decide +kernel) ((St.kp hS (by decide) (by decide +kernel) (by decide +kernel)).trans hm.1), St.fm hS (by decide +kernel), v, rfl, St.kp hS (by decide) (by decide +kernel) (by decide +kernel), St.kp hS (by decide) (by decide +kernel) (by decide +kernel)⟩
  · refine Tr.imp (Tr.deep (by decide) (sp_X12_has_120_w1 hI en a1 (by omega))) ?_
    rintro M' _ ⟨hS, v, rfl, hv⟩
    exact ⟨hS.1, MI.st hm hS (by decide +kernel) ((St.kp hS (by decide) (by decide +kernel) (by decide +kernel)).trans hm.1), St.fm hS (by decide +kernel), v, rfl, St.kp hS (by decide) (by decide +kernel) (by decide +kernel), St.kp hS (by decide) (by decide +kernel) (by decide +kernel)⟩

set_option maxRecDepth 100000 in
set_option maxHeartbeats 4000000 in
theorem mu_letter {l : Launch} {K : EC} {M0 : Mem} (hI : In Tru M0) (hm : MI M0) (a1 : Int) (ha1 : (-2147483648) ≤ a1 ∧ a1 ≤ 2147483647) (a2 : Int) (ha2 : (-2147483648) ≤ a2 ∧ a2 ≤ 2147483647) (a3 : Int) (ha3 : (-2147483648) ≤ a3 ∧ a3 ≤ 2147483647) : Tr l K 59 mX12_letter 0 [(0, (2, 120)), (1, (0, a1)), (2, (0, a2)), (3, (0, a3))] [] M0 (fun M' r => In Tru M' ∧ MI M' ∧ FrM M0 M' ∧ ∃ v : Int, r = some (0, v) ∧ rd M' 120 1 = rd M0 120 1 ∧ rd M' 120 113 = rd M0 120 113) := by
  rcases id hm.2 with ⟨en, hB⟩ | ⟨en, hB⟩
  · refine Tr.imp (Tr.deep (by decide) (sp_X12_letter_120 hI en a1 (by omega) a2 (by omega) a3 (by omega))) ?_
    rintro M' _ ⟨hS, v, rfl, hv⟩
    exact ⟨hS.1, MI.st hm hS (by decide +kernel) ((St.kp hS (by decide) (by decide +kernel) (by decide +kernel)).trans hm.1), St.fm hS (by decide +kernel), v, rfl, St.kp hS (by decide) (by decide +kernel) (by decide +kernel), St.kp hS (by decide) (by decide +kernel) (by decide +kernel)⟩
  · refine Tr.imp (Tr.deep (by decide) (sp_X12_letter_120_w1 hI en a1 (by omega) a2 (by omega) a3 (by omega))) ?_
    rintro M' _ ⟨hS, v, rfl, hv⟩
    exact ⟨hS.1, MI.st hm hS (by decide +kernel) ((St.kp hS (by decide) (by decide +kernel) (by decide +kernel)).trans hm.1), St.fm hS (by decide +kernel), v, rfl, St.kp hS (by decide) (by decide +kernel) (by decide +kernel), St.kp hS (by decide) (by decide +kernel) (by decide +kernel)⟩

set_option maxRecDepth 100000 in
set_option maxHeartbeats 4000000 in
theorem mu_put {l : Launch} {K : EC} {M0 : Mem} (hI : In Tru M0) (hm : MI M0) (a1 : Int) (ha1 : (-2147483648) ≤ a1 ∧ a1 ≤ 2147483647) (a2 : Int) (ha2 : (-2147483648) ≤ a2 ∧ a2 ≤ 2147483647) : Tr l K 59 mX12_put_ 0 [(0, (2, 120)), (1, (0, a1)), (2, (0, a2))] [] M0 (fun M' r => In Tru M' ∧ MI M' ∧ FrM M0 M' ∧ ∃ v : Int, r = some (0, v) ∧ rd M' 120 1 = rd M0 120 1 ∧ rd M' 120 113 = rd M0 120 113) := by
  rcases id hm.2 with ⟨en, hB⟩ | ⟨en, hB⟩
  · refine Tr.imp (Tr.deep (by decide) (sp_X12_put__120 hI en a1 (by omega) a2 (by omega))) ?_
    rintro M' _ ⟨hS, v, rfl, hv⟩
    exact ⟨hS.1, MI.st hm hS (by decide +kernel) ((St.kp hS (by decide) (by decide +kernel) (by decide +kernel)).trans hm.1), St.fm hS (by decide +kernel), v, rfl, St.kp hS (by decide) (by decide +kernel) (by decide +kernel), St.kp hS (by decide) (by decide +kernel) (by decide +kernel)⟩
  · refine Tr.imp (Tr.deep (by decide) (sp_X12_put__120_w1 hI en a1 (by omega) a2 (by omega))) ?_
    rintro M' _ ⟨hS, v, rfl, hv⟩
    exact ⟨hS.1, MI.st hm hS (by decide +kernel) ((St.kp hS (by decide) (by decide +kernel) (by decide +kernel)).trans hm.1), St.fm hS (by decide +kernel), v, rfl, St.kp hS (by decide) (by decide +kernel) (by decide +kernel), St.kp hS (by decide) (by decide +kernel) (by decide +kernel)⟩

set_option maxRecDepth 100000 in
set_option maxHeartbeats 4000000 in
theorem mu_run {l : Launch} {K : EC} {M0 : Mem} (hI : In Tru M0) (hm : MI M0) (a1 : Int) (ha1 : (-2147483648) ≤ a1 ∧ a1 ≤ 2147483647) : Tr l K 59 mX12_run 0 [(0, (2, 120)), (1, (0, a1))] [] M0 (fun M' r => In Tru M' ∧ MI M' ∧ FrM M0 M' ∧ ∃ v : Int, r = some (0, v) ∧ rd M' 120 1 = rd M0 120 1 ∧ rd M' 120 113 = rd M0 120 113) := by
  rcases id hm.2 with ⟨en, hB⟩ | ⟨en, hB⟩
  · refine Tr.imp (Tr.deep (by decide) (sp_X12_run_120 hI en a1 (by omega) hm.1 hB)) ?_
    rintro M' _ ⟨hS, v, rfl, hv⟩
    exact ⟨hS.1, MI.st hm hS (by decide +kernel) hv.2.2, St.fm hS (by decide +kernel), v, rfl, St.kp hS (by decide) (by decide +kernel) (by decide +kernel), St.kp hS (by decide) (by decide +kernel) (by decide +kernel)⟩
  · refine Tr.imp (Tr.deep (by decide) (sp_X12_run_120_w1 hI en a1 (by omega) hm.1 hB)) ?_
    rintro M' _ ⟨hS, v, rfl, hv⟩
    exact ⟨hS.1, MI.st hm hS (by decide +kernel) hv.2.2, St.fm hS (by decide +kernel), v, rfl, St.kp hS (by decide) (by decide +kernel) (by decide +kernel), St.kp hS (by decide) (by decide +kernel) (by decide +kernel)⟩

set_option maxRecDepth 100000 in
set_option maxHeartbeats 4000000 in
theorem mu_ran {l : Launch} {K : EC} {M0 : Mem} (hI : In Tru M0) (hm : MI M0) (a1 : Int) (ha1 : (-2147483648) ≤ a1 ∧ a1 ≤ 2147483647) : Tr l K 59 mX12_ran 0 [(0, (2, 120)), (1, (0, a1))] [] M0 (fun M' r => In Tru M' ∧ MI M' ∧ FrM M0 M' ∧ ∃ v : Int, r = some (0, v) ∧ rd M' 120 1 = rd M0 120 1 ∧ rd M' 120 113 = rd M0 120 113) := by
  refine Tr.imp (Tr.deep (by decide) (sp_X12_ran_120 hI a1 (by omega))) ?_
  rintro M' _ ⟨hS, v, rfl, hv⟩
  exact ⟨hS.1, MI.st hm hS (by decide +kernel) ((St.kp hS (by decide) (by decide +kernel) (by decide +kernel)).trans hm.1), St.fm hS (by decide +kernel), v, rfl, St.kp hS (by decide) (by decide +kernel) (by decide +kernel), St.kp hS (by decide) (by decide +kernel) (by decide +kernel)⟩

set_option maxRecDepth 100000 in
set_option maxHeartbeats 4000000 in
theorem mu_value {l : Launch} {K : EC} {M0 : Mem} (hI : In Tru M0) (hm : MI M0) (a1 : Int) (ha1 : (-2147483648) ≤ a1 ∧ a1 ≤ 2147483647) : Tr l K 59 mX12_value 0 [(0, (2, 120)), (1, (0, a1))] [] M0 (fun M' r => In Tru M' ∧ MI M' ∧ FrM M0 M' ∧ ∃ v : Int, r = some (0, v) ∧ rd M' 120 1 = rd M0 120 1 ∧ rd M' 120 113 = rd M0 120 113) := by
  rcases id hm.2 with ⟨en, hB⟩ | ⟨en, hB⟩
  · refine Tr.imp (Tr.deep (by decide) (sp_X12_value_120 hI en a1 (by omega))) ?_
    rintro M' _ ⟨hS, v, rfl, hv⟩
    exact ⟨hS.1, MI.st hm hS (by decide +kernel) ((St.kp hS (by decide) (by decide +kernel) (by decide +kernel)).trans hm.1), St.fm hS (by decide +kernel), v, rfl, St.kp hS (by decide) (by decide +kernel) (by decide +kernel), St.kp hS (by decide) (by decide +kernel) (by decide +kernel)⟩
  · refine Tr.imp (Tr.deep (by decide) (sp_X12_value_120_w1 hI en a1 (by omega))) ?_
    rintro M' _ ⟨hS, v, rfl, hv⟩
    exact ⟨hS.1, MI.st hm hS (by decide +kernel) ((St.kp hS (by decide) (by decide +kernel) (by decide +kernel)).trans hm.1), St.fm hS (by decide +kernel), v, rfl, St.kp hS (by decide) (by decide +kernel) (by decide +kernel), St.kp hS (by decide) (by decide +kernel) (by decide +kernel)⟩

set_option maxRecDepth 100000 in
set_option maxHeartbeats 4000000 in
theorem mu_spent {l : Launch} {K : EC} {M0 : Mem} (hI : In Tru M0) (hm : MI M0) (a1 : Int) (ha1 : (-2147483648) ≤ a1 ∧ a1 ≤ 2147483647) (a2 : Int) (ha2 : (-2147483648) ≤ a2 ∧ a2 ≤ 2147483647) : Tr l K 59 mX12_spent 0 [(0, (2, 120)), (1, (0, a1)), (2, (0, a2))] [] M0 (fun M' r => In Tru M' ∧ MI M' ∧ FrM M0 M' ∧ ∃ v : Int, r = some (0, v) ∧ rd M' 120 1 = rd M0 120 1 ∧ rd M' 120 113 = rd M0 120 113) := by
  rcases id hm.2 with ⟨en, hB⟩ | ⟨en, hB⟩
  · refine Tr.imp (Tr.deep (by decide) (sp_X12_spent_120 hI en a1 (by omega) a2 (by omega))) ?_
    rintro M' _ ⟨hS, v, rfl, hv⟩
    exact ⟨hS.1, MI.st hm hS (by decide +kernel) ((St.kp hS (by decide) (by decide +kernel) (by decide +kernel)).trans hm.1), St.fm hS (by decide +kernel), v, rfl, St.kp hS (by decide) (by decide +kernel) (by decide +kernel), St.kp hS (by decide) (by decide +kernel) (by decide +kernel)⟩
  · refine Tr.imp (Tr.deep (by decide) (sp_X12_spent_120_w1 hI en a1 (by omega) a2 (by omega))) ?_
    rintro M' _ ⟨hS, v, rfl, hv⟩
    exact ⟨hS.1, MI.st hm hS (by decide +kernel) ((St.kp hS (by decide) (by decide +kernel) (by decide +kernel)).trans hm.1), St.fm hS (by decide +kernel), v, rfl, St.kp hS (by decide) (by decide +kernel) (by decide +kernel), St.kp hS (by decide) (by decide +kernel) (by decide +kernel)⟩

set_option maxRecDepth 100000 in
set_option maxHeartbeats 4000000 in
theorem mu_pays {l : Launch} {K : EC} {M0 : Mem} (hI : In Tru M0) (hm : MI M0) (a1 : Int) (ha1 : (-2147483648) ≤ a1 ∧ a1 ≤ 2147483647) (a2 : Int) (ha2 : (-2147483648) ≤ a2 ∧ a2 ≤ 2147483647) : Tr l K 59 mX12_pays 0 [(0, (2, 120)), (1, (0, a1)), (2, (0, a2))] [] M0 (fun M' r => In Tru M' ∧ MI M' ∧ FrM M0 M' ∧ ∃ v : Int, r = some (0, v) ∧ rd M' 120 1 = rd M0 120 1 ∧ rd M' 120 113 = rd M0 120 113) := by
  rcases id hm.2 with ⟨en, hB⟩ | ⟨en, hB⟩
  · refine Tr.imp (Tr.deep (by decide) (sp_X12_pays_120 hI en a1 (by omega) a2 (by omega) hB)) ?_
    rintro M' _ ⟨hS, v, rfl, hv⟩
    exact ⟨hS.1, MI.st hm hS (by decide +kernel) ((St.kp hS (by decide) (by decide +kernel) (by decide +kernel)).trans hm.1), St.fm hS (by decide +kernel), v, rfl, St.kp hS (by decide) (by decide +kernel) (by decide +kernel), St.kp hS (by decide) (by decide +kernel) (by decide +kernel)⟩
  · refine Tr.imp (Tr.deep (by decide) (sp_X12_pays_120_w1 hI en a1 (by omega) a2 (by omega) hB)) ?_
    rintro M' _ ⟨hS, v, rfl, hv⟩
    exact ⟨hS.1, MI.st hm hS (by decide +kernel) ((St.kp hS (by decide) (by decide +kernel) (by decide +kernel)).trans hm.1), St.fm hS (by decide +kernel), v, rfl, St.kp hS (by decide) (by decide +kernel) (by decide +kernel), St.kp hS (by decide) (by decide +kernel) (by decide +kernel)⟩

set_option maxRecDepth 100000 in
set_option maxHeartbeats 4000000 in
theorem mu_stretches {l : Launch} {K : EC} {M0 : Mem} (hI : In Tru M0) (hm : MI M0) (a1 : Int) (ha1 : (-2147483648) ≤ a1 ∧ a1 ≤ 2147483647) : Tr l K 59 mX12_stretches 0 [(0, (2, 120)), (1, (0, a1))] [] M0 (fun M' r => In Tru M' ∧ MI M' ∧ FrM M0 M' ∧ ∃ v : Int, r = some (0, v) ∧ rd M' 120 1 = rd M0 120 1 ∧ rd M' 120 113 = rd M0 120 113) := by
  rcases id hm.2 with ⟨en, hB⟩ | ⟨en, hB⟩
  · refine Tr.imp (Tr.deep (by decide) (sp_X12_stretches_120 hI en a1 (by omega))) ?_
    rintro M' _ ⟨hS, v, rfl, hv⟩
    exact ⟨hS.1, MI.st hm hS (by decide +kernel) ((St.kp hS (by decide) (by decide +kernel) (by decide +kernel)).trans hm.1), St.fm hS (by decide +kernel), v, rfl, St.kp hS (by decide) (by decide +kernel) (by decide +kernel), St.kp hS (by decide) (by decide +kernel) (by decide +kernel)⟩
  · refine Tr.imp (Tr.deep (by decide) (sp_X12_stretches_120_w1 hI en a1 (by omega))) ?_
    rintro M' _ ⟨hS, v, rfl, hv⟩
    exact ⟨hS.1, MI.st hm hS (by decide +kernel) ((St.kp hS (by decide) (by decide +kernel) (by decide +kernel)).trans hm.1), St.fm hS (by decide +kernel), v, rfl, St.kp hS (by decide) (by decide +kernel) (by decide +kernel), St.kp hS (by decide) (by decide +kernel) (by decide +kernel)⟩

set_option maxRecDepth 100000 in
set_option maxHeartbeats 4000000 in
theorem mu_stretch {l : Launch} {K : EC} {M0 : Mem} (hI : In Tru M0) (hm : MI M0) (a1 : Int) (ha1 : (-2147483648) ≤ a1 ∧ a1 ≤ 2147483647) (a2 : Int) (ha2 : (-2147483648) ≤ a2 ∧ a2 ≤ 2147483647) (a3 : Int) (ha3 : (-2147483648) ≤ a3 ∧ a3 ≤ 2147483647) : Tr l K 59 mX12_stretch 0 [(0, (2, 120)), (1, (0, a1)), (2, (0, a2)), (3, (0, a3))] [] M0 (fun M' r => In Tru M' ∧ MI M' ∧ FrM M0 M' ∧ ∃ v : Int, r = some (0, v) ∧ rd M' 120 1 = rd M0 120 1 ∧ rd M' 120 113 = rd M0 120 113) := by
  rcases id hm.2 with ⟨en, hB⟩ | ⟨en, hB⟩
  · refine Tr.imp (Tr.deep (by decide) (sp_X12_stretch_120 hI en a1 (by omega) a2 (by omega) a3 (by omega))) ?_
    rintro M' _ ⟨hS, v, rfl, hv⟩
    exact ⟨hS.1, MI.st hm hS (by decide +kernel) ((St.kp hS (by decide) (by decide +kernel) (by decide +kernel)).trans hm.1), St.fm hS (by decide +kernel), v, rfl, St.kp hS (by decide) (by decide +kernel) (by decide +kernel), St.kp hS (by decide) (by decide +kernel) (by decide +kernel)⟩
  · refine Tr.imp (Tr.deep (by decide) (sp_X12_stretch_120_w1 hI en a1 (by omega) a2 (by omega) a3 (by omega))) ?_
    rintro M' _ ⟨hS, v, rfl, hv⟩
    exact ⟨hS.1, MI.st hm hS (by decide +kernel) ((St.kp hS (by decide) (by decide +kernel) (by decide +kernel)).trans hm.1), St.fm hS (by decide +kernel), v, rfl, St.kp hS (by decide) (by decide +kernel) (by decide +kernel), St.kp hS (by decide) (by decide +kernel) (by decide +kernel)⟩

set_option maxRecDepth 100000 in
set_option maxHeartbeats 4000000 in
theorem mu_lines {l : Launch} {K : EC} {M0 : Mem} (hI : In Tru M0) (hm : MI M0) (a1 : Int) (ha1 : (-2147483648) ≤ a1 ∧ a1 ≤ 2147483647) (a2 : Int) (ha2 : (-2147483648) ≤ a2 ∧ a2 ≤ 2147483647) : Tr l K 59 mX12_lines 0 [(0, (2, 120)), (1, (0, a1)), (2, (0, a2))] [] M0 (fun M' r => In Tru M' ∧ MI M' ∧ FrM M0 M' ∧ ∃ v : Int, r = some (1, v) ∧ rd M' 120 1 = rd M0 120 1 ∧ rd M' 120 113 = rd M0 120 113) := by
  rcases id hm.2 with ⟨en, hB⟩ | ⟨en, hB⟩
  · refine Tr.imp (Tr.deep (by decide) (sp_X12_lines_120 hI en a1 (by omega) a2 (by omega))) ?_
    rintro M' _ ⟨hS, v, rfl, hv⟩
    exact ⟨hS.1, MI.st hm hS (by decide +kernel) ((St.kp hS (by decide) (by decide +kernel) (by decide +kernel)).trans hm.1), St.fm hS (by decide +kernel), v, rfl, St.kp hS (by decide) (by decide +kernel) (by decide +kernel), St.kp hS (by decide) (by decide +kernel) (by decide +kernel)⟩
  · refine Tr.imp (Tr.deep (by decide) (sp_X12_lines_120_w1 hI en a1 (by omega) a2 (by omega))) ?_
    rintro M' _ ⟨hS, v, rfl, hv⟩
    exact ⟨hS.1, MI.st hm hS (by decide +kernel) ((St.kp hS (by decide) (by decide +kernel) (by decide +kernel)).trans hm.1), St.fm hS (by decide +kernel), v, rfl, St.kp hS (by decide) (by decide +kernel) (by decide +kernel), St.kp hS (by decide) (by decide +kernel) (by decide +kernel)⟩

set_option maxRecDepth 100000 in
set_option maxHeartbeats 4000000 in
theorem mu_byTurns {l : Launch} {K : EC} {M0 : Mem} (hI : In Tru M0) (hm : MI M0) (a1 : Int) (ha1 : (-2147483648) ≤ a1 ∧ a1 ≤ 2147483647) (a2 : Int) (ha2 : (-2147483648) ≤ a2 ∧ a2 ≤ 2147483647) (a3 : Int) (ha3 : (-2147483648) ≤ a3 ∧ a3 ≤ 2147483647) (a4 : Int) (ha4 : 0 ≤ a4 ∧ a4 ≤ 1) : Tr l K 59 mX12_byTurns 0 [(0, (2, 120)), (1, (0, a1)), (2, (0, a2)), (3, (0, a3)), (4, (0, a4))] [] M0 (fun M' r => In Tru M' ∧ MI M' ∧ FrM M0 M' ∧ ∃ v : Int, r = some (1, v) ∧ rd M' 120 1 = rd M0 120 1 ∧ rd M' 120 113 = rd M0 120 113) := by
  rcases id hm.2 with ⟨en, hB⟩ | ⟨en, hB⟩
  · refine Tr.imp (Tr.deep (by decide) (sp_X12_byTurns_120 hI en a1 (by omega) a2 (by omega) a3 (by omega) a4 (by omega) hB)) ?_
    rintro M' _ ⟨hS, v, rfl, hv⟩
    exact ⟨hS.1, MI.st hm hS (by decide +kernel) ((St.kp hS (by decide) (by decide +kernel) (by decide +kernel)).trans hm.1), St.fm hS (by decide +kernel), v, rfl, St.kp hS (by decide) (by decide +kernel) (by decide +kernel), St.kp hS (by decide) (by decide +kernel) (by decide +kernel)⟩
  · refine Tr.imp (Tr.deep (by decide) (sp_X12_byTurns_120_w1 hI en a1 (by omega) a2 (by omega) a3 (by omega) a4 (by omega) hB)) ?_
    rintro M' _ ⟨hS, v, rfl, hv⟩
    exact ⟨hS.1, MI.st hm hS (by decide +kernel) ((St.kp hS (by decide) (by decide +kernel) (by decide +kernel)).trans hm.1), St.fm hS (by decide +kernel), v, rfl, St.kp hS (by decide) (by decide +kernel) (by decide +kernel), St.kp hS (by decide) (by decide +kernel) (by decide +kernel)⟩

set_option maxRecDepth 100000 in
set_option maxHeartbeats 4000000 in
theorem mu_wasted {l : Launch} {K : EC} {M0 : Mem} (hI : In Tru M0) (hm : MI M0) (a1 : Int) (ha1 : (-2147483648) ≤ a1 ∧ a1 ≤ 2147483647) : Tr l K 59 mX12_wasted 0 [(0, (2, 120)), (1, (0, a1))] [] M0 (fun M' r => In Tru M' ∧ MI M' ∧ FrM M0 M' ∧ ∃ v : Int, r = some (0, v) ∧ rd M' 120 1 = rd M0 120 1 ∧ rd M' 120 113 = rd M0 120 113) := by
  rcases id hm.2 with ⟨en, hB⟩ | ⟨en, hB⟩
  · refine Tr.imp (Tr.deep (by decide) (sp_X12_wasted_120 hI en a1 (by omega) hB)) ?_
    rintro M' _ ⟨hS, v, rfl, hv⟩
    exact ⟨hS.1, MI.st hm hS (by decide +kernel) ((St.kp hS (by decide) (by decide +kernel) (by decide +kernel)).trans hm.1), St.fm hS (by decide +kernel), v, rfl, St.kp hS (by decide) (by decide +kernel) (by decide +kernel), St.kp hS (by decide) (by decide +kernel) (by decide +kernel)⟩
  · refine Tr.imp (Tr.deep (by decide) (sp_X12_wasted_120_w1 hI en a1 (by omega) hB)) ?_
    rintro M' _ ⟨hS, v, rfl, hv⟩
    exact ⟨hS.1, MI.st hm hS (by decide +kernel) ((St.kp hS (by decide) (by decide +kernel) (by decide +kernel)).trans hm.1), St.fm hS (by decide +kernel), v, rfl, St.kp hS (by decide) (by decide +kernel) (by decide +kernel), St.kp hS (by decide) (by decide +kernel) (by decide +kernel)⟩

set_option maxRecDepth 100000 in
set_option maxHeartbeats 4000000 in
theorem mu_over {l : Launch} {K : EC} {M0 : Mem} (hI : In Tru M0) (hm : MI M0) (a1 : Int) (ha1 : 0 ≤ a1 ∧ a1 ≤ 1) : Tr l K 59 mX12_over 0 [(0, (2, 120)), (1, (0, a1))] [] M0 (fun M' r => In Tru M' ∧ MI M' ∧ FrM M0 M' ∧ ∃ v : Int, r = some (0, v) ∧ rd M' 120 1 = rd M0 120 1 ∧ rd M' 120 113 = rd M0 120 113) := by
  rcases id hm.2 with ⟨en, hB⟩ | ⟨en, hB⟩
  · refine Tr.imp (Tr.deep (by decide) (sp_X12_over_120 hI en a1 (by omega) hm.1 hB)) ?_
    rintro M' _ ⟨hS, v, rfl, hv⟩
    exact ⟨hS.1, MI.st hm hS (by decide +kernel) hv.2.2, St.fm hS (by decide +kernel), v, rfl, St.kp hS (by decide) (by decide +kernel) (by decide +kernel), St.kp hS (by decide) (by decide +kernel) (by decide +kernel)⟩
  · refine Tr.imp (Tr.deep (by decide) (sp_X12_over_120_w1 hI en a1 (by omega) hm.1 hB)) ?_
    rintro M' _ ⟨hS, v, rfl, hv⟩
    exact ⟨hS.1, MI.st hm hS (by decide +kernel) hv.2.2, St.fm hS (by decide +kernel), v, rfl, St.kp hS (by decide) (by decide +kernel) (by decide +kernel), St.kp hS (by decide) (by decide +kernel) (by decide +kernel)⟩

set_option maxRecDepth 100000 in
set_option maxHeartbeats 4000000 in
theorem mu_where {l : Launch} {K : EC} {M0 : Mem} (hI : In Tru M0) (hm : MI M0) (a1 : Int) (ha1 : (-2147483648) ≤ a1 ∧ a1 ≤ 2147483647) : Tr l K 59 mX12_where 0 [(0, (2, 120)), (1, (0, a1))] [] M0 (fun M' r => In Tru M' ∧ MI M' ∧ FrM M0 M' ∧ ∃ v : Int, r = some (0, v) ∧ rd M' 120 1 = rd M0 120 1 ∧ rd M' 120 113 = rd M0 120 113) := by
  rcases id hm.2 with ⟨en, hB⟩ | ⟨en, hB⟩
  · refine Tr.imp (Tr.deep (by decide) (sp_X12_where_120 hI en a1 (by omega))) ?_
    rintro M' _ ⟨hS, v, rfl, hv⟩
    exact ⟨hS.1, MI.st hm hS (by decide +kernel) ((St.kp hS (by decide) (by decide +kernel) (by decide +kernel)).trans hm.1), St.fm hS (by decide +kernel), v, rfl, St.kp hS (by decide) (by decide +kernel) (by decide +kernel), St.kp hS (by decide) (by decide +kernel) (by decide +kernel)⟩
  · refine Tr.imp (Tr.deep (by decide) (sp_X12_where_120_w1 hI en a1 (by omega))) ?_
    rintro M' _ ⟨hS, v, rfl, hv⟩
    exact ⟨hS.1, MI.st hm hS (by decide +kernel) ((St.kp hS (by decide) (by decide +kernel) (by decide +kernel)).trans hm.1), St.fm hS (by decide +kernel), v, rfl, St.kp hS (by decide) (by decide +kernel) (by decide +kernel), St.kp hS (by decide) (by decide +kernel) (by decide +kernel)⟩

set_option maxRecDepth 100000 in
set_option maxHeartbeats 4000000 in
theorem mu_measure {l : Launch} {K : EC} {M0 : Mem} (hI : In Tru M0) (hm : MI M0) (a1 : Int) (ha1 : (-2147483648) ≤ a1 ∧ a1 ≤ 2147483647) : Tr l K 59 mX12_measure 0 [(0, (2, 120)), (1, (0, a1))] [] M0 (fun M' r => In Tru M' ∧ MI M' ∧ FrM M0 M' ∧ ∃ v : Int, r = some (0, v) ∧ rd M' 120 1 = rd M0 120 1 ∧ rd M' 120 113 = rd M0 120 113) := by
  refine Tr.imp (Tr.deep (by decide) (sp_X12_measure_120 hI a1 (by omega))) ?_
  rintro M' _ ⟨hS, v, rfl, hv⟩
  exact ⟨hS.1, MI.st hm hS (by decide +kernel) ((St.kp hS (by decide) (by decide +kernel) (by decide +kernel)).trans hm.1), St.fm hS (by decide +kernel), v, rfl, St.kp hS (by decide) (by decide +kernel) (by decide +kernel), St.kp hS (by decide) (by decide +kernel) (by decide +kernel)⟩

set_option maxRecDepth 100000 in
set_option maxHeartbeats 4000000 in
theorem mu_fit {l : Launch} {K : EC} {M0 : Mem} (hI : In Tru M0) (hm : MI M0) (a1 : Int) (ha1 : (-2147483648) ≤ a1 ∧ a1 ≤ 2147483647) : Tr l K 59 mX12_fit 0 [(0, (2, 120)), (1, (0, a1))] [] M0 (fun M' r => In Tru M' ∧ MI M' ∧ FrM M0 M' ∧ ∃ v : Int, r = some (0, v) ∧ rd M' 120 1 = rd M0 120 1 ∧ rd M' 120 113 = rd M0 120 113) := by
  rcases id hm.2 with ⟨en, hB⟩ | ⟨en, hB⟩
  · refine Tr.imp (Tr.deep (by decide) (sp_X12_fit_120 hI en a1 (by omega) hm.1 hB)) ?_
    rintro M' _ ⟨hS, v, rfl, hv⟩
    exact ⟨hS.1, MI.st hm hS (by decide +kernel) hv.2.2, St.fm hS (by decide +kernel), v, rfl, St.kp hS (by decide) (by decide +kernel) (by decide +kernel), St.kp hS (by decide) (by decide +kernel) (by decide +kernel)⟩
  · refine Tr.imp (Tr.deep (by decide) (sp_X12_fit_120_w1 hI en a1 (by omega) hm.1 hB)) ?_
    rintro M' _ ⟨hS, v, rfl, hv⟩
    exact ⟨hS.1, MI.st hm hS (by decide +kernel) hv.2.2, St.fm hS (by decide +kernel), v, rfl, St.kp hS (by decide) (by decide +kernel) (by decide +kernel), St.kp hS (by decide) (by decide +kernel) (by decide +kernel)⟩

set_option maxRecDepth 100000 in
set_option maxHeartbeats 4000000 in
theorem mu_fitted {l : Launch} {K : EC} {M0 : Mem} (hI : In Tru M0) (hm : MI M0) (a1 : Int) (ha1 : (-2147483648) ≤ a1 ∧ a1 ≤ 2147483647) : Tr l K 59 mX12_fitted 0 [(0, (2, 120)), (1, (0, a1))] [] M0 (fun M' r => In Tru M' ∧ MI M' ∧ FrM M0 M' ∧ ∃ v : Int, r = some (0, v) ∧ rd M' 120 1 = rd M0 120 1 ∧ rd M' 120 113 = rd M0 120 113) := by
  refine Tr.imp (Tr.deep (by decide) (sp_X12_fitted_120 hI a1 (by omega))) ?_
  rintro M' _ ⟨hS, v, rfl, hv⟩
  exact ⟨hS.1, MI.st hm hS (by decide +kernel) ((St.kp hS (by decide) (by decide +kernel) (by decide +kernel)).trans hm.1), St.fm hS (by decide +kernel), v, rfl, St.kp hS (by decide) (by decide +kernel) (by decide +kernel), St.kp hS (by decide) (by decide +kernel) (by decide +kernel)⟩

set_option maxRecDepth 100000 in
set_option maxHeartbeats 4000000 in
theorem mu_ask {l : Launch} {K : EC} {M0 : Mem} (hI : In Tru M0) (hm : MI M0) (a1 : Int) (ha1 : (-2147483648) ≤ a1 ∧ a1 ≤ 2147483647) (a2 : Int) (ha2 : (-2147483648) ≤ a2 ∧ a2 ≤ 2147483647) (a3 : Int) (ha3 : (-2147483648) ≤ a3 ∧ a3 ≤ 2147483647) : Tr l K 59 mX12_ask 0 [(0, (2, 120)), (1, (0, a1)), (2, (0, a2)), (3, (0, a3))] [] M0 (fun M' r => In Tru M' ∧ MI M' ∧ FrM M0 M' ∧ ∃ v : Int, r = some (0, v) ∧ ((v = rd M' 120 113 ∧ rd M' 120 113 = rd M0 120 113 + 1 ∧ 0 ≤ a1 ∧ a1 ≤ 200 ∧ 1 ≤ a2 ∧ a2 ≤ 20 ∧ 0 ≤ a3 ∧ a3 ≤ 5 ∧ rd M0 120 113 ≤ 5) ∨ (v = -1 ∧ rd M' 120 113 = rd M0 120 113 ∧ (a1 < 0 ∨ 200 < a1 ∨ a2 < 1 ∨ 20 < a2 ∨ a3 < 0 ∨ 5 < a3 ∨ 6 ≤ rd M0 120 113))) ∧ rd M' 120 1 = rd M0 120 1) := by
  refine Tr.imp (Tr.deep (by decide) (sp_X12_ask_120 hI a1 (by omega) a2 (by omega) a3 (by omega))) ?_
  rintro M' _ ⟨hS, v, rfl, hv⟩
  exact ⟨hS.1, MI.st hm hS (by decide +kernel) ((St.kp hS (by decide) (by decide +kernel) (by decide +kernel)).trans hm.1), St.fm hS (by decide +kernel), v, rfl, hv.2.2, St.kp hS (by decide) (by decide +kernel) (by decide +kernel)⟩

set_option maxRecDepth 100000 in
set_option maxHeartbeats 4000000 in
theorem mu_forget {l : Launch} {K : EC} {M0 : Mem} (hI : In Tru M0) (hm : MI M0) : Tr l K 59 mX12_forget 0 [(0, (2, 120))] [] M0 (fun M' r => In Tru M' ∧ MI M' ∧ FrM M0 M' ∧ ∃ v : Int, r = some (0, v) ∧ (v = rd M0 120 113 ∧ rd M' 120 113 = 0) ∧ rd M' 120 1 = rd M0 120 1) := by
  refine Tr.imp (Tr.deep (by decide) (sp_X12_forget_120 hI)) ?_
  rintro M' _ ⟨hS, v, rfl, hv⟩
  exact ⟨hS.1, MI.st hm hS (by decide +kernel) ((St.kp hS (by decide) (by decide +kernel) (by decide +kernel)).trans hm.1), St.fm hS (by decide +kernel), v, rfl, hv.2.2, St.kp hS (by decide) (by decide +kernel) (by decide +kernel)⟩

set_option maxRecDepth 100000 in
set_option maxHeartbeats 4000000 in
theorem mu_together {l : Launch} {K : EC} {M0 : Mem} (hI : In Tru M0) (hm : MI M0) (a1 : Int) (ha1 : (-2147483648) ≤ a1 ∧ a1 ≤ 2147483647) : Tr l K 59 mX12_together 0 [(0, (2, 120)), (1, (0, a1))] [] M0 (fun M' r => In Tru M' ∧ MI M' ∧ FrM M0 M' ∧ ∃ v : Int, r = some (0, v) ∧ rd M' 120 1 = rd M0 120 1 ∧ rd M' 120 113 = rd M0 120 113) := by
  rcases id hm.2 with ⟨en, hB⟩ | ⟨en, hB⟩
  · refine Tr.imp (Tr.deep (by decide) (sp_X12_together_120 hI en a1 (by omega) hB)) ?_
    rintro M' _ ⟨hS, v, rfl, hv⟩
    exact ⟨hS.1, MI.st hm hS (by decide +kernel) ((St.kp hS (by decide) (by decide +kernel) (by decide +kernel)).trans hm.1), St.fm hS (by decide +kernel), v, rfl, St.kp hS (by decide) (by decide +kernel) (by decide +kernel), St.kp hS (by decide) (by decide +kernel) (by decide +kernel)⟩
  · refine Tr.imp (Tr.deep (by decide) (sp_X12_together_120_w1 hI en a1 (by omega) hB)) ?_
    rintro M' _ ⟨hS, v, rfl, hv⟩
    exact ⟨hS.1, MI.st hm hS (by decide +kernel) ((St.kp hS (by decide) (by decide +kernel) (by decide +kernel)).trans hm.1), St.fm hS (by decide +kernel), v, rfl, St.kp hS (by decide) (by decide +kernel) (by decide +kernel), St.kp hS (by decide) (by decide +kernel) (by decide +kernel)⟩

set_option maxRecDepth 100000 in
set_option maxHeartbeats 4000000 in
theorem mu_later {l : Launch} {K : EC} {M0 : Mem} (hI : In Tru M0) (hm : MI M0) (a1 : Int) (ha1 : (-2147483648) ≤ a1 ∧ a1 ≤ 2147483647) : Tr l K 59 mX12_later 0 [(0, (2, 120)), (1, (0, a1))] [] M0 (fun M' r => In Tru M' ∧ MI M' ∧ FrM M0 M' ∧ ∃ v : Int, r = some (0, v) ∧ rd M' 120 1 = rd M0 120 1 ∧ rd M' 120 113 = rd M0 120 113) := by
  refine Tr.imp (Tr.deep (by decide) (sp_X12_later_120 hI a1 (by omega))) ?_
  rintro M' _ ⟨hS, v, rfl, hv⟩
  exact ⟨hS.1, MI.st hm hS (by decide +kernel) ((St.kp hS (by decide) (by decide +kernel) (by decide +kernel)).trans hm.1), St.fm hS (by decide +kernel), v, rfl, St.kp hS (by decide) (by decide +kernel) (by decide +kernel), St.kp hS (by decide) (by decide +kernel) (by decide +kernel)⟩

set_option maxRecDepth 100000 in
set_option maxHeartbeats 4000000 in
theorem mu_never {l : Launch} {K : EC} {M0 : Mem} (hI : In Tru M0) (hm : MI M0) : Tr l K 59 mX12_never 0 [(0, (2, 120))] [] M0 (fun M' r => In Tru M' ∧ MI M' ∧ FrM M0 M' ∧ ∃ v : Int, r = some (0, v) ∧ rd M' 120 1 = rd M0 120 1 ∧ rd M' 120 113 = rd M0 120 113) := by
  rcases id hm.2 with ⟨en, hB⟩ | ⟨en, hB⟩
  · refine Tr.imp (Tr.deep (by decide) (sp_X12_never_120 hI en)) ?_
    rintro M' _ ⟨hS, v, rfl, hv⟩
    exact ⟨hS.1, MI.st hm hS (by decide +kernel) ((St.kp hS (by decide) (by decide +kernel) (by decide +kernel)).trans hm.1), St.fm hS (by decide +kernel), v, rfl, St.kp hS (by decide) (by decide +kernel) (by decide +kernel), St.kp hS (by decide) (by decide +kernel) (by decide +kernel)⟩
  · refine Tr.imp (Tr.deep (by decide) (sp_X12_never_120_w1 hI en)) ?_
    rintro M' _ ⟨hS, v, rfl, hv⟩
    exact ⟨hS.1, MI.st hm hS (by decide +kernel) ((St.kp hS (by decide) (by decide +kernel) (by decide +kernel)).trans hm.1), St.fm hS (by decide +kernel), v, rfl, St.kp hS (by decide) (by decide +kernel) (by decide +kernel), St.kp hS (by decide) (by decide +kernel) (by decide +kernel)⟩

set_option maxRecDepth 100000 in
set_option maxHeartbeats 4000000 in
theorem mu_lasts {l : Launch} {K : EC} {M0 : Mem} (hI : In Tru M0) (hm : MI M0) (a1 : Int) (ha1 : (-2147483648) ≤ a1 ∧ a1 ≤ 2147483647) (a2 : Int) (ha2 : (-2147483648) ≤ a2 ∧ a2 ≤ 2147483647) (a3 : Int) (ha3 : (-2147483648) ≤ a3 ∧ a3 ≤ 2147483647) : Tr l K 59 mX12_lasts 0 [(0, (2, 120)), (1, (0, a1)), (2, (0, a2)), (3, (0, a3))] [] M0 (fun M' r => In Tru M' ∧ MI M' ∧ FrM M0 M' ∧ ∃ v : Int, r = some (0, v) ∧ rd M' 120 1 = rd M0 120 1 ∧ rd M' 120 113 = rd M0 120 113) := by
  rcases id hm.2 with ⟨en, hB⟩ | ⟨en, hB⟩
  · refine Tr.imp (Tr.deep (by decide) (sp_X12_lasts_120 hI en a1 (by omega) a2 (by omega) a3 (by omega) hB)) ?_
    rintro M' _ ⟨hS, v, rfl, hv⟩
    exact ⟨hS.1, MI.st hm hS (by decide +kernel) ((St.kp hS (by decide) (by decide +kernel) (by decide +kernel)).trans hm.1), St.fm hS (by decide +kernel), v, rfl, St.kp hS (by decide) (by decide +kernel) (by decide +kernel), St.kp hS (by decide) (by decide +kernel) (by decide +kernel)⟩
  · refine Tr.imp (Tr.deep (by decide) (sp_X12_lasts_120_w1 hI en a1 (by omega) a2 (by omega) a3 (by omega) hB)) ?_
    rintro M' _ ⟨hS, v, rfl, hv⟩
    exact ⟨hS.1, MI.st hm hS (by decide +kernel) ((St.kp hS (by decide) (by decide +kernel) (by decide +kernel)).trans hm.1), St.fm hS (by decide +kernel), v, rfl, St.kp hS (by decide) (by decide +kernel) (by decide +kernel), St.kp hS (by decide) (by decide +kernel) (by decide +kernel)⟩
end
/-! 53.00 -/
section
set_option maxRecDepth 100000 in
set_option maxHeartbeats 4000000 in
theorem lw_feed {l : Launch} {K : EC} {f : Int → Int} {L : Nat} {xq : Int} {M : Mem} {i : Int} {Q : Mem → Option PV → Prop} (hE : e_all K xq) (he : e_ext K 0 L f) (hr : ∀ j, -2147483648 ≤ f j ∧ f j ≤ 2147483647) (i0 : 0 ≤ i) (i1 : i + 6 ≤ L) (iL : (L : Int) ≤ 3072) (hL : LI M) (J : ∀ M' : Mem, LI M' → Tr l K 60 mL_law 996 [(0, (2, -2)), (1, (2, 0)), (2, (2, 120)), (3, (0, i))] [] M' Q) : Tr l K 60 mL_law 160 [(0, (2, -2)), (1, (2, 0)), (2, (2, 120)), (3, (0, i))] [] M Q := by
  obtain ⟨hI, hx, hm, ht, ha⟩ := hL
  refine Tr.aload_n (pc := 160) (i := 1) d_L_law_160 rfl rfl ?_
  refine Tr.aload_n (pc := 161) (i := 0) d_L_law_161 rfl rfl ?_
  refine Tr.iload_n (pc := 162) (i := 3) d_L_law_162 rfl rfl ?_
  refine Tr.iconst (pc := 163) d_L_law_163 (by decide) ?_
  refine Tr.iadd (pc := 164) d_L_law_164 ?_
  refine Tr.tp (i + 1) (w32_id (by omega)) ?_
  refine Tr.xld (pc := 165) (i := 0) d_L_law_165 rfl he (by omega) (by omega) ?_
  refine Tr.aload_n (pc := 166) (i := 0) d_L_law_166 rfl rfl ?_
  refine Tr.iload_n (pc := 167) (i := 3) d_L_law_167 rfl rfl ?_
  refine Tr.iconst (pc := 168) d_L_law_168 (by decide) ?_
  refine Tr.iadd (pc := 169) d_L_law_169 ?_
  refine Tr.tp (i + 2) (w32_id (by omega)) ?_
  refine Tr.xld (pc := 170) (i := 0) d_L_law_170 rfl he (by omega) (by omega) ?_
  refine Tr.aload_n (pc := 171) (i := 0) d_L_law_171 rfl rfl ?_
  refine Tr.iload_n (pc := 172) (i := 3) d_L_law_172 rfl rfl ?_
  refine Tr.iconst (pc := 173) d_L_law_173 (by decide) ?_
  refine Tr.iadd (pc := 174) d_L_law_174 ?_
  refine Tr.tp (i + 3) (w32_id (by omega)) ?_
  refine Tr.xld (pc := 175) (i := 0) d_L_law_175 rfl he (by omega) (by omega) ?_
  refine Tr.aload_n (pc := 176) (i := 0) d_L_law_176 rfl rfl ?_
  refine Tr.iload_n (pc := 177) (i := 3) d_L_law_177 rfl rfl ?_
  refine Tr.iconst (pc := 178) d_L_law_178 (by decide) ?_
  refine Tr.iadd (pc := 179) d_L_law_179 ?_
  refine Tr.tp (i + 4) (w32_id (by omega)) ?_
  refine Tr.xld (pc := 180) (i := 0) d_L_law_180 rfl he (by omega) (by omega) ?_
  refine Tr.aload_n (pc := 181) (i := 0) d_L_law_181 rfl rfl ?_
  refine Tr.iload_n (pc := 182) (i := 3) d_L_law_182 rfl rfl ?_
  refine Tr.iconst (pc := 183) d_L_law_183 (by decide) ?_
  refine Tr.iadd (pc := 184) d_L_law_184 ?_
  refine Tr.tp (i + 5) (w32_id (by omega)) ?_
  refine Tr.xld (pc := 185) (i := 0) d_L_law_185 rfl he (by omega) (by omega) ?_
  refine Tr.callV (pc := 186) (as := [_, _, _, _, _]) d_L_law_186 s_13_13 ok_X11_feed rfl rfl (Nat.le_of_ble_eq_true rfl) (Nat.le_of_ble_eq_true rfl) (by decide) (ty_0 hI.1) ?_
  refine Tr.imp (xu_feed hE hI hx (f (i + 1)) (hr _) (f (i + 2)) (hr _) (f (i + 3)) (hr _) (f (i + 4)) (hr _) (f (i + 5)) (hr _)) ?_
  rintro M1 _ ⟨hI1, hx1, f1, v1, rfl, z1⟩
  have hm1 := hm.fr f1
  have k1 := f1 120 1 (by decide) (by decide)
  have k2 := f1 120 113 (by decide) (by decide)
  refine Tr.sc [(0, v1)] rfl ?_
  refine Tr.pop (pc := 189) d_L_law_189 ne01 ?_
  refine Tr.aload_n (pc := 190) (i := 2) d_L_law_190 rfl rfl ?_
  refine Tr.aload_n (pc := 191) (i := 0) d_L_law_191 rfl rfl ?_
  refine Tr.iload_n (pc := 192) (i := 3) d_L_law_192 rfl rfl ?_
  refine Tr.iconst (pc := 193) d_L_law_193 (by decide) ?_
  refine Tr.iadd (pc := 194) d_L_law_194 ?_
  refine Tr.tp (i + 1) (w32_id (by omega)) ?_
  refine Tr.xld (pc := 195) (i := 0) d_L_law_195 rfl he (by omega) (by omega) ?_
  refine Tr.aload_n (pc := 196) (i := 0) d_L_law_196 rfl rfl ?_
  refine Tr.iload_n (pc := 197) (i := 3) d_L_law_197 rfl rfl ?_
  refine Tr.iconst (pc := 198) d_L_law_198 (by decide) ?_
  refine Tr.iadd (pc := 199) d_L_law_199 ?_
  refine Tr.tp (i + 2) (w32_id (by omega)) ?_
  refine Tr.xld (pc := 200) (i := 0) d_L_law_200 rfl he (by omega) (by omega) ?_
  refine Tr.aload_n (pc := 201) (i := 0) d_L_law_201 rfl rfl ?_
  refine Tr.iload_n (pc := 202) (i := 3) d_L_law_202 rfl rfl ?_
  refine Tr.iconst (pc := 203) d_L_law_203 (by decide) ?_
  refine Tr.iadd (pc := 204) d_L_law_204 ?_
  refine Tr.tp (i + 3) (w32_id (by omega)) ?_
  refine Tr.xld (pc := 205) (i := 0) d_L_law_205 rfl he (by omega) (by omega) ?_
  refine Tr.aload_n (pc := 206) (i := 0) d_L_law_206 rfl rfl ?_
  refine Tr.iload_n (pc := 207) (i := 3) d_L_law_207 rfl rfl ?_
  refine Tr.iconst (pc := 208) d_L_law_208 (by decide) ?_
  refine Tr.iadd (pc := 209) d_L_law_209 ?_
  refine Tr.tp (i + 4) (w32_id (by omega)) ?_
  refine Tr.xld (pc := 210) (i := 0) d_L_law_210 rfl he (by omega) (by omega) ?_
  refine Tr.aload_n (pc := 211) (i := 0) d_L_law_211 rfl rfl ?_
  refine Tr.iload_n (pc := 212) (i := 3) d_L_law_212 rfl rfl ?_
  refine Tr.iconst (pc := 213) d_L_law_213 (by decide) ?_
  refine Tr.iadd (pc := 214) d_L_law_214 ?_
  refine Tr.tp (i + 5) (w32_id (by omega)) ?_
  refine Tr.xld (pc := 215) (i := 0) d_L_law_215 rfl he (by omega) (by omega) ?_
  refine Tr.callV (pc := 216) (as := [_, _, _, _, _]) d_L_law_216 s_13_17 ok_X12_feed rfl rfl (Nat.le_of_ble_eq_true rfl) (Nat.le_of_ble_eq_true rfl) (by decide) (ty_120 hI1.1) ?_
  refine Tr.imp (mu_feed hI1 hm1 (f (i + 1)) (hr _) (f (i + 2)) (hr _) (f (i + 3)) (hr _) (f (i + 4)) (hr _) (f (i + 5)) (hr _)) ?_
  rintro M2 _ ⟨hI2, hm2, f2, v2, rfl, z2⟩
  have hx2 := hx1.fr hI1 f2
  have k3 := f2 0 1 (Or.inl (by decide))
  have k4 := f2 113 0 (Or.inl (by decide))
  refine Tr.sc [(0, v2)] rfl ?_
  refine Tr.pop (pc := 219) d_L_law_219 ne01 ?_
  refine Tr.goto (pc := 220) (tgt := 996) d_L_law_220 rfl ?_
  exact J _ ⟨hI2, hx2, hm2, by omega, by omega⟩

set_option maxRecDepth 100000 in
set_option maxHeartbeats 4000000 in
theorem lw_end {l : Launch} {K : EC} {f : Int → Int} {L : Nat} {xq : Int} {M : Mem} {i : Int} {Q : Mem → Option PV → Prop} (hE : e_all K xq) (he : e_ext K 0 L f) (hr : ∀ j, -2147483648 ≤ f j ∧ f j ≤ 2147483647) (i0 : 0 ≤ i) (i1 : i + 6 ≤ L) (iL : (L : Int) ≤ 3072) (hL : LI M) (J : ∀ M' : Mem, LI M' → Tr l K 60 mL_law 996 [(0, (2, -2)), (1, (2, 0)), (2, (2, 120)), (3, (0, i))] [] M' Q) : Tr l K 60 mL_law 223 [(0, (2, -2)), (1, (2, 0)), (2, (2, 120)), (3, (0, i))] [] M Q := by
  obtain ⟨hI, hx, hm, ht, ha⟩ := hL
  refine Tr.aload_n (pc := 223) (i := 1) d_L_law_223 rfl rfl ?_
  refine Tr.aload_n (pc := 224) (i := 0) d_L_law_224 rfl rfl ?_
  refine Tr.iload_n (pc := 225) (i := 3) d_L_law_225 rfl rfl ?_
  refine Tr.iconst (pc := 226) d_L_law_226 (by decide) ?_
  refine Tr.iadd (pc := 227) d_L_law_227 ?_
  refine Tr.tp (i + 1) (w32_id (by omega)) ?_
  refine Tr.xld (pc := 228) (i := 0) d_L_law_228 rfl he (by omega) (by omega) ?_
  refine Tr.callV (pc := 229) (as := [_]) d_L_law_229 s_13_18 ok_X11_end rfl rfl (Nat.le_of_ble_eq_true rfl) (Nat.le_of_ble_eq_true rfl) (by decide) (ty_0 hI.1) ?_
  refine Tr.imp (xu_end hE hI hx (f (i + 1)) (hr _)) ?_
  rintro M1 _ ⟨hI1, hx1, f1, v1, rfl, z1⟩
  have hm1 := hm.fr f1
  have k1 := f1 120 1 (by decide) (by decide)
  have k2 := f1 120 113 (by decide) (by decide)
  refine Tr.sc [(0, v1)] rfl ?_
  refine Tr.pop (pc := 232) d_L_law_232 ne01 ?_
  refine Tr.aload_n (pc := 233) (i := 2) d_L_law_233 rfl rfl ?_
  refine Tr.aload_n (pc := 234) (i := 0) d_L_law_234 rfl rfl ?_
  refine Tr.iload_n (pc := 235) (i := 3) d_L_law_235 rfl rfl ?_
  refine Tr.iconst (pc := 236) d_L_law_236 (by decide) ?_
  refine Tr.iadd (pc := 237) d_L_law_237 ?_
  refine Tr.tp (i + 1) (w32_id (by omega)) ?_
  refine Tr.xld (pc := 238) (i := 0) d_L_law_238 rfl he (by omega) (by omega) ?_
  refine Tr.callV (pc := 239) (as := [_]) d_L_law_239 s_13_22 ok_X12_end rfl rfl (Nat.le_of_ble_eq_true rfl) (Nat.le_of_ble_eq_true rfl) (by decide) (ty_120 hI1.1) ?_
  refine Tr.imp (mu_end hI1 hm1 (f (i + 1)) (hr _)) ?_
  rintro M2 _ ⟨hI2, hm2, f2, v2, rfl, z2⟩
  have hx2 := hx1.fr hI1 f2
  have k3 := f2 0 1 (Or.inl (by decide))
  have k4 := f2 113 0 (Or.inl (by decide))
  refine Tr.sc [(0, v2)] rfl ?_
  refine Tr.pop (pc := 242) d_L_law_242 ne01 ?_
  refine Tr.goto (pc := 243) (tgt := 996) d_L_law_243 rfl ?_
  exact J _ ⟨hI2, hx2, hm2, by omega, by omega⟩

set_option maxRecDepth 100000 in
set_option maxHeartbeats 4000000 in
theorem lw_text {l : Launch} {K : EC} {f : Int → Int} {L : Nat} {xq : Int} {M : Mem} {i : Int} {Q : Mem → Option PV → Prop} (hE : e_all K xq) (he : e_ext K 0 L f) (hr : ∀ j, -2147483648 ≤ f j ∧ f j ≤ 2147483647) (i0 : 0 ≤ i) (i1 : i + 6 ≤ L) (iL : (L : Int) ≤ 3072) (hL : LI M) (J : ∀ M' : Mem, LI M' → Tr l K 60 mL_law 996 [(0, (2, -2)), (1, (2, 0)), (2, (2, 120)), (3, (0, i))] [] M' Q) : Tr l K 60 mL_law 246 [(0, (2, -2)), (1, (2, 0)), (2, (2, 120)), (3, (0, i))] [] M Q := by
  obtain ⟨hI, hx, hm, ht, ha⟩ := hL
  refine Tr.aload_n (pc := 246) (i := 1) d_L_law_246 rfl rfl ?_
  refine Tr.callV (pc := 247) (as := []) d_L_law_247 s_13_23 ok_X11_text rfl rfl (Nat.le_of_ble_eq_true rfl) (Nat.le_of_ble_eq_true rfl) (by decide) (ty_0 hI.1) ?_
  refine Tr.imp (xu_text hE hI hx ) ?_
  rintro M1 _ ⟨hI1, hx1, f1, v1, rfl, z1⟩
  have hm1 := hm.fr f1
  have k1 := f1 120 1 (by decide) (by decide)
  have k2 := f1 120 113 (by decide) (by decide)
  refine Tr.sc [(0, v1)] rfl ?_
  refine Tr.pop (pc := 250) d_L_law_250 ne01 ?_
  refine Tr.aload_n (pc := 251) (i := 2) d_L_law_251 rfl rfl ?_
  refine Tr.callV (pc := 252) (as := []) d_L_law_252 s_13_27 ok_X12_text rfl rfl (Nat.le_of_ble_eq_true rfl) (Nat.le_of_ble_eq_true rfl) (by decide) (ty_120 hI1.1) ?_
  refine Tr.imp (mu_text hI1 hm1 ) ?_
  rintro M2 _ ⟨hI2, hm2, f2, v2, rfl, z2⟩
  have hx2 := hx1.fr hI1 f2
  have k3 := f2 0 1 (Or.inl (by decide))
  have k4 := f2 113 0 (Or.inl (by decide))
  refine Tr.sc [(0, v2)] rfl ?_
  refine Tr.pop (pc := 255) d_L_law_255 ne01 ?_
  refine Tr.goto (pc := 256) (tgt := 996) d_L_law_256 rfl ?_
  exact J _ ⟨hI2, hx2, hm2, by omega, by omega⟩

set_option maxRecDepth 100000 in
set_option maxHeartbeats 4000000 in
theorem lw_fault {l : Launch} {K : EC} {f : Int → Int} {L : Nat} {xq : Int} {M : Mem} {i : Int} {Q : Mem → Option PV → Prop} (hE : e_all K xq) (he : e_ext K 0 L f) (hr : ∀ j, -2147483648 ≤ f j ∧ f j ≤ 2147483647) (i0 : 0 ≤ i) (i1 : i + 6 ≤ L) (iL : (L : Int) ≤ 3072) (hL : LI M) (J : ∀ M' : Mem, LI M' → Tr l K 60 mL_law 996 [(0, (2, -2)), (1, (2, 0)), (2, (2, 120)), (3, (0, i))] [] M' Q) : Tr l K 60 mL_law 259 [(0, (2, -2)), (1, (2, 0)), (2, (2, 120)), (3, (0, i))] [] M Q := by
  obtain ⟨hI, hx, hm, ht, ha⟩ := hL
  refine Tr.aload_n (pc := 259) (i := 1) d_L_law_259 rfl rfl ?_
  refine Tr.aload_n (pc := 260) (i := 0) d_L_law_260 rfl rfl ?_
  refine Tr.iload_n (pc := 261) (i := 3) d_L_law_261 rfl rfl ?_
  refine Tr.iconst (pc := 262) d_L_law_262 (by decide) ?_
  refine Tr.iadd (pc := 263) d_L_law_263 ?_
  refine Tr.tp (i + 1) (w32_id (by omega)) ?_
  refine Tr.xld (pc := 264) (i := 0) d_L_law_264 rfl he (by omega) (by omega) ?_
  refine Tr.callV (pc := 265) (as := [_]) d_L_law_265 s_13_28 ok_X11_fault rfl rfl (Nat.le_of_ble_eq_true rfl) (Nat.le_of_ble_eq_true rfl) (by decide) (ty_0 hI.1) ?_
  refine Tr.imp (xu_fault hE hI hx (f (i + 1)) (hr _)) ?_
  rintro M1 _ ⟨hI1, hx1, f1, v1, rfl, z1⟩
  have hm1 := hm.fr f1
  have k1 := f1 120 1 (by decide) (by decide)
  have k2 := f1 120 113 (by decide) (by decide)
  refine Tr.sc [(0, v1)] rfl ?_
  refine Tr.pop (pc := 268) d_L_law_268 ne01 ?_
  refine Tr.aload_n (pc := 269) (i := 2) d_L_law_269 rfl rfl ?_
  refine Tr.aload_n (pc := 270) (i := 0) d_L_law_270 rfl rfl ?_
  refine Tr.iload_n (pc := 271) (i := 3) d_L_law_271 rfl rfl ?_
  refine Tr.iconst (pc := 272) d_L_law_272 (by decide) ?_
  refine Tr.iadd (pc := 273) d_L_law_273 ?_
  refine Tr.tp (i + 1) (w32_id (by omega)) ?_
  refine Tr.xld (pc := 274) (i := 0) d_L_law_274 rfl he (by omega) (by omega) ?_
  refine Tr.callV (pc := 275) (as := [_]) d_L_law_275 s_13_32 ok_X12_fault rfl rfl (Nat.le_of_ble_eq_true rfl) (Nat.le_of_ble_eq_true rfl) (by decide) (ty_120 hI1.1) ?_
  refine Tr.imp (mu_fault hI1 hm1 (f (i + 1)) (hr _)) ?_
  rintro M2 _ ⟨hI2, hm2, f2, v2, rfl, z2⟩
  have hx2 := hx1.fr hI1 f2
  have k3 := f2 0 1 (Or.inl (by decide))
  have k4 := f2 113 0 (Or.inl (by decide))
  refine Tr.sc [(0, v2)] rfl ?_
  refine Tr.pop (pc := 278) d_L_law_278 ne01 ?_
  refine Tr.goto (pc := 279) (tgt := 996) d_L_law_279 rfl ?_
  exact J _ ⟨hI2, hx2, hm2, by omega, by omega⟩

set_option maxRecDepth 100000 in
set_option maxHeartbeats 4000000 in
theorem lw_has {l : Launch} {K : EC} {f : Int → Int} {L : Nat} {xq : Int} {M : Mem} {i : Int} {Q : Mem → Option PV → Prop} (hE : e_all K xq) (he : e_ext K 0 L f) (hr : ∀ j, -2147483648 ≤ f j ∧ f j ≤ 2147483647) (i0 : 0 ≤ i) (i1 : i + 6 ≤ L) (iL : (L : Int) ≤ 3072) (hL : LI M) (J : ∀ M' : Mem, LI M' → Tr l K 60 mL_law 996 [(0, (2, -2)), (1, (2, 0)), (2, (2, 120)), (3, (0, i))] [] M' Q) : Tr l K 60 mL_law 282 [(0, (2, -2)), (1, (2, 0)), (2, (2, 120)), (3, (0, i))] [] M Q := by
  obtain ⟨hI, hx, hm, ht, ha⟩ := hL
  refine Tr.aload_n (pc := 282) (i := 1) d_L_law_282 rfl rfl ?_
  refine Tr.aload_n (pc := 283) (i := 0) d_L_law_283 rfl rfl ?_
  refine Tr.iload_n (pc := 284) (i := 3) d_L_law_284 rfl rfl ?_
  refine Tr.iconst (pc := 285) d_L_law_285 (by decide) ?_
  refine Tr.iadd (pc := 286) d_L_law_286 ?_
  refine Tr.tp (i + 1) (w32_id (by omega)) ?_
  refine Tr.xld (pc := 287) (i := 0) d_L_law_287 rfl he (by omega) (by omega) ?_
  refine Tr.callV (pc := 288) (as := [_]) d_L_law_288 s_13_33 ok_X11_has rfl rfl (Nat.le_of_ble_eq_true rfl) (Nat.le_of_ble_eq_true rfl) (by decide) (ty_0 hI.1) ?_
  refine Tr.imp (xu_has hE hI hx (f (i + 1)) (hr _)) ?_
  rintro M1 _ ⟨hI1, hx1, f1, v1, rfl, z1⟩
  have hm1 := hm.fr f1
  have k1 := f1 120 1 (by decide) (by decide)
  have k2 := f1 120 113 (by decide) (by decide)
  refine Tr.sc [(0, v1)] rfl ?_
  refine Tr.pop (pc := 291) d_L_law_291 ne01 ?_
  refine Tr.aload_n (pc := 292) (i := 2) d_L_law_292 rfl rfl ?_
  refine Tr.aload_n (pc := 293) (i := 0) d_L_law_293 rfl rfl ?_
  refine Tr.iload_n (pc := 294) (i := 3) d_L_law_294 rfl rfl ?_
  refine Tr.iconst (pc := 295) d_L_law_295 (by decide) ?_
  refine Tr.iadd (pc := 296) d_L_law_296 ?_
  refine Tr.tp (i + 1) (w32_id (by omega)) ?_
  refine Tr.xld (pc := 297) (i := 0) d_L_law_297 rfl he (by omega) (by omega) ?_
  refine Tr.callV (pc := 298) (as := [_]) d_L_law_298 s_13_36 ok_X12_has rfl rfl (Nat.le_of_ble_eq_true rfl) (Nat.le_of_ble_eq_true rfl) (by decide) (ty_120 hI1.1) ?_
  refine Tr.imp (mu_has hI1 hm1 (f (i + 1)) (hr _)) ?_
  rintro M2 _ ⟨hI2, hm2, f2, v2, rfl, z2⟩
  have hx2 := hx1.fr hI1 f2
  have k3 := f2 0 1 (Or.inl (by decide))
  have k4 := f2 113 0 (Or.inl (by decide))
  refine Tr.sc [(0, v2)] rfl ?_
  refine Tr.pop (pc := 301) d_L_law_301 ne01 ?_
  refine Tr.goto (pc := 302) (tgt := 996) d_L_law_302 rfl ?_
  exact J _ ⟨hI2, hx2, hm2, by omega, by omega⟩

set_option maxRecDepth 100000 in
set_option maxHeartbeats 4000000 in
theorem lw_letter {l : Launch} {K : EC} {f : Int → Int} {L : Nat} {xq : Int} {M : Mem} {i : Int} {Q : Mem → Option PV → Prop} (hE : e_all K xq) (he : e_ext K 0 L f) (hr : ∀ j, -2147483648 ≤ f j ∧ f j ≤ 2147483647) (i0 : 0 ≤ i) (i1 : i + 6 ≤ L) (iL : (L : Int) ≤ 3072) (hL : LI M) (J : ∀ M' : Mem, LI M' → Tr l K 60 mL_law 996 [(0, (2, -2)), (1, (2, 0)), (2, (2, 120)), (3, (0, i))] [] M' Q) : Tr l K 60 mL_law 305 [(0, (2, -2)), (1, (2, 0)), (2, (2, 120)), (3, (0, i))] [] M Q := by
  obtain ⟨hI, hx, hm, ht, ha⟩ := hL
  refine Tr.aload_n (pc := 305) (i := 1) d_L_law_305 rfl rfl ?_
  refine Tr.aload_n (pc := 306) (i := 0) d_L_law_306 rfl rfl ?_
  refine Tr.iload_n (pc := 307) (i := 3) d_L_law_307 rfl rfl ?_
  refine Tr.iconst (pc := 308) d_L_law_308 (by decide) ?_
  refine Tr.iadd (pc := 309) d_L_law_309 ?_
  refine Tr.tp (i + 1) (w32_id (by omega)) ?_
  refine Tr.xld (pc := 310) (i := 0) d_L_law_310 rfl he (by omega) (by omega) ?_
  refine Tr.aload_n (pc := 311) (i := 0) d_L_law_311 rfl rfl ?_
  refine Tr.iload_n (pc := 312) (i := 3) d_L_law_312 rfl rfl ?_
  refine Tr.iconst (pc := 313) d_L_law_313 (by decide) ?_
  refine Tr.iadd (pc := 314) d_L_law_314 ?_
  refine Tr.tp (i + 2) (w32_id (by omega)) ?_
  refine Tr.xld (pc := 315) (i := 0) d_L_law_315 rfl he (by omega) (by omega) ?_
  refine Tr.aload_n (pc := 316) (i := 0) d_L_law_316 rfl rfl ?_
  refine Tr.iload_n (pc := 317) (i := 3) d_L_law_317 rfl rfl ?_
  refine Tr.iconst (pc := 318) d_L_law_318 (by decide) ?_
  refine Tr.iadd (pc := 319) d_L_law_319 ?_
  refine Tr.tp (i + 3) (w32_id (by omega)) ?_
  refine Tr.xld (pc := 320) (i := 0) d_L_law_320 rfl he (by omega) (by omega) ?_
  refine Tr.callV (pc := 321) (as := [_, _, _]) d_L_law_321 s_13_37 ok_X11_letter rfl rfl (Nat.le_of_ble_eq_true rfl) (Nat.le_of_ble_eq_true rfl) (by decide) (ty_0 hI.1) ?_
  refine Tr.imp (xu_letter hE hI hx (f (i + 1)) (hr _) (f (i + 2)) (hr _) (f (i + 3)) (hr _)) ?_
  rintro M1 _ ⟨hI1, hx1, f1, v1, rfl, z1⟩
  have hm1 := hm.fr f1
  have k1 := f1 120 1 (by decide) (by decide)
  have k2 := f1 120 113 (by decide) (by decide)
  refine Tr.sc [(0, v1)] rfl ?_
  refine Tr.pop (pc := 324) d_L_law_324 ne01 ?_
  refine Tr.aload_n (pc := 325) (i := 2) d_L_law_325 rfl rfl ?_
  refine Tr.aload_n (pc := 326) (i := 0) d_L_law_326 rfl rfl ?_
  refine Tr.iload_n (pc := 327) (i := 3) d_L_law_327 rfl rfl ?_
  refine Tr.iconst (pc := 328) d_L_law_328 (by decide) ?_
  refine Tr.iadd (pc := 329) d_L_law_329 ?_
  refine Tr.tp (i + 1) (w32_id (by omega)) ?_
  refine Tr.xld (pc := 330) (i := 0) d_L_law_330 rfl he (by omega) (by omega) ?_
  refine Tr.aload_n (pc := 331) (i := 0) d_L_law_331 rfl rfl ?_
  refine Tr.iload_n (pc := 332) (i := 3) d_L_law_332 rfl rfl ?_
  refine Tr.iconst (pc := 333) d_L_law_333 (by decide) ?_
  refine Tr.iadd (pc := 334) d_L_law_334 ?_
  refine Tr.tp (i + 2) (w32_id (by omega)) ?_
  refine Tr.xld (pc := 335) (i := 0) d_L_law_335 rfl he (by omega) (by omega) ?_
  refine Tr.aload_n (pc := 336) (i := 0) d_L_law_336 rfl rfl ?_
  refine Tr.iload_n (pc := 337) (i := 3) d_L_law_337 rfl rfl ?_
  refine Tr.iconst (pc := 338) d_L_law_338 (by decide) ?_
  refine Tr.iadd (pc := 339) d_L_law_339 ?_
  refine Tr.tp (i + 3) (w32_id (by omega)) ?_
  refine Tr.xld (pc := 340) (i := 0) d_L_law_340 rfl he (by omega) (by omega) ?_
  refine Tr.callV (pc := 341) (as := [_, _, _]) d_L_law_341 s_13_41 ok_X12_letter rfl rfl (Nat.le_of_ble_eq_true rfl) (Nat.le_of_ble_eq_true rfl) (by decide) (ty_120 hI1.1) ?_
  refine Tr.imp (mu_letter hI1 hm1 (f (i + 1)) (hr _) (f (i + 2)) (hr _) (f (i + 3)) (hr _)) ?_
  rintro M2 _ ⟨hI2, hm2, f2, v2, rfl, z2⟩
  have hx2 := hx1.fr hI1 f2
  have k3 := f2 0 1 (Or.inl (by decide))
  have k4 := f2 113 0 (Or.inl (by decide))
  refine Tr.sc [(0, v2)] rfl ?_
  refine Tr.pop (pc := 344) d_L_law_344 ne01 ?_
  refine Tr.goto (pc := 345) (tgt := 996) d_L_law_345 rfl ?_
  exact J _ ⟨hI2, hx2, hm2, by omega, by omega⟩

set_option maxRecDepth 100000 in
set_option maxHeartbeats 4000000 in
theorem lw_put {l : Launch} {K : EC} {f : Int → Int} {L : Nat} {xq : Int} {M : Mem} {i : Int} {Q : Mem → Option PV → Prop} (hE : e_all K xq) (he : e_ext K 0 L f) (hr : ∀ j, -2147483648 ≤ f j ∧ f j ≤ 2147483647) (i0 : 0 ≤ i) (i1 : i + 6 ≤ L) (iL : (L : Int) ≤ 3072) (hL : LI M) (J : ∀ M' : Mem, LI M' → Tr l K 60 mL_law 996 [(0, (2, -2)), (1, (2, 0)), (2, (2, 120)), (3, (0, i))] [] M' Q) : Tr l K 60 mL_law 348 [(0, (2, -2)), (1, (2, 0)), (2, (2, 120)), (3, (0, i))] [] M Q := by
  obtain ⟨hI, hx, hm, ht, ha⟩ := hL
  refine Tr.aload_n (pc := 348) (i := 1) d_L_law_348 rfl rfl ?_
  refine Tr.aload_n (pc := 349) (i := 0) d_L_law_349 rfl rfl ?_
  refine Tr.iload_n (pc := 350) (i := 3) d_L_law_350 rfl rfl ?_
  refine Tr.iconst (pc := 351) d_L_law_351 (by decide) ?_
  refine Tr.iadd (pc := 352) d_L_law_352 ?_
  refine Tr.tp (i + 1) (w32_id (by omega)) ?_
  refine Tr.xld (pc := 353) (i := 0) d_L_law_353 rfl he (by omega) (by omega) ?_
  refine Tr.aload_n (pc := 354) (i := 0) d_L_law_354 rfl rfl ?_
  refine Tr.iload_n (pc := 355) (i := 3) d_L_law_355 rfl rfl ?_
  refine Tr.iconst (pc := 356) d_L_law_356 (by decide) ?_
  refine Tr.iadd (pc := 357) d_L_law_357 ?_
  refine Tr.tp (i + 2) (w32_id (by omega)) ?_
  refine Tr.xld (pc := 358) (i := 0) d_L_law_358 rfl he (by omega) (by omega) ?_
  refine Tr.callV (pc := 359) (as := [_, _]) d_L_law_359 s_13_42 ok_X11_put rfl rfl (Nat.le_of_ble_eq_true rfl) (Nat.le_of_ble_eq_true rfl) (by decide) (ty_0 hI.1) ?_
  refine Tr.imp (xu_put hE hI hx (f (i + 1)) (hr _) (f (i + 2)) (hr _)) ?_
  rintro M1 _ ⟨hI1, hx1, f1, v1, rfl, z1⟩
  have hm1 := hm.fr f1
  have k1 := f1 120 1 (by decide) (by decide)
  have k2 := f1 120 113 (by decide) (by decide)
  refine Tr.sc [(0, v1)] rfl ?_
  refine Tr.pop (pc := 362) d_L_law_362 ne01 ?_
  refine Tr.aload_n (pc := 363) (i := 2) d_L_law_363 rfl rfl ?_
  refine Tr.aload_n (pc := 364) (i := 0) d_L_law_364 rfl rfl ?_
  refine Tr.iload_n (pc := 365) (i := 3) d_L_law_365 rfl rfl ?_
  refine Tr.iconst (pc := 366) d_L_law_366 (by decide) ?_
  refine Tr.iadd (pc := 367) d_L_law_367 ?_
  refine Tr.tp (i + 1) (w32_id (by omega)) ?_
  refine Tr.xld (pc := 368) (i := 0) d_L_law_368 rfl he (by omega) (by omega) ?_
  refine Tr.aload_n (pc := 369) (i := 0) d_L_law_369 rfl rfl ?_
  refine Tr.iload_n (pc := 370) (i := 3) d_L_law_370 rfl rfl ?_
  refine Tr.iconst (pc := 371) d_L_law_371 (by decide) ?_
  refine Tr.iadd (pc := 372) d_L_law_372 ?_
  refine Tr.tp (i + 2) (w32_id (by omega)) ?_
  refine Tr.xld (pc := 373) (i := 0) d_L_law_373 rfl he (by omega) (by omega) ?_
  refine Tr.callV (pc := 374) (as := [_, _]) d_L_law_374 s_13_46 ok_X12_put_ rfl rfl (Nat.le_of_ble_eq_true rfl) (Nat.le_of_ble_eq_true rfl) (by decide) (ty_120 hI1.1) ?_
  refine Tr.imp (mu_put hI1 hm1 (f (i + 1)) (hr _) (f (i + 2)) (hr _)) ?_
  rintro M2 _ ⟨hI2, hm2, f2, v2, rfl, z2⟩
  have hx2 := hx1.fr hI1 f2
  have k3 := f2 0 1 (Or.inl (by decide))
  have k4 := f2 113 0 (Or.inl (by decide))
  refine Tr.sc [(0, v2)] rfl ?_
  refine Tr.pop (pc := 377) d_L_law_377 ne01 ?_
  refine Tr.goto (pc := 378) (tgt := 996) d_L_law_378 rfl ?_
  exact J _ ⟨hI2, hx2, hm2, by omega, by omega⟩

set_option maxRecDepth 100000 in
set_option maxHeartbeats 4000000 in
theorem lw_run {l : Launch} {K : EC} {f : Int → Int} {L : Nat} {xq : Int} {M : Mem} {i : Int} {Q : Mem → Option PV → Prop} (hE : e_all K xq) (he : e_ext K 0 L f) (hr : ∀ j, -2147483648 ≤ f j ∧ f j ≤ 2147483647) (i0 : 0 ≤ i) (i1 : i + 6 ≤ L) (iL : (L : Int) ≤ 3072) (hL : LI M) (J : ∀ M' : Mem, LI M' → Tr l K 60 mL_law 996 [(0, (2, -2)), (1, (2, 0)), (2, (2, 120)), (3, (0, i))] [] M' Q) : Tr l K 60 mL_law 381 [(0, (2, -2)), (1, (2, 0)), (2, (2, 120)), (3, (0, i))] [] M Q := by
  obtain ⟨hI, hx, hm, ht, ha⟩ := hL
  refine Tr.aload_n (pc := 381) (i := 1) d_L_law_381 rfl rfl ?_
  refine Tr.aload_n (pc := 382) (i := 0) d_L_law_382 rfl rfl ?_
  refine Tr.iload_n (pc := 383) (i := 3) d_L_law_383 rfl rfl ?_
  refine Tr.iconst (pc := 384) d_L_law_384 (by decide) ?_
  refine Tr.iadd (pc := 385) d_L_law_385 ?_
  refine Tr.tp (i + 1) (w32_id (by omega)) ?_
  refine Tr.xld (pc := 386) (i := 0) d_L_law_386 rfl he (by omega) (by omega) ?_
  refine Tr.callV (pc := 387) (as := [_]) d_L_law_387 s_13_47 ok_X11_run rfl rfl (Nat.le_of_ble_eq_true rfl) (Nat.le_of_ble_eq_true rfl) (by decide) (ty_0 hI.1) ?_
  refine Tr.imp (xu_run hE hI hx (f (i + 1)) (hr _)) ?_
  rintro M1 _ ⟨hI1, hx1, f1, v1, rfl, z1⟩
  have hm1 := hm.fr f1
  have k1 := f1 120 1 (by decide) (by decide)
  have k2 := f1 120 113 (by decide) (by decide)
  refine Tr.sc [(0, v1)] rfl ?_
  refine Tr.pop (pc := 390) d_L_law_390 ne01 ?_
  refine Tr.aload_n (pc := 391) (i := 2) d_L_law_391 rfl rfl ?_
  refine Tr.aload_n (pc := 392) (i := 0) d_L_law_392 rfl rfl ?_
  refine Tr.iload_n (pc := 393) (i := 3) d_L_law_393 rfl rfl ?_
  refine Tr.iconst (pc := 394) d_L_law_394 (by decide) ?_
  refine Tr.iadd (pc := 395) d_L_law_395 ?_
  refine Tr.tp (i + 1) (w32_id (by omega)) ?_
  refine Tr.xld (pc := 396) (i := 0) d_L_law_396 rfl he (by omega) (by omega) ?_
  refine Tr.callV (pc := 397) (as := [_]) d_L_law_397 s_13_50 ok_X12_run rfl rfl (Nat.le_of_ble_eq_true rfl) (Nat.le_of_ble_eq_true rfl) (by decide) (ty_120 hI1.1) ?_
  refine Tr.imp (mu_run hI1 hm1 (f (i + 1)) (hr _)) ?_
  rintro M2 _ ⟨hI2, hm2, f2, v2, rfl, z2⟩
  have hx2 := hx1.fr hI1 f2
  have k3 := f2 0 1 (Or.inl (by decide))
  have k4 := f2 113 0 (Or.inl (by decide))
  refine Tr.sc [(0, v2)] rfl ?_
  refine Tr.pop (pc := 400) d_L_law_400 ne01 ?_
  refine Tr.goto (pc := 401) (tgt := 996) d_L_law_401 rfl ?_
  exact J _ ⟨hI2, hx2, hm2, by omega, by omega⟩

set_option maxRecDepth 100000 in
set_option maxHeartbeats 4000000 in
theorem lw_ran {l : Launch} {K : EC} {f : Int → Int} {L : Nat} {xq : Int} {M : Mem} {i : Int} {Q : Mem → Option PV → Prop} (hE : e_all K xq) (he : e_ext K 0 L f) (hr : ∀ j, -2147483648 ≤ f j ∧ f j ≤ 2147483647) (i0 : 0 ≤ i) (i1 : i + 6 ≤ L) (iL : (L : Int) ≤ 3072) (hL : LI M) (J : ∀ M' : Mem, LI M' → Tr l K 60 mL_law 996 [(0, (2, -2)), (1, (2, 0)), (2, (2, 120)), (3, (0, i))] [] M' Q) : Tr l K 60 mL_law 404 [(0, (2, -2)), (1, (2, 0)), (2, (2, 120)), (3, (0, i))] [] M Q := by
  obtain ⟨hI, hx, hm, ht, ha⟩ := hL
  refine Tr.aload_n (pc := 404) (i := 1) d_L_law_404 rfl rfl ?_
  refine Tr.aload_n (pc := 405) (i := 0) d_L_law_405 rfl rfl ?_
  refine Tr.iload_n (pc := 406) (i := 3) d_L_law_406 rfl rfl ?_
  refine Tr.iconst (pc := 407) d_L_law_407 (by decide) ?_
  refine Tr.iadd (pc := 408) d_L_law_408 ?_
  refine Tr.tp (i + 1) (w32_id (by omega)) ?_
  refine Tr.xld (pc := 409) (i := 0) d_L_law_409 rfl he (by omega) (by omega) ?_
  refine Tr.callV (pc := 410) (as := [_]) d_L_law_410 s_13_51 ok_X11_ran rfl rfl (Nat.le_of_ble_eq_true rfl) (Nat.le_of_ble_eq_true rfl) (by decide) (ty_0 hI.1) ?_
  refine Tr.imp (xu_ran hE hI hx (f (i + 1)) (hr _)) ?_
  rintro M1 _ ⟨hI1, hx1, f1, v1, rfl, z1⟩
  have hm1 := hm.fr f1
  have k1 := f1 120 1 (by decide) (by decide)
  have k2 := f1 120 113 (by decide) (by decide)
  refine Tr.sc [(0, v1)] rfl ?_
  refine Tr.pop (pc := 413) d_L_law_413 ne01 ?_
  refine Tr.aload_n (pc := 414) (i := 2) d_L_law_414 rfl rfl ?_
  refine Tr.aload_n (pc := 415) (i := 0) d_L_law_415 rfl rfl ?_
  refine Tr.iload_n (pc := 416) (i := 3) d_L_law_416 rfl rfl ?_
  refine Tr.iconst (pc := 417) d_L_law_417 (by decide) ?_
  refine Tr.iadd (pc := 418) d_L_law_418 ?_
  refine Tr.tp (i + 1) (w32_id (by omega)) ?_
  refine Tr.xld (pc := 419) (i := 0) d_L_law_419 rfl he (by omega) (by omega) ?_
  refine Tr.callV (pc := 420) (as := [_]) d_L_law_420 s_13_54 ok_X12_ran rfl rfl (Nat.le_of_ble_eq_true rfl) (Nat.le_of_ble_eq_true rfl) (by decide) (ty_120 hI1.1) ?_
  refine Tr.imp (mu_ran hI1 hm1 (f (i + 1)) (hr _)) ?_
  rintro M2 _ ⟨hI2, hm2, f2, v2, rfl, z2⟩
  have hx2 := hx1.fr hI1 f2
  have k3 := f2 0 1 (Or.inl (by decide))
  have k4 := f2 113 0 (Or.inl (by decide))
  refine Tr.sc [(0, v2)] rfl ?_
  refine Tr.pop (pc := 423) d_L_law_423 ne01 ?_
  refine Tr.goto (pc := 424) (tgt := 996) d_L_law_424 rfl ?_
  exact J _ ⟨hI2, hx2, hm2, by omega, by omega⟩

set_option maxRecDepth 100000 in
set_option maxHeartbeats 4000000 in
theorem lw_value {l : Launch} {K : EC} {f : Int → Int} {L : Nat} {xq : Int} {M : Mem} {i : Int} {Q : Mem → Option PV → Prop} (hE : e_all K xq) (he : e_ext K 0 L f) (hr : ∀ j, -2147483648 ≤ f j ∧ f j ≤ 2147483647) (i0 : 0 ≤ i) (i1 : i + 6 ≤ L) (iL : (L : Int) ≤ 3072) (hL : LI M) (J : ∀ M' : Mem, LI M' → Tr l K 60 mL_law 996 [(0, (2, -2)), (1, (2, 0)), (2, (2, 120)), (3, (0, i))] [] M' Q) : Tr l K 60 mL_law 427 [(0, (2, -2)), (1, (2, 0)), (2, (2, 120)), (3, (0, i))] [] M Q := by
  obtain ⟨hI, hx, hm, ht, ha⟩ := hL
  refine Tr.aload_n (pc := 427) (i := 1) d_L_law_427 rfl rfl ?_
  refine Tr.aload_n (pc := 428) (i := 0) d_L_law_428 rfl rfl ?_
  refine Tr.iload_n (pc := 429) (i := 3) d_L_law_429 rfl rfl ?_
  refine Tr.iconst (pc := 430) d_L_law_430 (by decide) ?_
  refine Tr.iadd (pc := 431) d_L_law_431 ?_
  refine Tr.tp (i + 1) (w32_id (by omega)) ?_
  refine Tr.xld (pc := 432) (i := 0) d_L_law_432 rfl he (by omega) (by omega) ?_
  refine Tr.callV (pc := 433) (as := [_]) d_L_law_433 s_13_55 ok_X11_value rfl rfl (Nat.le_of_ble_eq_true rfl) (Nat.le_of_ble_eq_true rfl) (by decide) (ty_0 hI.1) ?_
  refine Tr.imp (xu_value hE hI hx (f (i + 1)) (hr _)) ?_
  rintro M1 _ ⟨hI1, hx1, f1, v1, rfl, z1⟩
  have hm1 := hm.fr f1
  have k1 := f1 120 1 (by decide) (by decide)
  have k2 := f1 120 113 (by decide) (by decide)
  refine Tr.sc [(0, v1)] rfl ?_
  refine Tr.pop (pc := 436) d_L_law_436 ne01 ?_
  refine Tr.aload_n (pc := 437) (i := 2) d_L_law_437 rfl rfl ?_
  refine Tr.aload_n (pc := 438) (i := 0) d_L_law_438 rfl rfl ?_
  refine Tr.iload_n (pc := 439) (i := 3) d_L_law_439 rfl rfl ?_
  refine Tr.iconst (pc := 440) d_L_law_440 (by decide) ?_
  refine Tr.iadd (pc := 441) d_L_law_441 ?_
  refine Tr.tp (i + 1) (w32_id (by omega)) ?_
  refine Tr.xld (pc := 442) (i := 0) d_L_law_442 rfl he (by omega) (by omega) ?_
  refine Tr.callV (pc := 443) (as := [_]) d_L_law_443 s_13_58 ok_X12_value rfl rfl (Nat.le_of_ble_eq_true rfl) (Nat.le_of_ble_eq_true rfl) (by decide) (ty_120 hI1.1) ?_
  refine Tr.imp (mu_value hI1 hm1 (f (i + 1)) (hr _)) ?_
  rintro M2 _ ⟨hI2, hm2, f2, v2, rfl, z2⟩
  have hx2 := hx1.fr hI1 f2
  have k3 := f2 0 1 (Or.inl (by decide))
  have k4 := f2 113 0 (Or.inl (by decide))
  refine Tr.sc [(0, v2)] rfl ?_
  refine Tr.pop (pc := 446) d_L_law_446 ne01 ?_
  refine Tr.goto (pc := 447) (tgt := 996) d_L_law_447 rfl ?_
  exact J _ ⟨hI2, hx2, hm2, by omega, by omega⟩

set_option maxRecDepth 100000 in
set_option maxHeartbeats 4000000 in
theorem lw_spent {l : Launch} {K : EC} {f : Int → Int} {L : Nat} {xq : Int} {M : Mem} {i : Int} {Q : Mem → Option PV → Prop} (hE : e_all K xq) (he : e_ext K 0 L f) (hr : ∀ j, -2147483648 ≤ f j ∧ f j ≤ 2147483647) (i0 : 0 ≤ i) (i1 : i + 6 ≤ L) (iL : (L : Int) ≤ 3072) (hL : LI M) (J : ∀ M' : Mem, LI M' → Tr l K 60 mL_law 996 [(0, (2, -2)), (1, (2, 0)), (2, (2, 120)), (3, (0, i))] [] M' Q) : Tr l K 60 mL_law 450 [(0, (2, -2)), (1, (2, 0)), (2, (2, 120)), (3, (0, i))] [] M Q := by
  obtain ⟨hI, hx, hm, ht, ha⟩ := hL
  refine Tr.aload_n (pc := 450) (i := 1) d_L_law_450 rfl rfl ?_
  refine Tr.aload_n (pc := 451) (i := 0) d_L_law_451 rfl rfl ?_
  refine Tr.iload_n (pc := 452) (i := 3) d_L_law_452 rfl rfl ?_
  refine Tr.iconst (pc := 453) d_L_law_453 (by decide) ?_
  refine Tr.iadd (pc := 454) d_L_law_454 ?_
  refine Tr.tp (i + 1) (w32_id (by omega)) ?_
  refine Tr.xld (pc := 455) (i := 0) d_L_law_455 rfl he (by omega) (by omega) ?_
  refine Tr.aload_n (pc := 456) (i := 0) d_L_law_456 rfl rfl ?_
  refine Tr.iload_n (pc := 457) (i := 3) d_L_law_457 rfl rfl ?_
  refine Tr.iconst (pc := 458) d_L_law_458 (by decide) ?_
  refine Tr.iadd (pc := 459) d_L_law_459 ?_
  refine Tr.tp (i + 2) (w32_id (by omega)) ?_
  refine Tr.xld (pc := 460) (i := 0) d_L_law_460 rfl he (by omega) (by omega) ?_
  refine Tr.callV (pc := 461) (as := [_, _]) d_L_law_461 s_13_59 ok_X11_spent rfl rfl (Nat.le_of_ble_eq_true rfl) (Nat.le_of_ble_eq_true rfl) (by decide) (ty_0 hI.1) ?_
  refine Tr.imp (xu_spent hE hI hx (f (i + 1)) (hr _) (f (i + 2)) (hr _)) ?_
  rintro M1 _ ⟨hI1, hx1, f1, v1, rfl, z1⟩
  have hm1 := hm.fr f1
  have k1 := f1 120 1 (by decide) (by decide)
  have k2 := f1 120 113 (by decide) (by decide)
  refine Tr.sc [(0, v1)] rfl ?_
  refine Tr.pop (pc := 464) d_L_law_464 ne01 ?_
  refine Tr.aload_n (pc := 465) (i := 2) d_L_law_465 rfl rfl ?_
  refine Tr.aload_n (pc := 466) (i := 0) d_L_law_466 rfl rfl ?_
  refine Tr.iload_n (pc := 467) (i := 3) d_L_law_467 rfl rfl ?_
  refine Tr.iconst (pc := 468) d_L_law_468 (by decide) ?_
  refine Tr.iadd (pc := 469) d_L_law_469 ?_
  refine Tr.tp (i + 1) (w32_id (by omega)) ?_
  refine Tr.xld (pc := 470) (i := 0) d_L_law_470 rfl he (by omega) (by omega) ?_
  refine Tr.aload_n (pc := 471) (i := 0) d_L_law_471 rfl rfl ?_
  refine Tr.iload_n (pc := 472) (i := 3) d_L_law_472 rfl rfl ?_
  refine Tr.iconst (pc := 473) d_L_law_473 (by decide) ?_
  refine Tr.iadd (pc := 474) d_L_law_474 ?_
  refine Tr.tp (i + 2) (w32_id (by omega)) ?_
  refine Tr.xld (pc := 475) (i := 0) d_L_law_475 rfl he (by omega) (by omega) ?_
  refine Tr.callV (pc := 476) (as := [_, _]) d_L_law_476 s_13_63 ok_X12_spent rfl rfl (Nat.le_of_ble_eq_true rfl) (Nat.le_of_ble_eq_true rfl) (by decide) (ty_120 hI1.1) ?_
  refine Tr.imp (mu_spent hI1 hm1 (f (i + 1)) (hr _) (f (i + 2)) (hr _)) ?_
  rintro M2 _ ⟨hI2, hm2, f2, v2, rfl, z2⟩
  have hx2 := hx1.fr hI1 f2
  have k3 := f2 0 1 (Or.inl (by decide))
  have k4 := f2 113 0 (Or.inl (by decide))
  refine Tr.sc [(0, v2)] rfl ?_
  refine Tr.pop (pc := 479) d_L_law_479 ne01 ?_
  refine Tr.goto (pc := 480) (tgt := 996) d_L_law_480 rfl ?_
  exact J _ ⟨hI2, hx2, hm2, by omega, by omega⟩

set_option maxRecDepth 100000 in
set_option maxHeartbeats 4000000 in
theorem lw_pays {l : Launch} {K : EC} {f : Int → Int} {L : Nat} {xq : Int} {M : Mem} {i : Int} {Q : Mem → Option PV → Prop} (hE : e_all K xq) (he : e_ext K 0 L f) (hr : ∀ j, -2147483648 ≤ f j ∧ f j ≤ 2147483647) (i0 : 0 ≤ i) (i1 : i + 6 ≤ L) (iL : (L : Int) ≤ 3072) (hL : LI M) (J : ∀ M' : Mem, LI M' → Tr l K 60 mL_law 996 [(0, (2, -2)), (1, (2, 0)), (2, (2, 120)), (3, (0, i))] [] M' Q) : Tr l K 60 mL_law 483 [(0, (2, -2)), (1, (2, 0)), (2, (2, 120)), (3, (0, i))] [] M Q := by
  obtain ⟨hI, hx, hm, ht, ha⟩ := hL
  refine Tr.aload_n (pc := 483) (i := 1) d_L_law_483 rfl rfl ?_
  refine Tr.aload_n (pc := 484) (i := 0) d_L_law_484 rfl rfl ?_
  refine Tr.iload_n (pc := 485) (i := 3) d_L_law_485 rfl rfl ?_
  refine Tr.iconst (pc := 486) d_L_law_486 (by decide) ?_
  refine Tr.iadd (pc := 487) d_L_law_487 ?_
  refine Tr.tp (i + 1) (w32_id (by omega)) ?_
  refine Tr.xld (pc := 488) (i := 0) d_L_law_488 rfl he (by omega) (by omega) ?_
  refine Tr.aload_n (pc := 489) (i := 0) d_L_law_489 rfl rfl ?_
  refine Tr.iload_n (pc := 490) (i := 3) d_L_law_490 rfl rfl ?_
  refine Tr.iconst (pc := 491) d_L_law_491 (by decide) ?_
  refine Tr.iadd (pc := 492) d_L_law_492 ?_
  refine Tr.tp (i + 2) (w32_id (by omega)) ?_
  refine Tr.xld (pc := 493) (i := 0) d_L_law_493 rfl he (by omega) (by omega) ?_
  refine Tr.callV (pc := 494) (as := [_, _]) d_L_law_494 s_13_64 ok_X11_pays rfl rfl (Nat.le_of_ble_eq_true rfl) (Nat.le_of_ble_eq_true rfl) (by decide) (ty_0 hI.1) ?_
  refine Tr.imp (xu_pays hE hI hx (f (i + 1)) (hr _) (f (i + 2)) (hr _)) ?_
  rintro M1 _ ⟨hI1, hx1, f1, v1, rfl, z1⟩
  have hm1 := hm.fr f1
  have k1 := f1 120 1 (by decide) (by decide)
  have k2 := f1 120 113 (by decide) (by decide)
  refine Tr.sc [(0, v1)] rfl ?_
  refine Tr.pop (pc := 497) d_L_law_497 ne01 ?_
  refine Tr.aload_n (pc := 498) (i := 2) d_L_law_498 rfl rfl ?_
  refine Tr.aload_n (pc := 499) (i := 0) d_L_law_499 rfl rfl ?_
  refine Tr.iload_n (pc := 500) (i := 3) d_L_law_500 rfl rfl ?_
  refine Tr.iconst (pc := 501) d_L_law_501 (by decide) ?_
  refine Tr.iadd (pc := 502) d_L_law_502 ?_
  refine Tr.tp (i + 1) (w32_id (by omega)) ?_
  refine Tr.xld (pc := 503) (i := 0) d_L_law_503 rfl he (by omega) (by omega) ?_
  refine Tr.aload_n (pc := 504) (i := 0) d_L_law_504 rfl rfl ?_
  refine Tr.iload_n (pc := 505) (i := 3) d_L_law_505 rfl rfl ?_
  refine Tr.iconst (pc := 506) d_L_law_506 (by decide) ?_
  refine Tr.iadd (pc := 507) d_L_law_507 ?_
  refine Tr.tp (i + 2) (w32_id (by omega)) ?_
  refine Tr.xld (pc := 508) (i := 0) d_L_law_508 rfl he (by omega) (by omega) ?_
  refine Tr.callV (pc := 509) (as := [_, _]) d_L_law_509 s_13_67 ok_X12_pays rfl rfl (Nat.le_of_ble_eq_true rfl) (Nat.le_of_ble_eq_true rfl) (by decide) (ty_120 hI1.1) ?_
  refine Tr.imp (mu_pays hI1 hm1 (f (i + 1)) (hr _) (f (i + 2)) (hr _)) ?_
  rintro M2 _ ⟨hI2, hm2, f2, v2, rfl, z2⟩
  have hx2 := hx1.fr hI1 f2
  have k3 := f2 0 1 (Or.inl (by decide))
  have k4 := f2 113 0 (Or.inl (by decide))
  refine Tr.sc [(0, v2)] rfl ?_
  refine Tr.pop (pc := 512) d_L_law_512 ne01 ?_
  refine Tr.goto (pc := 513) (tgt := 996) d_L_law_513 rfl ?_
  exact J _ ⟨hI2, hx2, hm2, by omega, by omega⟩

set_option maxRecDepth 100000 in
set_option maxHeartbeats 4000000 in
theorem lw_stretches {l : Launch} {K : EC} {f : Int → Int} {L : Nat} {xq : Int} {M : Mem} {i : Int} {Q : Mem → Option PV → Prop} (hE : e_all K xq) (he : e_ext K 0 L f) (hr : ∀ j, -2147483648 ≤ f j ∧ f j ≤ 2147483647) (i0 : 0 ≤ i) (i1 : i + 6 ≤ L) (iL : (L : Int) ≤ 3072) (hL : LI M) (J : ∀ M' : Mem, LI M' → Tr l K 60 mL_law 996 [(0, (2, -2)), (1, (2, 0)), (2, (2, 120)), (3, (0, i))] [] M' Q) : Tr l K 60 mL_law 516 [(0, (2, -2)), (1, (2, 0)), (2, (2, 120)), (3, (0, i))] [] M Q := by
  obtain ⟨hI, hx, hm, ht, ha⟩ := hL
  refine Tr.aload_n (pc := 516) (i := 1) d_L_law_516 rfl rfl ?_
  refine Tr.aload_n (pc := 517) (i := 0) d_L_law_517 rfl rfl ?_
  refine Tr.iload_n (pc := 518) (i := 3) d_L_law_518 rfl rfl ?_
  refine Tr.iconst (pc := 519) d_L_law_519 (by decide) ?_
  refine Tr.iadd (pc := 520) d_L_law_520 ?_
  refine Tr.tp (i + 1) (w32_id (by omega)) ?_
  refine Tr.xld (pc := 521) (i := 0) d_L_law_521 rfl he (by omega) (by omega) ?_
  refine Tr.callV (pc := 522) (as := [_]) d_L_law_522 s_13_68 ok_X11_stretches rfl rfl (Nat.le_of_ble_eq_true rfl) (Nat.le_of_ble_eq_true rfl) (by decide) (ty_0 hI.1) ?_
  refine Tr.imp (xu_stretches hE hI hx (f (i + 1)) (hr _)) ?_
  rintro M1 _ ⟨hI1, hx1, f1, v1, rfl, z1⟩
  have hm1 := hm.fr f1
  have k1 := f1 120 1 (by decide) (by decide)
  have k2 := f1 120 113 (by decide) (by decide)
  refine Tr.sc [(0, v1)] rfl ?_
  refine Tr.pop (pc := 525) d_L_law_525 ne01 ?_
  refine Tr.aload_n (pc := 526) (i := 2) d_L_law_526 rfl rfl ?_
  refine Tr.aload_n (pc := 527) (i := 0) d_L_law_527 rfl rfl ?_
  refine Tr.iload_n (pc := 528) (i := 3) d_L_law_528 rfl rfl ?_
  refine Tr.iconst (pc := 529) d_L_law_529 (by decide) ?_
  refine Tr.iadd (pc := 530) d_L_law_530 ?_
  refine Tr.tp (i + 1) (w32_id (by omega)) ?_
  refine Tr.xld (pc := 531) (i := 0) d_L_law_531 rfl he (by omega) (by omega) ?_
  refine Tr.callV (pc := 532) (as := [_]) d_L_law_532 s_13_71 ok_X12_stretches rfl rfl (Nat.le_of_ble_eq_true rfl) (Nat.le_of_ble_eq_true rfl) (by decide) (ty_120 hI1.1) ?_
  refine Tr.imp (mu_stretches hI1 hm1 (f (i + 1)) (hr _)) ?_
  rintro M2 _ ⟨hI2, hm2, f2, v2, rfl, z2⟩
  have hx2 := hx1.fr hI1 f2
  have k3 := f2 0 1 (Or.inl (by decide))
  have k4 := f2 113 0 (Or.inl (by decide))
  refine Tr.sc [(0, v2)] rfl ?_
  refine Tr.pop (pc := 535) d_L_law_535 ne01 ?_
  refine Tr.goto (pc := 536) (tgt := 996) d_L_law_536 rfl ?_
  exact J _ ⟨hI2, hx2, hm2, by omega, by omega⟩

set_option maxRecDepth 100000 in
set_option maxHeartbeats 4000000 in
theorem lw_stretch {l : Launch} {K : EC} {f : Int → Int} {L : Nat} {xq : Int} {M : Mem} {i : Int} {Q : Mem → Option PV → Prop} (hE : e_all K xq) (he : e_ext K 0 L f) (hr : ∀ j, -2147483648 ≤ f j ∧ f j ≤ 2147483647) (i0 : 0 ≤ i) (i1 : i + 6 ≤ L) (iL : (L : Int) ≤ 3072) (hL : LI M) (J : ∀ M' : Mem, LI M' → Tr l K 60 mL_law 996 [(0, (2, -2)), (1, (2, 0)), (2, (2, 120)), (3, (0, i))] [] M' Q) : Tr l K 60 mL_law 539 [(0, (2, -2)), (1, (2, 0)), (2, (2, 120)), (3, (0, i))] [] M Q := by
  obtain ⟨hI, hx, hm, ht, ha⟩ := hL
  refine Tr.aload_n (pc := 539) (i := 1) d_L_law_539 rfl rfl ?_
  refine Tr.aload_n (pc := 540) (i := 0) d_L_law_540 rfl rfl ?_
  refine Tr.iload_n (pc := 541) (i := 3) d_L_law_541 rfl rfl ?_
  refine Tr.iconst (pc := 542) d_L_law_542 (by decide) ?_
  refine Tr.iadd (pc := 543) d_L_law_543 ?_
  refine Tr.tp (i + 1) (w32_id (by omega)) ?_
  refine Tr.xld (pc := 544) (i := 0) d_L_law_544 rfl he (by omega) (by omega) ?_
  refine Tr.aload_n (pc := 545) (i := 0) d_L_law_545 rfl rfl ?_
  refine Tr.iload_n (pc := 546) (i := 3) d_L_law_546 rfl rfl ?_
  refine Tr.iconst (pc := 547) d_L_law_547 (by decide) ?_
  refine Tr.iadd (pc := 548) d_L_law_548 ?_
  refine Tr.tp (i + 2) (w32_id (by omega)) ?_
  refine Tr.xld (pc := 549) (i := 0) d_L_law_549 rfl he (by omega) (by omega) ?_
  refine Tr.aload_n (pc := 550) (i := 0) d_L_law_550 rfl rfl ?_
  refine Tr.iload_n (pc := 551) (i := 3) d_L_law_551 rfl rfl ?_
  refine Tr.iconst (pc := 552) d_L_law_552 (by decide) ?_
  refine Tr.iadd (pc := 553) d_L_law_553 ?_
  refine Tr.tp (i + 3) (w32_id (by omega)) ?_
  refine Tr.xld (pc := 554) (i := 0) d_L_law_554 rfl he (by omega) (by omega) ?_
  refine Tr.callV (pc := 555) (as := [_, _, _]) d_L_law_555 s_13_72 ok_X11_stretch rfl rfl (Nat.le_of_ble_eq_true rfl) (Nat.le_of_ble_eq_true rfl) (by decide) (ty_0 hI.1) ?_
  refine Tr.imp (xu_stretch hE hI hx (f (i + 1)) (hr _) (f (i + 2)) (hr _) (f (i + 3)) (hr _)) ?_
  rintro M1 _ ⟨hI1, hx1, f1, v1, rfl, z1⟩
  have hm1 := hm.fr f1
  have k1 := f1 120 1 (by decide) (by decide)
  have k2 := f1 120 113 (by decide) (by decide)
  refine Tr.sc [(0, v1)] rfl ?_
  refine Tr.pop (pc := 558) d_L_law_558 ne01 ?_
  refine Tr.aload_n (pc := 559) (i := 2) d_L_law_559 rfl rfl ?_
  refine Tr.aload_n (pc := 560) (i := 0) d_L_law_560 rfl rfl ?_
  refine Tr.iload_n (pc := 561) (i := 3) d_L_law_561 rfl rfl ?_
  refine Tr.iconst (pc := 562) d_L_law_562 (by decide) ?_
  refine Tr.iadd (pc := 563) d_L_law_563 ?_
  refine Tr.tp (i + 1) (w32_id (by omega)) ?_
  refine Tr.xld (pc := 564) (i := 0) d_L_law_564 rfl he (by omega) (by omega) ?_
  refine Tr.aload_n (pc := 565) (i := 0) d_L_law_565 rfl rfl ?_
  refine Tr.iload_n (pc := 566) (i := 3) d_L_law_566 rfl rfl ?_
  refine Tr.iconst (pc := 567) d_L_law_567 (by decide) ?_
  refine Tr.iadd (pc := 568) d_L_law_568 ?_
  refine Tr.tp (i + 2) (w32_id (by omega)) ?_
  refine Tr.xld (pc := 569) (i := 0) d_L_law_569 rfl he (by omega) (by omega) ?_
  refine Tr.aload_n (pc := 570) (i := 0) d_L_law_570 rfl rfl ?_
  refine Tr.iload_n (pc := 571) (i := 3) d_L_law_571 rfl rfl ?_
  refine Tr.iconst (pc := 572) d_L_law_572 (by decide) ?_
  refine Tr.iadd (pc := 573) d_L_law_573 ?_
  refine Tr.tp (i + 3) (w32_id (by omega)) ?_
  refine Tr.xld (pc := 574) (i := 0) d_L_law_574 rfl he (by omega) (by omega) ?_
  refine Tr.callV (pc := 575) (as := [_, _, _]) d_L_law_575 s_13_75 ok_X12_stretch rfl rfl (Nat.le_of_ble_eq_true rfl) (Nat.le_of_ble_eq_true rfl) (by decide) (ty_120 hI1.1) ?_
  refine Tr.imp (mu_stretch hI1 hm1 (f (i + 1)) (hr _) (f (i + 2)) (hr _) (f (i + 3)) (hr _)) ?_
  rintro M2 _ ⟨hI2, hm2, f2, v2, rfl, z2⟩
  have hx2 := hx1.fr hI1 f2
  have k3 := f2 0 1 (Or.inl (by decide))
  have k4 := f2 113 0 (Or.inl (by decide))
  refine Tr.sc [(0, v2)] rfl ?_
  refine Tr.pop (pc := 578) d_L_law_578 ne01 ?_
  refine Tr.goto (pc := 579) (tgt := 996) d_L_law_579 rfl ?_
  exact J _ ⟨hI2, hx2, hm2, by omega, by omega⟩

set_option maxRecDepth 100000 in
set_option maxHeartbeats 4000000 in
theorem lw_lines {l : Launch} {K : EC} {f : Int → Int} {L : Nat} {xq : Int} {M : Mem} {i : Int} {Q : Mem → Option PV → Prop} (hE : e_all K xq) (he : e_ext K 0 L f) (hr : ∀ j, -2147483648 ≤ f j ∧ f j ≤ 2147483647) (i0 : 0 ≤ i) (i1 : i + 6 ≤ L) (iL : (L : Int) ≤ 3072) (hL : LI M) (J : ∀ M' : Mem, LI M' → Tr l K 60 mL_law 996 [(0, (2, -2)), (1, (2, 0)), (2, (2, 120)), (3, (0, i))] [] M' Q) : Tr l K 60 mL_law 582 [(0, (2, -2)), (1, (2, 0)), (2, (2, 120)), (3, (0, i))] [] M Q := by
  obtain ⟨hI, hx, hm, ht, ha⟩ := hL
  refine Tr.aload_n (pc := 582) (i := 1) d_L_law_582 rfl rfl ?_
  refine Tr.aload_n (pc := 583) (i := 0) d_L_law_583 rfl rfl ?_
  refine Tr.iload_n (pc := 584) (i := 3) d_L_law_584 rfl rfl ?_
  refine Tr.iconst (pc := 585) d_L_law_585 (by decide) ?_
  refine Tr.iadd (pc := 586) d_L_law_586 ?_
  refine Tr.tp (i + 1) (w32_id (by omega)) ?_
  refine Tr.xld (pc := 587) (i := 0) d_L_law_587 rfl he (by omega) (by omega) ?_
  refine Tr.aload_n (pc := 588) (i := 0) d_L_law_588 rfl rfl ?_
  refine Tr.iload_n (pc := 589) (i := 3) d_L_law_589 rfl rfl ?_
  refine Tr.iconst (pc := 590) d_L_law_590 (by decide) ?_
  refine Tr.iadd (pc := 591) d_L_law_591 ?_
  refine Tr.tp (i + 2) (w32_id (by omega)) ?_
  refine Tr.xld (pc := 592) (i := 0) d_L_law_592 rfl he (by omega) (by omega) ?_
  refine Tr.callV (pc := 593) (as := [_, _]) d_L_law_593 s_13_76 ok_X11_lines rfl rfl (Nat.le_of_ble_eq_true rfl) (Nat.le_of_ble_eq_true rfl) (by decide) (ty_0 hI.1) ?_
  refine Tr.imp (xu_lines hE hI hx (f (i + 1)) (hr _) (f (i + 2)) (hr _)) ?_
  rintro M1 _ ⟨hI1, hx1, f1, v1, rfl, z1⟩
  have hm1 := hm.fr f1
  have k1 := f1 120 1 (by decide) (by decide)
  have k2 := f1 120 113 (by decide) (by decide)
  refine Tr.sc [(1, v1)] rfl ?_
  refine Tr.pop2l (pc := 596) d_L_law_596 rfl ?_
  refine Tr.aload_n (pc := 597) (i := 2) d_L_law_597 rfl rfl ?_
  refine Tr.aload_n (pc := 598) (i := 0) d_L_law_598 rfl rfl ?_
  refine Tr.iload_n (pc := 599) (i := 3) d_L_law_599 rfl rfl ?_
  refine Tr.iconst (pc := 600) d_L_law_600 (by decide) ?_
  refine Tr.iadd (pc := 601) d_L_law_601 ?_
  refine Tr.tp (i + 1) (w32_id (by omega)) ?_
  refine Tr.xld (pc := 602) (i := 0) d_L_law_602 rfl he (by omega) (by omega) ?_
  refine Tr.aload_n (pc := 603) (i := 0) d_L_law_603 rfl rfl ?_
  refine Tr.iload_n (pc := 604) (i := 3) d_L_law_604 rfl rfl ?_
  refine Tr.iconst (pc := 605) d_L_law_605 (by decide) ?_
  refine Tr.iadd (pc := 606) d_L_law_606 ?_
  refine Tr.tp (i + 2) (w32_id (by omega)) ?_
  refine Tr.xld (pc := 607) (i := 0) d_L_law_607 rfl he (by omega) (by omega) ?_
  refine Tr.callV (pc := 608) (as := [_, _]) d_L_law_608 s_13_80 ok_X12_lines rfl rfl (Nat.le_of_ble_eq_true rfl) (Nat.le_of_ble_eq_true rfl) (by decide) (ty_120 hI1.1) ?_
  refine Tr.imp (mu_lines hI1 hm1 (f (i + 1)) (hr _) (f (i + 2)) (hr _)) ?_
  rintro M2 _ ⟨hI2, hm2, f2, v2, rfl, z2⟩
  have hx2 := hx1.fr hI1 f2
  have k3 := f2 0 1 (Or.inl (by decide))
  have k4 := f2 113 0 (Or.inl (by decide))
  refine Tr.sc [(1, v2)] rfl ?_
  refine Tr.pop2l (pc := 611) d_L_law_611 rfl ?_
  refine Tr.goto (pc := 612) (tgt := 996) d_L_law_612 rfl ?_
  exact J _ ⟨hI2, hx2, hm2, by omega, by omega⟩

set_option maxRecDepth 100000 in
set_option maxHeartbeats 4000000 in
theorem lw_byTurns {l : Launch} {K : EC} {f : Int → Int} {L : Nat} {xq : Int} {M : Mem} {i : Int} {Q : Mem → Option PV → Prop} (hE : e_all K xq) (he : e_ext K 0 L f) (hr : ∀ j, -2147483648 ≤ f j ∧ f j ≤ 2147483647) (i0 : 0 ≤ i) (i1 : i + 6 ≤ L) (iL : (L : Int) ≤ 3072) (hL : LI M) (J : ∀ M' : Mem, LI M' → Tr l K 60 mL_law 996 [(0, (2, -2)), (1, (2, 0)), (2, (2, 120)), (3, (0, i))] [] M' Q) : Tr l K 60 mL_law 615 [(0, (2, -2)), (1, (2, 0)), (2, (2, 120)), (3, (0, i))] [] M Q := by
  obtain ⟨hI, hx, hm, ht, ha⟩ := hL
  refine Tr.aload_n (pc := 615) (i := 1) d_L_law_615 rfl rfl ?_
  refine Tr.aload_n (pc := 616) (i := 0) d_L_law_616 rfl rfl ?_
  refine Tr.iload_n (pc := 617) (i := 3) d_L_law_617 rfl rfl ?_
  refine Tr.iconst (pc := 618) d_L_law_618 (by decide) ?_
  refine Tr.iadd (pc := 619) d_L_law_619 ?_
  refine Tr.tp (i + 1) (w32_id (by omega)) ?_
  refine Tr.xld (pc := 620) (i := 0) d_L_law_620 rfl he (by omega) (by omega) ?_
  refine Tr.aload_n (pc := 621) (i := 0) d_L_law_621 rfl rfl ?_
  refine Tr.iload_n (pc := 622) (i := 3) d_L_law_622 rfl rfl ?_
  refine Tr.iconst (pc := 623) d_L_law_623 (by decide) ?_
  refine Tr.iadd (pc := 624) d_L_law_624 ?_
  refine Tr.tp (i + 2) (w32_id (by omega)) ?_
  refine Tr.xld (pc := 625) (i := 0) d_L_law_625 rfl he (by omega) (by omega) ?_
  refine Tr.aload_n (pc := 626) (i := 0) d_L_law_626 rfl rfl ?_
  refine Tr.iload_n (pc := 627) (i := 3) d_L_law_627 rfl rfl ?_
  refine Tr.iconst (pc := 628) d_L_law_628 (by decide) ?_
  refine Tr.iadd (pc := 629) d_L_law_629 ?_
  refine Tr.tp (i + 3) (w32_id (by omega)) ?_
  refine Tr.xld (pc := 630) (i := 0) d_L_law_630 rfl he (by omega) (by omega) ?_
  refine Tr.aload_n (pc := 631) (i := 0) d_L_law_631 rfl rfl ?_
  refine Tr.iload_n (pc := 632) (i := 3) d_L_law_632 rfl rfl ?_
  refine Tr.iconst (pc := 633) d_L_law_633 (by decide) ?_
  refine Tr.iadd (pc := 634) d_L_law_634 ?_
  refine Tr.tp (i + 4) (w32_id (by omega)) ?_
  refine Tr.xld (pc := 635) (i := 0) d_L_law_635 rfl he (by omega) (by omega) ?_
  have JB644 : ∀ b644 : Int, 0 ≤ b644 ∧ b644 ≤ 1 → Tr l K 60 mL_law 644 [(0, (2, -2)), (1, (2, 0)), (2, (2, 120)), (3, (0, i))] [(0, b644), (0, f (i + 3)), (0, f (i + 2)), (0, f (i + 1)), (2, 0)] M Q := by
    intro b644 hb644
    refine Tr.callV (pc := 644) (as := [_, _, _, _]) d_L_law_644 s_13_81 ok_X11_byTurns rfl rfl (Nat.le_of_ble_eq_true rfl) (Nat.le_of_ble_eq_true rfl) (by decide) (ty_0 hI.1) ?_
    refine Tr.imp (xu_byTurns hE hI hx (f (i + 1)) (hr _) (f (i + 2)) (hr _) (f (i + 3)) (hr _) b644 hb644) ?_
    rintro M1 _ ⟨hI1, hx1, f1, v1, rfl, z1⟩
    have hm1 := hm.fr f1
    have k1 := f1 120 1 (by decide) (by decide)
    have k2 := f1 120 113 (by decide) (by decide)
    refine Tr.sc [(1, v1)] rfl ?_
    refine Tr.pop2l (pc := 647) d_L_law_647 rfl ?_
    refine Tr.aload_n (pc := 648) (i := 2) d_L_law_648 rfl rfl ?_
    refine Tr.aload_n (pc := 649) (i := 0) d_L_law_649 rfl rfl ?_
    refine Tr.iload_n (pc := 650) (i := 3) d_L_law_650 rfl rfl ?_
    refine Tr.iconst (pc := 651) d_L_law_651 (by decide) ?_
    refine Tr.iadd (pc := 652) d_L_law_652 ?_
    refine Tr.tp (i + 1) (w32_id (by omega)) ?_
    refine Tr.xld (pc := 653) (i := 0) d_L_law_653 rfl he (by omega) (by omega) ?_
    refine Tr.aload_n (pc := 654) (i := 0) d_L_law_654 rfl rfl ?_
    refine Tr.iload_n (pc := 655) (i := 3) d_L_law_655 rfl rfl ?_
    refine Tr.iconst (pc := 656) d_L_law_656 (by decide) ?_
    refine Tr.iadd (pc := 657) d_L_law_657 ?_
    refine Tr.tp (i + 2) (w32_id (by omega)) ?_
    refine Tr.xld (pc := 658) (i := 0) d_L_law_658 rfl he (by omega) (by omega) ?_
    refine Tr.aload_n (pc := 659) (i := 0) d_L_law_659 rfl rfl ?_
    refine Tr.iload_n (pc := 660) (i := 3) d_L_law_660 rfl rfl ?_
    refine Tr.iconst (pc := 661) d_L_law_661 (by decide) ?_
    refine Tr.iadd (pc := 662) d_L_law_662 ?_
    refine Tr.tp (i + 3) (w32_id (by omega)) ?_
    refine Tr.xld (pc := 663) (i := 0) d_L_law_663 rfl he (by omega) (by omega) ?_
    refine Tr.aload_n (pc := 664) (i := 0) d_L_law_664 rfl rfl ?_
    refine Tr.iload_n (pc := 665) (i := 3) d_L_law_665 rfl rfl ?_
    refine Tr.iconst (pc := 666) d_L_law_666 (by decide) ?_
    refine Tr.iadd (pc := 667) d_L_law_667 ?_
    refine Tr.tp (i + 4) (w32_id (by omega)) ?_
    refine Tr.xld (pc := 668) (i := 0) d_L_law_668 rfl he (by omega) (by omega) ?_
    have JB677 : ∀ b677 : Int, 0 ≤ b677 ∧ b677 ≤ 1 → Tr l K 60 mL_law 677 [(0, (2, -2)), (1, (2, 0)), (2, (2, 120)), (3, (0, i))] [(0, b677), (0, f (i + 3)), (0, f (i + 2)), (0, f (i + 1)), (2, 120)] M1 Q := by
      intro b677 hb677
      refine Tr.callV (pc := 677) (as := [_, _, _, _]) d_L_law_677 s_13_85 ok_X12_byTurns rfl rfl (Nat.le_of_ble_eq_true rfl) (Nat.le_of_ble_eq_true rfl) (by decide) (ty_120 hI1.1) ?_
      refine Tr.imp (mu_byTurns hI1 hm1 (f (i + 1)) (hr _) (f (i + 2)) (hr _) (f (i + 3)) (hr _) b677 hb677) ?_
      rintro M2 _ ⟨hI2, hm2, f2, v2, rfl, z2⟩
      have hx2 := hx1.fr hI1 f2
      have k3 := f2 0 1 (Or.inl (by decide))
      have k4 := f2 113 0 (Or.inl (by decide))
      refine Tr.sc [(1, v2)] rfl ?_
      refine Tr.pop2l (pc := 680) d_L_law_680 rfl ?_
      refine Tr.goto (pc := 681) (tgt := 996) d_L_law_681 rfl ?_
      exact J _ ⟨hI2, hx2, hm2, by omega, by omega⟩
    refine Tr.if_eq (pc := 669) (tgt := 676) d_L_law_669 rfl (fun _ => ?_) (fun _ => ?_)
    · refine Tr.iconst (pc := 676) d_L_law_676 (by decide) ?_
      exact JB677 0 (by omega)
    · refine Tr.iconst (pc := 672) d_L_law_672 (by decide) ?_
      refine Tr.goto (pc := 673) (tgt := 677) d_L_law_673 rfl ?_
      exact JB677 1 (by omega)
  refine Tr.if_eq (pc := 636) (tgt := 643) d_L_law_636 rfl (fun _ => ?_) (fun _ => ?_)
  · refine Tr.iconst (pc := 643) d_L_law_643 (by decide) ?_
    exact JB644 0 (by omega)
  · refine Tr.iconst (pc := 639) d_L_law_639 (by decide) ?_
    refine Tr.goto (pc := 640) (tgt := 644) d_L_law_640 rfl ?_
    exact JB644 1 (by omega)
end
/-! 53.01 -/
section
set_option maxRecDepth 100000 in
set_option maxHeartbeats 4000000 in
theorem lw_wasted {l : Launch} {K : EC} {f : Int → Int} {L : Nat} {xq : Int} {M : Mem} {i : Int} {Q : Mem → Option PV → Prop} (hE : e_all K xq) (he : e_ext K 0 L f) (hr : ∀ j, -2147483648 ≤ f j ∧ f j ≤ 2147483647) (i0 : 0 ≤ i) (i1 : i + 6 ≤ L) (iL : (L : Int) ≤ 3072) (hL : LI M) (J : ∀ M' : Mem, LI M' → Tr l K 60 mL_law 996 [(0, (2, -2)), (1, (2, 0)), (2, (2, 120)), (3, (0, i))] [] M' Q) : Tr l K 60 mL_law 684 [(0, (2, -2)), (1, (2, 0)), (2, (2, 120)), (3, (0, i))] [] M Q := by
  obtain ⟨hI, hx, hm, ht, ha⟩ := hL
  refine Tr.aload_n (pc := 684) (i := 1) d_L_law_684 rfl rfl ?_
  refine Tr.aload_n (pc := 685) (i := 0) d_L_law_685 rfl rfl ?_
  refine Tr.iload_n (pc := 686) (i := 3) d_L_law_686 rfl rfl ?_
  refine Tr.iconst (pc := 687) d_L_law_687 (by decide) ?_
  refine Tr.iadd (pc := 688) d_L_law_688 ?_
  refine Tr.tp (i + 1) (w32_id (by omega)) ?_
  refine Tr.xld (pc := 689) (i := 0) d_L_law_689 rfl he (by omega) (by omega) ?_
  refine Tr.callV (pc := 690) (as := [_]) d_L_law_690 s_13_86 ok_X11_wasted rfl rfl (Nat.le_of_ble_eq_true rfl) (Nat.le_of_ble_eq_true rfl) (by decide) (ty_0 hI.1) ?_
  refine Tr.imp (xu_wasted hE hI hx (f (i + 1)) (hr _)) ?_
  rintro M1 _ ⟨hI1, hx1, f1, v1, rfl, z1⟩
  have hm1 := hm.fr f1
  have k1 := f1 120 1 (by decide) (by decide)
  have k2 := f1 120 113 (by decide) (by decide)
  refine Tr.sc [(0, v1)] rfl ?_
  refine Tr.pop (pc := 693) d_L_law_693 ne01 ?_
  refine Tr.aload_n (pc := 694) (i := 2) d_L_law_694 rfl rfl ?_
  refine Tr.aload_n (pc := 695) (i := 0) d_L_law_695 rfl rfl ?_
  refine Tr.iload_n (pc := 696) (i := 3) d_L_law_696 rfl rfl ?_
  refine Tr.iconst (pc := 697) d_L_law_697 (by decide) ?_
  refine Tr.iadd (pc := 698) d_L_law_698 ?_
  refine Tr.tp (i + 1) (w32_id (by omega)) ?_
  refine Tr.xld (pc := 699) (i := 0) d_L_law_699 rfl he (by omega) (by omega) ?_
  refine Tr.callV (pc := 700) (as := [_]) d_L_law_700 s_13_89 ok_X12_wasted rfl rfl (Nat.le_of_ble_eq_true rfl) (Nat.le_of_ble_eq_true rfl) (by decide) (ty_120 hI1.1) ?_
  refine Tr.imp (mu_wasted hI1 hm1 (f (i + 1)) (hr _)) ?_
  rintro M2 _ ⟨hI2, hm2, f2, v2, rfl, z2⟩
  have hx2 := hx1.fr hI1 f2
  have k3 := f2 0 1 (Or.inl (by decide))
  have k4 := f2 113 0 (Or.inl (by decide))
  refine Tr.sc [(0, v2)] rfl ?_
  refine Tr.pop (pc := 703) d_L_law_703 ne01 ?_
  refine Tr.goto (pc := 704) (tgt := 996) d_L_law_704 rfl ?_
  exact J _ ⟨hI2, hx2, hm2, by omega, by omega⟩

set_option maxRecDepth 100000 in
set_option maxHeartbeats 4000000 in
theorem lw_over {l : Launch} {K : EC} {f : Int → Int} {L : Nat} {xq : Int} {M : Mem} {i : Int} {Q : Mem → Option PV → Prop} (hE : e_all K xq) (he : e_ext K 0 L f) (hr : ∀ j, -2147483648 ≤ f j ∧ f j ≤ 2147483647) (i0 : 0 ≤ i) (i1 : i + 6 ≤ L) (iL : (L : Int) ≤ 3072) (hL : LI M) (J : ∀ M' : Mem, LI M' → Tr l K 60 mL_law 996 [(0, (2, -2)), (1, (2, 0)), (2, (2, 120)), (3, (0, i))] [] M' Q) : Tr l K 60 mL_law 707 [(0, (2, -2)), (1, (2, 0)), (2, (2, 120)), (3, (0, i))] [] M Q := by
  obtain ⟨hI, hx, hm, ht, ha⟩ := hL
  refine Tr.aload_n (pc := 707) (i := 1) d_L_law_707 rfl rfl ?_
  refine Tr.aload_n (pc := 708) (i := 0) d_L_law_708 rfl rfl ?_
  refine Tr.iload_n (pc := 709) (i := 3) d_L_law_709 rfl rfl ?_
  refine Tr.iconst (pc := 710) d_L_law_710 (by decide) ?_
  refine Tr.iadd (pc := 711) d_L_law_711 ?_
  refine Tr.tp (i + 1) (w32_id (by omega)) ?_
  refine Tr.xld (pc := 712) (i := 0) d_L_law_712 rfl he (by omega) (by omega) ?_
  have JB721 : ∀ b721 : Int, 0 ≤ b721 ∧ b721 ≤ 1 → Tr l K 60 mL_law 721 [(0, (2, -2)), (1, (2, 0)), (2, (2, 120)), (3, (0, i))] [(0, b721), (2, 0)] M Q := by
    intro b721 hb721
    refine Tr.callV (pc := 721) (as := [_]) d_L_law_721 s_13_90 ok_X11_over rfl rfl (Nat.le_of_ble_eq_true rfl) (Nat.le_of_ble_eq_true rfl) (by decide) (ty_0 hI.1) ?_
    refine Tr.imp (xu_over hE hI hx b721 hb721) ?_
    rintro M1 _ ⟨hI1, hx1, f1, v1, rfl, z1⟩
    have hm1 := hm.fr f1
    have k1 := f1 120 1 (by decide) (by decide)
    have k2 := f1 120 113 (by decide) (by decide)
    refine Tr.sc [(0, v1)] rfl ?_
    refine Tr.pop (pc := 724) d_L_law_724 ne01 ?_
    refine Tr.aload_n (pc := 725) (i := 2) d_L_law_725 rfl rfl ?_
    refine Tr.aload_n (pc := 726) (i := 0) d_L_law_726 rfl rfl ?_
    refine Tr.iload_n (pc := 727) (i := 3) d_L_law_727 rfl rfl ?_
    refine Tr.iconst (pc := 728) d_L_law_728 (by decide) ?_
    refine Tr.iadd (pc := 729) d_L_law_729 ?_
    refine Tr.tp (i + 1) (w32_id (by omega)) ?_
    refine Tr.xld (pc := 730) (i := 0) d_L_law_730 rfl he (by omega) (by omega) ?_
    have JB739 : ∀ b739 : Int, 0 ≤ b739 ∧ b739 ≤ 1 → Tr l K 60 mL_law 739 [(0, (2, -2)), (1, (2, 0)), (2, (2, 120)), (3, (0, i))] [(0, b739), (2, 120)] M1 Q := by
      intro b739 hb739
      refine Tr.callV (pc := 739) (as := [_]) d_L_law_739 s_13_94 ok_X12_over rfl rfl (Nat.le_of_ble_eq_true rfl) (Nat.le_of_ble_eq_true rfl) (by decide) (ty_120 hI1.1) ?_
      refine Tr.imp (mu_over hI1 hm1 b739 hb739) ?_
      rintro M2 _ ⟨hI2, hm2, f2, v2, rfl, z2⟩
      have hx2 := hx1.fr hI1 f2
      have k3 := f2 0 1 (Or.inl (by decide))
      have k4 := f2 113 0 (Or.inl (by decide))
      refine Tr.sc [(0, v2)] rfl ?_
      refine Tr.pop (pc := 742) d_L_law_742 ne01 ?_
      refine Tr.goto (pc := 743) (tgt := 996) d_L_law_743 rfl ?_
      exact J _ ⟨hI2, hx2, hm2, by omega, by omega⟩
    refine Tr.if_eq (pc := 731) (tgt := 738) d_L_law_731 rfl (fun _ => ?_) (fun _ => ?_)
    · refine Tr.iconst (pc := 738) d_L_law_738 (by decide) ?_
      exact JB739 0 (by omega)
    · refine Tr.iconst (pc := 734) d_L_law_734 (by decide) ?_
      refine Tr.goto (pc := 735) (tgt := 739) d_L_law_735 rfl ?_
      exact JB739 1 (by omega)
  refine Tr.if_eq (pc := 713) (tgt := 720) d_L_law_713 rfl (fun _ => ?_) (fun _ => ?_)
  · refine Tr.iconst (pc := 720) d_L_law_720 (by decide) ?_
    exact JB721 0 (by omega)
  · refine Tr.iconst (pc := 716) d_L_law_716 (by decide) ?_
    refine Tr.goto (pc := 717) (tgt := 721) d_L_law_717 rfl ?_
    exact JB721 1 (by omega)

set_option maxRecDepth 100000 in
set_option maxHeartbeats 4000000 in
theorem lw_where {l : Launch} {K : EC} {f : Int → Int} {L : Nat} {xq : Int} {M : Mem} {i : Int} {Q : Mem → Option PV → Prop} (hE : e_all K xq) (he : e_ext K 0 L f) (hr : ∀ j, -2147483648 ≤ f j ∧ f j ≤ 2147483647) (i0 : 0 ≤ i) (i1 : i + 6 ≤ L) (iL : (L : Int) ≤ 3072) (hL : LI M) (J : ∀ M' : Mem, LI M' → Tr l K 60 mL_law 996 [(0, (2, -2)), (1, (2, 0)), (2, (2, 120)), (3, (0, i))] [] M' Q) : Tr l K 60 mL_law 746 [(0, (2, -2)), (1, (2, 0)), (2, (2, 120)), (3, (0, i))] [] M Q := by
  obtain ⟨hI, hx, hm, ht, ha⟩ := hL
  refine Tr.aload_n (pc := 746) (i := 1) d_L_law_746 rfl rfl ?_
  refine Tr.aload_n (pc := 747) (i := 0) d_L_law_747 rfl rfl ?_
  refine Tr.iload_n (pc := 748) (i := 3) d_L_law_748 rfl rfl ?_
  refine Tr.iconst (pc := 749) d_L_law_749 (by decide) ?_
  refine Tr.iadd (pc := 750) d_L_law_750 ?_
  refine Tr.tp (i + 1) (w32_id (by omega)) ?_
  refine Tr.xld (pc := 751) (i := 0) d_L_law_751 rfl he (by omega) (by omega) ?_
  refine Tr.callV (pc := 752) (as := [_]) d_L_law_752 s_13_95 ok_X11_where rfl rfl (Nat.le_of_ble_eq_true rfl) (Nat.le_of_ble_eq_true rfl) (by decide) (ty_0 hI.1) ?_
  refine Tr.imp (xu_where hE hI hx (f (i + 1)) (hr _)) ?_
  rintro M1 _ ⟨hI1, hx1, f1, v1, rfl, z1⟩
  have hm1 := hm.fr f1
  have k1 := f1 120 1 (by decide) (by decide)
  have k2 := f1 120 113 (by decide) (by decide)
  refine Tr.sc [(0, v1)] rfl ?_
  refine Tr.pop (pc := 755) d_L_law_755 ne01 ?_
  refine Tr.aload_n (pc := 756) (i := 2) d_L_law_756 rfl rfl ?_
  refine Tr.aload_n (pc := 757) (i := 0) d_L_law_757 rfl rfl ?_
  refine Tr.iload_n (pc := 758) (i := 3) d_L_law_758 rfl rfl ?_
  refine Tr.iconst (pc := 759) d_L_law_759 (by decide) ?_
  refine Tr.iadd (pc := 760) d_L_law_760 ?_
  refine Tr.tp (i + 1) (w32_id (by omega)) ?_
  refine Tr.xld (pc := 761) (i := 0) d_L_law_761 rfl he (by omega) (by omega) ?_
  refine Tr.callV (pc := 762) (as := [_]) d_L_law_762 s_13_98 ok_X12_where rfl rfl (Nat.le_of_ble_eq_true rfl) (Nat.le_of_ble_eq_true rfl) (by decide) (ty_120 hI1.1) ?_
  refine Tr.imp (mu_where hI1 hm1 (f (i + 1)) (hr _)) ?_
  rintro M2 _ ⟨hI2, hm2, f2, v2, rfl, z2⟩
  have hx2 := hx1.fr hI1 f2
  have k3 := f2 0 1 (Or.inl (by decide))
  have k4 := f2 113 0 (Or.inl (by decide))
  refine Tr.sc [(0, v2)] rfl ?_
  refine Tr.pop (pc := 765) d_L_law_765 ne01 ?_
  refine Tr.goto (pc := 766) (tgt := 996) d_L_law_766 rfl ?_
  exact J _ ⟨hI2, hx2, hm2, by omega, by omega⟩

set_option maxRecDepth 100000 in
set_option maxHeartbeats 4000000 in
theorem lw_measure {l : Launch} {K : EC} {f : Int → Int} {L : Nat} {xq : Int} {M : Mem} {i : Int} {Q : Mem → Option PV → Prop} (hE : e_all K xq) (he : e_ext K 0 L f) (hr : ∀ j, -2147483648 ≤ f j ∧ f j ≤ 2147483647) (i0 : 0 ≤ i) (i1 : i + 6 ≤ L) (iL : (L : Int) ≤ 3072) (hL : LI M) (J : ∀ M' : Mem, LI M' → Tr l K 60 mL_law 996 [(0, (2, -2)), (1, (2, 0)), (2, (2, 120)), (3, (0, i))] [] M' Q) : Tr l K 60 mL_law 769 [(0, (2, -2)), (1, (2, 0)), (2, (2, 120)), (3, (0, i))] [] M Q := by
  obtain ⟨hI, hx, hm, ht, ha⟩ := hL
  refine Tr.aload_n (pc := 769) (i := 1) d_L_law_769 rfl rfl ?_
  refine Tr.aload_n (pc := 770) (i := 0) d_L_law_770 rfl rfl ?_
  refine Tr.iload_n (pc := 771) (i := 3) d_L_law_771 rfl rfl ?_
  refine Tr.iconst (pc := 772) d_L_law_772 (by decide) ?_
  refine Tr.iadd (pc := 773) d_L_law_773 ?_
  refine Tr.tp (i + 1) (w32_id (by omega)) ?_
  refine Tr.xld (pc := 774) (i := 0) d_L_law_774 rfl he (by omega) (by omega) ?_
  refine Tr.callV (pc := 775) (as := [_]) d_L_law_775 s_13_99 ok_X11_measure rfl rfl (Nat.le_of_ble_eq_true rfl) (Nat.le_of_ble_eq_true rfl) (by decide) (ty_0 hI.1) ?_
  refine Tr.imp (xu_measure hE hI hx (f (i + 1)) (hr _)) ?_
  rintro M1 _ ⟨hI1, hx1, f1, v1, rfl, z1⟩
  have hm1 := hm.fr f1
  have k1 := f1 120 1 (by decide) (by decide)
  have k2 := f1 120 113 (by decide) (by decide)
  refine Tr.sc [(0, v1)] rfl ?_
  refine Tr.pop (pc := 778) d_L_law_778 ne01 ?_
  refine Tr.aload_n (pc := 779) (i := 2) d_L_law_779 rfl rfl ?_
  refine Tr.aload_n (pc := 780) (i := 0) d_L_law_780 rfl rfl ?_
  refine Tr.iload_n (pc := 781) (i := 3) d_L_law_781 rfl rfl ?_
  refine Tr.iconst (pc := 782) d_L_law_782 (by decide) ?_
  refine Tr.iadd (pc := 783) d_L_law_783 ?_
  refine Tr.tp (i + 1) (w32_id (by omega)) ?_
  refine Tr.xld (pc := 784) (i := 0) d_L_law_784 rfl he (by omega) (by omega) ?_
  refine Tr.callV (pc := 785) (as := [_]) d_L_law_785 s_13_102 ok_X12_measure rfl rfl (Nat.le_of_ble_eq_true rfl) (Nat.le_of_ble_eq_true rfl) (by decide) (ty_120 hI1.1) ?_
  refine Tr.imp (mu_measure hI1 hm1 (f (i + 1)) (hr _)) ?_
  rintro M2 _ ⟨hI2, hm2, f2, v2, rfl, z2⟩
  have hx2 := hx1.fr hI1 f2
  have k3 := f2 0 1 (Or.inl (by decide))
  have k4 := f2 113 0 (Or.inl (by decide))
  refine Tr.sc [(0, v2)] rfl ?_
  refine Tr.pop (pc := 788) d_L_law_788 ne01 ?_
  refine Tr.goto (pc := 789) (tgt := 996) d_L_law_789 rfl ?_
  exact J _ ⟨hI2, hx2, hm2, by omega, by omega⟩

set_option maxRecDepth 100000 in
set_option maxHeartbeats 4000000 in
theorem lw_fit {l : Launch} {K : EC} {f : Int → Int} {L : Nat} {xq : Int} {M : Mem} {i : Int} {Q : Mem → Option PV → Prop} (hE : e_all K xq) (he : e_ext K 0 L f) (hr : ∀ j, -2147483648 ≤ f j ∧ f j ≤ 2147483647) (i0 : 0 ≤ i) (i1 : i + 6 ≤ L) (iL : (L : Int) ≤ 3072) (hL : LI M) (J : ∀ M' : Mem, LI M' → Tr l K 60 mL_law 996 [(0, (2, -2)), (1, (2, 0)), (2, (2, 120)), (3, (0, i))] [] M' Q) : Tr l K 60 mL_law 792 [(0, (2, -2)), (1, (2, 0)), (2, (2, 120)), (3, (0, i))] [] M Q := by
  obtain ⟨hI, hx, hm, ht, ha⟩ := hL
  refine Tr.aload_n (pc := 792) (i := 1) d_L_law_792 rfl rfl ?_
  refine Tr.aload_n (pc := 793) (i := 0) d_L_law_793 rfl rfl ?_
  refine Tr.iload_n (pc := 794) (i := 3) d_L_law_794 rfl rfl ?_
  refine Tr.iconst (pc := 795) d_L_law_795 (by decide) ?_
  refine Tr.iadd (pc := 796) d_L_law_796 ?_
  refine Tr.tp (i + 1) (w32_id (by omega)) ?_
  refine Tr.xld (pc := 797) (i := 0) d_L_law_797 rfl he (by omega) (by omega) ?_
  refine Tr.callV (pc := 798) (as := [_]) d_L_law_798 s_13_103 ok_X11_fit rfl rfl (Nat.le_of_ble_eq_true rfl) (Nat.le_of_ble_eq_true rfl) (by decide) (ty_0 hI.1) ?_
  refine Tr.imp (xu_fit hE hI hx (f (i + 1)) (hr _)) ?_
  rintro M1 _ ⟨hI1, hx1, f1, v1, rfl, z1⟩
  have hm1 := hm.fr f1
  have k1 := f1 120 1 (by decide) (by decide)
  have k2 := f1 120 113 (by decide) (by decide)
  refine Tr.sc [(0, v1)] rfl ?_
  refine Tr.pop (pc := 801) d_L_law_801 ne01 ?_
  refine Tr.aload_n (pc := 802) (i := 2) d_L_law_802 rfl rfl ?_
  refine Tr.aload_n (pc := 803) (i := 0) d_L_law_803 rfl rfl ?_
  refine Tr.iload_n (pc := 804) (i := 3) d_L_law_804 rfl rfl ?_
  refine Tr.iconst (pc := 805) d_L_law_805 (by decide) ?_
  refine Tr.iadd (pc := 806) d_L_law_806 ?_
  refine Tr.tp (i + 1) (w32_id (by omega)) ?_
  refine Tr.xld (pc := 807) (i := 0) d_L_law_807 rfl he (by omega) (by omega) ?_
  refine Tr.callV (pc := 808) (as := [_]) d_L_law_808 s_13_106 ok_X12_fit rfl rfl (Nat.le_of_ble_eq_true rfl) (Nat.le_of_ble_eq_true rfl) (by decide) (ty_120 hI1.1) ?_
  refine Tr.imp (mu_fit hI1 hm1 (f (i + 1)) (hr _)) ?_
  rintro M2 _ ⟨hI2, hm2, f2, v2, rfl, z2⟩
  have hx2 := hx1.fr hI1 f2
  have k3 := f2 0 1 (Or.inl (by decide))
  have k4 := f2 113 0 (Or.inl (by decide))
  refine Tr.sc [(0, v2)] rfl ?_
  refine Tr.pop (pc := 811) d_L_law_811 ne01 ?_
  refine Tr.goto (pc := 812) (tgt := 996) d_L_law_812 rfl ?_
  exact J _ ⟨hI2, hx2, hm2, by omega, by omega⟩

set_option maxRecDepth 100000 in
set_option maxHeartbeats 4000000 in
theorem lw_fitted {l : Launch} {K : EC} {f : Int → Int} {L : Nat} {xq : Int} {M : Mem} {i : Int} {Q : Mem → Option PV → Prop} (hE : e_all K xq) (he : e_ext K 0 L f) (hr : ∀ j, -2147483648 ≤ f j ∧ f j ≤ 2147483647) (i0 : 0 ≤ i) (i1 : i + 6 ≤ L) (iL : (L : Int) ≤ 3072) (hL : LI M) (J : ∀ M' : Mem, LI M' → Tr l K 60 mL_law 996 [(0, (2, -2)), (1, (2, 0)), (2, (2, 120)), (3, (0, i))] [] M' Q) : Tr l K 60 mL_law 815 [(0, (2, -2)), (1, (2, 0)), (2, (2, 120)), (3, (0, i))] [] M Q := by
  obtain ⟨hI, hx, hm, ht, ha⟩ := hL
  refine Tr.aload_n (pc := 815) (i := 1) d_L_law_815 rfl rfl ?_
  refine Tr.aload_n (pc := 816) (i := 0) d_L_law_816 rfl rfl ?_
  refine Tr.iload_n (pc := 817) (i := 3) d_L_law_817 rfl rfl ?_
  refine Tr.iconst (pc := 818) d_L_law_818 (by decide) ?_
  refine Tr.iadd (pc := 819) d_L_law_819 ?_
  refine Tr.tp (i + 1) (w32_id (by omega)) ?_
  refine Tr.xld (pc := 820) (i := 0) d_L_law_820 rfl he (by omega) (by omega) ?_
  refine Tr.callV (pc := 821) (as := [_]) d_L_law_821 s_13_107 ok_X11_fitted rfl rfl (Nat.le_of_ble_eq_true rfl) (Nat.le_of_ble_eq_true rfl) (by decide) (ty_0 hI.1) ?_
  refine Tr.imp (xu_fitted hE hI hx (f (i + 1)) (hr _)) ?_
  rintro M1 _ ⟨hI1, hx1, f1, v1, rfl, z1⟩
  have hm1 := hm.fr f1
  have k1 := f1 120 1 (by decide) (by decide)
  have k2 := f1 120 113 (by decide) (by decide)
  refine Tr.sc [(0, v1)] rfl ?_
  refine Tr.pop (pc := 824) d_L_law_824 ne01 ?_
  refine Tr.aload_n (pc := 825) (i := 2) d_L_law_825 rfl rfl ?_
  refine Tr.aload_n (pc := 826) (i := 0) d_L_law_826 rfl rfl ?_
  refine Tr.iload_n (pc := 827) (i := 3) d_L_law_827 rfl rfl ?_
  refine Tr.iconst (pc := 828) d_L_law_828 (by decide) ?_
  refine Tr.iadd (pc := 829) d_L_law_829 ?_
  refine Tr.tp (i + 1) (w32_id (by omega)) ?_
  refine Tr.xld (pc := 830) (i := 0) d_L_law_830 rfl he (by omega) (by omega) ?_
  refine Tr.callV (pc := 831) (as := [_]) d_L_law_831 s_13_110 ok_X12_fitted rfl rfl (Nat.le_of_ble_eq_true rfl) (Nat.le_of_ble_eq_true rfl) (by decide) (ty_120 hI1.1) ?_
  refine Tr.imp (mu_fitted hI1 hm1 (f (i + 1)) (hr _)) ?_
  rintro M2 _ ⟨hI2, hm2, f2, v2, rfl, z2⟩
  have hx2 := hx1.fr hI1 f2
  have k3 := f2 0 1 (Or.inl (by decide))
  have k4 := f2 113 0 (Or.inl (by decide))
  refine Tr.sc [(0, v2)] rfl ?_
  refine Tr.pop (pc := 834) d_L_law_834 ne01 ?_
  refine Tr.goto (pc := 835) (tgt := 996) d_L_law_835 rfl ?_
  exact J _ ⟨hI2, hx2, hm2, by omega, by omega⟩

set_option maxRecDepth 100000 in
set_option maxHeartbeats 4000000 in
theorem lw_ask {l : Launch} {K : EC} {f : Int → Int} {L : Nat} {xq : Int} {M : Mem} {i : Int} {Q : Mem → Option PV → Prop} (hE : e_all K xq) (he : e_ext K 0 L f) (hr : ∀ j, -2147483648 ≤ f j ∧ f j ≤ 2147483647) (i0 : 0 ≤ i) (i1 : i + 6 ≤ L) (iL : (L : Int) ≤ 3072) (hL : LI M) (J : ∀ M' : Mem, LI M' → Tr l K 60 mL_law 996 [(0, (2, -2)), (1, (2, 0)), (2, (2, 120)), (3, (0, i))] [] M' Q) : Tr l K 60 mL_law 838 [(0, (2, -2)), (1, (2, 0)), (2, (2, 120)), (3, (0, i))] [] M Q := by
  obtain ⟨hI, hx, hm, ht, ha⟩ := hL
  refine Tr.aload_n (pc := 838) (i := 1) d_L_law_838 rfl rfl ?_
  refine Tr.aload_n (pc := 839) (i := 0) d_L_law_839 rfl rfl ?_
  refine Tr.iload_n (pc := 840) (i := 3) d_L_law_840 rfl rfl ?_
  refine Tr.iconst (pc := 841) d_L_law_841 (by decide) ?_
  refine Tr.iadd (pc := 842) d_L_law_842 ?_
  refine Tr.tp (i + 1) (w32_id (by omega)) ?_
  refine Tr.xld (pc := 843) (i := 0) d_L_law_843 rfl he (by omega) (by omega) ?_
  refine Tr.aload_n (pc := 844) (i := 0) d_L_law_844 rfl rfl ?_
  refine Tr.iload_n (pc := 845) (i := 3) d_L_law_845 rfl rfl ?_
  refine Tr.iconst (pc := 846) d_L_law_846 (by decide) ?_
  refine Tr.iadd (pc := 847) d_L_law_847 ?_
  refine Tr.tp (i + 2) (w32_id (by omega)) ?_
  refine Tr.xld (pc := 848) (i := 0) d_L_law_848 rfl he (by omega) (by omega) ?_
  refine Tr.aload_n (pc := 849) (i := 0) d_L_law_849 rfl rfl ?_
  refine Tr.iload_n (pc := 850) (i := 3) d_L_law_850 rfl rfl ?_
  refine Tr.iconst (pc := 851) d_L_law_851 (by decide) ?_
  refine Tr.iadd (pc := 852) d_L_law_852 ?_
  refine Tr.tp (i + 3) (w32_id (by omega)) ?_
  refine Tr.xld (pc := 853) (i := 0) d_L_law_853 rfl he (by omega) (by omega) ?_
  refine Tr.callV (pc := 854) (as := [_, _, _]) d_L_law_854 s_13_111 ok_X11_ask rfl rfl (Nat.le_of_ble_eq_true rfl) (Nat.le_of_ble_eq_true rfl) (by decide) (ty_0 hI.1) ?_
  refine Tr.imp (xu_ask hE hI hx (f (i + 1)) (hr _) (f (i + 2)) (hr _) (f (i + 3)) (hr _)) ?_
  rintro M1 _ ⟨hI1, hx1, f1, v1, rfl, z1⟩
  have hm1 := hm.fr f1
  have k1 := f1 120 1 (by decide) (by decide)
  have k2 := f1 120 113 (by decide) (by decide)
  refine Tr.sc [(0, v1)] rfl ?_
  refine Tr.pop (pc := 857) d_L_law_857 ne01 ?_
  refine Tr.aload_n (pc := 858) (i := 2) d_L_law_858 rfl rfl ?_
  refine Tr.aload_n (pc := 859) (i := 0) d_L_law_859 rfl rfl ?_
  refine Tr.iload_n (pc := 860) (i := 3) d_L_law_860 rfl rfl ?_
  refine Tr.iconst (pc := 861) d_L_law_861 (by decide) ?_
  refine Tr.iadd (pc := 862) d_L_law_862 ?_
  refine Tr.tp (i + 1) (w32_id (by omega)) ?_
  refine Tr.xld (pc := 863) (i := 0) d_L_law_863 rfl he (by omega) (by omega) ?_
  refine Tr.aload_n (pc := 864) (i := 0) d_L_law_864 rfl rfl ?_
  refine Tr.iload_n (pc := 865) (i := 3) d_L_law_865 rfl rfl ?_
  refine Tr.iconst (pc := 866) d_L_law_866 (by decide) ?_
  refine Tr.iadd (pc := 867) d_L_law_867 ?_
  refine Tr.tp (i + 2) (w32_id (by omega)) ?_
  refine Tr.xld (pc := 868) (i := 0) d_L_law_868 rfl he (by omega) (by omega) ?_
  refine Tr.aload_n (pc := 869) (i := 0) d_L_law_869 rfl rfl ?_
  refine Tr.iload_n (pc := 870) (i := 3) d_L_law_870 rfl rfl ?_
  refine Tr.iconst (pc := 871) d_L_law_871 (by decide) ?_
  refine Tr.iadd (pc := 872) d_L_law_872 ?_
  refine Tr.tp (i + 3) (w32_id (by omega)) ?_
  refine Tr.xld (pc := 873) (i := 0) d_L_law_873 rfl he (by omega) (by omega) ?_
  refine Tr.callV (pc := 874) (as := [_, _, _]) d_L_law_874 s_13_114 ok_X12_ask rfl rfl (Nat.le_of_ble_eq_true rfl) (Nat.le_of_ble_eq_true rfl) (by decide) (ty_120 hI1.1) ?_
  refine Tr.imp (mu_ask hI1 hm1 (f (i + 1)) (hr _) (f (i + 2)) (hr _) (f (i + 3)) (hr _)) ?_
  rintro M2 _ ⟨hI2, hm2, f2, v2, rfl, z2⟩
  have hx2 := hx1.fr hI1 f2
  have k3 := f2 0 1 (Or.inl (by decide))
  have k4 := f2 113 0 (Or.inl (by decide))
  refine Tr.sc [(0, v2)] rfl ?_
  refine Tr.pop (pc := 877) d_L_law_877 ne01 ?_
  refine Tr.goto (pc := 878) (tgt := 996) d_L_law_878 rfl ?_
  exact J _ ⟨hI2, hx2, hm2, by omega, by omega⟩

set_option maxRecDepth 100000 in
set_option maxHeartbeats 4000000 in
theorem lw_forget {l : Launch} {K : EC} {f : Int → Int} {L : Nat} {xq : Int} {M : Mem} {i : Int} {Q : Mem → Option PV → Prop} (hE : e_all K xq) (he : e_ext K 0 L f) (hr : ∀ j, -2147483648 ≤ f j ∧ f j ≤ 2147483647) (i0 : 0 ≤ i) (i1 : i + 6 ≤ L) (iL : (L : Int) ≤ 3072) (hL : LI M) (J : ∀ M' : Mem, LI M' → Tr l K 60 mL_law 996 [(0, (2, -2)), (1, (2, 0)), (2, (2, 120)), (3, (0, i))] [] M' Q) : Tr l K 60 mL_law 881 [(0, (2, -2)), (1, (2, 0)), (2, (2, 120)), (3, (0, i))] [] M Q := by
  obtain ⟨hI, hx, hm, ht, ha⟩ := hL
  refine Tr.aload_n (pc := 881) (i := 1) d_L_law_881 rfl rfl ?_
  refine Tr.callV (pc := 882) (as := []) d_L_law_882 s_13_115 ok_X11_forget rfl rfl (Nat.le_of_ble_eq_true rfl) (Nat.le_of_ble_eq_true rfl) (by decide) (ty_0 hI.1) ?_
  refine Tr.imp (xu_forget hE hI hx ) ?_
  rintro M1 _ ⟨hI1, hx1, f1, v1, rfl, z1⟩
  have hm1 := hm.fr f1
  have k1 := f1 120 1 (by decide) (by decide)
  have k2 := f1 120 113 (by decide) (by decide)
  refine Tr.sc [(0, v1)] rfl ?_
  refine Tr.aload_n (pc := 885) (i := 2) d_L_law_885 rfl rfl ?_
  refine Tr.callV (pc := 886) (as := []) d_L_law_886 s_13_118 ok_X12_forget rfl rfl (Nat.le_of_ble_eq_true rfl) (Nat.le_of_ble_eq_true rfl) (by decide) (ty_120 hI1.1) ?_
  refine Tr.imp (mu_forget hI1 hm1 ) ?_
  rintro M2 _ ⟨hI2, hm2, f2, v2, rfl, z2⟩
  have hx2 := hx1.fr hI1 f2
  have k3 := f2 0 1 (Or.inl (by decide))
  have k4 := f2 113 0 (Or.inl (by decide))
  refine Tr.sc [(0, v2), (0, v1)] rfl ?_
  refine Tr.icmp_eq (pc := 889) (tgt := 996) d_L_law_889 rfl (fun _ => ?_) (fun hc => absurd (show v1 = v2 by omega) hc)
  exact J _ ⟨hI2, hx2, hm2, by omega, by omega⟩

set_option maxRecDepth 100000 in
set_option maxHeartbeats 4000000 in
theorem lw_together {l : Launch} {K : EC} {f : Int → Int} {L : Nat} {xq : Int} {M : Mem} {i : Int} {Q : Mem → Option PV → Prop} (hE : e_all K xq) (he : e_ext K 0 L f) (hr : ∀ j, -2147483648 ≤ f j ∧ f j ≤ 2147483647) (i0 : 0 ≤ i) (i1 : i + 6 ≤ L) (iL : (L : Int) ≤ 3072) (hL : LI M) (J : ∀ M' : Mem, LI M' → Tr l K 60 mL_law 996 [(0, (2, -2)), (1, (2, 0)), (2, (2, 120)), (3, (0, i))] [] M' Q) : Tr l K 60 mL_law 894 [(0, (2, -2)), (1, (2, 0)), (2, (2, 120)), (3, (0, i))] [] M Q := by
  obtain ⟨hI, hx, hm, ht, ha⟩ := hL
  refine Tr.aload_n (pc := 894) (i := 1) d_L_law_894 rfl rfl ?_
  refine Tr.aload_n (pc := 895) (i := 0) d_L_law_895 rfl rfl ?_
  refine Tr.iload_n (pc := 896) (i := 3) d_L_law_896 rfl rfl ?_
  refine Tr.iconst (pc := 897) d_L_law_897 (by decide) ?_
  refine Tr.iadd (pc := 898) d_L_law_898 ?_
  refine Tr.tp (i + 1) (w32_id (by omega)) ?_
  refine Tr.xld (pc := 899) (i := 0) d_L_law_899 rfl he (by omega) (by omega) ?_
  refine Tr.callV (pc := 900) (as := [_]) d_L_law_900 s_13_119 ok_X11_together rfl rfl (Nat.le_of_ble_eq_true rfl) (Nat.le_of_ble_eq_true rfl) (by decide) (ty_0 hI.1) ?_
  refine Tr.imp (xu_together hE hI hx (f (i + 1)) (hr _)) ?_
  rintro M1 _ ⟨hI1, hx1, f1, v1, rfl, z1⟩
  have hm1 := hm.fr f1
  have k1 := f1 120 1 (by decide) (by decide)
  have k2 := f1 120 113 (by decide) (by decide)
  refine Tr.sc [(0, v1)] rfl ?_
  refine Tr.pop (pc := 903) d_L_law_903 ne01 ?_
  refine Tr.aload_n (pc := 904) (i := 2) d_L_law_904 rfl rfl ?_
  refine Tr.aload_n (pc := 905) (i := 0) d_L_law_905 rfl rfl ?_
  refine Tr.iload_n (pc := 906) (i := 3) d_L_law_906 rfl rfl ?_
  refine Tr.iconst (pc := 907) d_L_law_907 (by decide) ?_
  refine Tr.iadd (pc := 908) d_L_law_908 ?_
  refine Tr.tp (i + 1) (w32_id (by omega)) ?_
  refine Tr.xld (pc := 909) (i := 0) d_L_law_909 rfl he (by omega) (by omega) ?_
  refine Tr.callV (pc := 910) (as := [_]) d_L_law_910 s_13_122 ok_X12_together rfl rfl (Nat.le_of_ble_eq_true rfl) (Nat.le_of_ble_eq_true rfl) (by decide) (ty_120 hI1.1) ?_
  refine Tr.imp (mu_together hI1 hm1 (f (i + 1)) (hr _)) ?_
  rintro M2 _ ⟨hI2, hm2, f2, v2, rfl, z2⟩
  have hx2 := hx1.fr hI1 f2
  have k3 := f2 0 1 (Or.inl (by decide))
  have k4 := f2 113 0 (Or.inl (by decide))
  refine Tr.sc [(0, v2)] rfl ?_
  refine Tr.pop (pc := 913) d_L_law_913 ne01 ?_
  refine Tr.goto (pc := 914) (tgt := 996) d_L_law_914 rfl ?_
  exact J _ ⟨hI2, hx2, hm2, by omega, by omega⟩

set_option maxRecDepth 100000 in
set_option maxHeartbeats 4000000 in
theorem lw_later {l : Launch} {K : EC} {f : Int → Int} {L : Nat} {xq : Int} {M : Mem} {i : Int} {Q : Mem → Option PV → Prop} (hE : e_all K xq) (he : e_ext K 0 L f) (hr : ∀ j, -2147483648 ≤ f j ∧ f j ≤ 2147483647) (i0 : 0 ≤ i) (i1 : i + 6 ≤ L) (iL : (L : Int) ≤ 3072) (hL : LI M) (J : ∀ M' : Mem, LI M' → Tr l K 60 mL_law 996 [(0, (2, -2)), (1, (2, 0)), (2, (2, 120)), (3, (0, i))] [] M' Q) : Tr l K 60 mL_law 917 [(0, (2, -2)), (1, (2, 0)), (2, (2, 120)), (3, (0, i))] [] M Q := by
  obtain ⟨hI, hx, hm, ht, ha⟩ := hL
  refine Tr.aload_n (pc := 917) (i := 1) d_L_law_917 rfl rfl ?_
  refine Tr.aload_n (pc := 918) (i := 0) d_L_law_918 rfl rfl ?_
  refine Tr.iload_n (pc := 919) (i := 3) d_L_law_919 rfl rfl ?_
  refine Tr.iconst (pc := 920) d_L_law_920 (by decide) ?_
  refine Tr.iadd (pc := 921) d_L_law_921 ?_
  refine Tr.tp (i + 1) (w32_id (by omega)) ?_
  refine Tr.xld (pc := 922) (i := 0) d_L_law_922 rfl he (by omega) (by omega) ?_
  refine Tr.callV (pc := 923) (as := [_]) d_L_law_923 s_13_123 ok_X11_later rfl rfl (Nat.le_of_ble_eq_true rfl) (Nat.le_of_ble_eq_true rfl) (by decide) (ty_0 hI.1) ?_
  refine Tr.imp (xu_later hE hI hx (f (i + 1)) (hr _)) ?_
  rintro M1 _ ⟨hI1, hx1, f1, v1, rfl, z1⟩
  have hm1 := hm.fr f1
  have k1 := f1 120 1 (by decide) (by decide)
  have k2 := f1 120 113 (by decide) (by decide)
  refine Tr.sc [(0, v1)] rfl ?_
  refine Tr.pop (pc := 926) d_L_law_926 ne01 ?_
  refine Tr.aload_n (pc := 927) (i := 2) d_L_law_927 rfl rfl ?_
  refine Tr.aload_n (pc := 928) (i := 0) d_L_law_928 rfl rfl ?_
  refine Tr.iload_n (pc := 929) (i := 3) d_L_law_929 rfl rfl ?_
  refine Tr.iconst (pc := 930) d_L_law_930 (by decide) ?_
  refine Tr.iadd (pc := 931) d_L_law_931 ?_
  refine Tr.tp (i + 1) (w32_id (by omega)) ?_
  refine Tr.xld (pc := 932) (i := 0) d_L_law_932 rfl he (by omega) (by omega) ?_
  refine Tr.callV (pc := 933) (as := [_]) d_L_law_933 s_13_126 ok_X12_later rfl rfl (Nat.le_of_ble_eq_true rfl) (Nat.le_of_ble_eq_true rfl) (by decide) (ty_120 hI1.1) ?_
  refine Tr.imp (mu_later hI1 hm1 (f (i + 1)) (hr _)) ?_
  rintro M2 _ ⟨hI2, hm2, f2, v2, rfl, z2⟩
  have hx2 := hx1.fr hI1 f2
  have k3 := f2 0 1 (Or.inl (by decide))
  have k4 := f2 113 0 (Or.inl (by decide))
  refine Tr.sc [(0, v2)] rfl ?_
  refine Tr.pop (pc := 936) d_L_law_936 ne01 ?_
  refine Tr.goto (pc := 937) (tgt := 996) d_L_law_937 rfl ?_
  exact J _ ⟨hI2, hx2, hm2, by omega, by omega⟩

set_option maxRecDepth 100000 in
set_option maxHeartbeats 4000000 in
theorem lw_never {l : Launch} {K : EC} {f : Int → Int} {L : Nat} {xq : Int} {M : Mem} {i : Int} {Q : Mem → Option PV → Prop} (hE : e_all K xq) (he : e_ext K 0 L f) (hr : ∀ j, -2147483648 ≤ f j ∧ f j ≤ 2147483647) (i0 : 0 ≤ i) (i1 : i + 6 ≤ L) (iL : (L : Int) ≤ 3072) (hL : LI M) (J : ∀ M' : Mem, LI M' → Tr l K 60 mL_law 996 [(0, (2, -2)), (1, (2, 0)), (2, (2, 120)), (3, (0, i))] [] M' Q) : Tr l K 60 mL_law 940 [(0, (2, -2)), (1, (2, 0)), (2, (2, 120)), (3, (0, i))] [] M Q := by
  obtain ⟨hI, hx, hm, ht, ha⟩ := hL
  refine Tr.aload_n (pc := 940) (i := 1) d_L_law_940 rfl rfl ?_
  refine Tr.callV (pc := 941) (as := []) d_L_law_941 s_13_127 ok_X11_never rfl rfl (Nat.le_of_ble_eq_true rfl) (Nat.le_of_ble_eq_true rfl) (by decide) (ty_0 hI.1) ?_
  refine Tr.imp (xu_never hE hI hx ) ?_
  rintro M1 _ ⟨hI1, hx1, f1, v1, rfl, z1⟩
  have hm1 := hm.fr f1
  have k1 := f1 120 1 (by decide) (by decide)
  have k2 := f1 120 113 (by decide) (by decide)
  refine Tr.sc [(0, v1)] rfl ?_
  refine Tr.pop (pc := 944) d_L_law_944 ne01 ?_
  refine Tr.aload_n (pc := 945) (i := 2) d_L_law_945 rfl rfl ?_
  refine Tr.callV (pc := 946) (as := []) d_L_law_946 s_13_130 ok_X12_never rfl rfl (Nat.le_of_ble_eq_true rfl) (Nat.le_of_ble_eq_true rfl) (by decide) (ty_120 hI1.1) ?_
  refine Tr.imp (mu_never hI1 hm1 ) ?_
  rintro M2 _ ⟨hI2, hm2, f2, v2, rfl, z2⟩
  have hx2 := hx1.fr hI1 f2
  have k3 := f2 0 1 (Or.inl (by decide))
  have k4 := f2 113 0 (Or.inl (by decide))
  refine Tr.sc [(0, v2)] rfl ?_
  refine Tr.pop (pc := 949) d_L_law_949 ne01 ?_
  refine Tr.goto (pc := 950) (tgt := 996) d_L_law_950 rfl ?_
  exact J _ ⟨hI2, hx2, hm2, by omega, by omega⟩

set_option maxRecDepth 100000 in
set_option maxHeartbeats 4000000 in
theorem lw_lasts {l : Launch} {K : EC} {f : Int → Int} {L : Nat} {xq : Int} {M : Mem} {i : Int} {Q : Mem → Option PV → Prop} (hE : e_all K xq) (he : e_ext K 0 L f) (hr : ∀ j, -2147483648 ≤ f j ∧ f j ≤ 2147483647) (i0 : 0 ≤ i) (i1 : i + 6 ≤ L) (iL : (L : Int) ≤ 3072) (hL : LI M) (J : ∀ M' : Mem, LI M' → Tr l K 60 mL_law 996 [(0, (2, -2)), (1, (2, 0)), (2, (2, 120)), (3, (0, i))] [] M' Q) : Tr l K 60 mL_law 953 [(0, (2, -2)), (1, (2, 0)), (2, (2, 120)), (3, (0, i))] [] M Q := by
  obtain ⟨hI, hx, hm, ht, ha⟩ := hL
  refine Tr.aload_n (pc := 953) (i := 1) d_L_law_953 rfl rfl ?_
  refine Tr.aload_n (pc := 954) (i := 0) d_L_law_954 rfl rfl ?_
  refine Tr.iload_n (pc := 955) (i := 3) d_L_law_955 rfl rfl ?_
  refine Tr.iconst (pc := 956) d_L_law_956 (by decide) ?_
  refine Tr.iadd (pc := 957) d_L_law_957 ?_
  refine Tr.tp (i + 1) (w32_id (by omega)) ?_
  refine Tr.xld (pc := 958) (i := 0) d_L_law_958 rfl he (by omega) (by omega) ?_
  refine Tr.aload_n (pc := 959) (i := 0) d_L_law_959 rfl rfl ?_
  refine Tr.iload_n (pc := 960) (i := 3) d_L_law_960 rfl rfl ?_
  refine Tr.iconst (pc := 961) d_L_law_961 (by decide) ?_
  refine Tr.iadd (pc := 962) d_L_law_962 ?_
  refine Tr.tp (i + 2) (w32_id (by omega)) ?_
  refine Tr.xld (pc := 963) (i := 0) d_L_law_963 rfl he (by omega) (by omega) ?_
  refine Tr.aload_n (pc := 964) (i := 0) d_L_law_964 rfl rfl ?_
  refine Tr.iload_n (pc := 965) (i := 3) d_L_law_965 rfl rfl ?_
  refine Tr.iconst (pc := 966) d_L_law_966 (by decide) ?_
  refine Tr.iadd (pc := 967) d_L_law_967 ?_
  refine Tr.tp (i + 3) (w32_id (by omega)) ?_
  refine Tr.xld (pc := 968) (i := 0) d_L_law_968 rfl he (by omega) (by omega) ?_
  refine Tr.callV (pc := 969) (as := [_, _, _]) d_L_law_969 s_13_131 ok_X11_lasts rfl rfl (Nat.le_of_ble_eq_true rfl) (Nat.le_of_ble_eq_true rfl) (by decide) (ty_0 hI.1) ?_
  refine Tr.imp (xu_lasts hE hI hx (f (i + 1)) (hr _) (f (i + 2)) (hr _) (f (i + 3)) (hr _)) ?_
  rintro M1 _ ⟨hI1, hx1, f1, v1, rfl, z1⟩
  have hm1 := hm.fr f1
  have k1 := f1 120 1 (by decide) (by decide)
  have k2 := f1 120 113 (by decide) (by decide)
  refine Tr.sc [(0, v1)] rfl ?_
  refine Tr.pop (pc := 972) d_L_law_972 ne01 ?_
  refine Tr.aload_n (pc := 973) (i := 2) d_L_law_973 rfl rfl ?_
  refine Tr.aload_n (pc := 974) (i := 0) d_L_law_974 rfl rfl ?_
  refine Tr.iload_n (pc := 975) (i := 3) d_L_law_975 rfl rfl ?_
  refine Tr.iconst (pc := 976) d_L_law_976 (by decide) ?_
  refine Tr.iadd (pc := 977) d_L_law_977 ?_
  refine Tr.tp (i + 1) (w32_id (by omega)) ?_
  refine Tr.xld (pc := 978) (i := 0) d_L_law_978 rfl he (by omega) (by omega) ?_
  refine Tr.aload_n (pc := 979) (i := 0) d_L_law_979 rfl rfl ?_
  refine Tr.iload_n (pc := 980) (i := 3) d_L_law_980 rfl rfl ?_
  refine Tr.iconst (pc := 981) d_L_law_981 (by decide) ?_
  refine Tr.iadd (pc := 982) d_L_law_982 ?_
  refine Tr.tp (i + 2) (w32_id (by omega)) ?_
  refine Tr.xld (pc := 983) (i := 0) d_L_law_983 rfl he (by omega) (by omega) ?_
  refine Tr.aload_n (pc := 984) (i := 0) d_L_law_984 rfl rfl ?_
  refine Tr.iload_n (pc := 985) (i := 3) d_L_law_985 rfl rfl ?_
  refine Tr.iconst (pc := 986) d_L_law_986 (by decide) ?_
  refine Tr.iadd (pc := 987) d_L_law_987 ?_
  refine Tr.tp (i + 3) (w32_id (by omega)) ?_
  refine Tr.xld (pc := 988) (i := 0) d_L_law_988 rfl he (by omega) (by omega) ?_
  refine Tr.callV (pc := 989) (as := [_, _, _]) d_L_law_989 s_13_134 ok_X12_lasts rfl rfl (Nat.le_of_ble_eq_true rfl) (Nat.le_of_ble_eq_true rfl) (by decide) (ty_120 hI1.1) ?_
  refine Tr.imp (mu_lasts hI1 hm1 (f (i + 1)) (hr _) (f (i + 2)) (hr _) (f (i + 3)) (hr _)) ?_
  rintro M2 _ ⟨hI2, hm2, f2, v2, rfl, z2⟩
  have hx2 := hx1.fr hI1 f2
  have k3 := f2 0 1 (Or.inl (by decide))
  have k4 := f2 113 0 (Or.inl (by decide))
  refine Tr.sc [(0, v2)] rfl ?_
  refine Tr.pop (pc := 992) d_L_law_992 ne01 ?_
  refine Tr.goto (pc := 993) (tgt := 996) d_L_law_993 rfl ?_
  exact J _ ⟨hI2, hx2, hm2, by omega, by omega⟩
end
