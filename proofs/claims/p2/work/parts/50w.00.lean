theorem d_L_law_160 : decode mL_law.2.2.1 160 = .ok (.aload_n 1, 1) := by decide +kernel
theorem d_L_law_161 : decode mL_law.2.2.1 161 = .ok (.aload_n 0, 1) := by decide +kernel
theorem d_L_law_162 : decode mL_law.2.2.1 162 = .ok (.iload_n 3, 1) := by decide +kernel
theorem d_L_law_163 : decode mL_law.2.2.1 163 = .ok (.iconst 1, 1) := by decide +kernel
theorem d_L_law_164 : decode mL_law.2.2.1 164 = .ok (.iadd, 1) := by decide +kernel
theorem d_L_law_165 : decode mL_law.2.2.1 165 = .ok (.iaload, 1) := by decide +kernel
theorem d_L_law_166 : decode mL_law.2.2.1 166 = .ok (.aload_n 0, 1) := by decide +kernel
theorem d_L_law_167 : decode mL_law.2.2.1 167 = .ok (.iload_n 3, 1) := by decide +kernel
theorem d_L_law_168 : decode mL_law.2.2.1 168 = .ok (.iconst 2, 1) := by decide +kernel
theorem d_L_law_169 : decode mL_law.2.2.1 169 = .ok (.iadd, 1) := by decide +kernel
theorem d_L_law_170 : decode mL_law.2.2.1 170 = .ok (.iaload, 1) := by decide +kernel
theorem d_L_law_171 : decode mL_law.2.2.1 171 = .ok (.aload_n 0, 1) := by decide +kernel
theorem d_L_law_172 : decode mL_law.2.2.1 172 = .ok (.iload_n 3, 1) := by decide +kernel
theorem d_L_law_173 : decode mL_law.2.2.1 173 = .ok (.iconst 3, 1) := by decide +kernel
theorem d_L_law_174 : decode mL_law.2.2.1 174 = .ok (.iadd, 1) := by decide +kernel
theorem d_L_law_175 : decode mL_law.2.2.1 175 = .ok (.iaload, 1) := by decide +kernel
theorem d_L_law_176 : decode mL_law.2.2.1 176 = .ok (.aload_n 0, 1) := by decide +kernel
theorem d_L_law_177 : decode mL_law.2.2.1 177 = .ok (.iload_n 3, 1) := by decide +kernel
theorem d_L_law_178 : decode mL_law.2.2.1 178 = .ok (.iconst 4, 1) := by decide +kernel
theorem d_L_law_179 : decode mL_law.2.2.1 179 = .ok (.iadd, 1) := by decide +kernel
theorem d_L_law_180 : decode mL_law.2.2.1 180 = .ok (.iaload, 1) := by decide +kernel
theorem d_L_law_181 : decode mL_law.2.2.1 181 = .ok (.aload_n 0, 1) := by decide +kernel
theorem d_L_law_182 : decode mL_law.2.2.1 182 = .ok (.iload_n 3, 1) := by decide +kernel
theorem d_L_law_183 : decode mL_law.2.2.1 183 = .ok (.iconst 5, 1) := by decide +kernel
theorem d_L_law_184 : decode mL_law.2.2.1 184 = .ok (.iadd, 1) := by decide +kernel
theorem d_L_law_185 : decode mL_law.2.2.1 185 = .ok (.iaload, 1) := by decide +kernel
theorem d_L_law_186 : decode mL_law.2.2.1 186 = .ok (.invokevirtual 13, 3) := by decide +kernel
theorem sel_X11_feed : Cond.instanceMethod mX11_feed.2.1 ∈ tblG ∧ Cond.selects mX11_feed.2.1.cls mX11_feed.2.1 mX11_feed.2.1 ∈ tblG := ⟨tblG_in (inT3 (List.mem_of_getElem? (i := 92) rfl)) rfl, tblG_in (inT3 (List.mem_of_getElem? (i := 93) rfl)) rfl⟩
theorem s_13_13 : e_siteV 13 13 mX11_feed 11 := ⟨tblG_in (inT3 (List.mem_of_getElem? (i := 91) rfl)) rfl, sel_X11_feed.1, sel_X11_feed.2, rfl⟩
theorem ok_X11_feed : e_m mX11_feed 5 := ⟨tblG_in (inT3 (List.mem_of_getElem? (i := 94) rfl)) rfl, plainFor_of_name (by decide), rfl, ini_11, by decide +kernel, by decide⟩
theorem d_L_law_189 : decode mL_law.2.2.1 189 = .ok (.aload_n 2, 1) := by decide +kernel
theorem d_L_law_190 : decode mL_law.2.2.1 190 = .ok (.aload_n 0, 1) := by decide +kernel
theorem d_L_law_191 : decode mL_law.2.2.1 191 = .ok (.iload_n 3, 1) := by decide +kernel
theorem d_L_law_192 : decode mL_law.2.2.1 192 = .ok (.iconst 1, 1) := by decide +kernel
theorem d_L_law_193 : decode mL_law.2.2.1 193 = .ok (.iadd, 1) := by decide +kernel
theorem d_L_law_194 : decode mL_law.2.2.1 194 = .ok (.iaload, 1) := by decide +kernel
theorem d_L_law_195 : decode mL_law.2.2.1 195 = .ok (.aload_n 0, 1) := by decide +kernel
theorem d_L_law_196 : decode mL_law.2.2.1 196 = .ok (.iload_n 3, 1) := by decide +kernel
theorem d_L_law_197 : decode mL_law.2.2.1 197 = .ok (.iconst 2, 1) := by decide +kernel
theorem d_L_law_198 : decode mL_law.2.2.1 198 = .ok (.iadd, 1) := by decide +kernel
theorem d_L_law_199 : decode mL_law.2.2.1 199 = .ok (.iaload, 1) := by decide +kernel
theorem d_L_law_200 : decode mL_law.2.2.1 200 = .ok (.aload_n 0, 1) := by decide +kernel
theorem d_L_law_201 : decode mL_law.2.2.1 201 = .ok (.iload_n 3, 1) := by decide +kernel
theorem d_L_law_202 : decode mL_law.2.2.1 202 = .ok (.iconst 3, 1) := by decide +kernel
theorem d_L_law_203 : decode mL_law.2.2.1 203 = .ok (.iadd, 1) := by decide +kernel
theorem d_L_law_204 : decode mL_law.2.2.1 204 = .ok (.iaload, 1) := by decide +kernel
theorem d_L_law_205 : decode mL_law.2.2.1 205 = .ok (.aload_n 0, 1) := by decide +kernel
theorem d_L_law_206 : decode mL_law.2.2.1 206 = .ok (.iload_n 3, 1) := by decide +kernel
theorem d_L_law_207 : decode mL_law.2.2.1 207 = .ok (.iconst 4, 1) := by decide +kernel
theorem d_L_law_208 : decode mL_law.2.2.1 208 = .ok (.iadd, 1) := by decide +kernel
theorem d_L_law_209 : decode mL_law.2.2.1 209 = .ok (.iaload, 1) := by decide +kernel
theorem d_L_law_210 : decode mL_law.2.2.1 210 = .ok (.aload_n 0, 1) := by decide +kernel
theorem d_L_law_211 : decode mL_law.2.2.1 211 = .ok (.iload_n 3, 1) := by decide +kernel
theorem d_L_law_212 : decode mL_law.2.2.1 212 = .ok (.iconst 5, 1) := by decide +kernel
theorem d_L_law_213 : decode mL_law.2.2.1 213 = .ok (.iadd, 1) := by decide +kernel
theorem d_L_law_214 : decode mL_law.2.2.1 214 = .ok (.iaload, 1) := by decide +kernel
theorem d_L_law_215 : decode mL_law.2.2.1 215 = .ok (.invokevirtual 17, 3) := by decide +kernel
theorem sel_X12_feed : Cond.instanceMethod mX12_feed.2.1 ∈ tblG ∧ Cond.selects mX12_feed.2.1.cls mX12_feed.2.1 mX12_feed.2.1 ∈ tblG := ⟨tblG_in (inT8 (List.mem_of_getElem? (i := 77) rfl)) rfl, tblG_in (inT8 (List.mem_of_getElem? (i := 78) rfl)) rfl⟩
theorem s_13_17 : e_siteV 13 17 mX12_feed 12 := ⟨tblG_in (inT8 (List.mem_of_getElem? (i := 76) rfl)) rfl, sel_X12_feed.1, sel_X12_feed.2, rfl⟩
theorem ok_X12_feed : e_m mX12_feed 5 := ⟨tblG_in (inT8 (List.mem_of_getElem? (i := 79) rfl)) rfl, plainFor_of_name (by decide), rfl, ini_12, by decide +kernel, by decide⟩
theorem d_L_law_218 : decode mL_law.2.2.1 218 = .ok (.if_icmp .eq 778, 3) := by decide +kernel
theorem d_L_law_223 : decode mL_law.2.2.1 223 = .ok (.aload_n 1, 1) := by decide +kernel
theorem d_L_law_224 : decode mL_law.2.2.1 224 = .ok (.aload_n 0, 1) := by decide +kernel
theorem d_L_law_225 : decode mL_law.2.2.1 225 = .ok (.iload_n 3, 1) := by decide +kernel
theorem d_L_law_226 : decode mL_law.2.2.1 226 = .ok (.iconst 1, 1) := by decide +kernel
theorem d_L_law_227 : decode mL_law.2.2.1 227 = .ok (.iadd, 1) := by decide +kernel
theorem d_L_law_228 : decode mL_law.2.2.1 228 = .ok (.iaload, 1) := by decide +kernel
theorem d_L_law_229 : decode mL_law.2.2.1 229 = .ok (.invokevirtual 18, 3) := by decide +kernel
theorem sel_X11_end : Cond.instanceMethod mX11_end.2.1 ∈ tblG ∧ Cond.selects mX11_end.2.1.cls mX11_end.2.1 mX11_end.2.1 ∈ tblG := ⟨tblG_in (inT3 (List.mem_of_getElem? (i := 100) rfl)) rfl, tblG_in (inT3 (List.mem_of_getElem? (i := 101) rfl)) rfl⟩
theorem s_13_18 : e_siteV 13 18 mX11_end 11 := ⟨tblG_in (inT3 (List.mem_of_getElem? (i := 99) rfl)) rfl, sel_X11_end.1, sel_X11_end.2, rfl⟩
theorem ok_X11_end : e_m mX11_end 1 := ⟨tblG_in (inT3 (List.mem_of_getElem? (i := 102) rfl)) rfl, plainFor_of_name (by decide), rfl, ini_11, by decide +kernel, by decide⟩
theorem d_L_law_232 : decode mL_law.2.2.1 232 = .ok (.pop, 1) := by decide +kernel
theorem d_L_law_233 : decode mL_law.2.2.1 233 = .ok (.aload_n 2, 1) := by decide +kernel
theorem d_L_law_234 : decode mL_law.2.2.1 234 = .ok (.aload_n 0, 1) := by decide +kernel
theorem d_L_law_235 : decode mL_law.2.2.1 235 = .ok (.iload_n 3, 1) := by decide +kernel
theorem d_L_law_236 : decode mL_law.2.2.1 236 = .ok (.iconst 1, 1) := by decide +kernel
theorem d_L_law_237 : decode mL_law.2.2.1 237 = .ok (.iadd, 1) := by decide +kernel
theorem d_L_law_238 : decode mL_law.2.2.1 238 = .ok (.iaload, 1) := by decide +kernel
theorem d_L_law_239 : decode mL_law.2.2.1 239 = .ok (.invokevirtual 22, 3) := by decide +kernel
theorem sel_X12_end : Cond.instanceMethod mX12_end.2.1 ∈ tblG ∧ Cond.selects mX12_end.2.1.cls mX12_end.2.1 mX12_end.2.1 ∈ tblG := ⟨tblG_in (inT8 (List.mem_of_getElem? (i := 85) rfl)) rfl, tblG_in (inT8 (List.mem_of_getElem? (i := 86) rfl)) rfl⟩
theorem s_13_22 : e_siteV 13 22 mX12_end 12 := ⟨tblG_in (inT8 (List.mem_of_getElem? (i := 84) rfl)) rfl, sel_X12_end.1, sel_X12_end.2, rfl⟩
theorem ok_X12_end : e_m mX12_end 1 := ⟨tblG_in (inT8 (List.mem_of_getElem? (i := 87) rfl)) rfl, plainFor_of_name (by decide), rfl, ini_12, by decide +kernel, by decide⟩
theorem d_L_law_242 : decode mL_law.2.2.1 242 = .ok (.pop, 1) := by decide +kernel
theorem d_L_law_243 : decode mL_law.2.2.1 243 = .ok (.goto 753, 3) := by decide +kernel
theorem d_L_law_246 : decode mL_law.2.2.1 246 = .ok (.aload_n 1, 1) := by decide +kernel
theorem d_L_law_247 : decode mL_law.2.2.1 247 = .ok (.invokevirtual 23, 3) := by decide +kernel
theorem sel_X11_text : Cond.instanceMethod mX11_text.2.1 ∈ tblG ∧ Cond.selects mX11_text.2.1.cls mX11_text.2.1 mX11_text.2.1 ∈ tblG := ⟨tblG_in (inT3 (List.mem_of_getElem? (i := 104) rfl)) rfl, tblG_in (inT3 (List.mem_of_getElem? (i := 105) rfl)) rfl⟩
theorem s_13_23 : e_siteV 13 23 mX11_text 11 := ⟨tblG_in (inT3 (List.mem_of_getElem? (i := 103) rfl)) rfl, sel_X11_text.1, sel_X11_text.2, rfl⟩
theorem ok_X11_text : e_m mX11_text 0 := ⟨tblG_in (inT3 (List.mem_of_getElem? (i := 106) rfl)) rfl, plainFor_of_name (by decide), rfl, ini_11, by decide +kernel, by decide⟩
theorem d_L_law_250 : decode mL_law.2.2.1 250 = .ok (.pop, 1) := by decide +kernel
theorem d_L_law_251 : decode mL_law.2.2.1 251 = .ok (.aload_n 2, 1) := by decide +kernel
theorem d_L_law_252 : decode mL_law.2.2.1 252 = .ok (.invokevirtual 27, 3) := by decide +kernel
theorem sel_X12_text : Cond.instanceMethod mX12_text.2.1 ∈ tblG ∧ Cond.selects mX12_text.2.1.cls mX12_text.2.1 mX12_text.2.1 ∈ tblG := ⟨tblG_in (inT8 (List.mem_of_getElem? (i := 89) rfl)) rfl, tblG_in (inT8 (List.mem_of_getElem? (i := 90) rfl)) rfl⟩
theorem s_13_27 : e_siteV 13 27 mX12_text 12 := ⟨tblG_in (inT8 (List.mem_of_getElem? (i := 88) rfl)) rfl, sel_X12_text.1, sel_X12_text.2, rfl⟩
theorem ok_X12_text : e_m mX12_text 0 := ⟨tblG_in (inT8 (List.mem_of_getElem? (i := 91) rfl)) rfl, plainFor_of_name (by decide), rfl, ini_12, by decide +kernel, by decide⟩
theorem d_L_law_255 : decode mL_law.2.2.1 255 = .ok (.pop, 1) := by decide +kernel
theorem d_L_law_256 : decode mL_law.2.2.1 256 = .ok (.goto 740, 3) := by decide +kernel
theorem d_L_law_259 : decode mL_law.2.2.1 259 = .ok (.aload_n 1, 1) := by decide +kernel
theorem d_L_law_260 : decode mL_law.2.2.1 260 = .ok (.aload_n 0, 1) := by decide +kernel
theorem d_L_law_261 : decode mL_law.2.2.1 261 = .ok (.iload_n 3, 1) := by decide +kernel
theorem d_L_law_262 : decode mL_law.2.2.1 262 = .ok (.iconst 1, 1) := by decide +kernel
theorem d_L_law_263 : decode mL_law.2.2.1 263 = .ok (.iadd, 1) := by decide +kernel
theorem d_L_law_264 : decode mL_law.2.2.1 264 = .ok (.iaload, 1) := by decide +kernel
theorem d_L_law_265 : decode mL_law.2.2.1 265 = .ok (.invokevirtual 28, 3) := by decide +kernel
theorem sel_X11_fault : Cond.instanceMethod mX11_fault.2.1 ∈ tblG ∧ Cond.selects mX11_fault.2.1.cls mX11_fault.2.1 mX11_fault.2.1 ∈ tblG := ⟨tblG_in (inT4 (List.mem_of_getElem? (i := 203) rfl)) rfl, tblG_in (inT4 (List.mem_of_getElem? (i := 204) rfl)) rfl⟩
theorem s_13_28 : e_siteV 13 28 mX11_fault 11 := ⟨tblG_in (inT4 (List.mem_of_getElem? (i := 202) rfl)) rfl, sel_X11_fault.1, sel_X11_fault.2, rfl⟩
theorem ok_X11_fault : e_m mX11_fault 1 := ⟨tblG_in (inT4 (List.mem_of_getElem? (i := 205) rfl)) rfl, plainFor_of_name (by decide), rfl, ini_11, by decide +kernel, by decide⟩
theorem d_L_law_268 : decode mL_law.2.2.1 268 = .ok (.pop, 1) := by decide +kernel
theorem d_L_law_269 : decode mL_law.2.2.1 269 = .ok (.aload_n 2, 1) := by decide +kernel
theorem d_L_law_270 : decode mL_law.2.2.1 270 = .ok (.aload_n 0, 1) := by decide +kernel
theorem d_L_law_271 : decode mL_law.2.2.1 271 = .ok (.iload_n 3, 1) := by decide +kernel
theorem d_L_law_272 : decode mL_law.2.2.1 272 = .ok (.iconst 1, 1) := by decide +kernel
theorem d_L_law_273 : decode mL_law.2.2.1 273 = .ok (.iadd, 1) := by decide +kernel
theorem d_L_law_274 : decode mL_law.2.2.1 274 = .ok (.iaload, 1) := by decide +kernel
theorem d_L_law_275 : decode mL_law.2.2.1 275 = .ok (.invokevirtual 32, 3) := by decide +kernel
theorem sel_X12_fault : Cond.instanceMethod mX12_fault.2.1 ∈ tblG ∧ Cond.selects mX12_fault.2.1.cls mX12_fault.2.1 mX12_fault.2.1 ∈ tblG := ⟨tblG_in (inT9 (List.mem_of_getElem? (i := 19) rfl)) rfl, tblG_in (inT9 (List.mem_of_getElem? (i := 20) rfl)) rfl⟩
theorem s_13_32 : e_siteV 13 32 mX12_fault 12 := ⟨tblG_in (inT9 (List.mem_of_getElem? (i := 18) rfl)) rfl, sel_X12_fault.1, sel_X12_fault.2, rfl⟩
theorem ok_X12_fault : e_m mX12_fault 1 := ⟨tblG_in (inT9 (List.mem_of_getElem? (i := 21) rfl)) rfl, plainFor_of_name (by decide), rfl, ini_12, by decide +kernel, by decide⟩
theorem d_L_law_278 : decode mL_law.2.2.1 278 = .ok (.pop, 1) := by decide +kernel
theorem d_L_law_279 : decode mL_law.2.2.1 279 = .ok (.goto 717, 3) := by decide +kernel
theorem d_L_law_282 : decode mL_law.2.2.1 282 = .ok (.aload_n 1, 1) := by decide +kernel
theorem d_L_law_283 : decode mL_law.2.2.1 283 = .ok (.aload_n 0, 1) := by decide +kernel
theorem d_L_law_284 : decode mL_law.2.2.1 284 = .ok (.iload_n 3, 1) := by decide +kernel
theorem d_L_law_285 : decode mL_law.2.2.1 285 = .ok (.iconst 1, 1) := by decide +kernel
theorem d_L_law_286 : decode mL_law.2.2.1 286 = .ok (.iadd, 1) := by decide +kernel
theorem d_L_law_287 : decode mL_law.2.2.1 287 = .ok (.iaload, 1) := by decide +kernel
theorem d_L_law_288 : decode mL_law.2.2.1 288 = .ok (.invokevirtual 33, 3) := by decide +kernel
theorem sel_X11_has : Cond.instanceMethod mX11_has.2.1 ∈ tblG ∧ Cond.selects mX11_has.2.1.cls mX11_has.2.1 mX11_has.2.1 ∈ tblG := ⟨tblG_in (inT4 (List.mem_of_getElem? (i := 207) rfl)) rfl, tblG_in (inT4 (List.mem_of_getElem? (i := 208) rfl)) rfl⟩
theorem s_13_33 : e_siteV 13 33 mX11_has 11 := ⟨tblG_in (inT4 (List.mem_of_getElem? (i := 206) rfl)) rfl, sel_X11_has.1, sel_X11_has.2, rfl⟩
theorem ok_X11_has : e_m mX11_has 1 := ⟨tblG_in (inT4 (List.mem_of_getElem? (i := 209) rfl)) rfl, plainFor_of_name (by decide), rfl, ini_11, by decide +kernel, by decide⟩
theorem d_L_law_291 : decode mL_law.2.2.1 291 = .ok (.pop, 1) := by decide +kernel
theorem d_L_law_292 : decode mL_law.2.2.1 292 = .ok (.aload_n 2, 1) := by decide +kernel
theorem d_L_law_293 : decode mL_law.2.2.1 293 = .ok (.aload_n 0, 1) := by decide +kernel
theorem d_L_law_294 : decode mL_law.2.2.1 294 = .ok (.iload_n 3, 1) := by decide +kernel
theorem d_L_law_295 : decode mL_law.2.2.1 295 = .ok (.iconst 1, 1) := by decide +kernel
theorem d_L_law_296 : decode mL_law.2.2.1 296 = .ok (.iadd, 1) := by decide +kernel
theorem d_L_law_297 : decode mL_law.2.2.1 297 = .ok (.iaload, 1) := by decide +kernel
theorem d_L_law_298 : decode mL_law.2.2.1 298 = .ok (.invokevirtual 36, 3) := by decide +kernel
theorem sel_X12_has : Cond.instanceMethod mX12_has.2.1 ∈ tblG ∧ Cond.selects mX12_has.2.1.cls mX12_has.2.1 mX12_has.2.1 ∈ tblG := ⟨tblG_in (inT9 (List.mem_of_getElem? (i := 23) rfl)) rfl, tblG_in (inT9 (List.mem_of_getElem? (i := 24) rfl)) rfl⟩
theorem s_13_36 : e_siteV 13 36 mX12_has 12 := ⟨tblG_in (inT9 (List.mem_of_getElem? (i := 22) rfl)) rfl, sel_X12_has.1, sel_X12_has.2, rfl⟩
theorem ok_X12_has : e_m mX12_has 1 := ⟨tblG_in (inT9 (List.mem_of_getElem? (i := 25) rfl)) rfl, plainFor_of_name (by decide), rfl, ini_12, by decide +kernel, by decide⟩
theorem d_L_law_301 : decode mL_law.2.2.1 301 = .ok (.pop, 1) := by decide +kernel
theorem d_L_law_302 : decode mL_law.2.2.1 302 = .ok (.goto 694, 3) := by decide +kernel
theorem d_L_law_305 : decode mL_law.2.2.1 305 = .ok (.aload_n 1, 1) := by decide +kernel
theorem d_L_law_306 : decode mL_law.2.2.1 306 = .ok (.aload_n 0, 1) := by decide +kernel
theorem d_L_law_307 : decode mL_law.2.2.1 307 = .ok (.iload_n 3, 1) := by decide +kernel
theorem d_L_law_308 : decode mL_law.2.2.1 308 = .ok (.iconst 1, 1) := by decide +kernel
theorem d_L_law_309 : decode mL_law.2.2.1 309 = .ok (.iadd, 1) := by decide +kernel
theorem d_L_law_310 : decode mL_law.2.2.1 310 = .ok (.iaload, 1) := by decide +kernel
theorem d_L_law_311 : decode mL_law.2.2.1 311 = .ok (.aload_n 0, 1) := by decide +kernel
theorem d_L_law_312 : decode mL_law.2.2.1 312 = .ok (.iload_n 3, 1) := by decide +kernel
theorem d_L_law_313 : decode mL_law.2.2.1 313 = .ok (.iconst 2, 1) := by decide +kernel
theorem d_L_law_314 : decode mL_law.2.2.1 314 = .ok (.iadd, 1) := by decide +kernel
theorem d_L_law_315 : decode mL_law.2.2.1 315 = .ok (.iaload, 1) := by decide +kernel
theorem d_L_law_316 : decode mL_law.2.2.1 316 = .ok (.aload_n 0, 1) := by decide +kernel
theorem d_L_law_317 : decode mL_law.2.2.1 317 = .ok (.iload_n 3, 1) := by decide +kernel
theorem d_L_law_318 : decode mL_law.2.2.1 318 = .ok (.iconst 3, 1) := by decide +kernel
theorem d_L_law_319 : decode mL_law.2.2.1 319 = .ok (.iadd, 1) := by decide +kernel
theorem d_L_law_320 : decode mL_law.2.2.1 320 = .ok (.iaload, 1) := by decide +kernel
theorem d_L_law_321 : decode mL_law.2.2.1 321 = .ok (.invokevirtual 37, 3) := by decide +kernel
theorem sel_X11_letter : Cond.instanceMethod mX11_letter.2.1 ∈ tblG ∧ Cond.selects mX11_letter.2.1.cls mX11_letter.2.1 mX11_letter.2.1 ∈ tblG := ⟨tblG_in (inT4 (List.mem_of_getElem? (i := 211) rfl)) rfl, tblG_in (inT4 (List.mem_of_getElem? (i := 212) rfl)) rfl⟩
theorem s_13_37 : e_siteV 13 37 mX11_letter 11 := ⟨tblG_in (inT4 (List.mem_of_getElem? (i := 210) rfl)) rfl, sel_X11_letter.1, sel_X11_letter.2, rfl⟩
theorem ok_X11_letter : e_m mX11_letter 3 := ⟨tblG_in (inT4 (List.mem_of_getElem? (i := 213) rfl)) rfl, plainFor_of_name (by decide), rfl, ini_11, by decide +kernel, by decide⟩
theorem d_L_law_324 : decode mL_law.2.2.1 324 = .ok (.pop, 1) := by decide +kernel
theorem d_L_law_325 : decode mL_law.2.2.1 325 = .ok (.aload_n 2, 1) := by decide +kernel
theorem d_L_law_326 : decode mL_law.2.2.1 326 = .ok (.aload_n 0, 1) := by decide +kernel
theorem d_L_law_327 : decode mL_law.2.2.1 327 = .ok (.iload_n 3, 1) := by decide +kernel
theorem d_L_law_328 : decode mL_law.2.2.1 328 = .ok (.iconst 1, 1) := by decide +kernel
theorem d_L_law_329 : decode mL_law.2.2.1 329 = .ok (.iadd, 1) := by decide +kernel
theorem d_L_law_330 : decode mL_law.2.2.1 330 = .ok (.iaload, 1) := by decide +kernel
theorem d_L_law_331 : decode mL_law.2.2.1 331 = .ok (.aload_n 0, 1) := by decide +kernel
theorem d_L_law_332 : decode mL_law.2.2.1 332 = .ok (.iload_n 3, 1) := by decide +kernel
theorem d_L_law_333 : decode mL_law.2.2.1 333 = .ok (.iconst 2, 1) := by decide +kernel
theorem d_L_law_334 : decode mL_law.2.2.1 334 = .ok (.iadd, 1) := by decide +kernel
theorem d_L_law_335 : decode mL_law.2.2.1 335 = .ok (.iaload, 1) := by decide +kernel
theorem d_L_law_336 : decode mL_law.2.2.1 336 = .ok (.aload_n 0, 1) := by decide +kernel
theorem d_L_law_337 : decode mL_law.2.2.1 337 = .ok (.iload_n 3, 1) := by decide +kernel
theorem d_L_law_338 : decode mL_law.2.2.1 338 = .ok (.iconst 3, 1) := by decide +kernel
theorem d_L_law_339 : decode mL_law.2.2.1 339 = .ok (.iadd, 1) := by decide +kernel
theorem d_L_law_340 : decode mL_law.2.2.1 340 = .ok (.iaload, 1) := by decide +kernel
theorem d_L_law_341 : decode mL_law.2.2.1 341 = .ok (.invokevirtual 41, 3) := by decide +kernel
theorem sel_X12_letter : Cond.instanceMethod mX12_letter.2.1 ∈ tblG ∧ Cond.selects mX12_letter.2.1.cls mX12_letter.2.1 mX12_letter.2.1 ∈ tblG := ⟨tblG_in (inT9 (List.mem_of_getElem? (i := 27) rfl)) rfl, tblG_in (inT9 (List.mem_of_getElem? (i := 28) rfl)) rfl⟩
theorem s_13_41 : e_siteV 13 41 mX12_letter 12 := ⟨tblG_in (inT9 (List.mem_of_getElem? (i := 26) rfl)) rfl, sel_X12_letter.1, sel_X12_letter.2, rfl⟩
theorem ok_X12_letter : e_m mX12_letter 3 := ⟨tblG_in (inT9 (List.mem_of_getElem? (i := 29) rfl)) rfl, plainFor_of_name (by decide), rfl, ini_12, by decide +kernel, by decide⟩
theorem d_L_law_344 : decode mL_law.2.2.1 344 = .ok (.pop, 1) := by decide +kernel
theorem d_L_law_345 : decode mL_law.2.2.1 345 = .ok (.goto 651, 3) := by decide +kernel
theorem d_L_law_348 : decode mL_law.2.2.1 348 = .ok (.aload_n 1, 1) := by decide +kernel
theorem d_L_law_349 : decode mL_law.2.2.1 349 = .ok (.aload_n 0, 1) := by decide +kernel
theorem d_L_law_350 : decode mL_law.2.2.1 350 = .ok (.iload_n 3, 1) := by decide +kernel
theorem d_L_law_351 : decode mL_law.2.2.1 351 = .ok (.iconst 1, 1) := by decide +kernel
theorem d_L_law_352 : decode mL_law.2.2.1 352 = .ok (.iadd, 1) := by decide +kernel
theorem d_L_law_353 : decode mL_law.2.2.1 353 = .ok (.iaload, 1) := by decide +kernel
theorem d_L_law_354 : decode mL_law.2.2.1 354 = .ok (.aload_n 0, 1) := by decide +kernel
theorem d_L_law_355 : decode mL_law.2.2.1 355 = .ok (.iload_n 3, 1) := by decide +kernel
theorem d_L_law_356 : decode mL_law.2.2.1 356 = .ok (.iconst 2, 1) := by decide +kernel
theorem d_L_law_357 : decode mL_law.2.2.1 357 = .ok (.iadd, 1) := by decide +kernel
theorem d_L_law_358 : decode mL_law.2.2.1 358 = .ok (.iaload, 1) := by decide +kernel
theorem d_L_law_359 : decode mL_law.2.2.1 359 = .ok (.invokevirtual 42, 3) := by decide +kernel
theorem sel_X11_put : Cond.instanceMethod mX11_put.2.1 ∈ tblG ∧ Cond.selects mX11_put.2.1.cls mX11_put.2.1 mX11_put.2.1 ∈ tblG := ⟨tblG_in (inT4 (List.mem_of_getElem? (i := 219) rfl)) rfl, tblG_in (inT4 (List.mem_of_getElem? (i := 220) rfl)) rfl⟩
theorem s_13_42 : e_siteV 13 42 mX11_put 11 := ⟨tblG_in (inT4 (List.mem_of_getElem? (i := 218) rfl)) rfl, sel_X11_put.1, sel_X11_put.2, rfl⟩
theorem ok_X11_put : e_m mX11_put 2 := ⟨tblG_in (inT4 (List.mem_of_getElem? (i := 221) rfl)) rfl, plainFor_of_name (by decide), rfl, ini_11, by decide +kernel, by decide⟩
theorem d_L_law_362 : decode mL_law.2.2.1 362 = .ok (.pop, 1) := by decide +kernel
theorem d_L_law_363 : decode mL_law.2.2.1 363 = .ok (.aload_n 2, 1) := by decide +kernel
theorem d_L_law_364 : decode mL_law.2.2.1 364 = .ok (.aload_n 0, 1) := by decide +kernel
theorem d_L_law_365 : decode mL_law.2.2.1 365 = .ok (.iload_n 3, 1) := by decide +kernel
theorem d_L_law_366 : decode mL_law.2.2.1 366 = .ok (.iconst 1, 1) := by decide +kernel
theorem d_L_law_367 : decode mL_law.2.2.1 367 = .ok (.iadd, 1) := by decide +kernel
theorem d_L_law_368 : decode mL_law.2.2.1 368 = .ok (.iaload, 1) := by decide +kernel
theorem d_L_law_369 : decode mL_law.2.2.1 369 = .ok (.aload_n 0, 1) := by decide +kernel
theorem d_L_law_370 : decode mL_law.2.2.1 370 = .ok (.iload_n 3, 1) := by decide +kernel
theorem d_L_law_371 : decode mL_law.2.2.1 371 = .ok (.iconst 2, 1) := by decide +kernel
theorem d_L_law_372 : decode mL_law.2.2.1 372 = .ok (.iadd, 1) := by decide +kernel
theorem d_L_law_373 : decode mL_law.2.2.1 373 = .ok (.iaload, 1) := by decide +kernel
theorem d_L_law_374 : decode mL_law.2.2.1 374 = .ok (.invokevirtual 46, 3) := by decide +kernel
theorem sel_X12_put_ : Cond.instanceMethod mX12_put_.2.1 ∈ tblG ∧ Cond.selects mX12_put_.2.1.cls mX12_put_.2.1 mX12_put_.2.1 ∈ tblG := ⟨tblG_in (inT9 (List.mem_of_getElem? (i := 43) rfl)) rfl, tblG_in (inT9 (List.mem_of_getElem? (i := 44) rfl)) rfl⟩
theorem s_13_46 : e_siteV 13 46 mX12_put_ 12 := ⟨tblG_in (inT9 (List.mem_of_getElem? (i := 42) rfl)) rfl, sel_X12_put_.1, sel_X12_put_.2, rfl⟩
theorem ok_X12_put_ : e_m mX12_put_ 2 := ⟨tblG_in (inT9 (List.mem_of_getElem? (i := 45) rfl)) rfl, plainFor_of_name (by decide), rfl, ini_12, by decide +kernel, by decide⟩
theorem d_L_law_377 : decode mL_law.2.2.1 377 = .ok (.pop, 1) := by decide +kernel
theorem d_L_law_378 : decode mL_law.2.2.1 378 = .ok (.goto 618, 3) := by decide +kernel
theorem d_L_law_381 : decode mL_law.2.2.1 381 = .ok (.aload_n 1, 1) := by decide +kernel
theorem d_L_law_382 : decode mL_law.2.2.1 382 = .ok (.aload_n 0, 1) := by decide +kernel
theorem d_L_law_383 : decode mL_law.2.2.1 383 = .ok (.iload_n 3, 1) := by decide +kernel
theorem d_L_law_384 : decode mL_law.2.2.1 384 = .ok (.iconst 1, 1) := by decide +kernel
theorem d_L_law_385 : decode mL_law.2.2.1 385 = .ok (.iadd, 1) := by decide +kernel
theorem d_L_law_386 : decode mL_law.2.2.1 386 = .ok (.iaload, 1) := by decide +kernel
theorem d_L_law_387 : decode mL_law.2.2.1 387 = .ok (.invokevirtual 47, 3) := by decide +kernel
theorem sel_X11_run : Cond.instanceMethod mX11_run.2.1 ∈ tblG ∧ Cond.selects mX11_run.2.1.cls mX11_run.2.1 mX11_run.2.1 ∈ tblG := ⟨tblG_in (inT4 (List.mem_of_getElem? (i := 223) rfl)) rfl, tblG_in (inT4 (List.mem_of_getElem? (i := 224) rfl)) rfl⟩
theorem s_13_47 : e_siteV 13 47 mX11_run 11 := ⟨tblG_in (inT4 (List.mem_of_getElem? (i := 222) rfl)) rfl, sel_X11_run.1, sel_X11_run.2, rfl⟩
theorem ok_X11_run : e_m mX11_run 1 := ⟨tblG_in (inT4 (List.mem_of_getElem? (i := 225) rfl)) rfl, plainFor_of_name (by decide), rfl, ini_11, by decide +kernel, by decide⟩
theorem d_L_law_390 : decode mL_law.2.2.1 390 = .ok (.pop, 1) := by decide +kernel
