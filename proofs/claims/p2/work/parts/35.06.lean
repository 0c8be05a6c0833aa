theorem d_X12_tick_321 : decode mX12_tick.2.2.1 321 = .ok (.putfield 204, 3) := by decide +kernel
theorem d_X12_tick_324 : decode mX12_tick.2.2.1 324 = .ok (.aload_n 0, 1) := by decide +kernel
theorem d_X12_tick_325 : decode mX12_tick.2.2.1 325 = .ok (.dup, 1) := by decide +kernel
theorem d_X12_tick_326 : decode mX12_tick.2.2.1 326 = .ok (.getfield 201, 3) := by decide +kernel
theorem d_X12_tick_329 : decode mX12_tick.2.2.1 329 = .ok (.iconst 1, 1) := by decide +kernel
theorem d_X12_tick_330 : decode mX12_tick.2.2.1 330 = .ok (.iadd, 1) := by decide +kernel
theorem d_X12_tick_331 : decode mX12_tick.2.2.1 331 = .ok (.putfield 201, 3) := by decide +kernel
theorem d_X12_tick_334 : decode mX12_tick.2.2.1 334 = .ok (.iconst 1, 1) := by decide +kernel
theorem d_X12_tick_335 : decode mX12_tick.2.2.1 335 = .ok (.ireturn, 1) := by decide +kernel
theorem d_X12_tick_226 : decode mX12_tick.2.2.1 226 = .ok (.iastore, 1) := by decide +kernel
theorem d_X12_tick_227 : decode mX12_tick.2.2.1 227 = .ok (.aload_n 0, 1) := by decide +kernel
theorem d_X12_tick_228 : decode mX12_tick.2.2.1 228 = .ok (.getfield 237, 3) := by decide +kernel
theorem d_X12_tick_231 : decode mX12_tick.2.2.1 231 = .ok (.sipush 2100, 3) := by decide +kernel
theorem d_X12_tick_234 : decode mX12_tick.2.2.1 234 = .ok (.iload 4, 2) := by decide +kernel
theorem d_X12_tick_236 : decode mX12_tick.2.2.1 236 = .ok (.imul, 1) := by decide +kernel
theorem d_X12_tick_237 : decode mX12_tick.2.2.1 237 = .ok (.aload_n 0, 1) := by decide +kernel
theorem d_X12_tick_238 : decode mX12_tick.2.2.1 238 = .ok (.getfield 201, 3) := by decide +kernel
theorem d_X12_tick_241 : decode mX12_tick.2.2.1 241 = .ok (.iadd, 1) := by decide +kernel
theorem d_X12_tick_242 : decode mX12_tick.2.2.1 242 = .ok (.aload_n 0, 1) := by decide +kernel
theorem d_X12_tick_243 : decode mX12_tick.2.2.1 243 = .ok (.getfield 177, 3) := by decide +kernel
theorem d_X12_tick_246 : decode mX12_tick.2.2.1 246 = .ok (.iload 4, 2) := by decide +kernel
theorem d_X12_tick_248 : decode mX12_tick.2.2.1 248 = .ok (.baload, 1) := by decide +kernel
theorem d_X12_tick_249 : decode mX12_tick.2.2.1 249 = .ok (.ifCond .eq 13, 3) := by decide +kernel
theorem d_X12_tick_262 : decode mX12_tick.2.2.1 262 = .ok (.iconst (-1), 1) := by decide +kernel
theorem d_X12_tick_252 : decode mX12_tick.2.2.1 252 = .ok (.aload_n 0, 1) := by decide +kernel
theorem d_X12_tick_253 : decode mX12_tick.2.2.1 253 = .ok (.getfield 180, 3) := by decide +kernel
theorem d_X12_tick_256 : decode mX12_tick.2.2.1 256 = .ok (.iload 4, 2) := by decide +kernel
theorem d_X12_tick_258 : decode mX12_tick.2.2.1 258 = .ok (.iaload, 1) := by decide +kernel
theorem d_X12_tick_259 : decode mX12_tick.2.2.1 259 = .ok (.goto 4, 3) := by decide +kernel
theorem d_X12_tick_263 : decode mX12_tick.2.2.1 263 = .ok (.iastore, 1) := by decide +kernel
theorem d_X12_tick_264 : decode mX12_tick.2.2.1 264 = .ok (.iload 5, 2) := by decide +kernel
theorem d_X12_tick_266 : decode mX12_tick.2.2.1 266 = .ok (.iconst 2, 1) := by decide +kernel
theorem d_X12_tick_267 : decode mX12_tick.2.2.1 267 = .ok (.if_icmp .ne 24, 3) := by decide +kernel
theorem d_X12_tick_270 : decode mX12_tick.2.2.1 270 = .ok (.aload_n 0, 1) := by decide +kernel
theorem d_X12_tick_271 : decode mX12_tick.2.2.1 271 = .ok (.getfield 177, 3) := by decide +kernel
theorem d_X12_tick_274 : decode mX12_tick.2.2.1 274 = .ok (.iload 4, 2) := by decide +kernel
theorem d_X12_tick_276 : decode mX12_tick.2.2.1 276 = .ok (.baload, 1) := by decide +kernel
theorem d_X12_tick_277 : decode mX12_tick.2.2.1 277 = .ok (.ifCond .ne 14, 3) := by decide +kernel
theorem d_X12_tick_280 : decode mX12_tick.2.2.1 280 = .ok (.aload_n 0, 1) := by decide +kernel
theorem d_X12_tick_281 : decode mX12_tick.2.2.1 281 = .ok (.getfield 183, 3) := by decide +kernel
theorem d_X12_tick_284 : decode mX12_tick.2.2.1 284 = .ok (.iload 4, 2) := by decide +kernel
theorem d_X12_tick_286 : decode mX12_tick.2.2.1 286 = .ok (.dup2, 1) := by decide +kernel
theorem d_X12_tick_287 : decode mX12_tick.2.2.1 287 = .ok (.iaload, 1) := by decide +kernel
theorem d_X12_tick_288 : decode mX12_tick.2.2.1 288 = .ok (.iconst 1, 1) := by decide +kernel
theorem d_X12_tick_289 : decode mX12_tick.2.2.1 289 = .ok (.isub, 1) := by decide +kernel
theorem d_X12_tick_290 : decode mX12_tick.2.2.1 290 = .ok (.iastore, 1) := by decide +kernel
theorem d_X12_tick_291 : decode mX12_tick.2.2.1 291 = .ok (.iinc 4 1, 3) := by decide +kernel
theorem d_X12_tick_294 : decode mX12_tick.2.2.1 294 = .ok (.goto (-163), 3) := by decide +kernel
theorem ok_X12_tick : e_m mX12_tick 1 := ⟨tblG_in (inT9 (List.mem_of_getElem? (i := 57) rfl)) rfl, plainFor_of_name (by decide), rfl, ini_12, by decide +kernel, by decide⟩
theorem d_X12_runs_229 : decode mX12_runs.2.2.1 229 = .ok (.istore 5, 2) := by decide +kernel
theorem d_X12_runs_231 : decode mX12_runs.2.2.1 231 = .ok (.iload 5, 2) := by decide +kernel
theorem d_X12_runs_233 : decode mX12_runs.2.2.1 233 = .ok (.ifCond .eq 13, 3) := by decide +kernel
theorem d_X12_runs_236 : decode mX12_runs.2.2.1 236 = .ok (.aload_n 0, 1) := by decide +kernel
theorem d_X12_runs_237 : decode mX12_runs.2.2.1 237 = .ok (.dup, 1) := by decide +kernel
theorem d_X12_runs_238 : decode mX12_runs.2.2.1 238 = .ok (.getfield 216, 3) := by decide +kernel
theorem d_X12_runs_241 : decode mX12_runs.2.2.1 241 = .ok (.iconst 1, 1) := by decide +kernel
theorem d_X12_runs_242 : decode mX12_runs.2.2.1 242 = .ok (.iadd, 1) := by decide +kernel
theorem d_X12_runs_243 : decode mX12_runs.2.2.1 243 = .ok (.putfield 216, 3) := by decide +kernel
theorem d_X12_runs_207 : decode mX12_runs.2.2.1 207 = .ok (.aload_n 0, 1) := by decide +kernel
theorem d_X12_runs_208 : decode mX12_runs.2.2.1 208 = .ok (.getfield 112, 3) := by decide +kernel
theorem d_X12_runs_211 : decode mX12_runs.2.2.1 211 = .ok (.iload 4, 2) := by decide +kernel
theorem d_X12_runs_213 : decode mX12_runs.2.2.1 213 = .ok (.iaload, 1) := by decide +kernel
theorem d_X12_runs_214 : decode mX12_runs.2.2.1 214 = .ok (.istore_n 3, 1) := by decide +kernel
theorem d_X12_runs_215 : decode mX12_runs.2.2.1 215 = .ok (.goto (-53), 3) := by decide +kernel
theorem d_X12_runs_317 : decode mX12_runs.2.2.1 317 = .ok (.aload_n 0, 1) := by decide +kernel
theorem d_X12_runs_318 : decode mX12_runs.2.2.1 318 = .ok (.getfield 219, 3) := by decide +kernel
theorem d_X12_runs_321 : decode mX12_runs.2.2.1 321 = .ok (.ifCond .le 8, 3) := by decide +kernel
theorem d_X12_runs_329 : decode mX12_runs.2.2.1 329 = .ok (.iconst 1, 1) := by decide +kernel
theorem d_X12_runs_330 : decode mX12_runs.2.2.1 330 = .ok (.istore 4, 2) := by decide +kernel
theorem d_X12_runs_332 : decode mX12_runs.2.2.1 332 = .ok (.iload 4, 2) := by decide +kernel
theorem d_X12_runs_334 : decode mX12_runs.2.2.1 334 = .ok (.ifCond .eq 75, 3) := by decide +kernel
theorem d_X12_runs_337 : decode mX12_runs.2.2.1 337 = .ok (.iconst 0, 1) := by decide +kernel
theorem d_X12_runs_338 : decode mX12_runs.2.2.1 338 = .ok (.istore 4, 2) := by decide +kernel
theorem d_X12_runs_340 : decode mX12_runs.2.2.1 340 = .ok (.iconst 0, 1) := by decide +kernel
theorem d_X12_runs_341 : decode mX12_runs.2.2.1 341 = .ok (.istore 5, 2) := by decide +kernel
theorem d_X12_runs_343 : decode mX12_runs.2.2.1 343 = .ok (.iload 5, 2) := by decide +kernel
theorem d_X12_runs_345 : decode mX12_runs.2.2.1 345 = .ok (.aload_n 0, 1) := by decide +kernel
theorem d_X12_runs_346 : decode mX12_runs.2.2.1 346 = .ok (.getfield 63, 3) := by decide +kernel
theorem d_X12_runs_349 : decode mX12_runs.2.2.1 349 = .ok (.aload_n 0, 1) := by decide +kernel
theorem d_X12_runs_350 : decode mX12_runs.2.2.1 350 = .ok (.getfield 48, 3) := by decide +kernel
theorem d_X12_runs_353 : decode mX12_runs.2.2.1 353 = .ok (.iaload, 1) := by decide +kernel
theorem d_X12_runs_354 : decode mX12_runs.2.2.1 354 = .ok (.if_icmp .ge 41, 3) := by decide +kernel
theorem d_X12_runs_395 : decode mX12_runs.2.2.1 395 = .ok (.iload 4, 2) := by decide +kernel
theorem d_X12_runs_397 : decode mX12_runs.2.2.1 397 = .ok (.ifCond .eq (-65), 3) := by decide +kernel
theorem d_X12_runs_357 : decode mX12_runs.2.2.1 357 = .ok (.iload 4, 2) := by decide +kernel
theorem d_X12_runs_359 : decode mX12_runs.2.2.1 359 = .ok (.ifCond .ne 23, 3) := by decide +kernel
theorem d_X12_runs_362 : decode mX12_runs.2.2.1 362 = .ok (.aload_n 0, 1) := by decide +kernel
theorem d_X12_runs_363 : decode mX12_runs.2.2.1 363 = .ok (.getfield 177, 3) := by decide +kernel
theorem d_X12_runs_366 : decode mX12_runs.2.2.1 366 = .ok (.iload 5, 2) := by decide +kernel
theorem d_X12_runs_368 : decode mX12_runs.2.2.1 368 = .ok (.baload, 1) := by decide +kernel
theorem d_X12_runs_369 : decode mX12_runs.2.2.1 369 = .ok (.ifCond .ne 17, 3) := by decide +kernel
theorem d_X12_runs_372 : decode mX12_runs.2.2.1 372 = .ok (.aload_n 0, 1) := by decide +kernel
theorem d_X12_runs_373 : decode mX12_runs.2.2.1 373 = .ok (.getfield 183, 3) := by decide +kernel
theorem d_X12_runs_376 : decode mX12_runs.2.2.1 376 = .ok (.iload 5, 2) := by decide +kernel
theorem d_X12_runs_378 : decode mX12_runs.2.2.1 378 = .ok (.iaload, 1) := by decide +kernel
theorem d_X12_runs_379 : decode mX12_runs.2.2.1 379 = .ok (.ifCond .le 7, 3) := by decide +kernel
theorem d_X12_runs_409 : decode mX12_runs.2.2.1 409 = .ok (.iconst 0, 1) := by decide +kernel
theorem d_X12_runs_410 : decode mX12_runs.2.2.1 410 = .ok (.ireturn, 1) := by decide +kernel
theorem d_X12_runs_386 : decode mX12_runs.2.2.1 386 = .ok (.iconst 0, 1) := by decide +kernel
theorem d_X12_runs_382 : decode mX12_runs.2.2.1 382 = .ok (.iconst 1, 1) := by decide +kernel
theorem d_X12_runs_383 : decode mX12_runs.2.2.1 383 = .ok (.goto 4, 3) := by decide +kernel
theorem d_X12_runs_387 : decode mX12_runs.2.2.1 387 = .ok (.istore 4, 2) := by decide +kernel
theorem d_X12_runs_389 : decode mX12_runs.2.2.1 389 = .ok (.iinc 5 1, 3) := by decide +kernel
theorem d_X12_runs_392 : decode mX12_runs.2.2.1 392 = .ok (.goto (-49), 3) := by decide +kernel
theorem d_X12_runs_400 : decode mX12_runs.2.2.1 400 = .ok (.aload_n 0, 1) := by decide +kernel
theorem d_X12_runs_401 : decode mX12_runs.2.2.1 401 = .ok (.iconst (-1), 1) := by decide +kernel
theorem d_X12_runs_402 : decode mX12_runs.2.2.1 402 = .ok (.invokevirtual 577, 3) := by decide +kernel
theorem d_X12_tick_25 : decode mX12_tick.2.2.1 25 = .ok (.lconst 0, 1) := by decide +kernel
theorem d_X12_tick_26 : decode mX12_tick.2.2.1 26 = .ok (.goto 13, 3) := by decide +kernel
theorem d_X12_runs_405 : decode mX12_runs.2.2.1 405 = .ok (.pop, 1) := by decide +kernel
theorem d_X12_runs_406 : decode mX12_runs.2.2.1 406 = .ok (.goto (-74), 3) := by decide +kernel
theorem d_X12_runs_246 : decode mX12_runs.2.2.1 246 = .ok (.iload 5, 2) := by decide +kernel
theorem d_X12_runs_248 : decode mX12_runs.2.2.1 248 = .ok (.ifCond .eq 37, 3) := by decide +kernel
theorem d_X12_runs_251 : decode mX12_runs.2.2.1 251 = .ok (.aload_n 0, 1) := by decide +kernel
theorem d_X12_runs_252 : decode mX12_runs.2.2.1 252 = .ok (.getfield 97, 3) := by decide +kernel
theorem d_X12_runs_255 : decode mX12_runs.2.2.1 255 = .ok (.iload 4, 2) := by decide +kernel
theorem d_X12_runs_257 : decode mX12_runs.2.2.1 257 = .ok (.iaload, 1) := by decide +kernel
theorem d_X12_runs_258 : decode mX12_runs.2.2.1 258 = .ok (.bipush 7, 2) := by decide +kernel
theorem d_X12_runs_260 : decode mX12_runs.2.2.1 260 = .ok (.if_icmp .lt 25, 3) := by decide +kernel
theorem d_X12_runs_263 : decode mX12_runs.2.2.1 263 = .ok (.aload_n 0, 1) := by decide +kernel
theorem d_X12_runs_264 : decode mX12_runs.2.2.1 264 = .ok (.iload 4, 2) := by decide +kernel
theorem d_X12_runs_266 : decode mX12_runs.2.2.1 266 = .ok (.invokevirtual 614, 3) := by decide +kernel
def mX12_works : MD := (12, yX12_works, cX12_works, 5, some .long)
theorem sel_X12_works : Cond.instanceMethod mX12_works.2.1 ∈ tblG ∧ Cond.selects mX12_works.2.1.cls mX12_works.2.1 mX12_works.2.1 ∈ tblG := ⟨tblG_in (inT9 (List.mem_of_getElem? (i := 76) rfl)) rfl, tblG_in (inP8 (q := (mX12_works.2.1, 121)) (List.mem_of_getElem? (i := 0) rfl)) rfl⟩
theorem s_12_614 : e_siteV 12 614 mX12_works 12 := ⟨tblG_in (inT9 (List.mem_of_getElem? (i := 74) rfl)) rfl, sel_X12_works.1, sel_X12_works.2, rfl⟩
theorem d_X12_works_0 : decode mX12_works.2.2.1 0 = .ok (.iconst 0, 1) := by decide +kernel
theorem d_X12_works_1 : decode mX12_works.2.2.1 1 = .ok (.istore_n 2, 1) := by decide +kernel
theorem d_X12_works_2 : decode mX12_works.2.2.1 2 = .ok (.sipush 900, 3) := by decide +kernel
theorem d_X12_works_5 : decode mX12_works.2.2.1 5 = .ok (.aload_n 0, 1) := by decide +kernel
theorem d_X12_works_6 : decode mX12_works.2.2.1 6 = .ok (.getfield 48, 3) := by decide +kernel
theorem d_X12_works_9 : decode mX12_works.2.2.1 9 = .ok (.imul, 1) := by decide +kernel
theorem d_X12_works_10 : decode mX12_works.2.2.1 10 = .ok (.aload_n 0, 1) := by decide +kernel
theorem d_X12_works_11 : decode mX12_works.2.2.1 11 = .ok (.getfield 106, 3) := by decide +kernel
theorem d_X12_works_14 : decode mX12_works.2.2.1 14 = .ok (.iload_n 1, 1) := by decide +kernel
theorem d_X12_works_15 : decode mX12_works.2.2.1 15 = .ok (.iaload, 1) := by decide +kernel
theorem d_X12_works_16 : decode mX12_works.2.2.1 16 = .ok (.iadd, 1) := by decide +kernel
theorem d_X12_works_17 : decode mX12_works.2.2.1 17 = .ok (.istore_n 3, 1) := by decide +kernel
theorem d_X12_works_18 : decode mX12_works.2.2.1 18 = .ok (.iload_n 3, 1) := by decide +kernel
theorem d_X12_works_19 : decode mX12_works.2.2.1 19 = .ok (.sipush 900, 3) := by decide +kernel
theorem d_X12_works_22 : decode mX12_works.2.2.1 22 = .ok (.aload_n 0, 1) := by decide +kernel
theorem d_X12_works_23 : decode mX12_works.2.2.1 23 = .ok (.getfield 48, 3) := by decide +kernel
theorem d_X12_works_26 : decode mX12_works.2.2.1 26 = .ok (.imul, 1) := by decide +kernel
theorem d_X12_works_27 : decode mX12_works.2.2.1 27 = .ok (.aload_n 0, 1) := by decide +kernel
theorem d_X12_works_28 : decode mX12_works.2.2.1 28 = .ok (.getfield 109, 3) := by decide +kernel
theorem d_X12_works_31 : decode mX12_works.2.2.1 31 = .ok (.iload_n 1, 1) := by decide +kernel
theorem d_X12_works_32 : decode mX12_works.2.2.1 32 = .ok (.iaload, 1) := by decide +kernel
theorem d_X12_works_33 : decode mX12_works.2.2.1 33 = .ok (.iadd, 1) := by decide +kernel
theorem d_X12_works_34 : decode mX12_works.2.2.1 34 = .ok (.if_icmp .ge 105, 3) := by decide +kernel
theorem d_X12_works_139 : decode mX12_works.2.2.1 139 = .ok (.aload_n 0, 1) := by decide +kernel
theorem d_X12_works_140 : decode mX12_works.2.2.1 140 = .ok (.getfield 264, 3) := by decide +kernel
theorem d_X12_works_143 : decode mX12_works.2.2.1 143 = .ok (.iconst 0, 1) := by decide +kernel
theorem d_X12_works_144 : decode mX12_works.2.2.1 144 = .ok (.laload, 1) := by decide +kernel
theorem d_X12_works_145 : decode mX12_works.2.2.1 145 = .ok (.lreturn, 1) := by decide +kernel
theorem d_X12_works_37 : decode mX12_works.2.2.1 37 = .ok (.aload_n 0, 1) := by decide +kernel
theorem d_X12_works_38 : decode mX12_works.2.2.1 38 = .ok (.getfield 115, 3) := by decide +kernel
theorem d_X12_works_41 : decode mX12_works.2.2.1 41 = .ok (.iload_n 3, 1) := by decide +kernel
theorem d_X12_works_42 : decode mX12_works.2.2.1 42 = .ok (.iaload, 1) := by decide +kernel
theorem d_X12_works_43 : decode mX12_works.2.2.1 43 = .ok (.istore 4, 2) := by decide +kernel
theorem d_X12_works_45 : decode mX12_works.2.2.1 45 = .ok (.iload 4, 2) := by decide +kernel
theorem d_X12_works_47 : decode mX12_works.2.2.1 47 = .ok (.iconst 5, 1) := by decide +kernel
theorem d_X12_works_48 : decode mX12_works.2.2.1 48 = .ok (.if_icmp .gt 27, 3) := by decide +kernel
theorem d_X12_works_75 : decode mX12_works.2.2.1 75 = .ok (.iload 4, 2) := by decide +kernel
theorem d_X12_works_77 : decode mX12_works.2.2.1 77 = .ok (.bipush 18, 2) := by decide +kernel
theorem d_X12_works_79 : decode mX12_works.2.2.1 79 = .ok (.if_icmp .ne 24, 3) := by decide +kernel
theorem d_X12_works_103 : decode mX12_works.2.2.1 103 = .ok (.iinc 2 (-1), 3) := by decide +kernel
theorem d_X12_works_106 : decode mX12_works.2.2.1 106 = .ok (.aload_n 0, 1) := by decide +kernel
theorem d_X12_works_107 : decode mX12_works.2.2.1 107 = .ok (.getfield 264, 3) := by decide +kernel
theorem d_X12_works_110 : decode mX12_works.2.2.1 110 = .ok (.iload_n 2, 1) := by decide +kernel
theorem d_X12_works_111 : decode mX12_works.2.2.1 111 = .ok (.iconst 1, 1) := by decide +kernel
theorem d_X12_works_112 : decode mX12_works.2.2.1 112 = .ok (.isub, 1) := by decide +kernel
theorem d_X12_works_113 : decode mX12_works.2.2.1 113 = .ok (.iload 4, 2) := by decide +kernel
theorem d_X12_works_115 : decode mX12_works.2.2.1 115 = .ok (.aload_n 0, 1) := by decide +kernel
theorem d_X12_works_116 : decode mX12_works.2.2.1 116 = .ok (.getfield 264, 3) := by decide +kernel
theorem d_X12_works_119 : decode mX12_works.2.2.1 119 = .ok (.iload_n 2, 1) := by decide +kernel
theorem d_X12_works_120 : decode mX12_works.2.2.1 120 = .ok (.iconst 1, 1) := by decide +kernel
theorem d_X12_works_121 : decode mX12_works.2.2.1 121 = .ok (.isub, 1) := by decide +kernel
theorem d_X12_works_122 : decode mX12_works.2.2.1 122 = .ok (.laload, 1) := by decide +kernel
theorem d_X12_works_123 : decode mX12_works.2.2.1 123 = .ok (.aload_n 0, 1) := by decide +kernel
theorem d_X12_works_124 : decode mX12_works.2.2.1 124 = .ok (.getfield 264, 3) := by decide +kernel
theorem d_X12_works_127 : decode mX12_works.2.2.1 127 = .ok (.iload_n 2, 1) := by decide +kernel
theorem d_X12_works_128 : decode mX12_works.2.2.1 128 = .ok (.laload, 1) := by decide +kernel
theorem d_X12_works_129 : decode mX12_works.2.2.1 129 = .ok (.invokestatic 610, 3) := by decide +kernel
def mX12_joined : MD := (12, yX12_joined, cX12_joined, 5, some .long)
theorem s_12_610 : e_siteS 12 610 mX12_joined := ⟨tblG_in (inT9 (List.mem_of_getElem? (i := 82) rfl)) rfl, tblG_in (inT9 (List.mem_of_getElem? (i := 83) rfl)) rfl⟩
theorem d_X12_joined_0 : decode mX12_joined.2.2.1 0 = .ok (.iload_n 0, 1) := by decide +kernel
theorem d_X12_joined_1 : decode mX12_joined.2.2.1 1 = .ok (.tableswitch 170 6 16 #[59, 66, 73, 80, 86, 106, 118, 130, 142, 154, 166], 59) := by decide +kernel
theorem d_X12_joined_171 : decode mX12_joined.2.2.1 171 = .ok (.lload_n 1, 1) := by decide +kernel
theorem d_X12_joined_172 : decode mX12_joined.2.2.1 172 = .ok (.lload_n 3, 1) := by decide +kernel
theorem d_X12_joined_173 : decode mX12_joined.2.2.1 173 = .ok (.ladd, 1) := by decide +kernel
theorem d_X12_joined_174 : decode mX12_joined.2.2.1 174 = .ok (.lconst 0, 1) := by decide +kernel
theorem d_X12_joined_175 : decode mX12_joined.2.2.1 175 = .ok (.lcmp, 1) := by decide +kernel
theorem d_X12_joined_176 : decode mX12_joined.2.2.1 176 = .ok (.ifCond .le 7, 3) := by decide +kernel
theorem d_X12_joined_183 : decode mX12_joined.2.2.1 183 = .ok (.lconst 0, 1) := by decide +kernel
theorem d_X12_joined_184 : decode mX12_joined.2.2.1 184 = .ok (.lreturn, 1) := by decide +kernel
theorem d_X12_joined_179 : decode mX12_joined.2.2.1 179 = .ok (.lconst 1, 1) := by decide +kernel
theorem d_X12_joined_180 : decode mX12_joined.2.2.1 180 = .ok (.goto 4, 3) := by decide +kernel
theorem d_X12_joined_167 : decode mX12_joined.2.2.1 167 = .ok (.lload_n 1, 1) := by decide +kernel
theorem d_X12_joined_168 : decode mX12_joined.2.2.1 168 = .ok (.lload_n 3, 1) := by decide +kernel
theorem d_X12_joined_169 : decode mX12_joined.2.2.1 169 = .ok (.lmul, 1) := by decide +kernel
theorem d_X12_joined_170 : decode mX12_joined.2.2.1 170 = .ok (.lreturn, 1) := by decide +kernel
theorem d_X12_joined_155 : decode mX12_joined.2.2.1 155 = .ok (.lload_n 1, 1) := by decide +kernel
theorem d_X12_joined_156 : decode mX12_joined.2.2.1 156 = .ok (.lload_n 3, 1) := by decide +kernel
theorem d_X12_joined_157 : decode mX12_joined.2.2.1 157 = .ok (.lcmp, 1) := by decide +kernel
theorem d_X12_joined_158 : decode mX12_joined.2.2.1 158 = .ok (.ifCond .ne 7, 3) := by decide +kernel
theorem d_X12_joined_165 : decode mX12_joined.2.2.1 165 = .ok (.lconst 0, 1) := by decide +kernel
theorem d_X12_joined_166 : decode mX12_joined.2.2.1 166 = .ok (.lreturn, 1) := by decide +kernel
theorem d_X12_joined_161 : decode mX12_joined.2.2.1 161 = .ok (.lconst 1, 1) := by decide +kernel
theorem d_X12_joined_162 : decode mX12_joined.2.2.1 162 = .ok (.goto 4, 3) := by decide +kernel
theorem d_X12_joined_143 : decode mX12_joined.2.2.1 143 = .ok (.lload_n 1, 1) := by decide +kernel
theorem d_X12_joined_144 : decode mX12_joined.2.2.1 144 = .ok (.lload_n 3, 1) := by decide +kernel
theorem d_X12_joined_145 : decode mX12_joined.2.2.1 145 = .ok (.lcmp, 1) := by decide +kernel
theorem d_X12_joined_146 : decode mX12_joined.2.2.1 146 = .ok (.ifCond .le 7, 3) := by decide +kernel
theorem d_X12_joined_153 : decode mX12_joined.2.2.1 153 = .ok (.lconst 0, 1) := by decide +kernel
theorem d_X12_joined_154 : decode mX12_joined.2.2.1 154 = .ok (.lreturn, 1) := by decide +kernel
theorem d_X12_joined_149 : decode mX12_joined.2.2.1 149 = .ok (.lconst 1, 1) := by decide +kernel
theorem d_X12_joined_150 : decode mX12_joined.2.2.1 150 = .ok (.goto 4, 3) := by decide +kernel
theorem d_X12_joined_131 : decode mX12_joined.2.2.1 131 = .ok (.lload_n 1, 1) := by decide +kernel
theorem d_X12_joined_132 : decode mX12_joined.2.2.1 132 = .ok (.lload_n 3, 1) := by decide +kernel
theorem d_X12_joined_133 : decode mX12_joined.2.2.1 133 = .ok (.lcmp, 1) := by decide +kernel
theorem d_X12_joined_134 : decode mX12_joined.2.2.1 134 = .ok (.ifCond .ge 7, 3) := by decide +kernel
theorem d_X12_joined_141 : decode mX12_joined.2.2.1 141 = .ok (.lconst 0, 1) := by decide +kernel
theorem d_X12_joined_142 : decode mX12_joined.2.2.1 142 = .ok (.lreturn, 1) := by decide +kernel
theorem d_X12_joined_137 : decode mX12_joined.2.2.1 137 = .ok (.lconst 1, 1) := by decide +kernel
theorem d_X12_joined_138 : decode mX12_joined.2.2.1 138 = .ok (.goto 4, 3) := by decide +kernel
theorem d_X12_joined_119 : decode mX12_joined.2.2.1 119 = .ok (.lload_n 1, 1) := by decide +kernel
theorem d_X12_joined_120 : decode mX12_joined.2.2.1 120 = .ok (.lload_n 3, 1) := by decide +kernel
theorem d_X12_joined_121 : decode mX12_joined.2.2.1 121 = .ok (.lcmp, 1) := by decide +kernel
theorem d_X12_joined_122 : decode mX12_joined.2.2.1 122 = .ok (.ifCond .le 7, 3) := by decide +kernel
theorem d_X12_joined_129 : decode mX12_joined.2.2.1 129 = .ok (.lload_n 3, 1) := by decide +kernel
theorem d_X12_joined_130 : decode mX12_joined.2.2.1 130 = .ok (.lreturn, 1) := by decide +kernel
