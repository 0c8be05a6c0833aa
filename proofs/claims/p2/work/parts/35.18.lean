theorem d_X12_text_260 : decode mX12_text.2.2.1 260 = .ok (.aload_n 0, 1) := by decide +kernel
theorem d_X12_text_261 : decode mX12_text.2.2.1 261 = .ok (.getfield 124, 3) := by decide +kernel
theorem d_X12_text_264 : decode mX12_text.2.2.1 264 = .ok (.putfield 48, 3) := by decide +kernel
theorem d_X12_text_267 : decode mX12_text.2.2.1 267 = .ok (.iconst 0, 1) := by decide +kernel
theorem d_X12_text_268 : decode mX12_text.2.2.1 268 = .ok (.istore_n 2, 1) := by decide +kernel
theorem d_X12_text_269 : decode mX12_text.2.2.1 269 = .ok (.iload_n 2, 1) := by decide +kernel
theorem d_X12_text_270 : decode mX12_text.2.2.1 270 = .ok (.iconst 3, 1) := by decide +kernel
theorem d_X12_text_271 : decode mX12_text.2.2.1 271 = .ok (.if_icmp .ge 45, 3) := by decide +kernel
theorem d_X12_text_274 : decode mX12_text.2.2.1 274 = .ok (.aload_n 0, 1) := by decide +kernel
theorem d_X12_text_275 : decode mX12_text.2.2.1 275 = .ok (.getfield 168, 3) := by decide +kernel
theorem d_X12_text_278 : decode mX12_text.2.2.1 278 = .ok (.iload_n 2, 1) := by decide +kernel
theorem d_X12_text_279 : decode mX12_text.2.2.1 279 = .ok (.iload_n 2, 1) := by decide +kernel
theorem d_X12_text_280 : decode mX12_text.2.2.1 280 = .ok (.aload_n 0, 1) := by decide +kernel
theorem d_X12_text_281 : decode mX12_text.2.2.1 281 = .ok (.getfield 66, 3) := by decide +kernel
theorem d_X12_text_284 : decode mX12_text.2.2.1 284 = .ok (.aload_n 0, 1) := by decide +kernel
theorem d_X12_text_285 : decode mX12_text.2.2.1 285 = .ok (.getfield 48, 3) := by decide +kernel
theorem d_X12_text_288 : decode mX12_text.2.2.1 288 = .ok (.iaload, 1) := by decide +kernel
theorem d_X12_text_289 : decode mX12_text.2.2.1 289 = .ok (.if_icmp .ge 19, 3) := by decide +kernel
theorem d_X12_text_308 : decode mX12_text.2.2.1 308 = .ok (.iconst 0, 1) := by decide +kernel
theorem d_X12_text_292 : decode mX12_text.2.2.1 292 = .ok (.aload_n 0, 1) := by decide +kernel
theorem d_X12_text_293 : decode mX12_text.2.2.1 293 = .ok (.getfield 85, 3) := by decide +kernel
theorem d_X12_text_296 : decode mX12_text.2.2.1 296 = .ok (.iconst 3, 1) := by decide +kernel
theorem d_X12_text_297 : decode mX12_text.2.2.1 297 = .ok (.aload_n 0, 1) := by decide +kernel
theorem d_X12_text_298 : decode mX12_text.2.2.1 298 = .ok (.getfield 48, 3) := by decide +kernel
theorem d_X12_text_301 : decode mX12_text.2.2.1 301 = .ok (.imul, 1) := by decide +kernel
theorem d_X12_text_302 : decode mX12_text.2.2.1 302 = .ok (.iload_n 2, 1) := by decide +kernel
theorem d_X12_text_303 : decode mX12_text.2.2.1 303 = .ok (.iadd, 1) := by decide +kernel
theorem d_X12_text_304 : decode mX12_text.2.2.1 304 = .ok (.iaload, 1) := by decide +kernel
theorem d_X12_text_305 : decode mX12_text.2.2.1 305 = .ok (.goto 4, 3) := by decide +kernel
theorem d_X12_text_309 : decode mX12_text.2.2.1 309 = .ok (.iastore, 1) := by decide +kernel
theorem d_X12_text_310 : decode mX12_text.2.2.1 310 = .ok (.iinc 2 1, 3) := by decide +kernel
theorem d_X12_text_313 : decode mX12_text.2.2.1 313 = .ok (.goto (-44), 3) := by decide +kernel
theorem d_X12_text_316 : decode mX12_text.2.2.1 316 = .ok (.aload_n 0, 1) := by decide +kernel
theorem d_X12_text_317 : decode mX12_text.2.2.1 317 = .ok (.iconst 0, 1) := by decide +kernel
theorem d_X12_text_318 : decode mX12_text.2.2.1 318 = .ok (.putfield 270, 3) := by decide +kernel
theorem d_X12_text_321 : decode mX12_text.2.2.1 321 = .ok (.aload_n 0, 1) := by decide +kernel
theorem d_X12_text_322 : decode mX12_text.2.2.1 322 = .ok (.iconst 0, 1) := by decide +kernel
theorem d_X12_text_323 : decode mX12_text.2.2.1 323 = .ok (.putfield 327, 3) := by decide +kernel
theorem d_X12_text_326 : decode mX12_text.2.2.1 326 = .ok (.aload_n 0, 1) := by decide +kernel
theorem d_X12_text_327 : decode mX12_text.2.2.1 327 = .ok (.iconst 0, 1) := by decide +kernel
theorem d_X12_text_328 : decode mX12_text.2.2.1 328 = .ok (.putfield 333, 3) := by decide +kernel
theorem d_X12_text_331 : decode mX12_text.2.2.1 331 = .ok (.aload_n 0, 1) := by decide +kernel
theorem d_X12_text_332 : decode mX12_text.2.2.1 332 = .ok (.iconst 0, 1) := by decide +kernel
theorem d_X12_text_333 : decode mX12_text.2.2.1 333 = .ok (.putfield 342, 3) := by decide +kernel
theorem d_X12_text_336 : decode mX12_text.2.2.1 336 = .ok (.aload_n 0, 1) := by decide +kernel
theorem d_X12_text_337 : decode mX12_text.2.2.1 337 = .ok (.getfield 72, 3) := by decide +kernel
theorem d_X12_text_340 : decode mX12_text.2.2.1 340 = .ok (.aload_n 0, 1) := by decide +kernel
theorem d_X12_text_341 : decode mX12_text.2.2.1 341 = .ok (.getfield 48, 3) := by decide +kernel
theorem d_X12_text_344 : decode mX12_text.2.2.1 344 = .ok (.iaload, 1) := by decide +kernel
theorem d_X12_text_345 : decode mX12_text.2.2.1 345 = .ok (.ireturn, 1) := by decide +kernel
theorem d_X12_text_204 : decode mX12_text.2.2.1 204 = .ok (.aload_n 0, 1) := by decide +kernel
theorem d_X12_text_205 : decode mX12_text.2.2.1 205 = .ok (.getfield 165, 3) := by decide +kernel
theorem d_X12_text_208 : decode mX12_text.2.2.1 208 = .ok (.ifCond .le 19, 3) := by decide +kernel
theorem d_X12_text_227 : decode mX12_text.2.2.1 227 = .ok (.aload_n 0, 1) := by decide +kernel
theorem d_X12_text_228 : decode mX12_text.2.2.1 228 = .ok (.invokevirtual 550, 3) := by decide +kernel
def mX12_statement : MD := (12, yX12_statement, cX12_statement, 3, none)
theorem sel_X12_statement : Cond.instanceMethod mX12_statement.2.1 ∈ tblG ∧ Cond.selects mX12_statement.2.1.cls mX12_statement.2.1 mX12_statement.2.1 ∈ tblG := ⟨tblG_in (inT8 (List.mem_of_getElem? (i := 210) rfl)) rfl, tblG_in (inP6 (q := (mX12_statement.2.1, 121)) (List.mem_of_getElem? (i := 13) rfl)) rfl⟩
theorem s_12_550 : e_siteV 12 550 mX12_statement 12 := ⟨tblG_in (inT8 (List.mem_of_getElem? (i := 208) rfl)) rfl, sel_X12_statement.1, sel_X12_statement.2, rfl⟩
theorem d_X12_statement_0 : decode mX12_statement.2.2.1 0 = .ok (.aload_n 0, 1) := by decide +kernel
theorem d_X12_statement_1 : decode mX12_statement.2.2.1 1 = .ok (.invokevirtual 537, 3) := by decide +kernel
def mX12_order : MD := (12, yX12_order, cX12_order, 1, some .int)
theorem sel_X12_order : Cond.instanceMethod mX12_order.2.1 ∈ tblG ∧ Cond.selects mX12_order.2.1.cls mX12_order.2.1 mX12_order.2.1 ∈ tblG := ⟨tblG_in (inT8 (List.mem_of_getElem? (i := 214) rfl)) rfl, tblG_in (inP6 (q := (mX12_order.2.1, 121)) (List.mem_of_getElem? (i := 14) rfl)) rfl⟩
theorem s_12_537 : e_siteV 12 537 mX12_order 12 := ⟨tblG_in (inT8 (List.mem_of_getElem? (i := 212) rfl)) rfl, sel_X12_order.1, sel_X12_order.2, rfl⟩
theorem d_X12_order_0 : decode mX12_order.2.2.1 0 = .ok (.aload_n 0, 1) := by decide +kernel
theorem d_X12_order_1 : decode mX12_order.2.2.1 1 = .ok (.ldc2_w 419, 3) := by decide +kernel
theorem d_X12_order_4 : decode mX12_order.2.2.1 4 = .ok (.invokevirtual 484, 3) := by decide +kernel
theorem d_X12_order_7 : decode mX12_order.2.2.1 7 = .ok (.ifCond .eq 7, 3) := by decide +kernel
theorem d_X12_order_14 : decode mX12_order.2.2.1 14 = .ok (.aload_n 0, 1) := by decide +kernel
theorem d_X12_order_15 : decode mX12_order.2.2.1 15 = .ok (.ldc2_w 421, 3) := by decide +kernel
theorem d_X12_order_18 : decode mX12_order.2.2.1 18 = .ok (.invokevirtual 484, 3) := by decide +kernel
theorem d_X12_order_21 : decode mX12_order.2.2.1 21 = .ok (.ifCond .eq 7, 3) := by decide +kernel
theorem d_X12_order_28 : decode mX12_order.2.2.1 28 = .ok (.aload_n 0, 1) := by decide +kernel
theorem d_X12_order_29 : decode mX12_order.2.2.1 29 = .ok (.ldc2_w 423, 3) := by decide +kernel
theorem d_X12_order_32 : decode mX12_order.2.2.1 32 = .ok (.invokevirtual 484, 3) := by decide +kernel
theorem d_X12_order_35 : decode mX12_order.2.2.1 35 = .ok (.ifCond .eq 7, 3) := by decide +kernel
theorem d_X12_order_42 : decode mX12_order.2.2.1 42 = .ok (.aload_n 0, 1) := by decide +kernel
theorem d_X12_order_43 : decode mX12_order.2.2.1 43 = .ok (.ldc2_w 425, 3) := by decide +kernel
theorem d_X12_order_46 : decode mX12_order.2.2.1 46 = .ok (.invokevirtual 484, 3) := by decide +kernel
theorem d_X12_order_49 : decode mX12_order.2.2.1 49 = .ok (.ifCond .eq 7, 3) := by decide +kernel
theorem d_X12_order_56 : decode mX12_order.2.2.1 56 = .ok (.aload_n 0, 1) := by decide +kernel
theorem d_X12_order_57 : decode mX12_order.2.2.1 57 = .ok (.ldc2_w 427, 3) := by decide +kernel
theorem d_X12_order_60 : decode mX12_order.2.2.1 60 = .ok (.invokevirtual 484, 3) := by decide +kernel
theorem d_X12_order_63 : decode mX12_order.2.2.1 63 = .ok (.ifCond .eq 7, 3) := by decide +kernel
theorem d_X12_order_70 : decode mX12_order.2.2.1 70 = .ok (.aload_n 0, 1) := by decide +kernel
theorem d_X12_order_71 : decode mX12_order.2.2.1 71 = .ok (.ldc2_w 429, 3) := by decide +kernel
theorem d_X12_order_74 : decode mX12_order.2.2.1 74 = .ok (.invokevirtual 484, 3) := by decide +kernel
theorem d_X12_order_77 : decode mX12_order.2.2.1 77 = .ok (.ifCond .eq 8, 3) := by decide +kernel
theorem d_X12_order_85 : decode mX12_order.2.2.1 85 = .ok (.aload_n 0, 1) := by decide +kernel
theorem d_X12_order_86 : decode mX12_order.2.2.1 86 = .ok (.ldc2_w 431, 3) := by decide +kernel
theorem d_X12_order_89 : decode mX12_order.2.2.1 89 = .ok (.invokevirtual 484, 3) := by decide +kernel
theorem d_X12_order_92 : decode mX12_order.2.2.1 92 = .ok (.ifCond .eq 8, 3) := by decide +kernel
theorem d_X12_order_100 : decode mX12_order.2.2.1 100 = .ok (.aload_n 0, 1) := by decide +kernel
theorem d_X12_order_101 : decode mX12_order.2.2.1 101 = .ok (.ldc2_w 435, 3) := by decide +kernel
theorem d_X12_order_104 : decode mX12_order.2.2.1 104 = .ok (.invokevirtual 484, 3) := by decide +kernel
theorem d_X12_order_107 : decode mX12_order.2.2.1 107 = .ok (.ifCond .eq 8, 3) := by decide +kernel
theorem d_X12_order_115 : decode mX12_order.2.2.1 115 = .ok (.iconst (-1), 1) := by decide +kernel
theorem d_X12_order_116 : decode mX12_order.2.2.1 116 = .ok (.ireturn, 1) := by decide +kernel
theorem d_X12_order_110 : decode mX12_order.2.2.1 110 = .ok (.bipush 8, 2) := by decide +kernel
theorem d_X12_order_112 : decode mX12_order.2.2.1 112 = .ok (.goto 4, 3) := by decide +kernel
theorem d_X12_order_95 : decode mX12_order.2.2.1 95 = .ok (.bipush 7, 2) := by decide +kernel
theorem d_X12_order_97 : decode mX12_order.2.2.1 97 = .ok (.goto 19, 3) := by decide +kernel
theorem d_X12_order_80 : decode mX12_order.2.2.1 80 = .ok (.bipush 6, 2) := by decide +kernel
theorem d_X12_order_82 : decode mX12_order.2.2.1 82 = .ok (.goto 34, 3) := by decide +kernel
theorem d_X12_order_66 : decode mX12_order.2.2.1 66 = .ok (.iconst 5, 1) := by decide +kernel
theorem d_X12_order_67 : decode mX12_order.2.2.1 67 = .ok (.goto 49, 3) := by decide +kernel
theorem d_X12_order_52 : decode mX12_order.2.2.1 52 = .ok (.iconst 4, 1) := by decide +kernel
theorem d_X12_order_53 : decode mX12_order.2.2.1 53 = .ok (.goto 63, 3) := by decide +kernel
theorem d_X12_order_38 : decode mX12_order.2.2.1 38 = .ok (.iconst 3, 1) := by decide +kernel
theorem d_X12_order_39 : decode mX12_order.2.2.1 39 = .ok (.goto 77, 3) := by decide +kernel
theorem d_X12_order_24 : decode mX12_order.2.2.1 24 = .ok (.iconst 2, 1) := by decide +kernel
theorem d_X12_order_25 : decode mX12_order.2.2.1 25 = .ok (.goto 91, 3) := by decide +kernel
theorem d_X12_order_10 : decode mX12_order.2.2.1 10 = .ok (.iconst 1, 1) := by decide +kernel
theorem d_X12_order_11 : decode mX12_order.2.2.1 11 = .ok (.goto 105, 3) := by decide +kernel
theorem ok_X12_order : e_m mX12_order 0 := ⟨tblG_in (inT8 (List.mem_of_getElem? (i := 215) rfl)) rfl, plainFor_of_name (by decide), rfl, ini_12, by decide +kernel, by decide⟩
theorem d_X12_statement_4 : decode mX12_statement.2.2.1 4 = .ok (.istore_n 1, 1) := by decide +kernel
theorem d_X12_statement_5 : decode mX12_statement.2.2.1 5 = .ok (.iload_n 1, 1) := by decide +kernel
theorem d_X12_statement_6 : decode mX12_statement.2.2.1 6 = .ok (.iconst (-1), 1) := by decide +kernel
theorem d_X12_statement_7 : decode mX12_statement.2.2.1 7 = .ok (.if_icmp .ne 12, 3) := by decide +kernel
theorem d_X12_statement_10 : decode mX12_statement.2.2.1 10 = .ok (.aload_n 0, 1) := by decide +kernel
theorem d_X12_statement_11 : decode mX12_statement.2.2.1 11 = .ok (.iconst 1, 1) := by decide +kernel
theorem d_X12_statement_12 : decode mX12_statement.2.2.1 12 = .ok (.aload_n 0, 1) := by decide +kernel
theorem d_X12_statement_13 : decode mX12_statement.2.2.1 13 = .ok (.getfield 23, 3) := by decide +kernel
theorem d_X12_statement_16 : decode mX12_statement.2.2.1 16 = .ok (.invokevirtual 389, 3) := by decide +kernel
theorem d_X12_statement_19 : decode mX12_statement.2.2.1 19 = .ok (.aload_n 0, 1) := by decide +kernel
theorem d_X12_statement_20 : decode mX12_statement.2.2.1 20 = .ok (.getfield 36, 3) := by decide +kernel
theorem d_X12_statement_23 : decode mX12_statement.2.2.1 23 = .ok (.ifCond .ne 26, 3) := by decide +kernel
theorem d_X12_statement_26 : decode mX12_statement.2.2.1 26 = .ok (.aload_n 0, 1) := by decide +kernel
theorem d_X12_statement_27 : decode mX12_statement.2.2.1 27 = .ok (.getfield 72, 3) := by decide +kernel
theorem d_X12_statement_30 : decode mX12_statement.2.2.1 30 = .ok (.aload_n 0, 1) := by decide +kernel
theorem d_X12_statement_31 : decode mX12_statement.2.2.1 31 = .ok (.getfield 124, 3) := by decide +kernel
theorem d_X12_statement_34 : decode mX12_statement.2.2.1 34 = .ok (.iaload, 1) := by decide +kernel
theorem d_X12_statement_35 : decode mX12_statement.2.2.1 35 = .ok (.bipush 60, 2) := by decide +kernel
theorem d_X12_statement_37 : decode mX12_statement.2.2.1 37 = .ok (.if_icmp .ne 12, 3) := by decide +kernel
theorem d_X12_statement_40 : decode mX12_statement.2.2.1 40 = .ok (.aload_n 0, 1) := by decide +kernel
theorem d_X12_statement_41 : decode mX12_statement.2.2.1 41 = .ok (.iconst 5, 1) := by decide +kernel
theorem d_X12_statement_42 : decode mX12_statement.2.2.1 42 = .ok (.aload_n 0, 1) := by decide +kernel
theorem d_X12_statement_43 : decode mX12_statement.2.2.1 43 = .ok (.getfield 23, 3) := by decide +kernel
theorem d_X12_statement_46 : decode mX12_statement.2.2.1 46 = .ok (.invokevirtual 389, 3) := by decide +kernel
theorem d_X12_statement_49 : decode mX12_statement.2.2.1 49 = .ok (.aload_n 0, 1) := by decide +kernel
theorem d_X12_statement_50 : decode mX12_statement.2.2.1 50 = .ok (.getfield 36, 3) := by decide +kernel
theorem d_X12_statement_53 : decode mX12_statement.2.2.1 53 = .ok (.ifCond .le 4, 3) := by decide +kernel
theorem d_X12_statement_57 : decode mX12_statement.2.2.1 57 = .ok (.aload_n 0, 1) := by decide +kernel
theorem d_X12_statement_58 : decode mX12_statement.2.2.1 58 = .ok (.iload_n 1, 1) := by decide +kernel
theorem d_X12_statement_59 : decode mX12_statement.2.2.1 59 = .ok (.aload_n 0, 1) := by decide +kernel
theorem d_X12_statement_60 : decode mX12_statement.2.2.1 60 = .ok (.getfield 72, 3) := by decide +kernel
theorem d_X12_statement_63 : decode mX12_statement.2.2.1 63 = .ok (.aload_n 0, 1) := by decide +kernel
theorem d_X12_statement_64 : decode mX12_statement.2.2.1 64 = .ok (.getfield 124, 3) := by decide +kernel
theorem d_X12_statement_67 : decode mX12_statement.2.2.1 67 = .ok (.iaload, 1) := by decide +kernel
theorem d_X12_statement_68 : decode mX12_statement.2.2.1 68 = .ok (.invokevirtual 531, 3) := by decide +kernel
def mX12_spot : MD := (12, yX12_spot, cX12_spot, 4, some .int)
theorem sel_X12_spot : Cond.instanceMethod mX12_spot.2.1 ∈ tblG ∧ Cond.selects mX12_spot.2.1.cls mX12_spot.2.1 mX12_spot.2.1 ∈ tblG := ⟨tblG_in (inT8 (List.mem_of_getElem? (i := 202) rfl)) rfl, tblG_in (inP6 (q := (mX12_spot.2.1, 121)) (List.mem_of_getElem? (i := 11) rfl)) rfl⟩
theorem s_12_531 : e_siteV 12 531 mX12_spot 12 := ⟨tblG_in (inT8 (List.mem_of_getElem? (i := 200) rfl)) rfl, sel_X12_spot.1, sel_X12_spot.2, rfl⟩
theorem d_X12_spot_0 : decode mX12_spot.2.2.1 0 = .ok (.sipush 200, 3) := by decide +kernel
theorem d_X12_spot_3 : decode mX12_spot.2.2.1 3 = .ok (.aload_n 0, 1) := by decide +kernel
theorem d_X12_spot_4 : decode mX12_spot.2.2.1 4 = .ok (.getfield 124, 3) := by decide +kernel
theorem d_X12_spot_7 : decode mX12_spot.2.2.1 7 = .ok (.imul, 1) := by decide +kernel
theorem d_X12_spot_8 : decode mX12_spot.2.2.1 8 = .ok (.aload_n 0, 1) := by decide +kernel
theorem d_X12_spot_9 : decode mX12_spot.2.2.1 9 = .ok (.getfield 94, 3) := by decide +kernel
theorem d_X12_spot_12 : decode mX12_spot.2.2.1 12 = .ok (.aload_n 0, 1) := by decide +kernel
theorem d_X12_spot_13 : decode mX12_spot.2.2.1 13 = .ok (.getfield 124, 3) := by decide +kernel
theorem d_X12_spot_16 : decode mX12_spot.2.2.1 16 = .ok (.iaload, 1) := by decide +kernel
theorem d_X12_spot_17 : decode mX12_spot.2.2.1 17 = .ok (.iadd, 1) := by decide +kernel
theorem d_X12_spot_18 : decode mX12_spot.2.2.1 18 = .ok (.istore_n 3, 1) := by decide +kernel
theorem d_X12_spot_19 : decode mX12_spot.2.2.1 19 = .ok (.aload_n 0, 1) := by decide +kernel
theorem d_X12_spot_20 : decode mX12_spot.2.2.1 20 = .ok (.getfield 97, 3) := by decide +kernel
theorem d_X12_spot_23 : decode mX12_spot.2.2.1 23 = .ok (.iload_n 3, 1) := by decide +kernel
theorem d_X12_spot_24 : decode mX12_spot.2.2.1 24 = .ok (.iload_n 1, 1) := by decide +kernel
theorem d_X12_spot_25 : decode mX12_spot.2.2.1 25 = .ok (.iastore, 1) := by decide +kernel
theorem d_X12_spot_26 : decode mX12_spot.2.2.1 26 = .ok (.aload_n 0, 1) := by decide +kernel
theorem d_X12_spot_27 : decode mX12_spot.2.2.1 27 = .ok (.getfield 100, 3) := by decide +kernel
theorem d_X12_spot_30 : decode mX12_spot.2.2.1 30 = .ok (.iload_n 3, 1) := by decide +kernel
theorem d_X12_spot_31 : decode mX12_spot.2.2.1 31 = .ok (.iload_n 2, 1) := by decide +kernel
theorem d_X12_spot_32 : decode mX12_spot.2.2.1 32 = .ok (.iastore, 1) := by decide +kernel
theorem d_X12_spot_33 : decode mX12_spot.2.2.1 33 = .ok (.aload_n 0, 1) := by decide +kernel
theorem d_X12_spot_34 : decode mX12_spot.2.2.1 34 = .ok (.getfield 103, 3) := by decide +kernel
theorem d_X12_spot_37 : decode mX12_spot.2.2.1 37 = .ok (.iload_n 3, 1) := by decide +kernel
theorem d_X12_spot_38 : decode mX12_spot.2.2.1 38 = .ok (.iconst 0, 1) := by decide +kernel
theorem d_X12_spot_39 : decode mX12_spot.2.2.1 39 = .ok (.iastore, 1) := by decide +kernel
theorem d_X12_spot_40 : decode mX12_spot.2.2.1 40 = .ok (.aload_n 0, 1) := by decide +kernel
theorem d_X12_spot_41 : decode mX12_spot.2.2.1 41 = .ok (.getfield 106, 3) := by decide +kernel
theorem d_X12_spot_44 : decode mX12_spot.2.2.1 44 = .ok (.iload_n 3, 1) := by decide +kernel
theorem d_X12_spot_45 : decode mX12_spot.2.2.1 45 = .ok (.aload_n 0, 1) := by decide +kernel
theorem d_X12_spot_46 : decode mX12_spot.2.2.1 46 = .ok (.getfield 121, 3) := by decide +kernel
theorem d_X12_spot_49 : decode mX12_spot.2.2.1 49 = .ok (.iastore, 1) := by decide +kernel
theorem d_X12_spot_50 : decode mX12_spot.2.2.1 50 = .ok (.aload_n 0, 1) := by decide +kernel
theorem d_X12_spot_51 : decode mX12_spot.2.2.1 51 = .ok (.getfield 109, 3) := by decide +kernel
theorem d_X12_spot_54 : decode mX12_spot.2.2.1 54 = .ok (.iload_n 3, 1) := by decide +kernel
theorem d_X12_spot_55 : decode mX12_spot.2.2.1 55 = .ok (.aload_n 0, 1) := by decide +kernel
theorem d_X12_spot_56 : decode mX12_spot.2.2.1 56 = .ok (.getfield 121, 3) := by decide +kernel
theorem d_X12_spot_59 : decode mX12_spot.2.2.1 59 = .ok (.iastore, 1) := by decide +kernel
theorem d_X12_spot_60 : decode mX12_spot.2.2.1 60 = .ok (.aload_n 0, 1) := by decide +kernel
theorem d_X12_spot_61 : decode mX12_spot.2.2.1 61 = .ok (.getfield 112, 3) := by decide +kernel
theorem d_X12_spot_64 : decode mX12_spot.2.2.1 64 = .ok (.iload_n 3, 1) := by decide +kernel
theorem d_X12_spot_65 : decode mX12_spot.2.2.1 65 = .ok (.iconst 0, 1) := by decide +kernel
theorem d_X12_spot_66 : decode mX12_spot.2.2.1 66 = .ok (.iastore, 1) := by decide +kernel
theorem d_X12_spot_67 : decode mX12_spot.2.2.1 67 = .ok (.aload_n 0, 1) := by decide +kernel
theorem d_X12_spot_68 : decode mX12_spot.2.2.1 68 = .ok (.getfield 94, 3) := by decide +kernel
theorem d_X12_spot_71 : decode mX12_spot.2.2.1 71 = .ok (.aload_n 0, 1) := by decide +kernel
theorem d_X12_spot_72 : decode mX12_spot.2.2.1 72 = .ok (.getfield 124, 3) := by decide +kernel
theorem d_X12_spot_75 : decode mX12_spot.2.2.1 75 = .ok (.dup2, 1) := by decide +kernel
theorem d_X12_spot_76 : decode mX12_spot.2.2.1 76 = .ok (.iaload, 1) := by decide +kernel
theorem d_X12_spot_77 : decode mX12_spot.2.2.1 77 = .ok (.iconst 1, 1) := by decide +kernel
theorem d_X12_spot_78 : decode mX12_spot.2.2.1 78 = .ok (.iadd, 1) := by decide +kernel
theorem d_X12_spot_79 : decode mX12_spot.2.2.1 79 = .ok (.iastore, 1) := by decide +kernel
theorem d_X12_spot_80 : decode mX12_spot.2.2.1 80 = .ok (.iload_n 3, 1) := by decide +kernel
theorem d_X12_spot_81 : decode mX12_spot.2.2.1 81 = .ok (.ireturn, 1) := by decide +kernel
theorem ok_X12_spot : e_m mX12_spot 2 := ⟨tblG_in (inT8 (List.mem_of_getElem? (i := 203) rfl)) rfl, plainFor_of_name (by decide), rfl, ini_12, by decide +kernel, by decide⟩
theorem d_X12_statement_71 : decode mX12_statement.2.2.1 71 = .ok (.istore_n 2, 1) := by decide +kernel
theorem d_X12_statement_72 : decode mX12_statement.2.2.1 72 = .ok (.aload_n 0, 1) := by decide +kernel
theorem d_X12_statement_73 : decode mX12_statement.2.2.1 73 = .ok (.getfield 72, 3) := by decide +kernel
theorem d_X12_statement_76 : decode mX12_statement.2.2.1 76 = .ok (.aload_n 0, 1) := by decide +kernel
theorem d_X12_statement_77 : decode mX12_statement.2.2.1 77 = .ok (.getfield 124, 3) := by decide +kernel
theorem d_X12_statement_80 : decode mX12_statement.2.2.1 80 = .ok (.dup2, 1) := by decide +kernel
theorem d_X12_statement_81 : decode mX12_statement.2.2.1 81 = .ok (.iaload, 1) := by decide +kernel
theorem d_X12_statement_82 : decode mX12_statement.2.2.1 82 = .ok (.iconst 1, 1) := by decide +kernel
theorem d_X12_statement_83 : decode mX12_statement.2.2.1 83 = .ok (.iadd, 1) := by decide +kernel
theorem d_X12_statement_84 : decode mX12_statement.2.2.1 84 = .ok (.iastore, 1) := by decide +kernel
theorem d_X12_statement_85 : decode mX12_statement.2.2.1 85 = .ok (.aload_n 0, 1) := by decide +kernel
theorem d_X12_statement_86 : decode mX12_statement.2.2.1 86 = .ok (.invokevirtual 396, 3) := by decide +kernel
theorem d_X12_statement_89 : decode mX12_statement.2.2.1 89 = .ok (.iload_n 1, 1) := by decide +kernel
theorem d_X12_statement_90 : decode mX12_statement.2.2.1 90 = .ok (.iconst 1, 1) := by decide +kernel
theorem d_X12_statement_91 : decode mX12_statement.2.2.1 91 = .ok (.if_icmp .ne 27, 3) := by decide +kernel
theorem d_X12_statement_94 : decode mX12_statement.2.2.1 94 = .ok (.aload_n 0, 1) := by decide +kernel
theorem d_X12_statement_95 : decode mX12_statement.2.2.1 95 = .ok (.getfield 103, 3) := by decide +kernel
theorem d_X12_statement_98 : decode mX12_statement.2.2.1 98 = .ok (.iload_n 2, 1) := by decide +kernel
theorem d_X12_statement_99 : decode mX12_statement.2.2.1 99 = .ok (.aload_n 0, 1) := by decide +kernel
theorem d_X12_statement_100 : decode mX12_statement.2.2.1 100 = .ok (.iconst 1, 1) := by decide +kernel
theorem d_X12_statement_101 : decode mX12_statement.2.2.1 101 = .ok (.invokevirtual 493, 3) := by decide +kernel
def mX12_asked : MD := (12, yX12_asked, cX12_asked, 3, some .int)
theorem sel_X12_asked : Cond.instanceMethod mX12_asked.2.1 ∈ tblG ∧ Cond.selects mX12_asked.2.1.cls mX12_asked.2.1 mX12_asked.2.1 ∈ tblG := ⟨tblG_in (inT8 (List.mem_of_getElem? (i := 218) rfl)) rfl, tblG_in (inP6 (q := (mX12_asked.2.1, 121)) (List.mem_of_getElem? (i := 15) rfl)) rfl⟩
