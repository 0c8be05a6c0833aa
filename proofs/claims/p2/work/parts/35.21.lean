theorem d_X12_operand_233 : decode mX12_operand.2.2.1 233 = .ok (.aload_n 0, 1) := by decide +kernel
theorem d_X12_operand_234 : decode mX12_operand.2.2.1 234 = .ok (.iconst 1, 1) := by decide +kernel
theorem d_X12_operand_235 : decode mX12_operand.2.2.1 235 = .ok (.aload_n 0, 1) := by decide +kernel
theorem d_X12_operand_236 : decode mX12_operand.2.2.1 236 = .ok (.getfield 23, 3) := by decide +kernel
theorem d_X12_operand_239 : decode mX12_operand.2.2.1 239 = .ok (.invokevirtual 389, 3) := by decide +kernel
theorem d_X12_operand_242 : decode mX12_operand.2.2.1 242 = .ok (.aload_n 0, 1) := by decide +kernel
theorem d_X12_operand_243 : decode mX12_operand.2.2.1 243 = .ok (.iconst 3, 1) := by decide +kernel
theorem d_X12_operand_244 : decode mX12_operand.2.2.1 244 = .ok (.invokevirtual 490, 3) := by decide +kernel
theorem d_X12_operand_247 : decode mX12_operand.2.2.1 247 = .ok (.aload_n 0, 1) := by decide +kernel
theorem d_X12_operand_248 : decode mX12_operand.2.2.1 248 = .ok (.getfield 36, 3) := by decide +kernel
theorem d_X12_operand_251 : decode mX12_operand.2.2.1 251 = .ok (.ifCond .ne 15, 3) := by decide +kernel
theorem d_X12_operand_266 : decode mX12_operand.2.2.1 266 = .ok (.iconst 0, 1) := by decide +kernel
theorem d_X12_operand_267 : decode mX12_operand.2.2.1 267 = .ok (.ireturn, 1) := by decide +kernel
theorem d_X12_operand_254 : decode mX12_operand.2.2.1 254 = .ok (.aload_n 0, 1) := by decide +kernel
theorem d_X12_operand_255 : decode mX12_operand.2.2.1 255 = .ok (.getfield 137, 3) := by decide +kernel
theorem d_X12_operand_258 : decode mX12_operand.2.2.1 258 = .ok (.aload_n 0, 1) := by decide +kernel
theorem d_X12_operand_259 : decode mX12_operand.2.2.1 259 = .ok (.getfield 143, 3) := by decide +kernel
theorem d_X12_operand_262 : decode mX12_operand.2.2.1 262 = .ok (.iconst 1, 1) := by decide +kernel
theorem d_X12_operand_263 : decode mX12_operand.2.2.1 263 = .ok (.isub, 1) := by decide +kernel
theorem d_X12_operand_264 : decode mX12_operand.2.2.1 264 = .ok (.iload_n 3, 1) := by decide +kernel
theorem d_X12_operand_265 : decode mX12_operand.2.2.1 265 = .ok (.iastore, 1) := by decide +kernel
theorem d_X12_operand_157 : decode mX12_operand.2.2.1 157 = .ok (.aload_n 0, 1) := by decide +kernel
theorem d_X12_operand_158 : decode mX12_operand.2.2.1 158 = .ok (.getfield 130, 3) := by decide +kernel
theorem d_X12_operand_161 : decode mX12_operand.2.2.1 161 = .ok (.iload_n 1, 1) := by decide +kernel
theorem d_X12_operand_162 : decode mX12_operand.2.2.1 162 = .ok (.iconst 2, 1) := by decide +kernel
theorem d_X12_operand_163 : decode mX12_operand.2.2.1 163 = .ok (.iastore, 1) := by decide +kernel
theorem d_X12_operand_164 : decode mX12_operand.2.2.1 164 = .ok (.iconst 1, 1) := by decide +kernel
theorem d_X12_operand_165 : decode mX12_operand.2.2.1 165 = .ok (.ireturn, 1) := by decide +kernel
theorem ok_X12_operand : e_m mX12_operand 0 := ⟨tblG_in (inT8 (List.mem_of_getElem? (i := 231) rfl)) rfl, plainFor_of_name (by decide), rfl, ini_12, by decide +kernel, by decide⟩
theorem d_X12_reads_54 : decode mX12_reads.2.2.1 54 = .ok (.putfield 155, 3) := by decide +kernel
theorem d_X12_reads_57 : decode mX12_reads.2.2.1 57 = .ok (.goto 8, 3) := by decide +kernel
theorem d_X12_reads_65 : decode mX12_reads.2.2.1 65 = .ok (.iload_n 2, 1) := by decide +kernel
theorem d_X12_reads_66 : decode mX12_reads.2.2.1 66 = .ok (.ifCond .eq 14, 3) := by decide +kernel
theorem d_X12_reads_69 : decode mX12_reads.2.2.1 69 = .ok (.aload_n 0, 1) := by decide +kernel
theorem d_X12_reads_70 : decode mX12_reads.2.2.1 70 = .ok (.getfield 36, 3) := by decide +kernel
theorem d_X12_reads_73 : decode mX12_reads.2.2.1 73 = .ok (.ifCond .ne 7, 3) := by decide +kernel
theorem d_X12_reads_76 : decode mX12_reads.2.2.1 76 = .ok (.iconst 1, 1) := by decide +kernel
theorem d_X12_reads_77 : decode mX12_reads.2.2.1 77 = .ok (.goto 4, 3) := by decide +kernel
theorem d_X12_reads_80 : decode mX12_reads.2.2.1 80 = .ok (.iconst 0, 1) := by decide +kernel
theorem d_X12_reads_81 : decode mX12_reads.2.2.1 81 = .ok (.istore_n 2, 1) := by decide +kernel
theorem d_X12_reads_82 : decode mX12_reads.2.2.1 82 = .ok (.goto (-44), 3) := by decide +kernel
theorem d_X12_reads_85 : decode mX12_reads.2.2.1 85 = .ok (.return_, 1) := by decide +kernel
theorem d_X12_reads_60 : decode mX12_reads.2.2.1 60 = .ok (.aload_n 0, 1) := by decide +kernel
theorem d_X12_reads_61 : decode mX12_reads.2.2.1 61 = .ok (.invokevirtual 502, 3) := by decide +kernel
def mX12_goesOn : MD := (12, yX12_goesOn, cX12_goesOn, 5, some .boolean)
theorem sel_X12_goesOn : Cond.instanceMethod mX12_goesOn.2.1 ∈ tblG ∧ Cond.selects mX12_goesOn.2.1.cls mX12_goesOn.2.1 mX12_goesOn.2.1 ∈ tblG := ⟨tblG_in (inT9 (List.mem_of_getElem? (i := 9) rfl)) rfl, tblG_in (inP7 (q := (mX12_goesOn.2.1, 121)) (List.mem_of_getElem? (i := 6) rfl)) rfl⟩
theorem s_12_502 : e_siteV 12 502 mX12_goesOn 12 := ⟨tblG_in (inT9 (List.mem_of_getElem? (i := 7) rfl)) rfl, sel_X12_goesOn.1, sel_X12_goesOn.2, rfl⟩
theorem d_X12_goesOn_0 : decode mX12_goesOn.2.2.1 0 = .ok (.aload_n 0, 1) := by decide +kernel
theorem d_X12_goesOn_1 : decode mX12_goesOn.2.2.1 1 = .ok (.getfield 143, 3) := by decide +kernel
theorem d_X12_goesOn_4 : decode mX12_goesOn.2.2.1 4 = .ok (.iconst 1, 1) := by decide +kernel
theorem d_X12_goesOn_5 : decode mX12_goesOn.2.2.1 5 = .ok (.isub, 1) := by decide +kernel
theorem d_X12_goesOn_6 : decode mX12_goesOn.2.2.1 6 = .ok (.istore_n 1, 1) := by decide +kernel
theorem d_X12_goesOn_7 : decode mX12_goesOn.2.2.1 7 = .ok (.aload_n 0, 1) := by decide +kernel
theorem d_X12_goesOn_8 : decode mX12_goesOn.2.2.1 8 = .ok (.getfield 127, 3) := by decide +kernel
theorem d_X12_goesOn_11 : decode mX12_goesOn.2.2.1 11 = .ok (.iload_n 1, 1) := by decide +kernel
theorem d_X12_goesOn_12 : decode mX12_goesOn.2.2.1 12 = .ok (.iaload, 1) := by decide +kernel
theorem d_X12_goesOn_13 : decode mX12_goesOn.2.2.1 13 = .ok (.istore_n 2, 1) := by decide +kernel
theorem d_X12_goesOn_14 : decode mX12_goesOn.2.2.1 14 = .ok (.iload_n 2, 1) := by decide +kernel
theorem d_X12_goesOn_15 : decode mX12_goesOn.2.2.1 15 = .ok (.invokestatic 481, 3) := by decide +kernel
theorem d_X12_goesOn_18 : decode mX12_goesOn.2.2.1 18 = .ok (.istore_n 3, 1) := by decide +kernel
theorem d_X12_goesOn_19 : decode mX12_goesOn.2.2.1 19 = .ok (.aload_n 0, 1) := by decide +kernel
theorem d_X12_goesOn_20 : decode mX12_goesOn.2.2.1 20 = .ok (.getfield 130, 3) := by decide +kernel
theorem d_X12_goesOn_23 : decode mX12_goesOn.2.2.1 23 = .ok (.iload_n 1, 1) := by decide +kernel
theorem d_X12_goesOn_24 : decode mX12_goesOn.2.2.1 24 = .ok (.iaload, 1) := by decide +kernel
theorem d_X12_goesOn_25 : decode mX12_goesOn.2.2.1 25 = .ok (.iconst 2, 1) := by decide +kernel
theorem d_X12_goesOn_26 : decode mX12_goesOn.2.2.1 26 = .ok (.if_icmp .ge 149, 3) := by decide +kernel
theorem d_X12_goesOn_29 : decode mX12_goesOn.2.2.1 29 = .ok (.aload_n 0, 1) := by decide +kernel
theorem d_X12_goesOn_30 : decode mX12_goesOn.2.2.1 30 = .ok (.bipush 43, 2) := by decide +kernel
theorem d_X12_goesOn_32 : decode mX12_goesOn.2.2.1 32 = .ok (.invokevirtual 393, 3) := by decide +kernel
theorem d_X12_goesOn_35 : decode mX12_goesOn.2.2.1 35 = .ok (.ifCond .ne 39, 3) := by decide +kernel
theorem d_X12_goesOn_38 : decode mX12_goesOn.2.2.1 38 = .ok (.aload_n 0, 1) := by decide +kernel
theorem d_X12_goesOn_39 : decode mX12_goesOn.2.2.1 39 = .ok (.bipush 45, 2) := by decide +kernel
theorem d_X12_goesOn_41 : decode mX12_goesOn.2.2.1 41 = .ok (.invokevirtual 393, 3) := by decide +kernel
theorem d_X12_goesOn_44 : decode mX12_goesOn.2.2.1 44 = .ok (.ifCond .ne 30, 3) := by decide +kernel
theorem d_X12_goesOn_47 : decode mX12_goesOn.2.2.1 47 = .ok (.aload_n 0, 1) := by decide +kernel
theorem d_X12_goesOn_48 : decode mX12_goesOn.2.2.1 48 = .ok (.bipush 42, 2) := by decide +kernel
theorem d_X12_goesOn_50 : decode mX12_goesOn.2.2.1 50 = .ok (.invokevirtual 393, 3) := by decide +kernel
theorem d_X12_goesOn_53 : decode mX12_goesOn.2.2.1 53 = .ok (.ifCond .ne 21, 3) := by decide +kernel
theorem d_X12_goesOn_56 : decode mX12_goesOn.2.2.1 56 = .ok (.aload_n 0, 1) := by decide +kernel
theorem d_X12_goesOn_57 : decode mX12_goesOn.2.2.1 57 = .ok (.bipush 47, 2) := by decide +kernel
theorem d_X12_goesOn_59 : decode mX12_goesOn.2.2.1 59 = .ok (.invokevirtual 393, 3) := by decide +kernel
theorem d_X12_goesOn_62 : decode mX12_goesOn.2.2.1 62 = .ok (.ifCond .ne 12, 3) := by decide +kernel
theorem d_X12_goesOn_65 : decode mX12_goesOn.2.2.1 65 = .ok (.aload_n 0, 1) := by decide +kernel
theorem d_X12_goesOn_66 : decode mX12_goesOn.2.2.1 66 = .ok (.bipush 37, 2) := by decide +kernel
theorem d_X12_goesOn_68 : decode mX12_goesOn.2.2.1 68 = .ok (.invokevirtual 393, 3) := by decide +kernel
theorem d_X12_goesOn_71 : decode mX12_goesOn.2.2.1 71 = .ok (.ifCond .eq 104, 3) := by decide +kernel
theorem d_X12_goesOn_175 : decode mX12_goesOn.2.2.1 175 = .ok (.iload_n 3, 1) := by decide +kernel
theorem d_X12_goesOn_176 : decode mX12_goesOn.2.2.1 176 = .ok (.ifCond .eq 96, 3) := by decide +kernel
theorem d_X12_goesOn_179 : decode mX12_goesOn.2.2.1 179 = .ok (.aload_n 0, 1) := by decide +kernel
theorem d_X12_goesOn_180 : decode mX12_goesOn.2.2.1 180 = .ok (.getfield 130, 3) := by decide +kernel
theorem d_X12_goesOn_183 : decode mX12_goesOn.2.2.1 183 = .ok (.iload_n 1, 1) := by decide +kernel
theorem d_X12_goesOn_184 : decode mX12_goesOn.2.2.1 184 = .ok (.iaload, 1) := by decide +kernel
theorem d_X12_goesOn_185 : decode mX12_goesOn.2.2.1 185 = .ok (.ifCond .ne 87, 3) := by decide +kernel
theorem d_X12_goesOn_188 : decode mX12_goesOn.2.2.1 188 = .ok (.aload_n 0, 1) := by decide +kernel
theorem d_X12_goesOn_189 : decode mX12_goesOn.2.2.1 189 = .ok (.bipush 60, 2) := by decide +kernel
theorem d_X12_goesOn_191 : decode mX12_goesOn.2.2.1 191 = .ok (.invokevirtual 393, 3) := by decide +kernel
theorem d_X12_goesOn_194 : decode mX12_goesOn.2.2.1 194 = .ok (.ifCond .ne 21, 3) := by decide +kernel
theorem d_X12_goesOn_197 : decode mX12_goesOn.2.2.1 197 = .ok (.aload_n 0, 1) := by decide +kernel
theorem d_X12_goesOn_198 : decode mX12_goesOn.2.2.1 198 = .ok (.bipush 62, 2) := by decide +kernel
theorem d_X12_goesOn_200 : decode mX12_goesOn.2.2.1 200 = .ok (.invokevirtual 393, 3) := by decide +kernel
theorem d_X12_goesOn_203 : decode mX12_goesOn.2.2.1 203 = .ok (.ifCond .ne 12, 3) := by decide +kernel
theorem d_X12_goesOn_206 : decode mX12_goesOn.2.2.1 206 = .ok (.aload_n 0, 1) := by decide +kernel
theorem d_X12_goesOn_207 : decode mX12_goesOn.2.2.1 207 = .ok (.bipush 61, 2) := by decide +kernel
theorem d_X12_goesOn_209 : decode mX12_goesOn.2.2.1 209 = .ok (.invokevirtual 393, 3) := by decide +kernel
theorem d_X12_goesOn_212 : decode mX12_goesOn.2.2.1 212 = .ok (.ifCond .eq 60, 3) := by decide +kernel
theorem d_X12_goesOn_272 : decode mX12_goesOn.2.2.1 272 = .ok (.iload_n 3, 1) := by decide +kernel
theorem d_X12_goesOn_273 : decode mX12_goesOn.2.2.1 273 = .ok (.ifCond .eq 114, 3) := by decide +kernel
theorem d_X12_goesOn_276 : decode mX12_goesOn.2.2.1 276 = .ok (.aload_n 0, 1) := by decide +kernel
theorem d_X12_goesOn_277 : decode mX12_goesOn.2.2.1 277 = .ok (.ldc2_w 439, 3) := by decide +kernel
theorem d_X12_goesOn_280 : decode mX12_goesOn.2.2.1 280 = .ok (.invokevirtual 484, 3) := by decide +kernel
theorem d_X12_goesOn_283 : decode mX12_goesOn.2.2.1 283 = .ok (.ifCond .ne 13, 3) := by decide +kernel
theorem d_X12_goesOn_286 : decode mX12_goesOn.2.2.1 286 = .ok (.aload_n 0, 1) := by decide +kernel
theorem d_X12_goesOn_287 : decode mX12_goesOn.2.2.1 287 = .ok (.ldc2_w 437, 3) := by decide +kernel
theorem d_X12_goesOn_290 : decode mX12_goesOn.2.2.1 290 = .ok (.invokevirtual 484, 3) := by decide +kernel
theorem d_X12_goesOn_293 : decode mX12_goesOn.2.2.1 293 = .ok (.ifCond .eq 94, 3) := by decide +kernel
theorem d_X12_goesOn_387 : decode mX12_goesOn.2.2.1 387 = .ok (.iload_n 3, 1) := by decide +kernel
theorem d_X12_goesOn_388 : decode mX12_goesOn.2.2.1 388 = .ok (.ifCond .eq 21, 3) := by decide +kernel
theorem d_X12_goesOn_391 : decode mX12_goesOn.2.2.1 391 = .ok (.aload_n 0, 1) := by decide +kernel
theorem d_X12_goesOn_392 : decode mX12_goesOn.2.2.1 392 = .ok (.getfield 130, 3) := by decide +kernel
theorem d_X12_goesOn_395 : decode mX12_goesOn.2.2.1 395 = .ok (.iload_n 1, 1) := by decide +kernel
theorem d_X12_goesOn_396 : decode mX12_goesOn.2.2.1 396 = .ok (.iaload, 1) := by decide +kernel
theorem d_X12_goesOn_397 : decode mX12_goesOn.2.2.1 397 = .ok (.ifCond .ne 12, 3) := by decide +kernel
theorem d_X12_goesOn_400 : decode mX12_goesOn.2.2.1 400 = .ok (.aload_n 0, 1) := by decide +kernel
theorem d_X12_goesOn_401 : decode mX12_goesOn.2.2.1 401 = .ok (.iconst 1, 1) := by decide +kernel
theorem d_X12_goesOn_402 : decode mX12_goesOn.2.2.1 402 = .ok (.aload_n 0, 1) := by decide +kernel
theorem d_X12_goesOn_403 : decode mX12_goesOn.2.2.1 403 = .ok (.getfield 23, 3) := by decide +kernel
theorem d_X12_goesOn_406 : decode mX12_goesOn.2.2.1 406 = .ok (.invokevirtual 389, 3) := by decide +kernel
theorem d_X12_goesOn_409 : decode mX12_goesOn.2.2.1 409 = .ok (.iload_n 2, 1) := by decide +kernel
theorem d_X12_goesOn_410 : decode mX12_goesOn.2.2.1 410 = .ok (.iconst 2, 1) := by decide +kernel
theorem d_X12_goesOn_411 : decode mX12_goesOn.2.2.1 411 = .ok (.if_icmp .ge 17, 3) := by decide +kernel
theorem d_X12_goesOn_428 : decode mX12_goesOn.2.2.1 428 = .ok (.iload_n 2, 1) := by decide +kernel
theorem d_X12_goesOn_429 : decode mX12_goesOn.2.2.1 429 = .ok (.iconst 3, 1) := by decide +kernel
theorem d_X12_goesOn_430 : decode mX12_goesOn.2.2.1 430 = .ok (.if_icmp .ne 53, 3) := by decide +kernel
theorem d_X12_goesOn_483 : decode mX12_goesOn.2.2.1 483 = .ok (.aload_n 0, 1) := by decide +kernel
theorem d_X12_goesOn_484 : decode mX12_goesOn.2.2.1 484 = .ok (.iload_n 2, 1) := by decide +kernel
theorem d_X12_goesOn_485 : decode mX12_goesOn.2.2.1 485 = .ok (.iconst 5, 1) := by decide +kernel
theorem d_X12_goesOn_486 : decode mX12_goesOn.2.2.1 486 = .ok (.if_icmp .ne 8, 3) := by decide +kernel
theorem d_X12_goesOn_494 : decode mX12_goesOn.2.2.1 494 = .ok (.bipush 41, 2) := by decide +kernel
theorem d_X12_goesOn_489 : decode mX12_goesOn.2.2.1 489 = .ok (.bipush 93, 2) := by decide +kernel
theorem d_X12_goesOn_491 : decode mX12_goesOn.2.2.1 491 = .ok (.goto 5, 3) := by decide +kernel
theorem d_X12_goesOn_433 : decode mX12_goesOn.2.2.1 433 = .ok (.aload_n 0, 1) := by decide +kernel
theorem d_X12_goesOn_434 : decode mX12_goesOn.2.2.1 434 = .ok (.bipush 44, 2) := by decide +kernel
theorem d_X12_goesOn_436 : decode mX12_goesOn.2.2.1 436 = .ok (.invokevirtual 393, 3) := by decide +kernel
theorem d_X12_goesOn_439 : decode mX12_goesOn.2.2.1 439 = .ok (.ifCond .ne 12, 3) := by decide +kernel
theorem d_X12_goesOn_442 : decode mX12_goesOn.2.2.1 442 = .ok (.aload_n 0, 1) := by decide +kernel
theorem d_X12_goesOn_443 : decode mX12_goesOn.2.2.1 443 = .ok (.iconst 1, 1) := by decide +kernel
theorem d_X12_goesOn_444 : decode mX12_goesOn.2.2.1 444 = .ok (.aload_n 0, 1) := by decide +kernel
theorem d_X12_goesOn_445 : decode mX12_goesOn.2.2.1 445 = .ok (.getfield 23, 3) := by decide +kernel
theorem d_X12_goesOn_448 : decode mX12_goesOn.2.2.1 448 = .ok (.invokevirtual 389, 3) := by decide +kernel
theorem d_X12_goesOn_414 : decode mX12_goesOn.2.2.1 414 = .ok (.aload_n 0, 1) := by decide +kernel
theorem d_X12_goesOn_415 : decode mX12_goesOn.2.2.1 415 = .ok (.getfield 36, 3) := by decide +kernel
theorem d_X12_goesOn_418 : decode mX12_goesOn.2.2.1 418 = .ok (.ifCond .ne 8, 3) := by decide +kernel
theorem d_X12_goesOn_426 : decode mX12_goesOn.2.2.1 426 = .ok (.iconst 0, 1) := by decide +kernel
theorem d_X12_goesOn_427 : decode mX12_goesOn.2.2.1 427 = .ok (.ireturn, 1) := by decide +kernel
theorem d_X12_goesOn_421 : decode mX12_goesOn.2.2.1 421 = .ok (.aload_n 0, 1) := by decide +kernel
theorem d_X12_goesOn_422 : decode mX12_goesOn.2.2.1 422 = .ok (.iconst 1, 1) := by decide +kernel
theorem d_X12_goesOn_423 : decode mX12_goesOn.2.2.1 423 = .ok (.invokevirtual 496, 3) := by decide +kernel
def mX12_joins : MD := (12, yX12_joins, cX12_joins, 2, none)
theorem sel_X12_joins : Cond.instanceMethod mX12_joins.2.1 ∈ tblG ∧ Cond.selects mX12_joins.2.1.cls mX12_joins.2.1 mX12_joins.2.1 ∈ tblG := ⟨tblG_in (inT9 (List.mem_of_getElem? (i := 13) rfl)) rfl, tblG_in (inP7 (q := (mX12_joins.2.1, 121)) (List.mem_of_getElem? (i := 7) rfl)) rfl⟩
theorem s_12_496 : e_siteV 12 496 mX12_joins 12 := ⟨tblG_in (inT9 (List.mem_of_getElem? (i := 11) rfl)) rfl, sel_X12_joins.1, sel_X12_joins.2, rfl⟩
theorem d_X12_joins_0 : decode mX12_joins.2.2.1 0 = .ok (.aload_n 0, 1) := by decide +kernel
theorem d_X12_joins_1 : decode mX12_joins.2.2.1 1 = .ok (.getfield 152, 3) := by decide +kernel
theorem d_X12_joins_4 : decode mX12_joins.2.2.1 4 = .ok (.aload_n 0, 1) := by decide +kernel
theorem d_X12_joins_5 : decode mX12_joins.2.2.1 5 = .ok (.getfield 140, 3) := by decide +kernel
theorem d_X12_joins_8 : decode mX12_joins.2.2.1 8 = .ok (.aload_n 0, 1) := by decide +kernel
theorem d_X12_joins_9 : decode mX12_joins.2.2.1 9 = .ok (.getfield 143, 3) := by decide +kernel
theorem d_X12_joins_12 : decode mX12_joins.2.2.1 12 = .ok (.iconst 1, 1) := by decide +kernel
theorem d_X12_joins_13 : decode mX12_joins.2.2.1 13 = .ok (.isub, 1) := by decide +kernel
theorem d_X12_joins_14 : decode mX12_joins.2.2.1 14 = .ok (.iaload, 1) := by decide +kernel
theorem d_X12_joins_15 : decode mX12_joins.2.2.1 15 = .ok (.if_icmp .le 48, 3) := by decide +kernel
theorem d_X12_joins_63 : decode mX12_joins.2.2.1 63 = .ok (.return_, 1) := by decide +kernel
theorem d_X12_joins_18 : decode mX12_joins.2.2.1 18 = .ok (.aload_n 0, 1) := by decide +kernel
theorem d_X12_joins_19 : decode mX12_joins.2.2.1 19 = .ok (.getfield 149, 3) := by decide +kernel
theorem d_X12_joins_22 : decode mX12_joins.2.2.1 22 = .ok (.aload_n 0, 1) := by decide +kernel
theorem d_X12_joins_23 : decode mX12_joins.2.2.1 23 = .ok (.getfield 152, 3) := by decide +kernel
theorem d_X12_joins_26 : decode mX12_joins.2.2.1 26 = .ok (.iconst 1, 1) := by decide +kernel
theorem d_X12_joins_27 : decode mX12_joins.2.2.1 27 = .ok (.isub, 1) := by decide +kernel
theorem d_X12_joins_28 : decode mX12_joins.2.2.1 28 = .ok (.iaload, 1) := by decide +kernel
theorem d_X12_joins_29 : decode mX12_joins.2.2.1 29 = .ok (.invokestatic 471, 3) := by decide +kernel
def mX12_rank : MD := (12, yX12_rank, cX12_rank, 1, some .int)
theorem s_12_471 : e_siteS 12 471 mX12_rank := ⟨tblG_in (inT9 (List.mem_of_getElem? (i := 15) rfl)) rfl, tblG_in (inT9 (List.mem_of_getElem? (i := 16) rfl)) rfl⟩
theorem d_X12_rank_0 : decode mX12_rank.2.2.1 0 = .ok (.iload_n 0, 1) := by decide +kernel
theorem d_X12_rank_1 : decode mX12_rank.2.2.1 1 = .ok (.bipush 17, 2) := by decide +kernel
theorem d_X12_rank_3 : decode mX12_rank.2.2.1 3 = .ok (.if_icmp .ne 7, 3) := by decide +kernel
theorem d_X12_rank_10 : decode mX12_rank.2.2.1 10 = .ok (.iload_n 0, 1) := by decide +kernel
theorem d_X12_rank_11 : decode mX12_rank.2.2.1 11 = .ok (.bipush 16, 2) := by decide +kernel
theorem d_X12_rank_13 : decode mX12_rank.2.2.1 13 = .ok (.if_icmp .ne 7, 3) := by decide +kernel
theorem d_X12_rank_20 : decode mX12_rank.2.2.1 20 = .ok (.iload_n 0, 1) := by decide +kernel
theorem d_X12_rank_21 : decode mX12_rank.2.2.1 21 = .ok (.bipush 18, 2) := by decide +kernel
theorem d_X12_rank_23 : decode mX12_rank.2.2.1 23 = .ok (.if_icmp .ne 7, 3) := by decide +kernel
theorem d_X12_rank_30 : decode mX12_rank.2.2.1 30 = .ok (.iload_n 0, 1) := by decide +kernel
theorem d_X12_rank_31 : decode mX12_rank.2.2.1 31 = .ok (.bipush 13, 2) := by decide +kernel
theorem d_X12_rank_33 : decode mX12_rank.2.2.1 33 = .ok (.if_icmp .eq 15, 3) := by decide +kernel
theorem d_X12_rank_48 : decode mX12_rank.2.2.1 48 = .ok (.iconst 4, 1) := by decide +kernel
theorem d_X12_rank_49 : decode mX12_rank.2.2.1 49 = .ok (.goto 21, 3) := by decide +kernel
theorem d_X12_rank_70 : decode mX12_rank.2.2.1 70 = .ok (.ireturn, 1) := by decide +kernel
theorem d_X12_rank_36 : decode mX12_rank.2.2.1 36 = .ok (.iload_n 0, 1) := by decide +kernel
theorem d_X12_rank_37 : decode mX12_rank.2.2.1 37 = .ok (.bipush 14, 2) := by decide +kernel
theorem d_X12_rank_39 : decode mX12_rank.2.2.1 39 = .ok (.if_icmp .eq 9, 3) := by decide +kernel
theorem d_X12_rank_42 : decode mX12_rank.2.2.1 42 = .ok (.iload_n 0, 1) := by decide +kernel
theorem d_X12_rank_43 : decode mX12_rank.2.2.1 43 = .ok (.bipush 15, 2) := by decide +kernel
theorem d_X12_rank_45 : decode mX12_rank.2.2.1 45 = .ok (.if_icmp .ne 7, 3) := by decide +kernel
theorem d_X12_rank_52 : decode mX12_rank.2.2.1 52 = .ok (.iload_n 0, 1) := by decide +kernel
theorem d_X12_rank_53 : decode mX12_rank.2.2.1 53 = .ok (.bipush 6, 2) := by decide +kernel
theorem d_X12_rank_55 : decode mX12_rank.2.2.1 55 = .ok (.if_icmp .eq 9, 3) := by decide +kernel
theorem d_X12_rank_64 : decode mX12_rank.2.2.1 64 = .ok (.iconst 5, 1) := by decide +kernel
theorem d_X12_rank_65 : decode mX12_rank.2.2.1 65 = .ok (.goto 5, 3) := by decide +kernel
theorem d_X12_rank_58 : decode mX12_rank.2.2.1 58 = .ok (.iload_n 0, 1) := by decide +kernel
theorem d_X12_rank_59 : decode mX12_rank.2.2.1 59 = .ok (.bipush 7, 2) := by decide +kernel
theorem d_X12_rank_61 : decode mX12_rank.2.2.1 61 = .ok (.if_icmp .ne 7, 3) := by decide +kernel
theorem d_X12_rank_68 : decode mX12_rank.2.2.1 68 = .ok (.bipush 6, 2) := by decide +kernel
theorem d_X12_rank_26 : decode mX12_rank.2.2.1 26 = .ok (.iconst 3, 1) := by decide +kernel
theorem d_X12_rank_27 : decode mX12_rank.2.2.1 27 = .ok (.goto 43, 3) := by decide +kernel
theorem d_X12_rank_16 : decode mX12_rank.2.2.1 16 = .ok (.iconst 2, 1) := by decide +kernel
theorem d_X12_rank_17 : decode mX12_rank.2.2.1 17 = .ok (.goto 53, 3) := by decide +kernel
theorem d_X12_rank_6 : decode mX12_rank.2.2.1 6 = .ok (.iconst 1, 1) := by decide +kernel
theorem d_X12_rank_7 : decode mX12_rank.2.2.1 7 = .ok (.goto 63, 3) := by decide +kernel
theorem ok_X12_rank : e_m mX12_rank 1 := ⟨tblG_in (inT9 (List.mem_of_getElem? (i := 17) rfl)) rfl, plainFor_of_name (by decide), rfl, ini_12, by decide +kernel, by decide⟩
theorem d_X12_joins_32 : decode mX12_joins.2.2.1 32 = .ok (.iload_n 1, 1) := by decide +kernel
theorem d_X12_joins_33 : decode mX12_joins.2.2.1 33 = .ok (.if_icmp .lt 30, 3) := by decide +kernel
theorem d_X12_joins_36 : decode mX12_joins.2.2.1 36 = .ok (.aload_n 0, 1) := by decide +kernel
theorem d_X12_joins_37 : decode mX12_joins.2.2.1 37 = .ok (.dup, 1) := by decide +kernel
theorem d_X12_joins_38 : decode mX12_joins.2.2.1 38 = .ok (.getfield 152, 3) := by decide +kernel
theorem d_X12_joins_41 : decode mX12_joins.2.2.1 41 = .ok (.iconst 1, 1) := by decide +kernel
theorem d_X12_joins_42 : decode mX12_joins.2.2.1 42 = .ok (.isub, 1) := by decide +kernel
theorem d_X12_joins_43 : decode mX12_joins.2.2.1 43 = .ok (.putfield 152, 3) := by decide +kernel
theorem d_X12_joins_46 : decode mX12_joins.2.2.1 46 = .ok (.aload_n 0, 1) := by decide +kernel
theorem d_X12_joins_47 : decode mX12_joins.2.2.1 47 = .ok (.aload_n 0, 1) := by decide +kernel
theorem d_X12_joins_48 : decode mX12_joins.2.2.1 48 = .ok (.getfield 149, 3) := by decide +kernel
theorem d_X12_joins_51 : decode mX12_joins.2.2.1 51 = .ok (.aload_n 0, 1) := by decide +kernel
