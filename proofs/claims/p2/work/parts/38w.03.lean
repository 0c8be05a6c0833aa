theorem d_X12_costOf_57 : decode mX12_costOf.2.2.1 57 = .ok (.imul, 1) := by decide +kernel
theorem d_X12_costOf_58 : decode mX12_costOf.2.2.1 58 = .ok (.iload 4, 2) := by decide +kernel
theorem d_X12_costOf_60 : decode mX12_costOf.2.2.1 60 = .ok (.iadd, 1) := by decide +kernel
theorem d_X12_costOf_61 : decode mX12_costOf.2.2.1 61 = .ok (.iaload, 1) := by decide +kernel
theorem d_X12_costOf_62 : decode mX12_costOf.2.2.1 62 = .ok (.iconst (-1), 1) := by decide +kernel
theorem d_X12_costOf_63 : decode mX12_costOf.2.2.1 63 = .ok (.if_icmp .eq 28, 3) := by decide +kernel
theorem d_X12_costOf_66 : decode mX12_costOf.2.2.1 66 = .ok (.aload_n 0, 1) := by decide +kernel
theorem d_X12_costOf_67 : decode mX12_costOf.2.2.1 67 = .ok (.aload_n 0, 1) := by decide +kernel
theorem d_X12_costOf_68 : decode mX12_costOf.2.2.1 68 = .ok (.getfield 237, 3) := by decide +kernel
theorem d_X12_costOf_71 : decode mX12_costOf.2.2.1 71 = .ok (.sipush 2100, 3) := by decide +kernel
theorem d_X12_costOf_74 : decode mX12_costOf.2.2.1 74 = .ok (.iload_n 1, 1) := by decide +kernel
theorem d_X12_costOf_75 : decode mX12_costOf.2.2.1 75 = .ok (.imul, 1) := by decide +kernel
theorem d_X12_costOf_76 : decode mX12_costOf.2.2.1 76 = .ok (.iload 4, 2) := by decide +kernel
theorem d_X12_costOf_78 : decode mX12_costOf.2.2.1 78 = .ok (.iadd, 1) := by decide +kernel
theorem d_X12_costOf_79 : decode mX12_costOf.2.2.1 79 = .ok (.iaload, 1) := by decide +kernel
theorem d_X12_costOf_80 : decode mX12_costOf.2.2.1 80 = .ok (.iload_n 2, 1) := by decide +kernel
theorem d_X12_costOf_81 : decode mX12_costOf.2.2.1 81 = .ok (.invokevirtual 662, 3) := by decide +kernel
theorem d_X12_costOf_84 : decode mX12_costOf.2.2.1 84 = .ok (.ifCond .eq 7, 3) := by decide +kernel
theorem d_X12_costOf_91 : decode mX12_costOf.2.2.1 91 = .ok (.iconst 0, 1) := by decide +kernel
theorem d_X12_costOf_87 : decode mX12_costOf.2.2.1 87 = .ok (.iconst 1, 1) := by decide +kernel
theorem d_X12_costOf_88 : decode mX12_costOf.2.2.1 88 = .ok (.goto 4, 3) := by decide +kernel
theorem d_X12_costOf_92 : decode mX12_costOf.2.2.1 92 = .ok (.istore 5, 2) := by decide +kernel
theorem d_X12_costOf_94 : decode mX12_costOf.2.2.1 94 = .ok (.iload_n 3, 1) := by decide +kernel
theorem d_X12_costOf_95 : decode mX12_costOf.2.2.1 95 = .ok (.ifCond .le 7, 3) := by decide +kernel
theorem d_X12_costOf_102 : decode mX12_costOf.2.2.1 102 = .ok (.iconst 0, 1) := by decide +kernel
theorem d_X12_costOf_103 : decode mX12_costOf.2.2.1 103 = .ok (.istore 6, 2) := by decide +kernel
theorem d_X12_costOf_105 : decode mX12_costOf.2.2.1 105 = .ok (.iload 5, 2) := by decide +kernel
theorem d_X12_costOf_107 : decode mX12_costOf.2.2.1 107 = .ok (.ifCond .eq 11, 3) := by decide +kernel
theorem d_X12_costOf_118 : decode mX12_costOf.2.2.1 118 = .ok (.iload_n 3, 1) := by decide +kernel
theorem d_X12_costOf_119 : decode mX12_costOf.2.2.1 119 = .ok (.ifCond .le 9, 3) := by decide +kernel
theorem d_X12_costOf_128 : decode mX12_costOf.2.2.1 128 = .ok (.iconst 0, 1) := by decide +kernel
theorem d_X12_costOf_110 : decode mX12_costOf.2.2.1 110 = .ok (.aload_n 0, 1) := by decide +kernel
theorem d_X12_costOf_111 : decode mX12_costOf.2.2.1 111 = .ok (.iload_n 1, 1) := by decide +kernel
theorem d_X12_costOf_112 : decode mX12_costOf.2.2.1 112 = .ok (.invokevirtual 591, 3) := by decide +kernel
theorem d_X12_costOf_115 : decode mX12_costOf.2.2.1 115 = .ok (.goto 14, 3) := by decide +kernel
theorem d_X12_costOf_129 : decode mX12_costOf.2.2.1 129 = .ok (.istore_n 3, 1) := by decide +kernel
theorem d_X12_costOf_130 : decode mX12_costOf.2.2.1 130 = .ok (.aload_n 0, 1) := by decide +kernel
theorem d_X12_costOf_131 : decode mX12_costOf.2.2.1 131 = .ok (.getfield 321, 3) := by decide +kernel
theorem d_X12_costOf_134 : decode mX12_costOf.2.2.1 134 = .ok (.iload 4, 2) := by decide +kernel
theorem d_X12_costOf_136 : decode mX12_costOf.2.2.1 136 = .ok (.iload 5, 2) := by decide +kernel
theorem d_X12_costOf_138 : decode mX12_costOf.2.2.1 138 = .ok (.ifCond .ne 8, 3) := by decide +kernel
theorem d_X12_costOf_141 : decode mX12_costOf.2.2.1 141 = .ok (.iload 6, 2) := by decide +kernel
theorem d_X12_costOf_143 : decode mX12_costOf.2.2.1 143 = .ok (.ifCond .eq 7, 3) := by decide +kernel
theorem d_X12_costOf_150 : decode mX12_costOf.2.2.1 150 = .ok (.iconst 0, 1) := by decide +kernel
theorem d_X12_costOf_146 : decode mX12_costOf.2.2.1 146 = .ok (.iconst 1, 1) := by decide +kernel
theorem d_X12_costOf_147 : decode mX12_costOf.2.2.1 147 = .ok (.goto 4, 3) := by decide +kernel
theorem d_X12_costOf_151 : decode mX12_costOf.2.2.1 151 = .ok (.bastore, 1) := by decide +kernel
theorem d_X12_costOf_152 : decode mX12_costOf.2.2.1 152 = .ok (.iinc 4 1, 3) := by decide +kernel
theorem d_X12_costOf_155 : decode mX12_costOf.2.2.1 155 = .ok (.goto (-147), 3) := by decide +kernel
theorem d_X12_costOf_98 : decode mX12_costOf.2.2.1 98 = .ok (.iconst 1, 1) := by decide +kernel
theorem d_X12_costOf_99 : decode mX12_costOf.2.2.1 99 = .ok (.goto 4, 3) := by decide +kernel
theorem d_X12_costOf_122 : decode mX12_costOf.2.2.1 122 = .ok (.iload_n 3, 1) := by decide +kernel
theorem d_X12_costOf_123 : decode mX12_costOf.2.2.1 123 = .ok (.iconst 1, 1) := by decide +kernel
theorem d_X12_costOf_124 : decode mX12_costOf.2.2.1 124 = .ok (.isub, 1) := by decide +kernel
theorem d_X12_costOf_125 : decode mX12_costOf.2.2.1 125 = .ok (.goto 4, 3) := by decide +kernel
theorem ok_X12_costOf : e_m mX12_costOf 2 := ⟨tblG_in (inT9 (List.mem_of_getElem? (i := 201) rfl)) rfl, plainFor_of_name (by decide), rfl, ini_12, by decide +kernel, by decide⟩
theorem d_X12_byTurns_178 : decode mX12_byTurns.2.2.1 178 = .ok (.lastore, 1) := by decide +kernel
theorem d_X12_byTurns_179 : decode mX12_byTurns.2.2.1 179 = .ok (.iinc 8 1, 3) := by decide +kernel
theorem d_X12_byTurns_182 : decode mX12_byTurns.2.2.1 182 = .ok (.goto (-28), 3) := by decide +kernel
theorem d_X12_byTurns_185 : decode mX12_byTurns.2.2.1 185 = .ok (.lconst 0, 1) := by decide +kernel
theorem d_X12_byTurns_186 : decode mX12_byTurns.2.2.1 186 = .ok (.lstore 8, 2) := by decide +kernel
theorem d_X12_byTurns_188 : decode mX12_byTurns.2.2.1 188 = .ok (.iconst 0, 1) := by decide +kernel
theorem d_X12_byTurns_189 : decode mX12_byTurns.2.2.1 189 = .ok (.istore 10, 2) := by decide +kernel
theorem d_X12_byTurns_191 : decode mX12_byTurns.2.2.1 191 = .ok (.iload 10, 2) := by decide +kernel
theorem d_X12_byTurns_193 : decode mX12_byTurns.2.2.1 193 = .ok (.iconst 1, 1) := by decide +kernel
theorem d_X12_byTurns_194 : decode mX12_byTurns.2.2.1 194 = .ok (.aload_n 0, 1) := by decide +kernel
theorem d_X12_byTurns_195 : decode mX12_byTurns.2.2.1 195 = .ok (.getfield 318, 3) := by decide +kernel
theorem d_X12_byTurns_198 : decode mX12_byTurns.2.2.1 198 = .ok (.ishl, 1) := by decide +kernel
theorem d_X12_byTurns_199 : decode mX12_byTurns.2.2.1 199 = .ok (.if_icmp .ge 75, 3) := by decide +kernel
theorem d_X12_byTurns_202 : decode mX12_byTurns.2.2.1 202 = .ok (.iload 10, 2) := by decide +kernel
theorem d_X12_byTurns_204 : decode mX12_byTurns.2.2.1 204 = .ok (.iload 7, 2) := by decide +kernel
theorem d_X12_byTurns_206 : decode mX12_byTurns.2.2.1 206 = .ok (.ishr, 1) := by decide +kernel
theorem d_X12_byTurns_207 : decode mX12_byTurns.2.2.1 207 = .ok (.iconst 1, 1) := by decide +kernel
theorem d_X12_byTurns_208 : decode mX12_byTurns.2.2.1 208 = .ok (.iand, 1) := by decide +kernel
theorem d_X12_byTurns_209 : decode mX12_byTurns.2.2.1 209 = .ok (.iconst 1, 1) := by decide +kernel
theorem d_X12_byTurns_210 : decode mX12_byTurns.2.2.1 210 = .ok (.if_icmp .ne 6, 3) := by decide +kernel
theorem d_X12_byTurns_216 : decode mX12_byTurns.2.2.1 216 = .ok (.iload 10, 2) := by decide +kernel
theorem d_X12_byTurns_218 : decode mX12_byTurns.2.2.1 218 = .ok (.i2l, 1) := by decide +kernel
theorem d_X12_byTurns_219 : decode mX12_byTurns.2.2.1 219 = .ok (.invokestatic 653, 3) := by decide +kernel
theorem d_X12_byTurns_222 : decode mX12_byTurns.2.2.1 222 = .ok (.istore 11, 2) := by decide +kernel
theorem d_X12_byTurns_224 : decode mX12_byTurns.2.2.1 224 = .ok (.lload 8, 2) := by decide +kernel
theorem d_X12_byTurns_226 : decode mX12_byTurns.2.2.1 226 = .ok (.iload 11, 2) := by decide +kernel
theorem d_X12_byTurns_228 : decode mX12_byTurns.2.2.1 228 = .ok (.invokestatic 674, 3) := by decide +kernel
def mX12_orders : MD := (12, yX12_orders, cX12_orders, 4, some .long)
theorem s_12_674 : e_siteS 12 674 mX12_orders := ⟨tblG_in (inT9 (List.mem_of_getElem? (i := 210) rfl)) rfl, tblG_in (inT9 (List.mem_of_getElem? (i := 211) rfl)) rfl⟩
theorem d_X12_orders_0 : decode mX12_orders.2.2.1 0 = .ok (.lconst 1, 1) := by decide +kernel
theorem d_X12_orders_1 : decode mX12_orders.2.2.1 1 = .ok (.lstore_n 1, 1) := by decide +kernel
theorem d_X12_orders_2 : decode mX12_orders.2.2.1 2 = .ok (.iconst 2, 1) := by decide +kernel
theorem d_X12_orders_3 : decode mX12_orders.2.2.1 3 = .ok (.istore_n 3, 1) := by decide +kernel
theorem d_X12_orders_4 : decode mX12_orders.2.2.1 4 = .ok (.iload_n 3, 1) := by decide +kernel
theorem d_X12_orders_5 : decode mX12_orders.2.2.1 5 = .ok (.iload_n 0, 1) := by decide +kernel
theorem d_X12_orders_6 : decode mX12_orders.2.2.1 6 = .ok (.if_icmp .gt 14, 3) := by decide +kernel
theorem d_X12_orders_20 : decode mX12_orders.2.2.1 20 = .ok (.lload_n 1, 1) := by decide +kernel
theorem d_X12_orders_21 : decode mX12_orders.2.2.1 21 = .ok (.lreturn, 1) := by decide +kernel
theorem d_X12_orders_9 : decode mX12_orders.2.2.1 9 = .ok (.lload_n 1, 1) := by decide +kernel
theorem d_X12_orders_10 : decode mX12_orders.2.2.1 10 = .ok (.iload_n 3, 1) := by decide +kernel
theorem d_X12_orders_11 : decode mX12_orders.2.2.1 11 = .ok (.i2l, 1) := by decide +kernel
theorem d_X12_orders_12 : decode mX12_orders.2.2.1 12 = .ok (.lmul, 1) := by decide +kernel
theorem d_X12_orders_13 : decode mX12_orders.2.2.1 13 = .ok (.lstore_n 1, 1) := by decide +kernel
theorem d_X12_orders_14 : decode mX12_orders.2.2.1 14 = .ok (.iinc 3 1, 3) := by decide +kernel
theorem d_X12_orders_17 : decode mX12_orders.2.2.1 17 = .ok (.goto (-13), 3) := by decide +kernel
theorem ok_X12_orders : e_m mX12_orders 1 := ⟨tblG_in (inT9 (List.mem_of_getElem? (i := 212) rfl)) rfl, plainFor_of_name (by decide), rfl, ini_12, by decide +kernel, by decide⟩
theorem d_X12_byTurns_231 : decode mX12_byTurns.2.2.1 231 = .ok (.aload_n 0, 1) := by decide +kernel
theorem d_X12_byTurns_232 : decode mX12_byTurns.2.2.1 232 = .ok (.getfield 318, 3) := by decide +kernel
theorem d_X12_byTurns_235 : decode mX12_byTurns.2.2.1 235 = .ok (.iload 11, 2) := by decide +kernel
theorem d_X12_byTurns_237 : decode mX12_byTurns.2.2.1 237 = .ok (.isub, 1) := by decide +kernel
theorem d_X12_byTurns_238 : decode mX12_byTurns.2.2.1 238 = .ok (.iconst 1, 1) := by decide +kernel
theorem d_X12_byTurns_239 : decode mX12_byTurns.2.2.1 239 = .ok (.isub, 1) := by decide +kernel
theorem d_X12_byTurns_240 : decode mX12_byTurns.2.2.1 240 = .ok (.invokestatic 674, 3) := by decide +kernel
theorem d_X12_byTurns_243 : decode mX12_byTurns.2.2.1 243 = .ok (.lmul, 1) := by decide +kernel
theorem d_X12_byTurns_244 : decode mX12_byTurns.2.2.1 244 = .ok (.aload_n 0, 1) := by decide +kernel
theorem d_X12_byTurns_245 : decode mX12_byTurns.2.2.1 245 = .ok (.getfield 324, 3) := by decide +kernel
theorem d_X12_byTurns_248 : decode mX12_byTurns.2.2.1 248 = .ok (.iload 10, 2) := by decide +kernel
theorem d_X12_byTurns_250 : decode mX12_byTurns.2.2.1 250 = .ok (.iconst 1, 1) := by decide +kernel
theorem d_X12_byTurns_251 : decode mX12_byTurns.2.2.1 251 = .ok (.iload 7, 2) := by decide +kernel
theorem d_X12_byTurns_253 : decode mX12_byTurns.2.2.1 253 = .ok (.ishl, 1) := by decide +kernel
theorem d_X12_byTurns_254 : decode mX12_byTurns.2.2.1 254 = .ok (.ior, 1) := by decide +kernel
theorem d_X12_byTurns_255 : decode mX12_byTurns.2.2.1 255 = .ok (.laload, 1) := by decide +kernel
theorem d_X12_byTurns_256 : decode mX12_byTurns.2.2.1 256 = .ok (.aload_n 0, 1) := by decide +kernel
theorem d_X12_byTurns_257 : decode mX12_byTurns.2.2.1 257 = .ok (.getfield 324, 3) := by decide +kernel
theorem d_X12_byTurns_260 : decode mX12_byTurns.2.2.1 260 = .ok (.iload 10, 2) := by decide +kernel
theorem d_X12_byTurns_262 : decode mX12_byTurns.2.2.1 262 = .ok (.laload, 1) := by decide +kernel
theorem d_X12_byTurns_263 : decode mX12_byTurns.2.2.1 263 = .ok (.lsub, 1) := by decide +kernel
theorem d_X12_byTurns_264 : decode mX12_byTurns.2.2.1 264 = .ok (.lmul, 1) := by decide +kernel
theorem d_X12_byTurns_265 : decode mX12_byTurns.2.2.1 265 = .ok (.ladd, 1) := by decide +kernel
theorem d_X12_byTurns_266 : decode mX12_byTurns.2.2.1 266 = .ok (.lstore 8, 2) := by decide +kernel
theorem d_X12_byTurns_268 : decode mX12_byTurns.2.2.1 268 = .ok (.iinc 10 1, 3) := by decide +kernel
theorem d_X12_byTurns_271 : decode mX12_byTurns.2.2.1 271 = .ok (.goto (-80), 3) := by decide +kernel
theorem d_X12_byTurns_213 : decode mX12_byTurns.2.2.1 213 = .ok (.goto 55, 3) := by decide +kernel
theorem d_X12_byTurns_274 : decode mX12_byTurns.2.2.1 274 = .ok (.aload_n 0, 1) := by decide +kernel
theorem d_X12_byTurns_275 : decode mX12_byTurns.2.2.1 275 = .ok (.getfield 318, 3) := by decide +kernel
theorem d_X12_byTurns_278 : decode mX12_byTurns.2.2.1 278 = .ok (.invokestatic 674, 3) := by decide +kernel
theorem d_X12_byTurns_281 : decode mX12_byTurns.2.2.1 281 = .ok (.lstore 10, 2) := by decide +kernel
theorem d_X12_byTurns_283 : decode mX12_byTurns.2.2.1 283 = .ok (.lload 8, 2) := by decide +kernel
theorem d_X12_byTurns_285 : decode mX12_byTurns.2.2.1 285 = .ok (.lload 10, 2) := by decide +kernel
theorem d_X12_byTurns_287 : decode mX12_byTurns.2.2.1 287 = .ok (.invokestatic 677, 3) := by decide +kernel
def mX12_common : MD := (12, yX12_common, cX12_common, 10, some .long)
theorem s_12_677 : e_siteS 12 677 mX12_common := ⟨tblG_in (inT9 (List.mem_of_getElem? (i := 213) rfl)) rfl, tblG_in (inT9 (List.mem_of_getElem? (i := 214) rfl)) rfl⟩
theorem d_X12_common_0 : decode mX12_common.2.2.1 0 = .ok (.lload_n 0, 1) := by decide +kernel
theorem d_X12_common_1 : decode mX12_common.2.2.1 1 = .ok (.lconst 0, 1) := by decide +kernel
theorem d_X12_common_2 : decode mX12_common.2.2.1 2 = .ok (.lcmp, 1) := by decide +kernel
theorem d_X12_common_3 : decode mX12_common.2.2.1 3 = .ok (.ifCond .ge 8, 3) := by decide +kernel
theorem d_X12_common_11 : decode mX12_common.2.2.1 11 = .ok (.lload_n 0, 1) := by decide +kernel
theorem d_X12_common_6 : decode mX12_common.2.2.1 6 = .ok (.lload_n 0, 1) := by decide +kernel
theorem d_X12_common_7 : decode mX12_common.2.2.1 7 = .ok (.lneg, 1) := by decide +kernel
theorem d_X12_common_8 : decode mX12_common.2.2.1 8 = .ok (.goto 4, 3) := by decide +kernel
theorem d_X12_common_12 : decode mX12_common.2.2.1 12 = .ok (.lstore 4, 2) := by decide +kernel
theorem d_X12_common_14 : decode mX12_common.2.2.1 14 = .ok (.lload_n 2, 1) := by decide +kernel
theorem d_X12_common_15 : decode mX12_common.2.2.1 15 = .ok (.lstore 6, 2) := by decide +kernel
theorem d_X12_common_17 : decode mX12_common.2.2.1 17 = .ok (.lload 6, 2) := by decide +kernel
theorem d_X12_common_19 : decode mX12_common.2.2.1 19 = .ok (.lconst 0, 1) := by decide +kernel
theorem d_X12_common_20 : decode mX12_common.2.2.1 20 = .ok (.lcmp, 1) := by decide +kernel
theorem d_X12_common_21 : decode mX12_common.2.2.1 21 = .ok (.ifCond .eq 21, 3) := by decide +kernel
theorem d_X12_common_42 : decode mX12_common.2.2.1 42 = .ok (.lload 4, 2) := by decide +kernel
theorem d_X12_common_44 : decode mX12_common.2.2.1 44 = .ok (.lreturn, 1) := by decide +kernel
theorem d_X12_common_24 : decode mX12_common.2.2.1 24 = .ok (.lload 4, 2) := by decide +kernel
theorem d_X12_common_26 : decode mX12_common.2.2.1 26 = .ok (.lload 6, 2) := by decide +kernel
theorem d_X12_common_28 : decode mX12_common.2.2.1 28 = .ok (.lrem, 1) := by decide +kernel
theorem d_X12_common_29 : decode mX12_common.2.2.1 29 = .ok (.lstore 8, 2) := by decide +kernel
theorem d_X12_common_31 : decode mX12_common.2.2.1 31 = .ok (.lload 6, 2) := by decide +kernel
theorem d_X12_common_33 : decode mX12_common.2.2.1 33 = .ok (.lstore 4, 2) := by decide +kernel
theorem d_X12_common_35 : decode mX12_common.2.2.1 35 = .ok (.lload 8, 2) := by decide +kernel
theorem d_X12_common_37 : decode mX12_common.2.2.1 37 = .ok (.lstore 6, 2) := by decide +kernel
theorem d_X12_common_39 : decode mX12_common.2.2.1 39 = .ok (.goto (-22), 3) := by decide +kernel
theorem ok_X12_common : e_m mX12_common 2 := ⟨tblG_in (inT9 (List.mem_of_getElem? (i := 215) rfl)) rfl, plainFor_of_name (by decide), rfl, ini_12, by decide +kernel, by decide⟩
theorem d_X12_byTurns_290 : decode mX12_byTurns.2.2.1 290 = .ok (.lstore 12, 2) := by decide +kernel
theorem d_X12_byTurns_292 : decode mX12_byTurns.2.2.1 292 = .ok (.iload 4, 2) := by decide +kernel
theorem d_X12_byTurns_294 : decode mX12_byTurns.2.2.1 294 = .ok (.ifCond .eq 11, 3) := by decide +kernel
theorem d_X12_byTurns_305 : decode mX12_byTurns.2.2.1 305 = .ok (.lload 10, 2) := by decide +kernel
theorem d_X12_byTurns_307 : decode mX12_byTurns.2.2.1 307 = .ok (.lload 12, 2) := by decide +kernel
theorem d_X12_byTurns_309 : decode mX12_byTurns.2.2.1 309 = .ok (.ldiv, 1) := by decide +kernel
theorem d_X12_byTurns_310 : decode mX12_byTurns.2.2.1 310 = .ok (.lreturn, 1) := by decide +kernel
theorem d_X12_byTurns_297 : decode mX12_byTurns.2.2.1 297 = .ok (.lload 8, 2) := by decide +kernel
theorem d_X12_byTurns_299 : decode mX12_byTurns.2.2.1 299 = .ok (.lload 12, 2) := by decide +kernel
theorem d_X12_byTurns_301 : decode mX12_byTurns.2.2.1 301 = .ok (.ldiv, 1) := by decide +kernel
theorem d_X12_byTurns_302 : decode mX12_byTurns.2.2.1 302 = .ok (.goto 8, 3) := by decide +kernel
theorem d_X12_byTurns_124 : decode mX12_byTurns.2.2.1 124 = .ok (.aload_n 0, 1) := by decide +kernel
theorem d_X12_byTurns_125 : decode mX12_byTurns.2.2.1 125 = .ok (.getfield 315, 3) := by decide +kernel
theorem d_X12_byTurns_128 : decode mX12_byTurns.2.2.1 128 = .ok (.aload_n 0, 1) := by decide +kernel
theorem d_X12_byTurns_129 : decode mX12_byTurns.2.2.1 129 = .ok (.getfield 318, 3) := by decide +kernel
theorem d_X12_byTurns_132 : decode mX12_byTurns.2.2.1 132 = .ok (.iload 8, 2) := by decide +kernel
theorem d_X12_byTurns_134 : decode mX12_byTurns.2.2.1 134 = .ok (.iastore, 1) := by decide +kernel
theorem d_X12_byTurns_135 : decode mX12_byTurns.2.2.1 135 = .ok (.aload_n 0, 1) := by decide +kernel
theorem d_X12_byTurns_136 : decode mX12_byTurns.2.2.1 136 = .ok (.dup, 1) := by decide +kernel
theorem d_X12_byTurns_137 : decode mX12_byTurns.2.2.1 137 = .ok (.getfield 318, 3) := by decide +kernel
theorem d_X12_byTurns_140 : decode mX12_byTurns.2.2.1 140 = .ok (.iconst 1, 1) := by decide +kernel
theorem d_X12_byTurns_141 : decode mX12_byTurns.2.2.1 141 = .ok (.iadd, 1) := by decide +kernel
theorem d_X12_byTurns_142 : decode mX12_byTurns.2.2.1 142 = .ok (.putfield 318, 3) := by decide +kernel
theorem d_X12_byTurns_145 : decode mX12_byTurns.2.2.1 145 = .ok (.iinc 8 1, 3) := by decide +kernel
theorem d_X12_byTurns_148 : decode mX12_byTurns.2.2.1 148 = .ok (.goto (-65), 3) := by decide +kernel
