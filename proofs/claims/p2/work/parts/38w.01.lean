theorem d_X12_together_205 : decode mX12_together.2.2.1 205 = .ok (.iload 9, 2) := by decide +kernel
theorem d_X12_together_207 : decode mX12_together.2.2.1 207 = .ok (.ifCond .lt 7, 3) := by decide +kernel
theorem d_X12_together_214 : decode mX12_together.2.2.1 214 = .ok (.iconst 0, 1) := by decide +kernel
theorem d_X12_together_210 : decode mX12_together.2.2.1 210 = .ok (.iconst 1, 1) := by decide +kernel
theorem d_X12_together_211 : decode mX12_together.2.2.1 211 = .ok (.goto 4, 3) := by decide +kernel
theorem d_X12_together_215 : decode mX12_together.2.2.1 215 = .ok (.istore 5, 2) := by decide +kernel
theorem d_X12_together_217 : decode mX12_together.2.2.1 217 = .ok (.iload 5, 2) := by decide +kernel
theorem d_X12_together_219 : decode mX12_together.2.2.1 219 = .ok (.ifCond .eq 14, 3) := by decide +kernel
theorem d_X12_together_222 : decode mX12_together.2.2.1 222 = .ok (.aload_n 0, 1) := by decide +kernel
theorem d_X12_together_223 : decode mX12_together.2.2.1 223 = .ok (.getfield 372, 3) := by decide +kernel
theorem d_X12_together_226 : decode mX12_together.2.2.1 226 = .ok (.iload 9, 2) := by decide +kernel
theorem d_X12_together_228 : decode mX12_together.2.2.1 228 = .ok (.dup2, 1) := by decide +kernel
theorem d_X12_together_229 : decode mX12_together.2.2.1 229 = .ok (.iaload, 1) := by decide +kernel
theorem d_X12_together_230 : decode mX12_together.2.2.1 230 = .ok (.iconst 1, 1) := by decide +kernel
theorem d_X12_together_231 : decode mX12_together.2.2.1 231 = .ok (.iadd, 1) := by decide +kernel
theorem d_X12_together_232 : decode mX12_together.2.2.1 232 = .ok (.iastore, 1) := by decide +kernel
theorem d_X12_together_233 : decode mX12_together.2.2.1 233 = .ok (.goto (-185), 3) := by decide +kernel
theorem d_X12_together_236 : decode mX12_together.2.2.1 236 = .ok (.aload_n 0, 1) := by decide +kernel
theorem d_X12_together_237 : decode mX12_together.2.2.1 237 = .ok (.aload_n 0, 1) := by decide +kernel
theorem d_X12_together_238 : decode mX12_together.2.2.1 238 = .ok (.getfield 354, 3) := by decide +kernel
theorem d_X12_together_241 : decode mX12_together.2.2.1 241 = .ok (.putfield 366, 3) := by decide +kernel
theorem d_X12_together_244 : decode mX12_together.2.2.1 244 = .ok (.lload_n 2, 1) := by decide +kernel
theorem d_X12_together_245 : decode mX12_together.2.2.1 245 = .ok (.l2i, 1) := by decide +kernel
theorem d_X12_together_246 : decode mX12_together.2.2.1 246 = .ok (.ireturn, 1) := by decide +kernel
def mX12_never : MD := (12, yX12_never, cX12_never, 9, some .int)
theorem d_X12_never_0 : decode mX12_never.2.2.1 0 = .ok (.aload_n 0, 1) := by decide +kernel
theorem d_X12_never_1 : decode mX12_never.2.2.1 1 = .ok (.getfield 94, 3) := by decide +kernel
theorem d_X12_never_4 : decode mX12_never.2.2.1 4 = .ok (.aload_n 0, 1) := by decide +kernel
theorem d_X12_never_5 : decode mX12_never.2.2.1 5 = .ok (.getfield 48, 3) := by decide +kernel
theorem d_X12_never_8 : decode mX12_never.2.2.1 8 = .ok (.iaload, 1) := by decide +kernel
theorem d_X12_never_9 : decode mX12_never.2.2.1 9 = .ok (.istore_n 1, 1) := by decide +kernel
theorem d_X12_never_10 : decode mX12_never.2.2.1 10 = .ok (.iconst 0, 1) := by decide +kernel
theorem d_X12_never_11 : decode mX12_never.2.2.1 11 = .ok (.istore_n 2, 1) := by decide +kernel
theorem d_X12_never_12 : decode mX12_never.2.2.1 12 = .ok (.iload_n 2, 1) := by decide +kernel
theorem d_X12_never_13 : decode mX12_never.2.2.1 13 = .ok (.iload_n 1, 1) := by decide +kernel
theorem d_X12_never_14 : decode mX12_never.2.2.1 14 = .ok (.if_icmp .gt 24, 3) := by decide +kernel
theorem d_X12_never_17 : decode mX12_never.2.2.1 17 = .ok (.aload_n 0, 1) := by decide +kernel
theorem d_X12_never_18 : decode mX12_never.2.2.1 18 = .ok (.getfield 375, 3) := by decide +kernel
theorem d_X12_never_21 : decode mX12_never.2.2.1 21 = .ok (.iload_n 2, 1) := by decide +kernel
theorem d_X12_never_22 : decode mX12_never.2.2.1 22 = .ok (.iload_n 2, 1) := by decide +kernel
theorem d_X12_never_23 : decode mX12_never.2.2.1 23 = .ok (.ifCond .ne 7, 3) := by decide +kernel
theorem d_X12_never_26 : decode mX12_never.2.2.1 26 = .ok (.lconst 1, 1) := by decide +kernel
theorem d_X12_never_27 : decode mX12_never.2.2.1 27 = .ok (.goto 4, 3) := by decide +kernel
theorem d_X12_never_31 : decode mX12_never.2.2.1 31 = .ok (.lastore, 1) := by decide +kernel
theorem d_X12_never_32 : decode mX12_never.2.2.1 32 = .ok (.iinc 2 1, 3) := by decide +kernel
theorem d_X12_never_35 : decode mX12_never.2.2.1 35 = .ok (.goto (-23), 3) := by decide +kernel
theorem d_X12_never_38 : decode mX12_never.2.2.1 38 = .ok (.iconst 1, 1) := by decide +kernel
theorem d_X12_never_39 : decode mX12_never.2.2.1 39 = .ok (.istore_n 2, 1) := by decide +kernel
theorem d_X12_never_30 : decode mX12_never.2.2.1 30 = .ok (.lconst 0, 1) := by decide +kernel
theorem d_X12_never_40 : decode mX12_never.2.2.1 40 = .ok (.iload_n 2, 1) := by decide +kernel
theorem d_X12_never_41 : decode mX12_never.2.2.1 41 = .ok (.ifCond .eq 220, 3) := by decide +kernel
theorem d_X12_never_44 : decode mX12_never.2.2.1 44 = .ok (.iconst 0, 1) := by decide +kernel
theorem d_X12_never_45 : decode mX12_never.2.2.1 45 = .ok (.istore_n 2, 1) := by decide +kernel
theorem d_X12_never_46 : decode mX12_never.2.2.1 46 = .ok (.iconst 0, 1) := by decide +kernel
theorem d_X12_never_47 : decode mX12_never.2.2.1 47 = .ok (.istore_n 3, 1) := by decide +kernel
theorem d_X12_never_48 : decode mX12_never.2.2.1 48 = .ok (.iload_n 3, 1) := by decide +kernel
theorem d_X12_never_49 : decode mX12_never.2.2.1 49 = .ok (.iload_n 1, 1) := by decide +kernel
theorem d_X12_never_50 : decode mX12_never.2.2.1 50 = .ok (.if_icmp .ge 208, 3) := by decide +kernel
theorem d_X12_never_258 : decode mX12_never.2.2.1 258 = .ok (.goto (-218), 3) := by decide +kernel
theorem d_X12_never_261 : decode mX12_never.2.2.1 261 = .ok (.iconst 0, 1) := by decide +kernel
theorem d_X12_never_262 : decode mX12_never.2.2.1 262 = .ok (.istore_n 3, 1) := by decide +kernel
theorem d_X12_never_263 : decode mX12_never.2.2.1 263 = .ok (.iconst 0, 1) := by decide +kernel
theorem d_X12_never_264 : decode mX12_never.2.2.1 264 = .ok (.istore 4, 2) := by decide +kernel
theorem d_X12_never_266 : decode mX12_never.2.2.1 266 = .ok (.iload 4, 2) := by decide +kernel
theorem d_X12_never_268 : decode mX12_never.2.2.1 268 = .ok (.bipush 64, 2) := by decide +kernel
theorem d_X12_never_270 : decode mX12_never.2.2.1 270 = .ok (.if_icmp .ge 30, 3) := by decide +kernel
theorem d_X12_never_273 : decode mX12_never.2.2.1 273 = .ok (.aload_n 0, 1) := by decide +kernel
theorem d_X12_never_274 : decode mX12_never.2.2.1 274 = .ok (.getfield 375, 3) := by decide +kernel
theorem d_X12_never_277 : decode mX12_never.2.2.1 277 = .ok (.iload_n 1, 1) := by decide +kernel
theorem d_X12_never_278 : decode mX12_never.2.2.1 278 = .ok (.laload, 1) := by decide +kernel
theorem d_X12_never_279 : decode mX12_never.2.2.1 279 = .ok (.iload 4, 2) := by decide +kernel
theorem d_X12_never_281 : decode mX12_never.2.2.1 281 = .ok (.lshr, 1) := by decide +kernel
theorem d_X12_never_282 : decode mX12_never.2.2.1 282 = .ok (.lconst 1, 1) := by decide +kernel
theorem d_X12_never_283 : decode mX12_never.2.2.1 283 = .ok (.land, 1) := by decide +kernel
theorem d_X12_never_284 : decode mX12_never.2.2.1 284 = .ok (.lconst 1, 1) := by decide +kernel
theorem d_X12_never_285 : decode mX12_never.2.2.1 285 = .ok (.lcmp, 1) := by decide +kernel
theorem d_X12_never_286 : decode mX12_never.2.2.1 286 = .ok (.ifCond .ne 8, 3) := by decide +kernel
theorem d_X12_never_289 : decode mX12_never.2.2.1 289 = .ok (.iload_n 3, 1) := by decide +kernel
theorem d_X12_never_290 : decode mX12_never.2.2.1 290 = .ok (.iload 4, 2) := by decide +kernel
theorem d_X12_never_292 : decode mX12_never.2.2.1 292 = .ok (.ior, 1) := by decide +kernel
theorem d_X12_never_293 : decode mX12_never.2.2.1 293 = .ok (.istore_n 3, 1) := by decide +kernel
theorem d_X12_never_294 : decode mX12_never.2.2.1 294 = .ok (.iinc 4 1, 3) := by decide +kernel
theorem d_X12_never_297 : decode mX12_never.2.2.1 297 = .ok (.goto (-31), 3) := by decide +kernel
theorem d_X12_never_300 : decode mX12_never.2.2.1 300 = .ok (.iload_n 3, 1) := by decide +kernel
theorem d_X12_never_301 : decode mX12_never.2.2.1 301 = .ok (.ireturn, 1) := by decide +kernel
theorem d_X12_never_53 : decode mX12_never.2.2.1 53 = .ok (.sipush 200, 3) := by decide +kernel
theorem d_X12_never_56 : decode mX12_never.2.2.1 56 = .ok (.aload_n 0, 1) := by decide +kernel
theorem d_X12_never_57 : decode mX12_never.2.2.1 57 = .ok (.getfield 48, 3) := by decide +kernel
theorem d_X12_never_60 : decode mX12_never.2.2.1 60 = .ok (.imul, 1) := by decide +kernel
theorem d_X12_never_61 : decode mX12_never.2.2.1 61 = .ok (.iload_n 3, 1) := by decide +kernel
theorem d_X12_never_62 : decode mX12_never.2.2.1 62 = .ok (.iadd, 1) := by decide +kernel
theorem d_X12_never_63 : decode mX12_never.2.2.1 63 = .ok (.istore 4, 2) := by decide +kernel
theorem d_X12_never_65 : decode mX12_never.2.2.1 65 = .ok (.aload_n 0, 1) := by decide +kernel
theorem d_X12_never_66 : decode mX12_never.2.2.1 66 = .ok (.getfield 375, 3) := by decide +kernel
theorem d_X12_never_69 : decode mX12_never.2.2.1 69 = .ok (.iload_n 3, 1) := by decide +kernel
theorem d_X12_never_70 : decode mX12_never.2.2.1 70 = .ok (.laload, 1) := by decide +kernel
theorem d_X12_never_71 : decode mX12_never.2.2.1 71 = .ok (.lstore 5, 2) := by decide +kernel
theorem d_X12_never_73 : decode mX12_never.2.2.1 73 = .ok (.aload_n 0, 1) := by decide +kernel
theorem d_X12_never_74 : decode mX12_never.2.2.1 74 = .ok (.getfield 97, 3) := by decide +kernel
theorem d_X12_never_77 : decode mX12_never.2.2.1 77 = .ok (.iload 4, 2) := by decide +kernel
theorem d_X12_never_79 : decode mX12_never.2.2.1 79 = .ok (.iaload, 1) := by decide +kernel
theorem d_X12_never_80 : decode mX12_never.2.2.1 80 = .ok (.iconst 3, 1) := by decide +kernel
theorem d_X12_never_81 : decode mX12_never.2.2.1 81 = .ok (.if_icmp .eq 14, 3) := by decide +kernel
theorem d_X12_never_84 : decode mX12_never.2.2.1 84 = .ok (.aload_n 0, 1) := by decide +kernel
theorem d_X12_never_85 : decode mX12_never.2.2.1 85 = .ok (.getfield 97, 3) := by decide +kernel
theorem d_X12_never_88 : decode mX12_never.2.2.1 88 = .ok (.iload 4, 2) := by decide +kernel
theorem d_X12_never_90 : decode mX12_never.2.2.1 90 = .ok (.iaload, 1) := by decide +kernel
theorem d_X12_never_91 : decode mX12_never.2.2.1 91 = .ok (.iconst 4, 1) := by decide +kernel
theorem d_X12_never_92 : decode mX12_never.2.2.1 92 = .ok (.if_icmp .ne 33, 3) := by decide +kernel
theorem d_X12_never_95 : decode mX12_never.2.2.1 95 = .ok (.lload 5, 2) := by decide +kernel
theorem d_X12_never_97 : decode mX12_never.2.2.1 97 = .ok (.aload_n 0, 1) := by decide +kernel
theorem d_X12_never_98 : decode mX12_never.2.2.1 98 = .ok (.getfield 103, 3) := by decide +kernel
theorem d_X12_never_101 : decode mX12_never.2.2.1 101 = .ok (.iload 4, 2) := by decide +kernel
theorem d_X12_never_103 : decode mX12_never.2.2.1 103 = .ok (.iaload, 1) := by decide +kernel
theorem d_X12_never_104 : decode mX12_never.2.2.1 104 = .ok (.aload_n 0, 1) := by decide +kernel
theorem d_X12_never_105 : decode mX12_never.2.2.1 105 = .ok (.getfield 97, 3) := by decide +kernel
theorem d_X12_never_108 : decode mX12_never.2.2.1 108 = .ok (.iload 4, 2) := by decide +kernel
theorem d_X12_never_110 : decode mX12_never.2.2.1 110 = .ok (.iaload, 1) := by decide +kernel
theorem d_X12_never_111 : decode mX12_never.2.2.1 111 = .ok (.iconst 3, 1) := by decide +kernel
theorem d_X12_never_112 : decode mX12_never.2.2.1 112 = .ok (.if_icmp .ne 7, 3) := by decide +kernel
theorem d_X12_never_119 : decode mX12_never.2.2.1 119 = .ok (.iconst 0, 1) := by decide +kernel
theorem d_X12_never_115 : decode mX12_never.2.2.1 115 = .ok (.iconst 1, 1) := by decide +kernel
theorem d_X12_never_116 : decode mX12_never.2.2.1 116 = .ok (.goto 4, 3) := by decide +kernel
theorem d_X12_never_120 : decode mX12_never.2.2.1 120 = .ok (.invokestatic 692, 3) := by decide +kernel
def mX12_moved : MD := (12, yX12_moved, cX12_moved, 7, some .long)
theorem s_12_692 : e_siteS 12 692 mX12_moved := ⟨tblG_in (inT10 (List.mem_of_getElem? (i := 30) rfl)) rfl, tblG_in (inT10 (List.mem_of_getElem? (i := 31) rfl)) rfl⟩
theorem d_X12_moved_0 : decode mX12_moved.2.2.1 0 = .ok (.lconst 0, 1) := by decide +kernel
theorem d_X12_moved_1 : decode mX12_moved.2.2.1 1 = .ok (.lstore 4, 2) := by decide +kernel
theorem d_X12_moved_3 : decode mX12_moved.2.2.1 3 = .ok (.iconst 0, 1) := by decide +kernel
theorem d_X12_moved_4 : decode mX12_moved.2.2.1 4 = .ok (.istore 6, 2) := by decide +kernel
theorem d_X12_moved_6 : decode mX12_moved.2.2.1 6 = .ok (.iload 6, 2) := by decide +kernel
theorem d_X12_moved_8 : decode mX12_moved.2.2.1 8 = .ok (.bipush 64, 2) := by decide +kernel
theorem d_X12_moved_10 : decode mX12_moved.2.2.1 10 = .ok (.if_icmp .ge 48, 3) := by decide +kernel
theorem d_X12_moved_13 : decode mX12_moved.2.2.1 13 = .ok (.lload_n 0, 1) := by decide +kernel
theorem d_X12_moved_14 : decode mX12_moved.2.2.1 14 = .ok (.iload 6, 2) := by decide +kernel
theorem d_X12_moved_16 : decode mX12_moved.2.2.1 16 = .ok (.lshr, 1) := by decide +kernel
theorem d_X12_moved_17 : decode mX12_moved.2.2.1 17 = .ok (.lconst 1, 1) := by decide +kernel
theorem d_X12_moved_18 : decode mX12_moved.2.2.1 18 = .ok (.land, 1) := by decide +kernel
theorem d_X12_moved_19 : decode mX12_moved.2.2.1 19 = .ok (.lconst 1, 1) := by decide +kernel
theorem d_X12_moved_20 : decode mX12_moved.2.2.1 20 = .ok (.lcmp, 1) := by decide +kernel
theorem d_X12_moved_21 : decode mX12_moved.2.2.1 21 = .ok (.ifCond .ne 31, 3) := by decide +kernel
theorem d_X12_moved_24 : decode mX12_moved.2.2.1 24 = .ok (.lload 4, 2) := by decide +kernel
theorem d_X12_moved_26 : decode mX12_moved.2.2.1 26 = .ok (.lconst 1, 1) := by decide +kernel
theorem d_X12_moved_27 : decode mX12_moved.2.2.1 27 = .ok (.iload_n 3, 1) := by decide +kernel
theorem d_X12_moved_28 : decode mX12_moved.2.2.1 28 = .ok (.ifCond .eq 12, 3) := by decide +kernel
theorem d_X12_moved_40 : decode mX12_moved.2.2.1 40 = .ok (.iload 6, 2) := by decide +kernel
theorem d_X12_moved_42 : decode mX12_moved.2.2.1 42 = .ok (.iconst 1, 1) := by decide +kernel
theorem d_X12_moved_43 : decode mX12_moved.2.2.1 43 = .ok (.iload_n 2, 1) := by decide +kernel
theorem d_X12_moved_44 : decode mX12_moved.2.2.1 44 = .ok (.ishl, 1) := by decide +kernel
theorem d_X12_moved_45 : decode mX12_moved.2.2.1 45 = .ok (.iconst (-1), 1) := by decide +kernel
theorem d_X12_moved_46 : decode mX12_moved.2.2.1 46 = .ok (.ixor, 1) := by decide +kernel
theorem d_X12_moved_47 : decode mX12_moved.2.2.1 47 = .ok (.iand, 1) := by decide +kernel
theorem d_X12_moved_31 : decode mX12_moved.2.2.1 31 = .ok (.iload 6, 2) := by decide +kernel
theorem d_X12_moved_33 : decode mX12_moved.2.2.1 33 = .ok (.iconst 1, 1) := by decide +kernel
theorem d_X12_moved_34 : decode mX12_moved.2.2.1 34 = .ok (.iload_n 2, 1) := by decide +kernel
theorem d_X12_moved_35 : decode mX12_moved.2.2.1 35 = .ok (.ishl, 1) := by decide +kernel
theorem d_X12_moved_36 : decode mX12_moved.2.2.1 36 = .ok (.ior, 1) := by decide +kernel
theorem d_X12_moved_37 : decode mX12_moved.2.2.1 37 = .ok (.goto 11, 3) := by decide +kernel
theorem d_X12_moved_48 : decode mX12_moved.2.2.1 48 = .ok (.lshl, 1) := by decide +kernel
theorem d_X12_moved_49 : decode mX12_moved.2.2.1 49 = .ok (.lor, 1) := by decide +kernel
theorem d_X12_moved_50 : decode mX12_moved.2.2.1 50 = .ok (.lstore 4, 2) := by decide +kernel
theorem d_X12_moved_52 : decode mX12_moved.2.2.1 52 = .ok (.iinc 6 1, 3) := by decide +kernel
theorem d_X12_moved_55 : decode mX12_moved.2.2.1 55 = .ok (.goto (-49), 3) := by decide +kernel
theorem d_X12_moved_58 : decode mX12_moved.2.2.1 58 = .ok (.lload 4, 2) := by decide +kernel
theorem d_X12_moved_60 : decode mX12_moved.2.2.1 60 = .ok (.lreturn, 1) := by decide +kernel
theorem ok_X12_moved : e_m mX12_moved 3 := ⟨tblG_in (inT10 (List.mem_of_getElem? (i := 32) rfl)) rfl, plainFor_of_name (by decide), rfl, ini_12, by decide +kernel, by decide⟩
theorem d_X12_never_123 : decode mX12_never.2.2.1 123 = .ok (.lstore 5, 2) := by decide +kernel
theorem d_X12_never_125 : decode mX12_never.2.2.1 125 = .ok (.aload_n 0, 1) := by decide +kernel
theorem d_X12_never_126 : decode mX12_never.2.2.1 126 = .ok (.getfield 97, 3) := by decide +kernel
theorem d_X12_never_129 : decode mX12_never.2.2.1 129 = .ok (.iload 4, 2) := by decide +kernel
theorem d_X12_never_131 : decode mX12_never.2.2.1 131 = .ok (.iaload, 1) := by decide +kernel
theorem d_X12_never_132 : decode mX12_never.2.2.1 132 = .ok (.ifCond .ne 13, 3) := by decide +kernel
theorem d_X12_never_145 : decode mX12_never.2.2.1 145 = .ok (.iload_n 3, 1) := by decide +kernel
theorem d_X12_never_146 : decode mX12_never.2.2.1 146 = .ok (.iconst 1, 1) := by decide +kernel
theorem d_X12_never_147 : decode mX12_never.2.2.1 147 = .ok (.iadd, 1) := by decide +kernel
theorem d_X12_never_135 : decode mX12_never.2.2.1 135 = .ok (.aload_n 0, 1) := by decide +kernel
theorem d_X12_never_136 : decode mX12_never.2.2.1 136 = .ok (.getfield 112, 3) := by decide +kernel
theorem d_X12_never_139 : decode mX12_never.2.2.1 139 = .ok (.iload 4, 2) := by decide +kernel
theorem d_X12_never_141 : decode mX12_never.2.2.1 141 = .ok (.iaload, 1) := by decide +kernel
theorem d_X12_never_142 : decode mX12_never.2.2.1 142 = .ok (.goto 6, 3) := by decide +kernel
theorem d_X12_never_148 : decode mX12_never.2.2.1 148 = .ok (.istore 7, 2) := by decide +kernel
theorem d_X12_never_150 : decode mX12_never.2.2.1 150 = .ok (.aload_n 0, 1) := by decide +kernel
theorem d_X12_never_151 : decode mX12_never.2.2.1 151 = .ok (.getfield 97, 3) := by decide +kernel
theorem d_X12_never_154 : decode mX12_never.2.2.1 154 = .ok (.iload 4, 2) := by decide +kernel
theorem d_X12_never_156 : decode mX12_never.2.2.1 156 = .ok (.iaload, 1) := by decide +kernel
theorem d_X12_never_157 : decode mX12_never.2.2.1 157 = .ok (.bipush 7, 2) := by decide +kernel
theorem d_X12_never_159 : decode mX12_never.2.2.1 159 = .ok (.if_icmp .lt 13, 3) := by decide +kernel
theorem d_X12_never_172 : decode mX12_never.2.2.1 172 = .ok (.iload 7, 2) := by decide +kernel
theorem d_X12_never_162 : decode mX12_never.2.2.1 162 = .ok (.aload_n 0, 1) := by decide +kernel
theorem d_X12_never_163 : decode mX12_never.2.2.1 163 = .ok (.getfield 112, 3) := by decide +kernel
theorem d_X12_never_166 : decode mX12_never.2.2.1 166 = .ok (.iload 4, 2) := by decide +kernel
theorem d_X12_never_168 : decode mX12_never.2.2.1 168 = .ok (.iaload, 1) := by decide +kernel
theorem d_X12_never_169 : decode mX12_never.2.2.1 169 = .ok (.goto 5, 3) := by decide +kernel
theorem d_X12_never_174 : decode mX12_never.2.2.1 174 = .ok (.istore 8, 2) := by decide +kernel
theorem d_X12_never_176 : decode mX12_never.2.2.1 176 = .ok (.iload_n 2, 1) := by decide +kernel
theorem d_X12_never_177 : decode mX12_never.2.2.1 177 = .ok (.ifCond .ne 45, 3) := by decide +kernel
theorem d_X12_never_180 : decode mX12_never.2.2.1 180 = .ok (.aload_n 0, 1) := by decide +kernel
theorem d_X12_never_181 : decode mX12_never.2.2.1 181 = .ok (.getfield 375, 3) := by decide +kernel
theorem d_X12_never_184 : decode mX12_never.2.2.1 184 = .ok (.iload 7, 2) := by decide +kernel
theorem d_X12_never_186 : decode mX12_never.2.2.1 186 = .ok (.laload, 1) := by decide +kernel
theorem d_X12_never_187 : decode mX12_never.2.2.1 187 = .ok (.lload 5, 2) := by decide +kernel
theorem d_X12_never_189 : decode mX12_never.2.2.1 189 = .ok (.lor, 1) := by decide +kernel
theorem d_X12_never_190 : decode mX12_never.2.2.1 190 = .ok (.aload_n 0, 1) := by decide +kernel
theorem d_X12_never_191 : decode mX12_never.2.2.1 191 = .ok (.getfield 375, 3) := by decide +kernel
theorem d_X12_never_194 : decode mX12_never.2.2.1 194 = .ok (.iload 7, 2) := by decide +kernel
theorem d_X12_never_196 : decode mX12_never.2.2.1 196 = .ok (.laload, 1) := by decide +kernel
theorem d_X12_never_197 : decode mX12_never.2.2.1 197 = .ok (.lcmp, 1) := by decide +kernel
theorem d_X12_never_198 : decode mX12_never.2.2.1 198 = .ok (.ifCond .ne 24, 3) := by decide +kernel
theorem d_X12_never_201 : decode mX12_never.2.2.1 201 = .ok (.aload_n 0, 1) := by decide +kernel
theorem d_X12_never_202 : decode mX12_never.2.2.1 202 = .ok (.getfield 375, 3) := by decide +kernel
theorem d_X12_never_205 : decode mX12_never.2.2.1 205 = .ok (.iload 8, 2) := by decide +kernel
theorem d_X12_never_207 : decode mX12_never.2.2.1 207 = .ok (.laload, 1) := by decide +kernel
theorem d_X12_never_208 : decode mX12_never.2.2.1 208 = .ok (.lload 5, 2) := by decide +kernel
theorem d_X12_never_210 : decode mX12_never.2.2.1 210 = .ok (.lor, 1) := by decide +kernel
theorem d_X12_never_211 : decode mX12_never.2.2.1 211 = .ok (.aload_n 0, 1) := by decide +kernel
theorem d_X12_never_212 : decode mX12_never.2.2.1 212 = .ok (.getfield 375, 3) := by decide +kernel
theorem d_X12_never_215 : decode mX12_never.2.2.1 215 = .ok (.iload 8, 2) := by decide +kernel
theorem d_X12_never_217 : decode mX12_never.2.2.1 217 = .ok (.laload, 1) := by decide +kernel
theorem d_X12_never_218 : decode mX12_never.2.2.1 218 = .ok (.lcmp, 1) := by decide +kernel
theorem d_X12_never_219 : decode mX12_never.2.2.1 219 = .ok (.ifCond .eq 7, 3) := by decide +kernel
theorem d_X12_never_226 : decode mX12_never.2.2.1 226 = .ok (.iconst 0, 1) := by decide +kernel
theorem d_X12_never_222 : decode mX12_never.2.2.1 222 = .ok (.iconst 1, 1) := by decide +kernel
theorem d_X12_never_223 : decode mX12_never.2.2.1 223 = .ok (.goto 4, 3) := by decide +kernel
theorem d_X12_never_227 : decode mX12_never.2.2.1 227 = .ok (.istore_n 2, 1) := by decide +kernel
theorem d_X12_never_228 : decode mX12_never.2.2.1 228 = .ok (.aload_n 0, 1) := by decide +kernel
theorem d_X12_never_229 : decode mX12_never.2.2.1 229 = .ok (.getfield 375, 3) := by decide +kernel
theorem d_X12_never_232 : decode mX12_never.2.2.1 232 = .ok (.iload 7, 2) := by decide +kernel
theorem d_X12_never_234 : decode mX12_never.2.2.1 234 = .ok (.dup2, 1) := by decide +kernel
theorem d_X12_never_235 : decode mX12_never.2.2.1 235 = .ok (.laload, 1) := by decide +kernel
theorem d_X12_never_236 : decode mX12_never.2.2.1 236 = .ok (.lload 5, 2) := by decide +kernel
