/-! the constructors -/
def C_0 : Mem := (0, 0, fun _ => (99, 0), fun _ _ => 0)
def C_1 : Mem := mnew C_0 (11, 14)
def C_2 : Mem := mnew C_1 (22, 900)
def C_3 : Mem := wr C_2 0 0 1
def C_4 : Mem := mnew C_3 (7, 6)
def C_5 : Mem := mnew C_4 (20, 901)
def C_6 : Mem := wr C_5 2 0 3
def C_7 : Mem := mnew C_6 (20, 901)
def C_8 : Mem := wr C_7 2 1 4
def C_9 : Mem := mnew C_8 (20, 901)
def C_10 : Mem := wr C_9 2 2 5
def C_11 : Mem := wr C_10 0 2 2
def C_12 : Mem := mnew C_11 (5, 7)
def C_13 : Mem := wr C_12 6 0 0
def C_14 : Mem := wr C_13 6 1 (-1)
def C_15 : Mem := wr C_14 0 3 6
def C_16 : Mem := mnew C_15 (3, 12)
def C_17 : Mem := mnew C_16 (20, 3)
def C_18 : Mem := wr C_17 7 4 8
def C_19 : Mem := mnew C_18 (20, 24)
def C_20 : Mem := wr C_19 7 5 9
def C_21 : Mem := mnew C_20 (20, 6)
def C_22 : Mem := wr C_21 7 6 10
def C_23 : Mem := mnew C_22 (20, 6)
def C_24 : Mem := wr C_23 7 7 11
def C_25 : Mem := mnew C_24 (20, 3)
def C_26 : Mem := wr C_25 7 8 12
def C_27 : Mem := mnew C_26 (20, 3)
def C_28 : Mem := wr C_27 7 9 13
def C_29 : Mem := mnew C_28 (20, 15)
def C_30 : Mem := wr C_29 7 10 14
def C_31 : Mem := mnew C_30 (4, 13)
def C_32 : Mem := mnew C_31 (20, 60)
def C_33 : Mem := wr C_32 15 1 16
def C_34 : Mem := mnew C_33 (20, 60)
def C_35 : Mem := wr C_34 15 2 17
def C_36 : Mem := mnew C_35 (20, 61)
def C_37 : Mem := wr C_36 15 3 18
def C_38 : Mem := mnew C_37 (20, 60)
def C_39 : Mem := wr C_38 15 4 19
def C_40 : Mem := mnew C_39 (20, 60)
def C_41 : Mem := wr C_40 15 5 20
def C_42 : Mem := mnew C_41 (20, 60)
def C_43 : Mem := wr C_42 15 6 21
def C_44 : Mem := mnew C_43 (20, 60)
def C_45 : Mem := wr C_44 15 7 22
def C_46 : Mem := mnew C_45 (20, 60)
def C_47 : Mem := wr C_46 15 8 23
def C_48 : Mem := mnew C_47 (20, 900)
def C_49 : Mem := wr C_48 15 9 24
def C_50 : Mem := mnew C_49 (20, 900)
def C_51 : Mem := wr C_50 15 10 25
def C_52 : Mem := mnew C_51 (20, 61)
def C_53 : Mem := wr C_52 15 12 26
def C_54 : Mem := wr C_53 7 11 15
def C_55 : Mem := wr C_54 0 4 7
def C_56 : Mem := mnew C_55 (3, 12)
def C_57 : Mem := mnew C_56 (20, 3)
def C_58 : Mem := wr C_57 27 4 28
def C_59 : Mem := mnew C_58 (20, 24)
def C_60 : Mem := wr C_59 27 5 29
def C_61 : Mem := mnew C_60 (20, 6)
def C_62 : Mem := wr C_61 27 6 30
def C_63 : Mem := mnew C_62 (20, 6)
def C_64 : Mem := wr C_63 27 7 31
def C_65 : Mem := mnew C_64 (20, 3)
def C_66 : Mem := wr C_65 27 8 32
def C_67 : Mem := mnew C_66 (20, 3)
def C_68 : Mem := wr C_67 27 9 33
def C_69 : Mem := mnew C_68 (20, 15)
def C_70 : Mem := wr C_69 27 10 34
def C_71 : Mem := mnew C_70 (4, 13)
def C_72 : Mem := mnew C_71 (20, 60)
def C_73 : Mem := wr C_72 35 1 36
def C_74 : Mem := mnew C_73 (20, 60)
def C_75 : Mem := wr C_74 35 2 37
def C_76 : Mem := mnew C_75 (20, 61)
def C_77 : Mem := wr C_76 35 3 38
def C_78 : Mem := mnew C_77 (20, 60)
def C_79 : Mem := wr C_78 35 4 39
def C_80 : Mem := mnew C_79 (20, 60)
def C_81 : Mem := wr C_80 35 5 40
def C_82 : Mem := mnew C_81 (20, 60)
def C_83 : Mem := wr C_82 35 6 41
def C_84 : Mem := mnew C_83 (20, 60)
def C_85 : Mem := wr C_84 35 7 42
def C_86 : Mem := mnew C_85 (20, 60)
def C_87 : Mem := wr C_86 35 8 43
def C_88 : Mem := mnew C_87 (20, 900)
def C_89 : Mem := wr C_88 35 9 44
def C_90 : Mem := mnew C_89 (20, 900)
def C_91 : Mem := wr C_90 35 10 45
def C_92 : Mem := mnew C_91 (20, 61)
def C_93 : Mem := wr C_92 35 12 46
def C_94 : Mem := wr C_93 27 11 35
def C_95 : Mem := wr C_94 0 5 27
def C_96 : Mem := mnew C_95 (20, 3)
def C_97 : Mem := wr C_96 0 6 47
def C_98 : Mem := mnew C_97 (6, 18)
def C_99 : Mem := mnew C_98 (20, 3)
def C_100 : Mem := wr C_99 48 2 49
def C_101 : Mem := mnew C_100 (20, 6)
def C_102 : Mem := wr C_101 48 3 50
def C_103 : Mem := mnew C_102 (20, 64)
def C_104 : Mem := wr C_103 48 4 51
def C_105 : Mem := mnew C_104 (20, 8)
def C_106 : Mem := wr C_105 48 5 52
def C_107 : Mem := mnew C_106 (20, 6)
def C_108 : Mem := wr C_107 48 6 53
def C_109 : Mem := mnew C_108 (20, 6)
def C_110 : Mem := wr C_109 48 7 54
def C_111 : Mem := mnew C_110 (20, 6)
def C_112 : Mem := wr C_111 48 8 55
def C_113 : Mem := mnew C_112 (1, 9)
def C_114 : Mem := mnew C_113 (20, 24)
def C_115 : Mem := wr C_114 56 2 57
def C_116 : Mem := mnew C_115 (20, 6)
def C_117 : Mem := wr C_116 56 3 58
def C_118 : Mem := mnew C_117 (20, 6)
def C_119 : Mem := wr C_118 56 4 59
def C_120 : Mem := mnew C_119 (20, 60)
def C_121 : Mem := wr C_120 56 5 60
def C_122 : Mem := mnew C_121 (20, 60)
def C_123 : Mem := wr C_122 56 6 61
def C_124 : Mem := mnew C_123 (20, 60)
def C_125 : Mem := wr C_124 56 7 62
def C_126 : Mem := mnew C_125 (8, 12)
def C_127 : Mem := mnew C_126 (20, 0)
def C_128 : Mem := wr C_127 63 1 64
def C_129 : Mem := mnew C_128 (20, 0)
def C_130 : Mem := wr C_129 63 2 65
def C_131 : Mem := mnew C_130 (20, 0)
def C_132 : Mem := wr C_131 63 3 66
def C_133 : Mem := mnew C_132 (20, 0)
def C_134 : Mem := wr C_133 63 4 67
def C_135 : Mem := mnew C_134 (21, 0)
def C_136 : Mem := wr C_135 63 5 68
def C_137 : Mem := mnew C_136 (20, 6)
def C_138 : Mem := wr C_137 63 6 69
def C_139 : Mem := mnew C_138 (20, 0)
def C_140 : Mem := wr C_139 63 8 70
def C_141 : Mem := mnew C_140 (20, 0)
def C_142 : Mem := wr C_141 63 9 71
def C_143 : Mem := mnew C_142 (20, 0)
def C_144 : Mem := wr C_143 63 10 72
def C_145 : Mem := mnew C_144 (20, 0)
def C_146 : Mem := wr C_145 63 11 73
def C_147 : Mem := wr C_146 56 8 63
def C_148 : Mem := wr C_147 56 0 1
def C_149 : Mem := wr C_148 48 0 56
def C_150 : Mem := wr C_149 0 7 48
def C_151 : Mem := mnew C_150 (6, 18)
def C_152 : Mem := mnew C_151 (20, 3)
def C_153 : Mem := wr C_152 74 2 75
def C_154 : Mem := mnew C_153 (20, 6)
def C_155 : Mem := wr C_154 74 3 76
def C_156 : Mem := mnew C_155 (20, 64)
def C_157 : Mem := wr C_156 74 4 77
def C_158 : Mem := mnew C_157 (20, 8)
def C_159 : Mem := wr C_158 74 5 78
def C_160 : Mem := mnew C_159 (20, 6)
def C_161 : Mem := wr C_160 74 6 79
def C_162 : Mem := mnew C_161 (20, 6)
def C_163 : Mem := wr C_162 74 7 80
def C_164 : Mem := mnew C_163 (20, 6)
def C_165 : Mem := wr C_164 74 8 81
def C_166 : Mem := mnew C_165 (1, 9)
def C_167 : Mem := mnew C_166 (20, 24)
def C_168 : Mem := wr C_167 82 2 83
def C_169 : Mem := mnew C_168 (20, 6)
def C_170 : Mem := wr C_169 82 3 84
def C_171 : Mem := mnew C_170 (20, 6)
def C_172 : Mem := wr C_171 82 4 85
def C_173 : Mem := mnew C_172 (20, 60)
def C_174 : Mem := wr C_173 82 5 86
def C_175 : Mem := mnew C_174 (20, 60)
def C_176 : Mem := wr C_175 82 6 87
def C_177 : Mem := mnew C_176 (20, 60)
def C_178 : Mem := wr C_177 82 7 88
def C_179 : Mem := mnew C_178 (8, 12)
def C_180 : Mem := mnew C_179 (20, 0)
def C_181 : Mem := wr C_180 89 1 90
def C_182 : Mem := mnew C_181 (20, 0)
def C_183 : Mem := wr C_182 89 2 91
def C_184 : Mem := mnew C_183 (20, 0)
def C_185 : Mem := wr C_184 89 3 92
def C_186 : Mem := mnew C_185 (20, 0)
def C_187 : Mem := wr C_186 89 4 93
def C_188 : Mem := mnew C_187 (21, 0)
def C_189 : Mem := wr C_188 89 5 94
def C_190 : Mem := mnew C_189 (20, 6)
def C_191 : Mem := wr C_190 89 6 95
def C_192 : Mem := mnew C_191 (20, 0)
def C_193 : Mem := wr C_192 89 8 96
def C_194 : Mem := mnew C_193 (20, 0)
def C_195 : Mem := wr C_194 89 9 97
def C_196 : Mem := mnew C_195 (20, 0)
def C_197 : Mem := wr C_196 89 10 98
def C_198 : Mem := mnew C_197 (20, 0)
def C_199 : Mem := wr C_198 89 11 99
def C_200 : Mem := wr C_199 82 8 89
def C_201 : Mem := wr C_200 82 0 0
def C_202 : Mem := wr C_201 74 0 82
def C_203 : Mem := wr C_202 0 8 74
def C_204 : Mem := mnew C_203 (9, 4)
def C_205 : Mem := mnew C_204 (21, 256)
def C_206 : Mem := wr C_205 100 0 101
def C_207 : Mem := mnew C_206 (20, 256)
def C_208 : Mem := wr C_207 100 1 102
def C_209 : Mem := wr C_208 100 3 (-1)
def C_210 : Mem := wr C_209 0 10 100
def C_211 : Mem := mnew C_210 (10, 7)
def C_212 : Mem := mnew C_211 (20, 3)
def C_213 : Mem := wr C_212 103 4 104
def C_214 : Mem := mnew C_213 (20, 3)
def C_215 : Mem := wr C_214 103 5 105
def C_216 : Mem := mnew C_215 (20, 3)
def C_217 : Mem := wr C_216 103 6 106
def C_218 : Mem := wr C_217 0 11 103
def C_219 : Mem := mnew C_218 (2, 7)
def C_220 : Mem := mnew C_219 (20, 4)
def C_221 : Mem := wr C_220 107 2 108
def C_222 : Mem := mnew C_221 (20, 12)
def C_223 : Mem := wr C_222 107 3 109
def C_224 : Mem := mnew C_223 (20, 12)
def C_225 : Mem := wr C_224 107 4 110
def C_226 : Mem := mnew C_225 (20, 288)
def C_227 : Mem := wr C_226 107 5 111
def C_228 : Mem := mnew C_227 (20, 12)
def C_229 : Mem := wr C_228 107 6 112
def C_230 : Mem := wr C_229 0 12 107
def C_231 : Mem := mnew C_230 (0, 8)
def C_232 : Mem := mnew C_231 (20, 6)
def C_233 : Mem := wr C_232 113 1 114
def C_234 : Mem := mnew C_233 (20, 6)
def C_235 : Mem := wr C_234 113 2 115
def C_236 : Mem := mnew C_235 (20, 6)
def C_237 : Mem := wr C_236 113 3 116
def C_238 : Mem := mnew C_237 (20, 6)
def C_239 : Mem := wr C_238 113 4 117
def C_240 : Mem := mnew C_239 (20, 6)
def C_241 : Mem := wr C_240 113 5 118
def C_242 : Mem := mnew C_241 (20, 6)
def C_243 : Mem := wr C_242 113 6 119
def C_244 : Mem := wr C_243 0 13 113
def C_245 : Mem := wr C_244 7 0 1
def C_246 : Mem := wr C_245 7 1 1
def C_247 : Mem := wr C_246 7 2 1
def C_248 : Mem := wr C_247 7 3 0
def C_249 : Mem := fil C_248 8 3 0
def C_250 : Mem := fil C_249 9 24 0
def C_251 : Mem := fil C_250 12 3 0
def C_252 : Mem := fil C_251 13 3 0
def C_253 : Mem := fil C_252 14 15 0
def C_254 : Mem := wr C_253 15 0 0
def C_255 : Mem := wr C_254 15 11 0
def C_256 : Mem := wr C_255 27 0 1
def C_257 : Mem := wr C_256 27 1 1
def C_258 : Mem := wr C_257 27 2 1
def C_259 : Mem := wr C_258 27 3 0
def C_260 : Mem := fil C_259 28 3 0
def C_261 : Mem := fil C_260 29 24 0
def C_262 : Mem := fil C_261 32 3 0
def C_263 : Mem := fil C_262 33 3 0
def C_264 : Mem := fil C_263 34 15 0
def C_265 : Mem := wr C_264 35 0 0
def C_266 : Mem := wr C_265 35 11 0
def C_267 : Mem := mnew C_266 (12, 121)
def C_268 : Mem := mnew C_267 (20, 900)
def C_269 : Mem := wr C_268 120 0 121
def C_270 : Mem := wr C_269 120 1 0
def C_271 : Mem := wr C_270 120 2 0
def C_272 : Mem := wr C_271 120 3 0
def C_273 : Mem := wr C_272 120 4 0
def C_274 : Mem := wr C_273 120 5 0
def C_275 : Mem := wr C_274 120 6 0
def C_276 : Mem := wr C_275 120 7 0
def C_277 : Mem := wr C_276 120 8 0
def C_278 : Mem := wr C_277 120 9 (-1)
def C_279 : Mem := wr C_278 120 10 0
def C_280 : Mem := wr C_279 120 11 (-1)
def C_281 : Mem := wr C_280 120 12 0
def C_282 : Mem := mnew C_281 (20, 2)
def C_283 : Mem := wr C_282 120 13 122
def C_284 : Mem := mnew C_283 (20, 2)
def C_285 : Mem := wr C_284 120 14 123
def C_286 : Mem := mnew C_285 (20, 2)
def C_287 : Mem := wr C_286 120 15 124
def C_288 : Mem := mnew C_287 (20, 2)
def C_289 : Mem := wr C_288 120 16 125
def C_290 : Mem := mnew C_289 (20, 2)
def C_291 : Mem := wr C_290 120 17 126
def C_292 : Mem := mnew C_291 (20, 2)
def C_293 : Mem := wr C_292 120 18 127
def C_294 : Mem := mnew C_293 (20, 2)
def C_295 : Mem := wr C_294 120 19 128
def C_296 : Mem := mnew C_295 (20, 2)
def C_297 : Mem := wr C_296 120 20 129
def C_298 : Mem := mnew C_297 (21, 12)
def C_299 : Mem := wr C_298 120 21 130
def C_300 : Mem := mnew C_299 (20, 72)
def C_301 : Mem := wr C_300 120 22 131
def C_302 : Mem := mnew C_301 (21, 6)
def C_303 : Mem := wr C_302 120 23 132
def C_304 : Mem := mnew C_303 (20, 6)
def C_305 : Mem := wr C_304 120 24 133
def C_306 : Mem := mnew C_305 (20, 6)
def C_307 : Mem := wr C_306 120 25 134
def C_308 : Mem := mnew C_307 (21, 12)
def C_309 : Mem := wr C_308 120 26 135
def C_310 : Mem := mnew C_309 (20, 2)
def C_311 : Mem := wr C_310 120 27 136
def C_312 : Mem := mnew C_311 (20, 400)
def C_313 : Mem := wr C_312 120 28 137
def C_314 : Mem := mnew C_313 (20, 400)
def C_315 : Mem := wr C_314 120 29 138
def C_316 : Mem := mnew C_315 (20, 400)
def C_317 : Mem := wr C_316 120 30 139
def C_318 : Mem := mnew C_317 (20, 400)
def C_319 : Mem := wr C_318 120 31 140
def C_320 : Mem := mnew C_319 (20, 400)
def C_321 : Mem := wr C_320 120 32 141
def C_322 : Mem := mnew C_321 (20, 400)
def C_323 : Mem := wr C_322 120 33 142
def C_324 : Mem := mnew C_323 (20, 1800)
def C_325 : Mem := wr C_324 120 34 143
def C_326 : Mem := mnew C_325 (20, 1800)
def C_327 : Mem := wr C_326 120 35 144
def C_328 : Mem := wr C_327 120 36 0
def C_329 : Mem := wr C_328 120 37 1
def C_330 : Mem := mnew C_329 (20, 20)
def C_331 : Mem := wr C_330 120 38 145
def C_332 : Mem := mnew C_331 (20, 20)
def C_333 : Mem := wr C_332 120 39 146
def C_334 : Mem := mnew C_333 (23, 20)
def C_335 : Mem := wr C_334 120 40 147
def C_336 : Mem := mnew C_335 (20, 20)
def C_337 : Mem := wr C_336 120 41 148
def C_338 : Mem := mnew C_337 (20, 20)
def C_339 : Mem := wr C_338 120 42 149
def C_340 : Mem := wr C_339 120 43 0
def C_341 : Mem := wr C_340 120 44 0
def C_342 : Mem := mnew C_341 (20, 500)
def C_343 : Mem := wr C_342 120 45 150
def C_344 : Mem := wr C_343 120 46 0
def C_345 : Mem := wr C_344 120 47 0
def C_346 : Mem := mnew C_345 (20, 20)
def C_347 : Mem := wr C_346 120 48 151
def C_348 : Mem := mnew C_347 (20, 20)
def C_349 : Mem := wr C_348 120 49 152
def C_350 : Mem := wr C_349 120 50 0
def C_351 : Mem := mnew C_350 (20, 3)
def C_352 : Mem := wr C_351 120 51 153
def C_353 : Mem := mnew C_352 (20, 3)
def C_354 : Mem := wr C_353 120 52 154
def C_355 : Mem := mnew C_354 (20, 6)
def C_356 : Mem := wr C_355 120 53 155
def C_357 : Mem := mnew C_356 (23, 6)
def C_358 : Mem := wr C_357 120 54 156
def C_359 : Mem := mnew C_358 (20, 6)
def C_360 : Mem := wr C_359 120 55 157
def C_361 : Mem := mnew C_360 (20, 6)
def C_362 : Mem := wr C_361 120 56 158
def C_363 : Mem := mnew C_362 (20, 6)
def C_364 : Mem := wr C_363 120 57 159
def C_365 : Mem := mnew C_364 (20, 8)
def C_366 : Mem := wr C_365 120 58 160
def C_367 : Mem := wr C_366 120 59 (-1)
def C_368 : Mem := wr C_367 120 60 (-1)
def C_369 : Mem := wr C_368 120 61 0
def C_370 : Mem := wr C_369 120 62 0
def C_371 : Mem := wr C_370 120 63 0
def C_372 : Mem := wr C_371 120 64 0
def C_373 : Mem := wr C_372 120 65 0
def C_374 : Mem := wr C_373 120 66 0
def C_375 : Mem := wr C_374 120 67 0
def C_376 : Mem := wr C_375 120 68 0
def C_377 : Mem := mnew C_376 (20, 24)
def C_378 : Mem := wr C_377 120 69 161
def C_379 : Mem := wr C_378 120 70 0
def C_380 : Mem := mnew C_379 (20, 2100)
def C_381 : Mem := wr C_380 120 71 162
def C_382 : Mem := mnew C_381 (20, 12600)
def C_383 : Mem := wr C_382 120 72 163
def C_384 : Mem := mnew C_383 (20, 12600)
def C_385 : Mem := wr C_384 120 73 164
def C_386 : Mem := mnew C_385 (20, 12600)
def C_387 : Mem := wr C_386 120 74 165
def C_388 : Mem := wr C_387 120 75 0
def C_389 : Mem := mnew C_388 (20, 2100)
def C_390 : Mem := wr C_389 120 76 166
def C_391 : Mem := mnew C_390 (20, 2100)
def C_392 : Mem := wr C_391 120 77 167
def C_393 : Mem := mnew C_392 (20, 2100)
def C_394 : Mem := wr C_393 120 78 168
def C_395 : Mem := wr C_394 120 79 0
def C_396 : Mem := mnew C_395 (20, 2100)
def C_397 : Mem := wr C_396 120 80 169
def C_398 : Mem := mnew C_397 (20, 2100)
def C_399 : Mem := wr C_398 120 81 170
def C_400 : Mem := mnew C_399 (20, 2100)
def C_401 : Mem := wr C_400 120 82 171
def C_402 : Mem := mnew C_401 (21, 950)
def C_403 : Mem := wr C_402 120 83 172
def C_404 : Mem := wr C_403 120 84 (-1)
def C_405 : Mem := wr C_404 120 85 0
def C_406 : Mem := wr C_405 120 86 0
def C_407 : Mem := wr C_406 120 87 0
def C_408 : Mem := wr C_407 120 88 0
def C_409 : Mem := wr C_408 120 89 0
def C_410 : Mem := wr C_409 120 90 0
def C_411 : Mem := wr C_410 120 91 (-1)
def C_412 : Mem := mnew C_411 (20, 6)
def C_413 : Mem := wr C_412 120 92 173
def C_414 : Mem := mnew C_413 (20, 24)
def C_415 : Mem := wr C_414 120 93 174
def C_416 : Mem := mnew C_415 (23, 6)
def C_417 : Mem := wr C_416 120 94 175
def C_418 : Mem := wr C_417 120 95 0
def C_419 : Mem := wr C_418 120 96 0
def C_420 : Mem := wr C_419 120 97 0
def C_421 : Mem := wr C_420 120 98 0
def C_422 : Mem := wr C_421 120 99 0
def C_423 : Mem := mnew C_422 (20, 8)
def C_424 : Mem := wr C_423 120 100 176
def C_425 : Mem := wr C_424 120 101 0
def C_426 : Mem := mnew C_425 (23, 2200)
def C_427 : Mem := wr C_426 120 102 177
def C_428 : Mem := mnew C_427 (21, 256)
def C_429 : Mem := wr C_428 120 103 178
def C_430 : Mem := wr C_429 120 104 0
def C_431 : Mem := mnew C_430 (20, 3)
def C_432 : Mem := wr C_431 120 105 179
def C_433 : Mem := wr C_432 120 106 0
def C_434 : Mem := mnew C_433 (20, 36)
def C_435 : Mem := wr C_434 120 107 180
def C_436 : Mem := mnew C_435 (20, 12)
def C_437 : Mem := wr C_436 120 108 181
def C_438 : Mem := wr C_437 120 109 0
def C_439 : Mem := mnew C_438 (20, 4)
def C_440 : Mem := wr C_439 120 110 182
def C_441 : Mem := mnew C_440 (21, 12)
def C_442 : Mem := wr C_441 120 111 183
def C_443 : Mem := mnew C_442 (20, 36)
def C_444 : Mem := wr C_443 120 112 184
def C_445 : Mem := wr C_444 120 113 0
def C_446 : Mem := mnew C_445 (20, 6)
def C_447 : Mem := wr C_446 120 114 185
def C_448 : Mem := mnew C_447 (20, 6)
def C_449 : Mem := wr C_448 120 115 186
def C_450 : Mem := mnew C_449 (20, 6)
def C_451 : Mem := wr C_450 120 116 187
def C_452 : Mem := wr C_451 120 117 0
def C_453 : Mem := mnew C_452 (20, 6)
def C_454 : Mem := wr C_453 120 118 188
def C_455 : Mem := mnew C_454 (20, 6)
def C_456 : Mem := wr C_455 120 119 189
def C_457 : Mem := mnew C_456 (21, 201)
def C_458 : Mem := wr C_457 120 120 190
def C_459 : Mem := wr C_458 123 0 1
def C_460 : Mem := wr C_459 124 0 1
def C_461 : Mem := wr C_460 122 0 1
set_option maxRecDepth 100000 in
set_option maxHeartbeats 4000000 in
theorem ct_1 {l : Launch} {K : EC} (hN : e_nst K) : Tr l K 58 mX7_init 0 [(0, (2, 2))] [] C_4 (fun M' r => M' = C_10 ∧ r = none) := by
  refine Tr.aload_n (pc := 0) (i := 0) d_X7_init_0 rfl rfl ?_
  refine Tr.obj (pc := 1) d_X7_init_1 ow_7_3 ow2 ow3 (Nat.le_of_ble_eq_true rfl) (by decide) ?_
  refine Tr.aload_n (pc := 4) (i := 0) d_X7_init_4 rfl rfl ?_
  refine Tr.sipush (pc := 5) d_X7_init_5 rfl (by decide) ?_
  refine Tr.newa_i (pc := 8) (x := 3) (N := 901) d_X7_init_8 aw_int rfl (by decide) (by decide +kernel) ?_
  refine Tr.mc C_5 rfl ?_
  refine Tr.putF (pc := 10) d_X7_init_10 f_7_9 (by decide) (by decide) rfl rfl (show mT C_5 2 = (7, 6) by decide +kernel) ?_
  refine Tr.mc C_6 rfl ?_
  refine Tr.aload_n (pc := 13) (i := 0) d_X7_init_13 rfl rfl ?_
  refine Tr.sipush (pc := 14) d_X7_init_14 rfl (by decide) ?_
  refine Tr.newa_i (pc := 17) (x := 4) (N := 901) d_X7_init_17 aw_int rfl (by decide) (by decide +kernel) ?_
  refine Tr.mc C_7 rfl ?_
  refine Tr.putF (pc := 19) d_X7_init_19 f_7_15 (by decide) (by decide) rfl rfl (show mT C_7 2 = (7, 6) by decide +kernel) ?_
  refine Tr.mc C_8 rfl ?_
  refine Tr.aload_n (pc := 22) (i := 0) d_X7_init_22 rfl rfl ?_
  refine Tr.sipush (pc := 23) d_X7_init_23 rfl (by decide) ?_
  refine Tr.newa_i (pc := 26) (x := 5) (N := 901) d_X7_init_26 aw_int rfl (by decide) (by decide +kernel) ?_
  refine Tr.mc C_9 rfl ?_
  refine Tr.putF (pc := 28) d_X7_init_28 f_7_18 (by decide) (by decide) rfl rfl (show mT C_9 2 = (7, 6) by decide +kernel) ?_
  refine Tr.mc C_10 rfl ?_
  exact Tr.vret (pc := 31) d_X7_init_31 rfl ⟨rfl, rfl⟩
set_option maxRecDepth 100000 in
set_option maxHeartbeats 4000000 in
theorem ct_2 {l : Launch} {K : EC} (hN : e_nst K) : Tr l K 58 mX5_init 0 [(0, (2, 6))] [] C_12 (fun M' r => M' = C_14 ∧ r = none) := by
  refine Tr.aload_n (pc := 0) (i := 0) d_X5_init_0 rfl rfl ?_
  refine Tr.obj (pc := 1) d_X5_init_1 ow_5_3 ow2 ow3 (Nat.le_of_ble_eq_true rfl) (by decide) ?_
  refine Tr.aload_n (pc := 4) (i := 0) d_X5_init_4 rfl rfl ?_
  refine Tr.iconst (pc := 5) d_X5_init_5 (by decide) ?_
  refine Tr.putf (pc := 6) d_X5_init_6 f_5_9 (by decide) (by decide) (show mT C_12 6 = (5, 7) by decide +kernel) ?_
  refine Tr.mc C_13 rfl ?_
  refine Tr.aload_n (pc := 9) (i := 0) d_X5_init_9 rfl rfl ?_
  refine Tr.iconst (pc := 10) d_X5_init_10 (by decide) ?_
  refine Tr.putf (pc := 11) d_X5_init_11 f_5_15 (by decide) (by decide) (show mT C_13 6 = (5, 7) by decide +kernel) ?_
  refine Tr.mc C_14 rfl ?_
  exact Tr.vret (pc := 14) d_X5_init_14 rfl ⟨rfl, rfl⟩
set_option maxRecDepth 100000 in
set_option maxHeartbeats 4000000 in
theorem ct_3 {l : Launch} {K : EC} (hN : e_nst K) : Tr l K 57 mX4_init 0 [(0, (2, 15))] [] C_31 (fun M' r => M' = C_53 ∧ r = none) := by
  refine Tr.aload_n (pc := 0) (i := 0) d_X4_init_0 rfl rfl ?_
  refine Tr.obj (pc := 1) d_X4_init_1 ow_4_3 ow2 ow3 (Nat.le_of_ble_eq_true rfl) (by decide) ?_
  refine Tr.aload_n (pc := 4) (i := 0) d_X4_init_4 rfl rfl ?_
  refine Tr.bipush (pc := 5) d_X4_init_5 rfl (by decide) ?_
  refine Tr.newa_i (pc := 7) (x := 16) (N := 60) d_X4_init_7 aw_int rfl (by decide) (by decide +kernel) ?_
  refine Tr.mc C_32 rfl ?_
  refine Tr.putF (pc := 9) d_X4_init_9 f_4_9 (by decide) (by decide) rfl rfl (show mT C_32 15 = (4, 13) by decide +kernel) ?_
  refine Tr.mc C_33 rfl ?_
  refine Tr.aload_n (pc := 12) (i := 0) d_X4_init_12 rfl rfl ?_
  refine Tr.bipush (pc := 13) d_X4_init_13 rfl (by decide) ?_
  refine Tr.newa_i (pc := 15) (x := 17) (N := 60) d_X4_init_15 aw_int rfl (by decide) (by decide +kernel) ?_
  refine Tr.mc C_34 rfl ?_
  refine Tr.putF (pc := 17) d_X4_init_17 f_4_15 (by decide) (by decide) rfl rfl (show mT C_34 15 = (4, 13) by decide +kernel) ?_
  refine Tr.mc C_35 rfl ?_
  refine Tr.aload_n (pc := 20) (i := 0) d_X4_init_20 rfl rfl ?_
  refine Tr.bipush (pc := 21) d_X4_init_21 rfl (by decide) ?_
  refine Tr.newa_i (pc := 23) (x := 18) (N := 61) d_X4_init_23 aw_int rfl (by decide) (by decide +kernel) ?_
  refine Tr.mc C_36 rfl ?_
  refine Tr.putF (pc := 25) d_X4_init_25 f_4_18 (by decide) (by decide) rfl rfl (show mT C_36 15 = (4, 13) by decide +kernel) ?_
  refine Tr.mc C_37 rfl ?_
  refine Tr.aload_n (pc := 28) (i := 0) d_X4_init_28 rfl rfl ?_
  refine Tr.bipush (pc := 29) d_X4_init_29 rfl (by decide) ?_
  refine Tr.newa_i (pc := 31) (x := 19) (N := 60) d_X4_init_31 aw_int rfl (by decide) (by decide +kernel) ?_
  refine Tr.mc C_38 rfl ?_
  refine Tr.putF (pc := 33) d_X4_init_33 f_4_21 (by decide) (by decide) rfl rfl (show mT C_38 15 = (4, 13) by decide +kernel) ?_
  refine Tr.mc C_39 rfl ?_
  refine Tr.aload_n (pc := 36) (i := 0) d_X4_init_36 rfl rfl ?_
  refine Tr.bipush (pc := 37) d_X4_init_37 rfl (by decide) ?_
  refine Tr.newa_i (pc := 39) (x := 20) (N := 60) d_X4_init_39 aw_int rfl (by decide) (by decide +kernel) ?_
  refine Tr.mc C_40 rfl ?_
  refine Tr.putF (pc := 41) d_X4_init_41 f_4_24 (by decide) (by decide) rfl rfl (show mT C_40 15 = (4, 13) by decide +kernel) ?_
  refine Tr.mc C_41 rfl ?_
  refine Tr.aload_n (pc := 44) (i := 0) d_X4_init_44 rfl rfl ?_
  refine Tr.bipush (pc := 45) d_X4_init_45 rfl (by decide) ?_
  refine Tr.newa_i (pc := 47) (x := 21) (N := 60) d_X4_init_47 aw_int rfl (by decide) (by decide +kernel) ?_
  refine Tr.mc C_42 rfl ?_
  refine Tr.putF (pc := 49) d_X4_init_49 f_4_27 (by decide) (by decide) rfl rfl (show mT C_42 15 = (4, 13) by decide +kernel) ?_
  refine Tr.mc C_43 rfl ?_
  refine Tr.aload_n (pc := 52) (i := 0) d_X4_init_52 rfl rfl ?_
  refine Tr.bipush (pc := 53) d_X4_init_53 rfl (by decide) ?_
  refine Tr.newa_i (pc := 55) (x := 22) (N := 60) d_X4_init_55 aw_int rfl (by decide) (by decide +kernel) ?_
  refine Tr.mc C_44 rfl ?_
  refine Tr.putF (pc := 57) d_X4_init_57 f_4_30 (by decide) (by decide) rfl rfl (show mT C_44 15 = (4, 13) by decide +kernel) ?_
  refine Tr.mc C_45 rfl ?_
  refine Tr.aload_n (pc := 60) (i := 0) d_X4_init_60 rfl rfl ?_
  refine Tr.bipush (pc := 61) d_X4_init_61 rfl (by decide) ?_
  refine Tr.newa_i (pc := 63) (x := 23) (N := 60) d_X4_init_63 aw_int rfl (by decide) (by decide +kernel) ?_
  refine Tr.mc C_46 rfl ?_
  refine Tr.putF (pc := 65) d_X4_init_65 f_4_33 (by decide) (by decide) rfl rfl (show mT C_46 15 = (4, 13) by decide +kernel) ?_
  refine Tr.mc C_47 rfl ?_
  refine Tr.aload_n (pc := 68) (i := 0) d_X4_init_68 rfl rfl ?_
  refine Tr.sipush (pc := 69) d_X4_init_69 rfl (by decide) ?_
  refine Tr.newa_i (pc := 72) (x := 24) (N := 900) d_X4_init_72 aw_int rfl (by decide) (by decide +kernel) ?_
  refine Tr.mc C_48 rfl ?_
  refine Tr.putF (pc := 74) d_X4_init_74 f_4_36 (by decide) (by decide) rfl rfl (show mT C_48 15 = (4, 13) by decide +kernel) ?_
  refine Tr.mc C_49 rfl ?_
  refine Tr.aload_n (pc := 77) (i := 0) d_X4_init_77 rfl rfl ?_
  refine Tr.sipush (pc := 78) d_X4_init_78 rfl (by decide) ?_
  refine Tr.newa_i (pc := 81) (x := 25) (N := 900) d_X4_init_81 aw_int rfl (by decide) (by decide +kernel) ?_
  refine Tr.mc C_50 rfl ?_
  refine Tr.putF (pc := 83) d_X4_init_83 f_4_39 (by decide) (by decide) rfl rfl (show mT C_50 15 = (4, 13) by decide +kernel) ?_
  refine Tr.mc C_51 rfl ?_
  refine Tr.aload_n (pc := 86) (i := 0) d_X4_init_86 rfl rfl ?_
  refine Tr.bipush (pc := 87) d_X4_init_87 rfl (by decide) ?_
  refine Tr.newa_i (pc := 89) (x := 26) (N := 61) d_X4_init_89 aw_int rfl (by decide) (by decide +kernel) ?_
  refine Tr.mc C_52 rfl ?_
  refine Tr.putF (pc := 91) d_X4_init_91 f_4_42 (by decide) (by decide) rfl rfl (show mT C_52 15 = (4, 13) by decide +kernel) ?_
  refine Tr.mc C_53 rfl ?_
  exact Tr.vret (pc := 94) d_X4_init_94 rfl ⟨rfl, rfl⟩
set_option maxRecDepth 100000 in
set_option maxHeartbeats 4000000 in
theorem ct_4 {l : Launch} {K : EC} (hN : e_nst K) : Tr l K 58 mX3_init 0 [(0, (2, 7))] [] C_16 (fun M' r => M' = C_54 ∧ r = none) := by
  refine Tr.aload_n (pc := 0) (i := 0) d_X3_init_0 rfl rfl ?_
  refine Tr.obj (pc := 1) d_X3_init_1 ow_3_3 ow2 ow3 (Nat.le_of_ble_eq_true rfl) (by decide) ?_
  refine Tr.aload_n (pc := 4) (i := 0) d_X3_init_4 rfl rfl ?_
  refine Tr.iconst (pc := 5) d_X3_init_5 (by decide) ?_
  refine Tr.newa_i (pc := 6) (x := 8) (N := 3) d_X3_init_6 aw_int rfl (by decide) (by decide +kernel) ?_
  refine Tr.mc C_17 rfl ?_
  refine Tr.putF (pc := 8) d_X3_init_8 f_3_11 (by decide) (by decide) rfl rfl (show mT C_17 7 = (3, 12) by decide +kernel) ?_
  refine Tr.mc C_18 rfl ?_
  refine Tr.aload_n (pc := 11) (i := 0) d_X3_init_11 rfl rfl ?_
  refine Tr.bipush (pc := 12) d_X3_init_12 rfl (by decide) ?_
  refine Tr.newa_i (pc := 14) (x := 9) (N := 24) d_X3_init_14 aw_int rfl (by decide) (by decide +kernel) ?_
  refine Tr.mc C_19 rfl ?_
  refine Tr.putF (pc := 16) d_X3_init_16 f_3_15 (by decide) (by decide) rfl rfl (show mT C_19 7 = (3, 12) by decide +kernel) ?_
  refine Tr.mc C_20 rfl ?_
  refine Tr.aload_n (pc := 19) (i := 0) d_X3_init_19 rfl rfl ?_
  refine Tr.bipush (pc := 20) d_X3_init_20 rfl (by decide) ?_
  refine Tr.newa_i (pc := 22) (x := 10) (N := 6) d_X3_init_22 aw_int rfl (by decide) (by decide +kernel) ?_
  refine Tr.mc C_21 rfl ?_
  refine Tr.putF (pc := 24) d_X3_init_24 f_3_18 (by decide) (by decide) rfl rfl (show mT C_21 7 = (3, 12) by decide +kernel) ?_
  refine Tr.mc C_22 rfl ?_
  refine Tr.aload_n (pc := 27) (i := 0) d_X3_init_27 rfl rfl ?_
  refine Tr.bipush (pc := 28) d_X3_init_28 rfl (by decide) ?_
  refine Tr.newa_i (pc := 30) (x := 11) (N := 6) d_X3_init_30 aw_int rfl (by decide) (by decide +kernel) ?_
  refine Tr.mc C_23 rfl ?_
  refine Tr.putF (pc := 32) d_X3_init_32 f_3_21 (by decide) (by decide) rfl rfl (show mT C_23 7 = (3, 12) by decide +kernel) ?_
  refine Tr.mc C_24 rfl ?_
  refine Tr.aload_n (pc := 35) (i := 0) d_X3_init_35 rfl rfl ?_
  refine Tr.iconst (pc := 36) d_X3_init_36 (by decide) ?_
  refine Tr.newa_i (pc := 37) (x := 12) (N := 3) d_X3_init_37 aw_int rfl (by decide) (by decide +kernel) ?_
  refine Tr.mc C_25 rfl ?_
  refine Tr.putF (pc := 39) d_X3_init_39 f_3_24 (by decide) (by decide) rfl rfl (show mT C_25 7 = (3, 12) by decide +kernel) ?_
  refine Tr.mc C_26 rfl ?_
  refine Tr.aload_n (pc := 42) (i := 0) d_X3_init_42 rfl rfl ?_
  refine Tr.iconst (pc := 43) d_X3_init_43 (by decide) ?_
  refine Tr.newa_i (pc := 44) (x := 13) (N := 3) d_X3_init_44 aw_int rfl (by decide) (by decide +kernel) ?_
  refine Tr.mc C_27 rfl ?_
  refine Tr.putF (pc := 46) d_X3_init_46 f_3_27 (by decide) (by decide) rfl rfl (show mT C_27 7 = (3, 12) by decide +kernel) ?_
  refine Tr.mc C_28 rfl ?_
  refine Tr.aload_n (pc := 49) (i := 0) d_X3_init_49 rfl rfl ?_
  refine Tr.bipush (pc := 50) d_X3_init_50 rfl (by decide) ?_
  refine Tr.newa_i (pc := 52) (x := 14) (N := 15) d_X3_init_52 aw_int rfl (by decide) (by decide +kernel) ?_
  refine Tr.mc C_29 rfl ?_
  refine Tr.putF (pc := 54) d_X3_init_54 f_3_30 (by decide) (by decide) rfl rfl (show mT C_29 7 = (3, 12) by decide +kernel) ?_
  refine Tr.mc C_30 rfl ?_
  refine Tr.aload_n (pc := 57) (i := 0) d_X3_init_57 rfl rfl ?_
  refine Tr.new (pc := 58) (x := 15) d_X3_init_58 n_3_33 (by decide) (by decide +kernel) ?_
  refine Tr.mc C_31 rfl ?_
  refine Tr.dup (pc := 61) d_X3_init_61 ne21 ?_
  refine Tr.callI (pc := 62) (as := []) d_X3_init_62 (Or.inr ⟨_, s_3_35 hN⟩) ok_X4_init rfl rfl (Nat.le_of_ble_eq_true rfl) (Nat.le_of_ble_eq_true rfl) (by decide) ?_
  refine Tr.imp (ct_3 (l := l) hN) ?_
  rintro _ _ ⟨rfl, rfl⟩
  refine Tr.sc [_, _] rfl ?_
  refine Tr.putF (pc := 65) d_X3_init_65 f_3_36 (by decide) (by decide) rfl rfl (show mT C_53 7 = (3, 12) by decide +kernel) ?_
  refine Tr.mc C_54 rfl ?_
  exact Tr.vret (pc := 68) d_X3_init_68 rfl ⟨rfl, rfl⟩
set_option maxRecDepth 100000 in
set_option maxHeartbeats 4000000 in
theorem ct_5 {l : Launch} {K : EC} (hN : e_nst K) : Tr l K 57 mX4_init 0 [(0, (2, 35))] [] C_71 (fun M' r => M' = C_93 ∧ r = none) := by
  refine Tr.aload_n (pc := 0) (i := 0) d_X4_init_0 rfl rfl ?_
  refine Tr.obj (pc := 1) d_X4_init_1 ow_4_3 ow2 ow3 (Nat.le_of_ble_eq_true rfl) (by decide) ?_
  refine Tr.aload_n (pc := 4) (i := 0) d_X4_init_4 rfl rfl ?_
  refine Tr.bipush (pc := 5) d_X4_init_5 rfl (by decide) ?_
  refine Tr.newa_i (pc := 7) (x := 36) (N := 60) d_X4_init_7 aw_int rfl (by decide) (by decide +kernel) ?_
  refine Tr.mc C_72 rfl ?_
  refine Tr.putF (pc := 9) d_X4_init_9 f_4_9 (by decide) (by decide) rfl rfl (show mT C_72 35 = (4, 13) by decide +kernel) ?_
  refine Tr.mc C_73 rfl ?_
  refine Tr.aload_n (pc := 12) (i := 0) d_X4_init_12 rfl rfl ?_
  refine Tr.bipush (pc := 13) d_X4_init_13 rfl (by decide) ?_
  refine Tr.newa_i (pc := 15) (x := 37) (N := 60) d_X4_init_15 aw_int rfl (by decide) (by decide +kernel) ?_
  refine Tr.mc C_74 rfl ?_
  refine Tr.putF (pc := 17) d_X4_init_17 f_4_15 (by decide) (by decide) rfl rfl (show mT C_74 35 = (4, 13) by decide +kernel) ?_
  refine Tr.mc C_75 rfl ?_
  refine Tr.aload_n (pc := 20) (i := 0) d_X4_init_20 rfl rfl ?_
  refine Tr.bipush (pc := 21) d_X4_init_21 rfl (by decide) ?_
  refine Tr.newa_i (pc := 23) (x := 38) (N := 61) d_X4_init_23 aw_int rfl (by decide) (by decide +kernel) ?_
  refine Tr.mc C_76 rfl ?_
  refine Tr.putF (pc := 25) d_X4_init_25 f_4_18 (by decide) (by decide) rfl rfl (show mT C_76 35 = (4, 13) by decide +kernel) ?_
  refine Tr.mc C_77 rfl ?_
  refine Tr.aload_n (pc := 28) (i := 0) d_X4_init_28 rfl rfl ?_
  refine Tr.bipush (pc := 29) d_X4_init_29 rfl (by decide) ?_
  refine Tr.newa_i (pc := 31) (x := 39) (N := 60) d_X4_init_31 aw_int rfl (by decide) (by decide +kernel) ?_
  refine Tr.mc C_78 rfl ?_
  refine Tr.putF (pc := 33) d_X4_init_33 f_4_21 (by decide) (by decide) rfl rfl (show mT C_78 35 = (4, 13) by decide +kernel) ?_
  refine Tr.mc C_79 rfl ?_
  refine Tr.aload_n (pc := 36) (i := 0) d_X4_init_36 rfl rfl ?_
  refine Tr.bipush (pc := 37) d_X4_init_37 rfl (by decide) ?_
  refine Tr.newa_i (pc := 39) (x := 40) (N := 60) d_X4_init_39 aw_int rfl (by decide) (by decide +kernel) ?_
  refine Tr.mc C_80 rfl ?_
  refine Tr.putF (pc := 41) d_X4_init_41 f_4_24 (by decide) (by decide) rfl rfl (show mT C_80 35 = (4, 13) by decide +kernel) ?_
  refine Tr.mc C_81 rfl ?_
  refine Tr.aload_n (pc := 44) (i := 0) d_X4_init_44 rfl rfl ?_
  refine Tr.bipush (pc := 45) d_X4_init_45 rfl (by decide) ?_
  refine Tr.newa_i (pc := 47) (x := 41) (N := 60) d_X4_init_47 aw_int rfl (by decide) (by decide +kernel) ?_
  refine Tr.mc C_82 rfl ?_
  refine Tr.putF (pc := 49) d_X4_init_49 f_4_27 (by decide) (by decide) rfl rfl (show mT C_82 35 = (4, 13) by decide +kernel) ?_
  refine Tr.mc C_83 rfl ?_
  refine Tr.aload_n (pc := 52) (i := 0) d_X4_init_52 rfl rfl ?_
  refine Tr.bipush (pc := 53) d_X4_init_53 rfl (by decide) ?_
  refine Tr.newa_i (pc := 55) (x := 42) (N := 60) d_X4_init_55 aw_int rfl (by decide) (by decide +kernel) ?_
  refine Tr.mc C_84 rfl ?_
  refine Tr.putF (pc := 57) d_X4_init_57 f_4_30 (by decide) (by decide) rfl rfl (show mT C_84 35 = (4, 13) by decide +kernel) ?_
  refine Tr.mc C_85 rfl ?_
  refine Tr.aload_n (pc := 60) (i := 0) d_X4_init_60 rfl rfl ?_
  refine Tr.bipush (pc := 61) d_X4_init_61 rfl (by decide) ?_
  refine Tr.newa_i (pc := 63) (x := 43) (N := 60) d_X4_init_63 aw_int rfl (by decide) (by decide +kernel) ?_
  refine Tr.mc C_86 rfl ?_
  refine Tr.putF (pc := 65) d_X4_init_65 f_4_33 (by decide) (by decide) rfl rfl (show mT C_86 35 = (4, 13) by decide +kernel) ?_
  refine Tr.mc C_87 rfl ?_
  refine Tr.aload_n (pc := 68) (i := 0) d_X4_init_68 rfl rfl ?_
  refine Tr.sipush (pc := 69) d_X4_init_69 rfl (by decide) ?_
  refine Tr.newa_i (pc := 72) (x := 44) (N := 900) d_X4_init_72 aw_int rfl (by decide) (by decide +kernel) ?_
  refine Tr.mc C_88 rfl ?_
  refine Tr.putF (pc := 74) d_X4_init_74 f_4_36 (by decide) (by decide) rfl rfl (show mT C_88 35 = (4, 13) by decide +kernel) ?_
  refine Tr.mc C_89 rfl ?_
  refine Tr.aload_n (pc := 77) (i := 0) d_X4_init_77 rfl rfl ?_
  refine Tr.sipush (pc := 78) d_X4_init_78 rfl (by decide) ?_
  refine Tr.newa_i (pc := 81) (x := 45) (N := 900) d_X4_init_81 aw_int rfl (by decide) (by decide +kernel) ?_
  refine Tr.mc C_90 rfl ?_
  refine Tr.putF (pc := 83) d_X4_init_83 f_4_39 (by decide) (by decide) rfl rfl (show mT C_90 35 = (4, 13) by decide +kernel) ?_
  refine Tr.mc C_91 rfl ?_
  refine Tr.aload_n (pc := 86) (i := 0) d_X4_init_86 rfl rfl ?_
  refine Tr.bipush (pc := 87) d_X4_init_87 rfl (by decide) ?_
  refine Tr.newa_i (pc := 89) (x := 46) (N := 61) d_X4_init_89 aw_int rfl (by decide) (by decide +kernel) ?_
  refine Tr.mc C_92 rfl ?_
  refine Tr.putF (pc := 91) d_X4_init_91 f_4_42 (by decide) (by decide) rfl rfl (show mT C_92 35 = (4, 13) by decide +kernel) ?_
  refine Tr.mc C_93 rfl ?_
  exact Tr.vret (pc := 94) d_X4_init_94 rfl ⟨rfl, rfl⟩
set_option maxRecDepth 100000 in
set_option maxHeartbeats 4000000 in
theorem ct_6 {l : Launch} {K : EC} (hN : e_nst K) : Tr l K 58 mX3_init 0 [(0, (2, 27))] [] C_56 (fun M' r => M' = C_94 ∧ r = none) := by
  refine Tr.aload_n (pc := 0) (i := 0) d_X3_init_0 rfl rfl ?_
  refine Tr.obj (pc := 1) d_X3_init_1 ow_3_3 ow2 ow3 (Nat.le_of_ble_eq_true rfl) (by decide) ?_
  refine Tr.aload_n (pc := 4) (i := 0) d_X3_init_4 rfl rfl ?_
  refine Tr.iconst (pc := 5) d_X3_init_5 (by decide) ?_
  refine Tr.newa_i (pc := 6) (x := 28) (N := 3) d_X3_init_6 aw_int rfl (by decide) (by decide +kernel) ?_
  refine Tr.mc C_57 rfl ?_
  refine Tr.putF (pc := 8) d_X3_init_8 f_3_11 (by decide) (by decide) rfl rfl (show mT C_57 27 = (3, 12) by decide +kernel) ?_
  refine Tr.mc C_58 rfl ?_
  refine Tr.aload_n (pc := 11) (i := 0) d_X3_init_11 rfl rfl ?_
  refine Tr.bipush (pc := 12) d_X3_init_12 rfl (by decide) ?_
  refine Tr.newa_i (pc := 14) (x := 29) (N := 24) d_X3_init_14 aw_int rfl (by decide) (by decide +kernel) ?_
  refine Tr.mc C_59 rfl ?_
  refine Tr.putF (pc := 16) d_X3_init_16 f_3_15 (by decide) (by decide) rfl rfl (show mT C_59 27 = (3, 12) by decide +kernel) ?_
  refine Tr.mc C_60 rfl ?_
  refine Tr.aload_n (pc := 19) (i := 0) d_X3_init_19 rfl rfl ?_
  refine Tr.bipush (pc := 20) d_X3_init_20 rfl (by decide) ?_
  refine Tr.newa_i (pc := 22) (x := 30) (N := 6) d_X3_init_22 aw_int rfl (by decide) (by decide +kernel) ?_
  refine Tr.mc C_61 rfl ?_
  refine Tr.putF (pc := 24) d_X3_init_24 f_3_18 (by decide) (by decide) rfl rfl (show mT C_61 27 = (3, 12) by decide +kernel) ?_
  refine Tr.mc C_62 rfl ?_
  refine Tr.aload_n (pc := 27) (i := 0) d_X3_init_27 rfl rfl ?_
  refine Tr.bipush (pc := 28) d_X3_init_28 rfl (by decide) ?_
  refine Tr.newa_i (pc := 30) (x := 31) (N := 6) d_X3_init_30 aw_int rfl (by decide) (by decide +kernel) ?_
  refine Tr.mc C_63 rfl ?_
  refine Tr.putF (pc := 32) d_X3_init_32 f_3_21 (by decide) (by decide) rfl rfl (show mT C_63 27 = (3, 12) by decide +kernel) ?_
  refine Tr.mc C_64 rfl ?_
  refine Tr.aload_n (pc := 35) (i := 0) d_X3_init_35 rfl rfl ?_
  refine Tr.iconst (pc := 36) d_X3_init_36 (by decide) ?_
  refine Tr.newa_i (pc := 37) (x := 32) (N := 3) d_X3_init_37 aw_int rfl (by decide) (by decide +kernel) ?_
  refine Tr.mc C_65 rfl ?_
  refine Tr.putF (pc := 39) d_X3_init_39 f_3_24 (by decide) (by decide) rfl rfl (show mT C_65 27 = (3, 12) by decide +kernel) ?_
  refine Tr.mc C_66 rfl ?_
  refine Tr.aload_n (pc := 42) (i := 0) d_X3_init_42 rfl rfl ?_
  refine Tr.iconst (pc := 43) d_X3_init_43 (by decide) ?_
  refine Tr.newa_i (pc := 44) (x := 33) (N := 3) d_X3_init_44 aw_int rfl (by decide) (by decide +kernel) ?_
  refine Tr.mc C_67 rfl ?_
  refine Tr.putF (pc := 46) d_X3_init_46 f_3_27 (by decide) (by decide) rfl rfl (show mT C_67 27 = (3, 12) by decide +kernel) ?_
  refine Tr.mc C_68 rfl ?_
  refine Tr.aload_n (pc := 49) (i := 0) d_X3_init_49 rfl rfl ?_
  refine Tr.bipush (pc := 50) d_X3_init_50 rfl (by decide) ?_
  refine Tr.newa_i (pc := 52) (x := 34) (N := 15) d_X3_init_52 aw_int rfl (by decide) (by decide +kernel) ?_
  refine Tr.mc C_69 rfl ?_
  refine Tr.putF (pc := 54) d_X3_init_54 f_3_30 (by decide) (by decide) rfl rfl (show mT C_69 27 = (3, 12) by decide +kernel) ?_
  refine Tr.mc C_70 rfl ?_
  refine Tr.aload_n (pc := 57) (i := 0) d_X3_init_57 rfl rfl ?_
  refine Tr.new (pc := 58) (x := 35) d_X3_init_58 n_3_33 (by decide) (by decide +kernel) ?_
  refine Tr.mc C_71 rfl ?_
  refine Tr.dup (pc := 61) d_X3_init_61 ne21 ?_
  refine Tr.callI (pc := 62) (as := []) d_X3_init_62 (Or.inr ⟨_, s_3_35 hN⟩) ok_X4_init rfl rfl (Nat.le_of_ble_eq_true rfl) (Nat.le_of_ble_eq_true rfl) (by decide) ?_
  refine Tr.imp (ct_5 (l := l) hN) ?_
  rintro _ _ ⟨rfl, rfl⟩
  refine Tr.sc [_, _] rfl ?_
  refine Tr.putF (pc := 65) d_X3_init_65 f_3_36 (by decide) (by decide) rfl rfl (show mT C_93 27 = (3, 12) by decide +kernel) ?_
  refine Tr.mc C_94 rfl ?_
  exact Tr.vret (pc := 68) d_X3_init_68 rfl ⟨rfl, rfl⟩
set_option maxRecDepth 100000 in
set_option maxHeartbeats 4000000 in
theorem ct_7 {l : Launch} {K : EC} (hN : e_nst K) : Tr l K 56 mX8_init 0 [(0, (2, 63))] [] C_126 (fun M' r => M' = C_146 ∧ r = none) := by
  refine Tr.aload_n (pc := 0) (i := 0) d_X8_init_0 rfl rfl ?_
  refine Tr.obj (pc := 1) d_X8_init_1 ow_8_3 ow2 ow3 (Nat.le_of_ble_eq_true rfl) (by decide) ?_
  refine Tr.aload_n (pc := 4) (i := 0) d_X8_init_4 rfl rfl ?_
  refine Tr.iconst (pc := 5) d_X8_init_5 (by decide) ?_
  refine Tr.newa_i (pc := 6) (x := 64) (N := 0) d_X8_init_6 aw_int rfl (by decide) (by decide +kernel) ?_
  refine Tr.mc C_127 rfl ?_
  refine Tr.putf (pc := 8) d_X8_init_8 f_8_9 (by decide) (by decide) (show mT C_127 63 = (8, 12) by decide +kernel) ?_
  refine Tr.mc C_128 rfl ?_
  refine Tr.aload_n (pc := 11) (i := 0) d_X8_init_11 rfl rfl ?_
  refine Tr.iconst (pc := 12) d_X8_init_12 (by decide) ?_
  refine Tr.newa_i (pc := 13) (x := 65) (N := 0) d_X8_init_13 aw_int rfl (by decide) (by decide +kernel) ?_
  refine Tr.mc C_129 rfl ?_
  refine Tr.putf (pc := 15) d_X8_init_15 f_8_15 (by decide) (by decide) (show mT C_129 63 = (8, 12) by decide +kernel) ?_
  refine Tr.mc C_130 rfl ?_
  refine Tr.aload_n (pc := 18) (i := 0) d_X8_init_18 rfl rfl ?_
  refine Tr.iconst (pc := 19) d_X8_init_19 (by decide) ?_
  refine Tr.newa_i (pc := 20) (x := 66) (N := 0) d_X8_init_20 aw_int rfl (by decide) (by decide +kernel) ?_
  refine Tr.mc C_131 rfl ?_
  refine Tr.putf (pc := 22) d_X8_init_22 f_8_18 (by decide) (by decide) (show mT C_131 63 = (8, 12) by decide +kernel) ?_
  refine Tr.mc C_132 rfl ?_
  refine Tr.aload_n (pc := 25) (i := 0) d_X8_init_25 rfl rfl ?_
  refine Tr.iconst (pc := 26) d_X8_init_26 (by decide) ?_
  refine Tr.newa_i (pc := 27) (x := 67) (N := 0) d_X8_init_27 aw_int rfl (by decide) (by decide +kernel) ?_
  refine Tr.mc C_133 rfl ?_
  refine Tr.putf (pc := 29) d_X8_init_29 f_8_21 (by decide) (by decide) (show mT C_133 63 = (8, 12) by decide +kernel) ?_
  refine Tr.mc C_134 rfl ?_
  refine Tr.aload_n (pc := 32) (i := 0) d_X8_init_32 rfl rfl ?_
  refine Tr.iconst (pc := 33) d_X8_init_33 (by decide) ?_
  refine Tr.newa_l (pc := 34) (x := 68) (N := 0) d_X8_init_34 aw_long rfl (by decide) (by decide +kernel) ?_
  refine Tr.mc C_135 rfl ?_
  refine Tr.putf (pc := 36) d_X8_init_36 f_8_24 (by decide) (by decide) (show mT C_135 63 = (8, 12) by decide +kernel) ?_
  refine Tr.mc C_136 rfl ?_
  refine Tr.aload_n (pc := 39) (i := 0) d_X8_init_39 rfl rfl ?_
  refine Tr.bipush (pc := 40) d_X8_init_40 rfl (by decide) ?_
  refine Tr.newa_i (pc := 42) (x := 69) (N := 6) d_X8_init_42 aw_int rfl (by decide) (by decide +kernel) ?_
  refine Tr.mc C_137 rfl ?_
  refine Tr.putF (pc := 44) d_X8_init_44 f_8_28 (by decide) (by decide) rfl rfl (show mT C_137 63 = (8, 12) by decide +kernel) ?_
  refine Tr.mc C_138 rfl ?_
  refine Tr.aload_n (pc := 47) (i := 0) d_X8_init_47 rfl rfl ?_
  refine Tr.iconst (pc := 48) d_X8_init_48 (by decide) ?_
  refine Tr.newa_i (pc := 49) (x := 70) (N := 0) d_X8_init_49 aw_int rfl (by decide) (by decide +kernel) ?_
  refine Tr.mc C_139 rfl ?_
  refine Tr.putf (pc := 51) d_X8_init_51 f_8_31 (by decide) (by decide) (show mT C_139 63 = (8, 12) by decide +kernel) ?_
  refine Tr.mc C_140 rfl ?_
  refine Tr.aload_n (pc := 54) (i := 0) d_X8_init_54 rfl rfl ?_
  refine Tr.iconst (pc := 55) d_X8_init_55 (by decide) ?_
  refine Tr.newa_i (pc := 56) (x := 71) (N := 0) d_X8_init_56 aw_int rfl (by decide) (by decide +kernel) ?_
  refine Tr.mc C_141 rfl ?_
  refine Tr.putf (pc := 58) d_X8_init_58 f_8_34 (by decide) (by decide) (show mT C_141 63 = (8, 12) by decide +kernel) ?_
  refine Tr.mc C_142 rfl ?_
  refine Tr.aload_n (pc := 61) (i := 0) d_X8_init_61 rfl rfl ?_
  refine Tr.iconst (pc := 62) d_X8_init_62 (by decide) ?_
  refine Tr.newa_i (pc := 63) (x := 72) (N := 0) d_X8_init_63 aw_int rfl (by decide) (by decide +kernel) ?_
  refine Tr.mc C_143 rfl ?_
  refine Tr.putf (pc := 65) d_X8_init_65 f_8_37 (by decide) (by decide) (show mT C_143 63 = (8, 12) by decide +kernel) ?_
  refine Tr.mc C_144 rfl ?_
  refine Tr.aload_n (pc := 68) (i := 0) d_X8_init_68 rfl rfl ?_
  refine Tr.iconst (pc := 69) d_X8_init_69 (by decide) ?_
  refine Tr.newa_i (pc := 70) (x := 73) (N := 0) d_X8_init_70 aw_int rfl (by decide) (by decide +kernel) ?_
  refine Tr.mc C_145 rfl ?_
  refine Tr.putf (pc := 72) d_X8_init_72 f_8_40 (by decide) (by decide) (show mT C_145 63 = (8, 12) by decide +kernel) ?_
  refine Tr.mc C_146 rfl ?_
  exact Tr.vret (pc := 75) d_X8_init_75 rfl ⟨rfl, rfl⟩
set_option maxRecDepth 100000 in
set_option maxHeartbeats 4000000 in
theorem ct_8 {l : Launch} {K : EC} (hN : e_nst K) : Tr l K 57 mX1_init 0 [(0, (2, 56)), (1, (0, 1))] [] C_113 (fun M' r => M' = C_148 ∧ r = none) := by
  refine Tr.aload_n (pc := 0) (i := 0) d_X1_init_0 rfl rfl ?_
  refine Tr.obj (pc := 1) d_X1_init_1 ow_1_3 ow2 ow3 (Nat.le_of_ble_eq_true rfl) (by decide) ?_
  refine Tr.aload_n (pc := 4) (i := 0) d_X1_init_4 rfl rfl ?_
  refine Tr.bipush (pc := 5) d_X1_init_5 rfl (by decide) ?_
  refine Tr.newa_i (pc := 7) (x := 57) (N := 24) d_X1_init_7 aw_int rfl (by decide) (by decide +kernel) ?_
  refine Tr.mc C_114 rfl ?_
  refine Tr.putF (pc := 9) d_X1_init_9 f_1_9 (by decide) (by decide) rfl rfl (show mT C_114 56 = (1, 9) by decide +kernel) ?_
  refine Tr.mc C_115 rfl ?_
  refine Tr.aload_n (pc := 12) (i := 0) d_X1_init_12 rfl rfl ?_
  refine Tr.bipush (pc := 13) d_X1_init_13 rfl (by decide) ?_
  refine Tr.newa_i (pc := 15) (x := 58) (N := 6) d_X1_init_15 aw_int rfl (by decide) (by decide +kernel) ?_
  refine Tr.mc C_116 rfl ?_
  refine Tr.putF (pc := 17) d_X1_init_17 f_1_15 (by decide) (by decide) rfl rfl (show mT C_116 56 = (1, 9) by decide +kernel) ?_
  refine Tr.mc C_117 rfl ?_
  refine Tr.aload_n (pc := 20) (i := 0) d_X1_init_20 rfl rfl ?_
  refine Tr.bipush (pc := 21) d_X1_init_21 rfl (by decide) ?_
  refine Tr.newa_i (pc := 23) (x := 59) (N := 6) d_X1_init_23 aw_int rfl (by decide) (by decide +kernel) ?_
  refine Tr.mc C_118 rfl ?_
  refine Tr.putF (pc := 25) d_X1_init_25 f_1_18 (by decide) (by decide) rfl rfl (show mT C_118 56 = (1, 9) by decide +kernel) ?_
  refine Tr.mc C_119 rfl ?_
  refine Tr.aload_n (pc := 28) (i := 0) d_X1_init_28 rfl rfl ?_
  refine Tr.bipush (pc := 29) d_X1_init_29 rfl (by decide) ?_
  refine Tr.newa_i (pc := 31) (x := 60) (N := 60) d_X1_init_31 aw_int rfl (by decide) (by decide +kernel) ?_
  refine Tr.mc C_120 rfl ?_
  refine Tr.putF (pc := 33) d_X1_init_33 f_1_21 (by decide) (by decide) rfl rfl (show mT C_120 56 = (1, 9) by decide +kernel) ?_
  refine Tr.mc C_121 rfl ?_
  refine Tr.aload_n (pc := 36) (i := 0) d_X1_init_36 rfl rfl ?_
  refine Tr.bipush (pc := 37) d_X1_init_37 rfl (by decide) ?_
  refine Tr.newa_i (pc := 39) (x := 61) (N := 60) d_X1_init_39 aw_int rfl (by decide) (by decide +kernel) ?_
  refine Tr.mc C_122 rfl ?_
  refine Tr.putF (pc := 41) d_X1_init_41 f_1_24 (by decide) (by decide) rfl rfl (show mT C_122 56 = (1, 9) by decide +kernel) ?_
  refine Tr.mc C_123 rfl ?_
  refine Tr.aload_n (pc := 44) (i := 0) d_X1_init_44 rfl rfl ?_
  refine Tr.bipush (pc := 45) d_X1_init_45 rfl (by decide) ?_
  refine Tr.newa_i (pc := 47) (x := 62) (N := 60) d_X1_init_47 aw_int rfl (by decide) (by decide +kernel) ?_
  refine Tr.mc C_124 rfl ?_
  refine Tr.putF (pc := 49) d_X1_init_49 f_1_27 (by decide) (by decide) rfl rfl (show mT C_124 56 = (1, 9) by decide +kernel) ?_
  refine Tr.mc C_125 rfl ?_
  refine Tr.aload_n (pc := 52) (i := 0) d_X1_init_52 rfl rfl ?_
  refine Tr.new (pc := 53) (x := 63) d_X1_init_53 n_1_30 (by decide) (by decide +kernel) ?_
  refine Tr.mc C_126 rfl ?_
  refine Tr.dup (pc := 56) d_X1_init_56 ne21 ?_
  refine Tr.callI (pc := 57) (as := []) d_X1_init_57 (Or.inr ⟨_, s_1_32 hN⟩) ok_X8_init rfl rfl (Nat.le_of_ble_eq_true rfl) (Nat.le_of_ble_eq_true rfl) (by decide) ?_
  refine Tr.imp (ct_7 (l := l) hN) ?_
  rintro _ _ ⟨rfl, rfl⟩
  refine Tr.sc [_, _] rfl ?_
  refine Tr.putF (pc := 60) d_X1_init_60 f_1_33 (by decide) (by decide) rfl rfl (show mT C_146 56 = (1, 9) by decide +kernel) ?_
  refine Tr.mc C_147 rfl ?_
  refine Tr.aload_n (pc := 63) (i := 0) d_X1_init_63 rfl rfl ?_
  refine Tr.iload_n (pc := 64) (i := 1) d_X1_init_64 rfl rfl ?_
  refine Tr.putFz (pc := 65) d_X1_init_65 f_1_37 (by decide) rfl rfl (show mT C_147 56 = (1, 9) by decide +kernel) (by decide) ?_
  refine Tr.mc C_148 rfl ?_
  exact Tr.vret (pc := 68) d_X1_init_68 rfl ⟨rfl, rfl⟩
set_option maxRecDepth 100000 in
set_option maxHeartbeats 4000000 in
theorem ct_9 {l : Launch} {K : EC} (hN : e_nst K) : Tr l K 58 mX6_init 0 [(0, (2, 48)), (1, (0, 1))] [] C_98 (fun M' r => M' = C_149 ∧ r = none) := by
  refine Tr.aload_n (pc := 0) (i := 0) d_X6_init_0 rfl rfl ?_
  refine Tr.obj (pc := 1) d_X6_init_1 ow_6_3 ow2 ow3 (Nat.le_of_ble_eq_true rfl) (by decide) ?_
  refine Tr.aload_n (pc := 4) (i := 0) d_X6_init_4 rfl rfl ?_
  refine Tr.iconst (pc := 5) d_X6_init_5 (by decide) ?_
  refine Tr.newa_i (pc := 6) (x := 49) (N := 3) d_X6_init_6 aw_int rfl (by decide) (by decide +kernel) ?_
  refine Tr.mc C_99 rfl ?_
  refine Tr.putF (pc := 8) d_X6_init_8 f_6_9 (by decide) (by decide) rfl rfl (show mT C_99 48 = (6, 18) by decide +kernel) ?_
  refine Tr.mc C_100 rfl ?_
  refine Tr.aload_n (pc := 11) (i := 0) d_X6_init_11 rfl rfl ?_
  refine Tr.bipush (pc := 12) d_X6_init_12 rfl (by decide) ?_
  refine Tr.newa_i (pc := 14) (x := 50) (N := 6) d_X6_init_14 aw_int rfl (by decide) (by decide +kernel) ?_
  refine Tr.mc C_101 rfl ?_
  refine Tr.putF (pc := 16) d_X6_init_16 f_6_15 (by decide) (by decide) rfl rfl (show mT C_101 48 = (6, 18) by decide +kernel) ?_
  refine Tr.mc C_102 rfl ?_
  refine Tr.aload_n (pc := 19) (i := 0) d_X6_init_19 rfl rfl ?_
  refine Tr.bipush (pc := 20) d_X6_init_20 rfl (by decide) ?_
  refine Tr.newa_i (pc := 22) (x := 51) (N := 64) d_X6_init_22 aw_int rfl (by decide) (by decide +kernel) ?_
  refine Tr.mc C_103 rfl ?_
  refine Tr.putF (pc := 24) d_X6_init_24 f_6_18 (by decide) (by decide) rfl rfl (show mT C_103 48 = (6, 18) by decide +kernel) ?_
  refine Tr.mc C_104 rfl ?_
  refine Tr.aload_n (pc := 27) (i := 0) d_X6_init_27 rfl rfl ?_
  refine Tr.bipush (pc := 28) d_X6_init_28 rfl (by decide) ?_
  refine Tr.newa_i (pc := 30) (x := 52) (N := 8) d_X6_init_30 aw_int rfl (by decide) (by decide +kernel) ?_
  refine Tr.mc C_105 rfl ?_
  refine Tr.putF (pc := 32) d_X6_init_32 f_6_21 (by decide) (by decide) rfl rfl (show mT C_105 48 = (6, 18) by decide +kernel) ?_
  refine Tr.mc C_106 rfl ?_
  refine Tr.aload_n (pc := 35) (i := 0) d_X6_init_35 rfl rfl ?_
  refine Tr.bipush (pc := 36) d_X6_init_36 rfl (by decide) ?_
  refine Tr.newa_i (pc := 38) (x := 53) (N := 6) d_X6_init_38 aw_int rfl (by decide) (by decide +kernel) ?_
  refine Tr.mc C_107 rfl ?_
  refine Tr.putF (pc := 40) d_X6_init_40 f_6_24 (by decide) (by decide) rfl rfl (show mT C_107 48 = (6, 18) by decide +kernel) ?_
  refine Tr.mc C_108 rfl ?_
  refine Tr.aload_n (pc := 43) (i := 0) d_X6_init_43 rfl rfl ?_
  refine Tr.bipush (pc := 44) d_X6_init_44 rfl (by decide) ?_
  refine Tr.newa_i (pc := 46) (x := 54) (N := 6) d_X6_init_46 aw_int rfl (by decide) (by decide +kernel) ?_
  refine Tr.mc C_109 rfl ?_
  refine Tr.putF (pc := 48) d_X6_init_48 f_6_27 (by decide) (by decide) rfl rfl (show mT C_109 48 = (6, 18) by decide +kernel) ?_
  refine Tr.mc C_110 rfl ?_
  refine Tr.aload_n (pc := 51) (i := 0) d_X6_init_51 rfl rfl ?_
  refine Tr.bipush (pc := 52) d_X6_init_52 rfl (by decide) ?_
  refine Tr.newa_i (pc := 54) (x := 55) (N := 6) d_X6_init_54 aw_int rfl (by decide) (by decide +kernel) ?_
  refine Tr.mc C_111 rfl ?_
  refine Tr.putF (pc := 56) d_X6_init_56 f_6_30 (by decide) (by decide) rfl rfl (show mT C_111 48 = (6, 18) by decide +kernel) ?_
  refine Tr.mc C_112 rfl ?_
  refine Tr.aload_n (pc := 59) (i := 0) d_X6_init_59 rfl rfl ?_
  refine Tr.new (pc := 60) (x := 56) d_X6_init_60 n_6_33 (by decide) (by decide +kernel) ?_
  refine Tr.mc C_113 rfl ?_
  refine Tr.dup (pc := 63) d_X6_init_63 ne21 ?_
  refine Tr.iload_n (pc := 64) (i := 1) d_X6_init_64 rfl rfl ?_
  refine Tr.callI (pc := 65) (as := [_]) d_X6_init_65 (Or.inl s_6_35) ok_X1_init rfl rfl (Nat.le_of_ble_eq_true rfl) (Nat.le_of_ble_eq_true rfl) (by decide) ?_
  refine Tr.imp (ct_8 (l := l) hN) ?_
  rintro _ _ ⟨rfl, rfl⟩
  refine Tr.sc [_, _] rfl ?_
  refine Tr.putF (pc := 68) d_X6_init_68 f_6_38 (by decide) (by decide) rfl rfl (show mT C_148 48 = (6, 18) by decide +kernel) ?_
  refine Tr.mc C_149 rfl ?_
  exact Tr.vret (pc := 71) d_X6_init_71 rfl ⟨rfl, rfl⟩
set_option maxRecDepth 100000 in
set_option maxHeartbeats 4000000 in
theorem ct_10 {l : Launch} {K : EC} (hN : e_nst K) : Tr l K 56 mX8_init 0 [(0, (2, 89))] [] C_179 (fun M' r => M' = C_199 ∧ r = none) := by
  refine Tr.aload_n (pc := 0) (i := 0) d_X8_init_0 rfl rfl ?_
  refine Tr.obj (pc := 1) d_X8_init_1 ow_8_3 ow2 ow3 (Nat.le_of_ble_eq_true rfl) (by decide) ?_
  refine Tr.aload_n (pc := 4) (i := 0) d_X8_init_4 rfl rfl ?_
  refine Tr.iconst (pc := 5) d_X8_init_5 (by decide) ?_
  refine Tr.newa_i (pc := 6) (x := 90) (N := 0) d_X8_init_6 aw_int rfl (by decide) (by decide +kernel) ?_
  refine Tr.mc C_180 rfl ?_
  refine Tr.putf (pc := 8) d_X8_init_8 f_8_9 (by decide) (by decide) (show mT C_180 89 = (8, 12) by decide +kernel) ?_
  refine Tr.mc C_181 rfl ?_
  refine Tr.aload_n (pc := 11) (i := 0) d_X8_init_11 rfl rfl ?_
  refine Tr.iconst (pc := 12) d_X8_init_12 (by decide) ?_
  refine Tr.newa_i (pc := 13) (x := 91) (N := 0) d_X8_init_13 aw_int rfl (by decide) (by decide +kernel) ?_
  refine Tr.mc C_182 rfl ?_
  refine Tr.putf (pc := 15) d_X8_init_15 f_8_15 (by decide) (by decide) (show mT C_182 89 = (8, 12) by decide +kernel) ?_
  refine Tr.mc C_183 rfl ?_
  refine Tr.aload_n (pc := 18) (i := 0) d_X8_init_18 rfl rfl ?_
  refine Tr.iconst (pc := 19) d_X8_init_19 (by decide) ?_
  refine Tr.newa_i (pc := 20) (x := 92) (N := 0) d_X8_init_20 aw_int rfl (by decide) (by decide +kernel) ?_
  refine Tr.mc C_184 rfl ?_
  refine Tr.putf (pc := 22) d_X8_init_22 f_8_18 (by decide) (by decide) (show mT C_184 89 = (8, 12) by decide +kernel) ?_
  refine Tr.mc C_185 rfl ?_
  refine Tr.aload_n (pc := 25) (i := 0) d_X8_init_25 rfl rfl ?_
  refine Tr.iconst (pc := 26) d_X8_init_26 (by decide) ?_
  refine Tr.newa_i (pc := 27) (x := 93) (N := 0) d_X8_init_27 aw_int rfl (by decide) (by decide +kernel) ?_
  refine Tr.mc C_186 rfl ?_
  refine Tr.putf (pc := 29) d_X8_init_29 f_8_21 (by decide) (by decide) (show mT C_186 89 = (8, 12) by decide +kernel) ?_
  refine Tr.mc C_187 rfl ?_
  refine Tr.aload_n (pc := 32) (i := 0) d_X8_init_32 rfl rfl ?_
  refine Tr.iconst (pc := 33) d_X8_init_33 (by decide) ?_
  refine Tr.newa_l (pc := 34) (x := 94) (N := 0) d_X8_init_34 aw_long rfl (by decide) (by decide +kernel) ?_
  refine Tr.mc C_188 rfl ?_
  refine Tr.putf (pc := 36) d_X8_init_36 f_8_24 (by decide) (by decide) (show mT C_188 89 = (8, 12) by decide +kernel) ?_
  refine Tr.mc C_189 rfl ?_
  refine Tr.aload_n (pc := 39) (i := 0) d_X8_init_39 rfl rfl ?_
  refine Tr.bipush (pc := 40) d_X8_init_40 rfl (by decide) ?_
  refine Tr.newa_i (pc := 42) (x := 95) (N := 6) d_X8_init_42 aw_int rfl (by decide) (by decide +kernel) ?_
  refine Tr.mc C_190 rfl ?_
  refine Tr.putF (pc := 44) d_X8_init_44 f_8_28 (by decide) (by decide) rfl rfl (show mT C_190 89 = (8, 12) by decide +kernel) ?_
  refine Tr.mc C_191 rfl ?_
  refine Tr.aload_n (pc := 47) (i := 0) d_X8_init_47 rfl rfl ?_
  refine Tr.iconst (pc := 48) d_X8_init_48 (by decide) ?_
  refine Tr.newa_i (pc := 49) (x := 96) (N := 0) d_X8_init_49 aw_int rfl (by decide) (by decide +kernel) ?_
  refine Tr.mc C_192 rfl ?_
  refine Tr.putf (pc := 51) d_X8_init_51 f_8_31 (by decide) (by decide) (show mT C_192 89 = (8, 12) by decide +kernel) ?_
  refine Tr.mc C_193 rfl ?_
  refine Tr.aload_n (pc := 54) (i := 0) d_X8_init_54 rfl rfl ?_
  refine Tr.iconst (pc := 55) d_X8_init_55 (by decide) ?_
  refine Tr.newa_i (pc := 56) (x := 97) (N := 0) d_X8_init_56 aw_int rfl (by decide) (by decide +kernel) ?_
  refine Tr.mc C_194 rfl ?_
  refine Tr.putf (pc := 58) d_X8_init_58 f_8_34 (by decide) (by decide) (show mT C_194 89 = (8, 12) by decide +kernel) ?_
  refine Tr.mc C_195 rfl ?_
  refine Tr.aload_n (pc := 61) (i := 0) d_X8_init_61 rfl rfl ?_
  refine Tr.iconst (pc := 62) d_X8_init_62 (by decide) ?_
  refine Tr.newa_i (pc := 63) (x := 98) (N := 0) d_X8_init_63 aw_int rfl (by decide) (by decide +kernel) ?_
  refine Tr.mc C_196 rfl ?_
  refine Tr.putf (pc := 65) d_X8_init_65 f_8_37 (by decide) (by decide) (show mT C_196 89 = (8, 12) by decide +kernel) ?_
  refine Tr.mc C_197 rfl ?_
  refine Tr.aload_n (pc := 68) (i := 0) d_X8_init_68 rfl rfl ?_
  refine Tr.iconst (pc := 69) d_X8_init_69 (by decide) ?_
  refine Tr.newa_i (pc := 70) (x := 99) (N := 0) d_X8_init_70 aw_int rfl (by decide) (by decide +kernel) ?_
  refine Tr.mc C_198 rfl ?_
  refine Tr.putf (pc := 72) d_X8_init_72 f_8_40 (by decide) (by decide) (show mT C_198 89 = (8, 12) by decide +kernel) ?_
  refine Tr.mc C_199 rfl ?_
  exact Tr.vret (pc := 75) d_X8_init_75 rfl ⟨rfl, rfl⟩
set_option maxRecDepth 100000 in
set_option maxHeartbeats 4000000 in
theorem ct_11 {l : Launch} {K : EC} (hN : e_nst K) : Tr l K 57 mX1_init 0 [(0, (2, 82)), (1, (0, 0))] [] C_166 (fun M' r => M' = C_201 ∧ r = none) := by
  refine Tr.aload_n (pc := 0) (i := 0) d_X1_init_0 rfl rfl ?_
  refine Tr.obj (pc := 1) d_X1_init_1 ow_1_3 ow2 ow3 (Nat.le_of_ble_eq_true rfl) (by decide) ?_
  refine Tr.aload_n (pc := 4) (i := 0) d_X1_init_4 rfl rfl ?_
  refine Tr.bipush (pc := 5) d_X1_init_5 rfl (by decide) ?_
  refine Tr.newa_i (pc := 7) (x := 83) (N := 24) d_X1_init_7 aw_int rfl (by decide) (by decide +kernel) ?_
  refine Tr.mc C_167 rfl ?_
  refine Tr.putF (pc := 9) d_X1_init_9 f_1_9 (by decide) (by decide) rfl rfl (show mT C_167 82 = (1, 9) by decide +kernel) ?_
  refine Tr.mc C_168 rfl ?_
  refine Tr.aload_n (pc := 12) (i := 0) d_X1_init_12 rfl rfl ?_
  refine Tr.bipush (pc := 13) d_X1_init_13 rfl (by decide) ?_
  refine Tr.newa_i (pc := 15) (x := 84) (N := 6) d_X1_init_15 aw_int rfl (by decide) (by decide +kernel) ?_
  refine Tr.mc C_169 rfl ?_
  refine Tr.putF (pc := 17) d_X1_init_17 f_1_15 (by decide) (by decide) rfl rfl (show mT C_169 82 = (1, 9) by decide +kernel) ?_
  refine Tr.mc C_170 rfl ?_
  refine Tr.aload_n (pc := 20) (i := 0) d_X1_init_20 rfl rfl ?_
  refine Tr.bipush (pc := 21) d_X1_init_21 rfl (by decide) ?_
  refine Tr.newa_i (pc := 23) (x := 85) (N := 6) d_X1_init_23 aw_int rfl (by decide) (by decide +kernel) ?_
  refine Tr.mc C_171 rfl ?_
  refine Tr.putF (pc := 25) d_X1_init_25 f_1_18 (by decide) (by decide) rfl rfl (show mT C_171 82 = (1, 9) by decide +kernel) ?_
  refine Tr.mc C_172 rfl ?_
  refine Tr.aload_n (pc := 28) (i := 0) d_X1_init_28 rfl rfl ?_
  refine Tr.bipush (pc := 29) d_X1_init_29 rfl (by decide) ?_
  refine Tr.newa_i (pc := 31) (x := 86) (N := 60) d_X1_init_31 aw_int rfl (by decide) (by decide +kernel) ?_
  refine Tr.mc C_173 rfl ?_
  refine Tr.putF (pc := 33) d_X1_init_33 f_1_21 (by decide) (by decide) rfl rfl (show mT C_173 82 = (1, 9) by decide +kernel) ?_
  refine Tr.mc C_174 rfl ?_
  refine Tr.aload_n (pc := 36) (i := 0) d_X1_init_36 rfl rfl ?_
  refine Tr.bipush (pc := 37) d_X1_init_37 rfl (by decide) ?_
  refine Tr.newa_i (pc := 39) (x := 87) (N := 60) d_X1_init_39 aw_int rfl (by decide) (by decide +kernel) ?_
  refine Tr.mc C_175 rfl ?_
  refine Tr.putF (pc := 41) d_X1_init_41 f_1_24 (by decide) (by decide) rfl rfl (show mT C_175 82 = (1, 9) by decide +kernel) ?_
  refine Tr.mc C_176 rfl ?_
  refine Tr.aload_n (pc := 44) (i := 0) d_X1_init_44 rfl rfl ?_
  refine Tr.bipush (pc := 45) d_X1_init_45 rfl (by decide) ?_
  refine Tr.newa_i (pc := 47) (x := 88) (N := 60) d_X1_init_47 aw_int rfl (by decide) (by decide +kernel) ?_
  refine Tr.mc C_177 rfl ?_
  refine Tr.putF (pc := 49) d_X1_init_49 f_1_27 (by decide) (by decide) rfl rfl (show mT C_177 82 = (1, 9) by decide +kernel) ?_
  refine Tr.mc C_178 rfl ?_
  refine Tr.aload_n (pc := 52) (i := 0) d_X1_init_52 rfl rfl ?_
  refine Tr.new (pc := 53) (x := 89) d_X1_init_53 n_1_30 (by decide) (by decide +kernel) ?_
  refine Tr.mc C_179 rfl ?_
  refine Tr.dup (pc := 56) d_X1_init_56 ne21 ?_
  refine Tr.callI (pc := 57) (as := []) d_X1_init_57 (Or.inr ⟨_, s_1_32 hN⟩) ok_X8_init rfl rfl (Nat.le_of_ble_eq_true rfl) (Nat.le_of_ble_eq_true rfl) (by decide) ?_
  refine Tr.imp (ct_10 (l := l) hN) ?_
  rintro _ _ ⟨rfl, rfl⟩
  refine Tr.sc [_, _] rfl ?_
  refine Tr.putF (pc := 60) d_X1_init_60 f_1_33 (by decide) (by decide) rfl rfl (show mT C_199 82 = (1, 9) by decide +kernel) ?_
  refine Tr.mc C_200 rfl ?_
  refine Tr.aload_n (pc := 63) (i := 0) d_X1_init_63 rfl rfl ?_
  refine Tr.iload_n (pc := 64) (i := 1) d_X1_init_64 rfl rfl ?_
  refine Tr.putFz (pc := 65) d_X1_init_65 f_1_37 (by decide) rfl rfl (show mT C_200 82 = (1, 9) by decide +kernel) (by decide) ?_
  refine Tr.mc C_201 rfl ?_
  exact Tr.vret (pc := 68) d_X1_init_68 rfl ⟨rfl, rfl⟩
set_option maxRecDepth 100000 in
set_option maxHeartbeats 4000000 in
theorem ct_12 {l : Launch} {K : EC} (hN : e_nst K) : Tr l K 58 mX6_init 0 [(0, (2, 74)), (1, (0, 0))] [] C_151 (fun M' r => M' = C_202 ∧ r = none) := by
  refine Tr.aload_n (pc := 0) (i := 0) d_X6_init_0 rfl rfl ?_
  refine Tr.obj (pc := 1) d_X6_init_1 ow_6_3 ow2 ow3 (Nat.le_of_ble_eq_true rfl) (by decide) ?_
  refine Tr.aload_n (pc := 4) (i := 0) d_X6_init_4 rfl rfl ?_
  refine Tr.iconst (pc := 5) d_X6_init_5 (by decide) ?_
  refine Tr.newa_i (pc := 6) (x := 75) (N := 3) d_X6_init_6 aw_int rfl (by decide) (by decide +kernel) ?_
  refine Tr.mc C_152 rfl ?_
  refine Tr.putF (pc := 8) d_X6_init_8 f_6_9 (by decide) (by decide) rfl rfl (show mT C_152 74 = (6, 18) by decide +kernel) ?_
  refine Tr.mc C_153 rfl ?_
  refine Tr.aload_n (pc := 11) (i := 0) d_X6_init_11 rfl rfl ?_
  refine Tr.bipush (pc := 12) d_X6_init_12 rfl (by decide) ?_
  refine Tr.newa_i (pc := 14) (x := 76) (N := 6) d_X6_init_14 aw_int rfl (by decide) (by decide +kernel) ?_
  refine Tr.mc C_154 rfl ?_
  refine Tr.putF (pc := 16) d_X6_init_16 f_6_15 (by decide) (by decide) rfl rfl (show mT C_154 74 = (6, 18) by decide +kernel) ?_
  refine Tr.mc C_155 rfl ?_
  refine Tr.aload_n (pc := 19) (i := 0) d_X6_init_19 rfl rfl ?_
  refine Tr.bipush (pc := 20) d_X6_init_20 rfl (by decide) ?_
  refine Tr.newa_i (pc := 22) (x := 77) (N := 64) d_X6_init_22 aw_int rfl (by decide) (by decide +kernel) ?_
  refine Tr.mc C_156 rfl ?_
  refine Tr.putF (pc := 24) d_X6_init_24 f_6_18 (by decide) (by decide) rfl rfl (show mT C_156 74 = (6, 18) by decide +kernel) ?_
  refine Tr.mc C_157 rfl ?_
  refine Tr.aload_n (pc := 27) (i := 0) d_X6_init_27 rfl rfl ?_
  refine Tr.bipush (pc := 28) d_X6_init_28 rfl (by decide) ?_
  refine Tr.newa_i (pc := 30) (x := 78) (N := 8) d_X6_init_30 aw_int rfl (by decide) (by decide +kernel) ?_
  refine Tr.mc C_158 rfl ?_
  refine Tr.putF (pc := 32) d_X6_init_32 f_6_21 (by decide) (by decide) rfl rfl (show mT C_158 74 = (6, 18) by decide +kernel) ?_
  refine Tr.mc C_159 rfl ?_
  refine Tr.aload_n (pc := 35) (i := 0) d_X6_init_35 rfl rfl ?_
  refine Tr.bipush (pc := 36) d_X6_init_36 rfl (by decide) ?_
  refine Tr.newa_i (pc := 38) (x := 79) (N := 6) d_X6_init_38 aw_int rfl (by decide) (by decide +kernel) ?_
  refine Tr.mc C_160 rfl ?_
  refine Tr.putF (pc := 40) d_X6_init_40 f_6_24 (by decide) (by decide) rfl rfl (show mT C_160 74 = (6, 18) by decide +kernel) ?_
  refine Tr.mc C_161 rfl ?_
  refine Tr.aload_n (pc := 43) (i := 0) d_X6_init_43 rfl rfl ?_
  refine Tr.bipush (pc := 44) d_X6_init_44 rfl (by decide) ?_
  refine Tr.newa_i (pc := 46) (x := 80) (N := 6) d_X6_init_46 aw_int rfl (by decide) (by decide +kernel) ?_
  refine Tr.mc C_162 rfl ?_
  refine Tr.putF (pc := 48) d_X6_init_48 f_6_27 (by decide) (by decide) rfl rfl (show mT C_162 74 = (6, 18) by decide +kernel) ?_
  refine Tr.mc C_163 rfl ?_
  refine Tr.aload_n (pc := 51) (i := 0) d_X6_init_51 rfl rfl ?_
  refine Tr.bipush (pc := 52) d_X6_init_52 rfl (by decide) ?_
  refine Tr.newa_i (pc := 54) (x := 81) (N := 6) d_X6_init_54 aw_int rfl (by decide) (by decide +kernel) ?_
  refine Tr.mc C_164 rfl ?_
  refine Tr.putF (pc := 56) d_X6_init_56 f_6_30 (by decide) (by decide) rfl rfl (show mT C_164 74 = (6, 18) by decide +kernel) ?_
  refine Tr.mc C_165 rfl ?_
  refine Tr.aload_n (pc := 59) (i := 0) d_X6_init_59 rfl rfl ?_
  refine Tr.new (pc := 60) (x := 82) d_X6_init_60 n_6_33 (by decide) (by decide +kernel) ?_
  refine Tr.mc C_166 rfl ?_
  refine Tr.dup (pc := 63) d_X6_init_63 ne21 ?_
  refine Tr.iload_n (pc := 64) (i := 1) d_X6_init_64 rfl rfl ?_
  refine Tr.callI (pc := 65) (as := [_]) d_X6_init_65 (Or.inl s_6_35) ok_X1_init rfl rfl (Nat.le_of_ble_eq_true rfl) (Nat.le_of_ble_eq_true rfl) (by decide) ?_
  refine Tr.imp (ct_11 (l := l) hN) ?_
  rintro _ _ ⟨rfl, rfl⟩
  refine Tr.sc [_, _] rfl ?_
  refine Tr.putF (pc := 68) d_X6_init_68 f_6_38 (by decide) (by decide) rfl rfl (show mT C_201 74 = (6, 18) by decide +kernel) ?_
  refine Tr.mc C_202 rfl ?_
  exact Tr.vret (pc := 71) d_X6_init_71 rfl ⟨rfl, rfl⟩
set_option maxRecDepth 100000 in
set_option maxHeartbeats 4000000 in
theorem ct_13 {l : Launch} {K : EC} (hN : e_nst K) : Tr l K 58 mX9_init 0 [(0, (2, 100))] [] C_204 (fun M' r => M' = C_209 ∧ r = none) := by
  refine Tr.aload_n (pc := 0) (i := 0) d_X9_init_0 rfl rfl ?_
  refine Tr.obj (pc := 1) d_X9_init_1 ow_9_3 ow2 ow3 (Nat.le_of_ble_eq_true rfl) (by decide) ?_
  refine Tr.aload_n (pc := 4) (i := 0) d_X9_init_4 rfl rfl ?_
  refine Tr.sipush (pc := 5) d_X9_init_5 rfl (by decide) ?_
  refine Tr.newa_l (pc := 8) (x := 101) (N := 256) d_X9_init_8 aw_long rfl (by decide) (by decide +kernel) ?_
  refine Tr.mc C_205 rfl ?_
  refine Tr.putF (pc := 10) d_X9_init_10 f_9_11 (by decide) (by decide) rfl rfl (show mT C_205 100 = (9, 4) by decide +kernel) ?_
  refine Tr.mc C_206 rfl ?_
  refine Tr.aload_n (pc := 13) (i := 0) d_X9_init_13 rfl rfl ?_
  refine Tr.sipush (pc := 14) d_X9_init_14 rfl (by decide) ?_
  refine Tr.newa_i (pc := 17) (x := 102) (N := 256) d_X9_init_17 aw_int rfl (by decide) (by decide +kernel) ?_
  refine Tr.mc C_207 rfl ?_
  refine Tr.putF (pc := 19) d_X9_init_19 f_9_15 (by decide) (by decide) rfl rfl (show mT C_207 100 = (9, 4) by decide +kernel) ?_
  refine Tr.mc C_208 rfl ?_
  refine Tr.aload_n (pc := 22) (i := 0) d_X9_init_22 rfl rfl ?_
  refine Tr.iconst (pc := 23) d_X9_init_23 (by decide) ?_
  refine Tr.putf (pc := 24) d_X9_init_24 f_9_19 (by decide) (by decide) (show mT C_208 100 = (9, 4) by decide +kernel) ?_
  refine Tr.mc C_209 rfl ?_
  exact Tr.vret (pc := 27) d_X9_init_27 rfl ⟨rfl, rfl⟩
set_option maxRecDepth 100000 in
set_option maxHeartbeats 4000000 in
theorem ct_14 {l : Launch} {K : EC} (hN : e_nst K) : Tr l K 58 mX10_init 0 [(0, (2, 103))] [] C_211 (fun M' r => M' = C_217 ∧ r = none) := by
  refine Tr.aload_n (pc := 0) (i := 0) d_X10_init_0 rfl rfl ?_
  refine Tr.obj (pc := 1) d_X10_init_1 ow_10_3 ow2 ow3 (Nat.le_of_ble_eq_true rfl) (by decide) ?_
  refine Tr.aload_n (pc := 4) (i := 0) d_X10_init_4 rfl rfl ?_
  refine Tr.iconst (pc := 5) d_X10_init_5 (by decide) ?_
  refine Tr.newa_i (pc := 6) (x := 104) (N := 3) d_X10_init_6 aw_int rfl (by decide) (by decide +kernel) ?_
  refine Tr.mc C_212 rfl ?_
  refine Tr.putF (pc := 8) d_X10_init_8 f_10_9 (by decide) (by decide) rfl rfl (show mT C_212 103 = (10, 7) by decide +kernel) ?_
  refine Tr.mc C_213 rfl ?_
  refine Tr.aload_n (pc := 11) (i := 0) d_X10_init_11 rfl rfl ?_
  refine Tr.iconst (pc := 12) d_X10_init_12 (by decide) ?_
  refine Tr.newa_i (pc := 13) (x := 105) (N := 3) d_X10_init_13 aw_int rfl (by decide) (by decide +kernel) ?_
  refine Tr.mc C_214 rfl ?_
  refine Tr.putF (pc := 15) d_X10_init_15 f_10_15 (by decide) (by decide) rfl rfl (show mT C_214 103 = (10, 7) by decide +kernel) ?_
  refine Tr.mc C_215 rfl ?_
  refine Tr.aload_n (pc := 18) (i := 0) d_X10_init_18 rfl rfl ?_
  refine Tr.iconst (pc := 19) d_X10_init_19 (by decide) ?_
  refine Tr.newa_i (pc := 20) (x := 106) (N := 3) d_X10_init_20 aw_int rfl (by decide) (by decide +kernel) ?_
  refine Tr.mc C_216 rfl ?_
  refine Tr.putF (pc := 22) d_X10_init_22 f_10_18 (by decide) (by decide) rfl rfl (show mT C_216 103 = (10, 7) by decide +kernel) ?_
  refine Tr.mc C_217 rfl ?_
  exact Tr.vret (pc := 25) d_X10_init_25 rfl ⟨rfl, rfl⟩
set_option maxRecDepth 100000 in
set_option maxHeartbeats 4000000 in
theorem ct_15 {l : Launch} {K : EC} (hN : e_nst K) : Tr l K 58 mX2_init 0 [(0, (2, 107))] [] C_219 (fun M' r => M' = C_229 ∧ r = none) := by
  refine Tr.aload_n (pc := 0) (i := 0) d_X2_init_0 rfl rfl ?_
  refine Tr.obj (pc := 1) d_X2_init_1 ow_2_3 ow2 ow3 (Nat.le_of_ble_eq_true rfl) (by decide) ?_
  refine Tr.aload_n (pc := 4) (i := 0) d_X2_init_4 rfl rfl ?_
  refine Tr.iconst (pc := 5) d_X2_init_5 (by decide) ?_
  refine Tr.newa_i (pc := 6) (x := 108) (N := 4) d_X2_init_6 aw_int rfl (by decide) (by decide +kernel) ?_
  refine Tr.mc C_220 rfl ?_
  refine Tr.putF (pc := 8) d_X2_init_8 f_2_9 (by decide) (by decide) rfl rfl (show mT C_220 107 = (2, 7) by decide +kernel) ?_
  refine Tr.mc C_221 rfl ?_
  refine Tr.aload_n (pc := 11) (i := 0) d_X2_init_11 rfl rfl ?_
  refine Tr.bipush (pc := 12) d_X2_init_12 rfl (by decide) ?_
  refine Tr.newa_i (pc := 14) (x := 109) (N := 12) d_X2_init_14 aw_int rfl (by decide) (by decide +kernel) ?_
  refine Tr.mc C_222 rfl ?_
  refine Tr.putF (pc := 16) d_X2_init_16 f_2_15 (by decide) (by decide) rfl rfl (show mT C_222 107 = (2, 7) by decide +kernel) ?_
  refine Tr.mc C_223 rfl ?_
  refine Tr.aload_n (pc := 19) (i := 0) d_X2_init_19 rfl rfl ?_
  refine Tr.bipush (pc := 20) d_X2_init_20 rfl (by decide) ?_
  refine Tr.newa_i (pc := 22) (x := 110) (N := 12) d_X2_init_22 aw_int rfl (by decide) (by decide +kernel) ?_
  refine Tr.mc C_224 rfl ?_
  refine Tr.putF (pc := 24) d_X2_init_24 f_2_18 (by decide) (by decide) rfl rfl (show mT C_224 107 = (2, 7) by decide +kernel) ?_
  refine Tr.mc C_225 rfl ?_
  refine Tr.aload_n (pc := 27) (i := 0) d_X2_init_27 rfl rfl ?_
  refine Tr.sipush (pc := 28) d_X2_init_28 rfl (by decide) ?_
  refine Tr.newa_i (pc := 31) (x := 111) (N := 288) d_X2_init_31 aw_int rfl (by decide) (by decide +kernel) ?_
  refine Tr.mc C_226 rfl ?_
  refine Tr.putF (pc := 33) d_X2_init_33 f_2_21 (by decide) (by decide) rfl rfl (show mT C_226 107 = (2, 7) by decide +kernel) ?_
  refine Tr.mc C_227 rfl ?_
  refine Tr.aload_n (pc := 36) (i := 0) d_X2_init_36 rfl rfl ?_
  refine Tr.bipush (pc := 37) d_X2_init_37 rfl (by decide) ?_
  refine Tr.newa_i (pc := 39) (x := 112) (N := 12) d_X2_init_39 aw_int rfl (by decide) (by decide +kernel) ?_
  refine Tr.mc C_228 rfl ?_
  refine Tr.putF (pc := 41) d_X2_init_41 f_2_24 (by decide) (by decide) rfl rfl (show mT C_228 107 = (2, 7) by decide +kernel) ?_
  refine Tr.mc C_229 rfl ?_
  exact Tr.vret (pc := 44) d_X2_init_44 rfl ⟨rfl, rfl⟩
set_option maxRecDepth 100000 in
set_option maxHeartbeats 4000000 in
theorem ct_16 {l : Launch} {K : EC} (hN : e_nst K) : Tr l K 58 mX0_init 0 [(0, (2, 113))] [] C_231 (fun M' r => M' = C_243 ∧ r = none) := by
  refine Tr.aload_n (pc := 0) (i := 0) d_X0_init_0 rfl rfl ?_
  refine Tr.obj (pc := 1) d_X0_init_1 ow_0_3 ow2 ow3 (Nat.le_of_ble_eq_true rfl) (by decide) ?_
  refine Tr.aload_n (pc := 4) (i := 0) d_X0_init_4 rfl rfl ?_
  refine Tr.bipush (pc := 5) d_X0_init_5 rfl (by decide) ?_
  refine Tr.newa_i (pc := 7) (x := 114) (N := 6) d_X0_init_7 aw_int rfl (by decide) (by decide +kernel) ?_
  refine Tr.mc C_232 rfl ?_
  refine Tr.putF (pc := 9) d_X0_init_9 f_0_11 (by decide) (by decide) rfl rfl (show mT C_232 113 = (0, 8) by decide +kernel) ?_
  refine Tr.mc C_233 rfl ?_
  refine Tr.aload_n (pc := 12) (i := 0) d_X0_init_12 rfl rfl ?_
  refine Tr.bipush (pc := 13) d_X0_init_13 rfl (by decide) ?_
  refine Tr.newa_i (pc := 15) (x := 115) (N := 6) d_X0_init_15 aw_int rfl (by decide) (by decide +kernel) ?_
  refine Tr.mc C_234 rfl ?_
  refine Tr.putF (pc := 17) d_X0_init_17 f_0_15 (by decide) (by decide) rfl rfl (show mT C_234 113 = (0, 8) by decide +kernel) ?_
  refine Tr.mc C_235 rfl ?_
  refine Tr.aload_n (pc := 20) (i := 0) d_X0_init_20 rfl rfl ?_
  refine Tr.bipush (pc := 21) d_X0_init_21 rfl (by decide) ?_
  refine Tr.newa_i (pc := 23) (x := 116) (N := 6) d_X0_init_23 aw_int rfl (by decide) (by decide +kernel) ?_
  refine Tr.mc C_236 rfl ?_
  refine Tr.putF (pc := 25) d_X0_init_25 f_0_18 (by decide) (by decide) rfl rfl (show mT C_236 113 = (0, 8) by decide +kernel) ?_
  refine Tr.mc C_237 rfl ?_
  refine Tr.aload_n (pc := 28) (i := 0) d_X0_init_28 rfl rfl ?_
  refine Tr.bipush (pc := 29) d_X0_init_29 rfl (by decide) ?_
  refine Tr.newa_i (pc := 31) (x := 117) (N := 6) d_X0_init_31 aw_int rfl (by decide) (by decide +kernel) ?_
  refine Tr.mc C_238 rfl ?_
  refine Tr.putF (pc := 33) d_X0_init_33 f_0_21 (by decide) (by decide) rfl rfl (show mT C_238 113 = (0, 8) by decide +kernel) ?_
  refine Tr.mc C_239 rfl ?_
  refine Tr.aload_n (pc := 36) (i := 0) d_X0_init_36 rfl rfl ?_
  refine Tr.bipush (pc := 37) d_X0_init_37 rfl (by decide) ?_
  refine Tr.newa_i (pc := 39) (x := 118) (N := 6) d_X0_init_39 aw_int rfl (by decide) (by decide +kernel) ?_
  refine Tr.mc C_240 rfl ?_
  refine Tr.putF (pc := 41) d_X0_init_41 f_0_24 (by decide) (by decide) rfl rfl (show mT C_240 113 = (0, 8) by decide +kernel) ?_
  refine Tr.mc C_241 rfl ?_
  refine Tr.aload_n (pc := 44) (i := 0) d_X0_init_44 rfl rfl ?_
  refine Tr.bipush (pc := 45) d_X0_init_45 rfl (by decide) ?_
  refine Tr.newa_i (pc := 47) (x := 119) (N := 6) d_X0_init_47 aw_int rfl (by decide) (by decide +kernel) ?_
  refine Tr.mc C_242 rfl ?_
  refine Tr.putF (pc := 49) d_X0_init_49 f_0_27 (by decide) (by decide) rfl rfl (show mT C_242 113 = (0, 8) by decide +kernel) ?_
  refine Tr.mc C_243 rfl ?_
  exact Tr.vret (pc := 52) d_X0_init_52 rfl ⟨rfl, rfl⟩
set_option maxRecDepth 100000 in
set_option maxHeartbeats 4000000 in
theorem ct_17 {l : Launch} {K : EC} (hN : e_nst K) : Tr l K 57 mX4_clear 0 [(0, (2, 15))] [] C_253 (fun M' r => M' = C_255 ∧ r = none) := by
  refine Tr.aload_n (pc := 0) (i := 0) d_X4_clear_0 rfl rfl ?_
  refine Tr.iconst (pc := 1) d_X4_clear_1 (by decide) ?_
  refine Tr.putf (pc := 2) d_X4_clear_2 f_4_45 (by decide) (by decide) (show mT C_253 15 = (4, 13) by decide +kernel) ?_
  refine Tr.mc C_254 rfl ?_
  refine Tr.aload_n (pc := 5) (i := 0) d_X4_clear_5 rfl rfl ?_
  refine Tr.iconst (pc := 6) d_X4_clear_6 (by decide) ?_
  refine Tr.putf (pc := 7) d_X4_clear_7 f_4_49 (by decide) (by decide) (show mT C_254 15 = (4, 13) by decide +kernel) ?_
  refine Tr.mc C_255 rfl ?_
  exact Tr.vret (pc := 10) d_X4_clear_10 rfl ⟨rfl, rfl⟩
set_option maxRecDepth 100000 in
set_option maxHeartbeats 4000000 in
theorem ct_18 {l : Launch} {K : EC} (hN : e_nst K) : Tr l K 58 mX3_clear 0 [(0, (2, 7))] [] C_244 (fun M' r => M' = C_255 ∧ r = none) := by
  refine Tr.aload_n (pc := 0) (i := 0) d_X3_clear_0 rfl rfl ?_
  refine Tr.iconst (pc := 1) d_X3_clear_1 (by decide) ?_
  refine Tr.putf (pc := 2) d_X3_clear_2 f_3_40 (by decide) (by decide) (show mT C_244 7 = (3, 12) by decide +kernel) ?_
  refine Tr.mc C_245 rfl ?_
  refine Tr.aload_n (pc := 5) (i := 0) d_X3_clear_5 rfl rfl ?_
  refine Tr.iconst (pc := 6) d_X3_clear_6 (by decide) ?_
  refine Tr.putf (pc := 7) d_X3_clear_7 f_3_44 (by decide) (by decide) (show mT C_245 7 = (3, 12) by decide +kernel) ?_
  refine Tr.mc C_246 rfl ?_
  refine Tr.aload_n (pc := 10) (i := 0) d_X3_clear_10 rfl rfl ?_
  refine Tr.iconst (pc := 11) d_X3_clear_11 (by decide) ?_
  refine Tr.putf (pc := 12) d_X3_clear_12 f_3_47 (by decide) (by decide) (show mT C_246 7 = (3, 12) by decide +kernel) ?_
  refine Tr.mc C_247 rfl ?_
  refine Tr.aload_n (pc := 15) (i := 0) d_X3_clear_15 rfl rfl ?_
  refine Tr.iconst (pc := 16) d_X3_clear_16 (by decide) ?_
  refine Tr.putf (pc := 17) d_X3_clear_17 f_3_50 (by decide) (by decide) (show mT C_247 7 = (3, 12) by decide +kernel) ?_
  refine Tr.mc C_248 rfl ?_
  refine Tr.aload_n (pc := 20) (i := 0) d_X3_clear_20 rfl rfl ?_
  refine Tr.getf (pc := 21) d_X3_clear_21 f_3_11 (by decide) (by decide) (show mT C_248 7 = (3, 12) by decide +kernel) ?_
  refine Tr.tp 8 (by decide +kernel) ?_
  refine Tr.iconst (pc := 24) d_X3_clear_24 (by decide) ?_
  refine Tr.callS (pc := 25) (as := [_, _]) d_X3_clear_25 s_3_53 ok_J7_fill_53178 rfl rfl (Nat.le_of_ble_eq_true rfl) (Nat.le_of_ble_eq_true rfl) ?_
  refine Tr.imp (sp_fill (N := 3) (show mT C_248 8 = (20, 3) by decide +kernel) (by decide)) ?_
  rintro _ _ ⟨rfl, rfl⟩
  refine Tr.sc [] rfl ?_
  refine Tr.mc C_249 rfl ?_
  refine Tr.aload_n (pc := 28) (i := 0) d_X3_clear_28 rfl rfl ?_
  refine Tr.getf (pc := 29) d_X3_clear_29 f_3_15 (by decide) (by decide) (show mT C_249 7 = (3, 12) by decide +kernel) ?_
  refine Tr.tp 9 (by decide +kernel) ?_
  refine Tr.iconst (pc := 32) d_X3_clear_32 (by decide) ?_
  refine Tr.callS (pc := 33) (as := [_, _]) d_X3_clear_33 s_3_53 ok_J7_fill_53178 rfl rfl (Nat.le_of_ble_eq_true rfl) (Nat.le_of_ble_eq_true rfl) ?_
  refine Tr.imp (sp_fill (N := 24) (show mT C_249 9 = (20, 24) by decide +kernel) (by decide)) ?_
  rintro _ _ ⟨rfl, rfl⟩
  refine Tr.sc [] rfl ?_
  refine Tr.mc C_250 rfl ?_
  refine Tr.aload_n (pc := 36) (i := 0) d_X3_clear_36 rfl rfl ?_
  refine Tr.getf (pc := 37) d_X3_clear_37 f_3_24 (by decide) (by decide) (show mT C_250 7 = (3, 12) by decide +kernel) ?_
  refine Tr.tp 12 (by decide +kernel) ?_
  refine Tr.iconst (pc := 40) d_X3_clear_40 (by decide) ?_
  refine Tr.callS (pc := 41) (as := [_, _]) d_X3_clear_41 s_3_53 ok_J7_fill_53178 rfl rfl (Nat.le_of_ble_eq_true rfl) (Nat.le_of_ble_eq_true rfl) ?_
  refine Tr.imp (sp_fill (N := 3) (show mT C_250 12 = (20, 3) by decide +kernel) (by decide)) ?_
  rintro _ _ ⟨rfl, rfl⟩
  refine Tr.sc [] rfl ?_
  refine Tr.mc C_251 rfl ?_
  refine Tr.aload_n (pc := 44) (i := 0) d_X3_clear_44 rfl rfl ?_
  refine Tr.getf (pc := 45) d_X3_clear_45 f_3_27 (by decide) (by decide) (show mT C_251 7 = (3, 12) by decide +kernel) ?_
  refine Tr.tp 13 (by decide +kernel) ?_
  refine Tr.iconst (pc := 48) d_X3_clear_48 (by decide) ?_
  refine Tr.callS (pc := 49) (as := [_, _]) d_X3_clear_49 s_3_53 ok_J7_fill_53178 rfl rfl (Nat.le_of_ble_eq_true rfl) (Nat.le_of_ble_eq_true rfl) ?_
  refine Tr.imp (sp_fill (N := 3) (show mT C_251 13 = (20, 3) by decide +kernel) (by decide)) ?_
  rintro _ _ ⟨rfl, rfl⟩
  refine Tr.sc [] rfl ?_
  refine Tr.mc C_252 rfl ?_
  refine Tr.aload_n (pc := 52) (i := 0) d_X3_clear_52 rfl rfl ?_
  refine Tr.getf (pc := 53) d_X3_clear_53 f_3_30 (by decide) (by decide) (show mT C_252 7 = (3, 12) by decide +kernel) ?_
  refine Tr.tp 14 (by decide +kernel) ?_
  refine Tr.iconst (pc := 56) d_X3_clear_56 (by decide) ?_
  refine Tr.callS (pc := 57) (as := [_, _]) d_X3_clear_57 s_3_53 ok_J7_fill_53178 rfl rfl (Nat.le_of_ble_eq_true rfl) (Nat.le_of_ble_eq_true rfl) ?_
  refine Tr.imp (sp_fill (N := 15) (show mT C_252 14 = (20, 15) by decide +kernel) (by decide)) ?_
  rintro _ _ ⟨rfl, rfl⟩
  refine Tr.sc [] rfl ?_
  refine Tr.mc C_253 rfl ?_
  refine Tr.aload_n (pc := 60) (i := 0) d_X3_clear_60 rfl rfl ?_
  refine Tr.getf (pc := 61) d_X3_clear_61 f_3_36 (by decide) (by decide) (show mT C_253 7 = (3, 12) by decide +kernel) ?_
  refine Tr.tp 15 (by decide +kernel) ?_
  refine Tr.callV (pc := 64) (as := []) d_X3_clear_64 s_3_59 ok_X4_clear rfl rfl (Nat.le_of_ble_eq_true rfl) (Nat.le_of_ble_eq_true rfl) (by decide) (show mT C_253 15 = (4, 13) by decide +kernel) ?_
  refine Tr.imp (ct_17 (l := l) hN) ?_
  rintro _ _ ⟨rfl, rfl⟩
  refine Tr.sc [] rfl ?_
  exact Tr.vret (pc := 67) d_X3_clear_67 rfl ⟨rfl, rfl⟩
set_option maxRecDepth 100000 in
set_option maxHeartbeats 4000000 in
theorem ct_19 {l : Launch} {K : EC} (hN : e_nst K) : Tr l K 57 mX4_clear 0 [(0, (2, 35))] [] C_264 (fun M' r => M' = C_266 ∧ r = none) := by
  refine Tr.aload_n (pc := 0) (i := 0) d_X4_clear_0 rfl rfl ?_
  refine Tr.iconst (pc := 1) d_X4_clear_1 (by decide) ?_
  refine Tr.putf (pc := 2) d_X4_clear_2 f_4_45 (by decide) (by decide) (show mT C_264 35 = (4, 13) by decide +kernel) ?_
  refine Tr.mc C_265 rfl ?_
  refine Tr.aload_n (pc := 5) (i := 0) d_X4_clear_5 rfl rfl ?_
  refine Tr.iconst (pc := 6) d_X4_clear_6 (by decide) ?_
  refine Tr.putf (pc := 7) d_X4_clear_7 f_4_49 (by decide) (by decide) (show mT C_265 35 = (4, 13) by decide +kernel) ?_
  refine Tr.mc C_266 rfl ?_
  exact Tr.vret (pc := 10) d_X4_clear_10 rfl ⟨rfl, rfl⟩
set_option maxRecDepth 100000 in
set_option maxHeartbeats 4000000 in
theorem ct_20 {l : Launch} {K : EC} (hN : e_nst K) : Tr l K 58 mX3_clear 0 [(0, (2, 27))] [] C_255 (fun M' r => M' = C_266 ∧ r = none) := by
  refine Tr.aload_n (pc := 0) (i := 0) d_X3_clear_0 rfl rfl ?_
  refine Tr.iconst (pc := 1) d_X3_clear_1 (by decide) ?_
  refine Tr.putf (pc := 2) d_X3_clear_2 f_3_40 (by decide) (by decide) (show mT C_255 27 = (3, 12) by decide +kernel) ?_
  refine Tr.mc C_256 rfl ?_
  refine Tr.aload_n (pc := 5) (i := 0) d_X3_clear_5 rfl rfl ?_
  refine Tr.iconst (pc := 6) d_X3_clear_6 (by decide) ?_
  refine Tr.putf (pc := 7) d_X3_clear_7 f_3_44 (by decide) (by decide) (show mT C_256 27 = (3, 12) by decide +kernel) ?_
  refine Tr.mc C_257 rfl ?_
  refine Tr.aload_n (pc := 10) (i := 0) d_X3_clear_10 rfl rfl ?_
  refine Tr.iconst (pc := 11) d_X3_clear_11 (by decide) ?_
  refine Tr.putf (pc := 12) d_X3_clear_12 f_3_47 (by decide) (by decide) (show mT C_257 27 = (3, 12) by decide +kernel) ?_
  refine Tr.mc C_258 rfl ?_
  refine Tr.aload_n (pc := 15) (i := 0) d_X3_clear_15 rfl rfl ?_
  refine Tr.iconst (pc := 16) d_X3_clear_16 (by decide) ?_
  refine Tr.putf (pc := 17) d_X3_clear_17 f_3_50 (by decide) (by decide) (show mT C_258 27 = (3, 12) by decide +kernel) ?_
  refine Tr.mc C_259 rfl ?_
  refine Tr.aload_n (pc := 20) (i := 0) d_X3_clear_20 rfl rfl ?_
  refine Tr.getf (pc := 21) d_X3_clear_21 f_3_11 (by decide) (by decide) (show mT C_259 27 = (3, 12) by decide +kernel) ?_
  refine Tr.tp 28 (by decide +kernel) ?_
  refine Tr.iconst (pc := 24) d_X3_clear_24 (by decide) ?_
  refine Tr.callS (pc := 25) (as := [_, _]) d_X3_clear_25 s_3_53 ok_J7_fill_53178 rfl rfl (Nat.le_of_ble_eq_true rfl) (Nat.le_of_ble_eq_true rfl) ?_
  refine Tr.imp (sp_fill (N := 3) (show mT C_259 28 = (20, 3) by decide +kernel) (by decide)) ?_
  rintro _ _ ⟨rfl, rfl⟩
  refine Tr.sc [] rfl ?_
  refine Tr.mc C_260 rfl ?_
  refine Tr.aload_n (pc := 28) (i := 0) d_X3_clear_28 rfl rfl ?_
  refine Tr.getf (pc := 29) d_X3_clear_29 f_3_15 (by decide) (by decide) (show mT C_260 27 = (3, 12) by decide +kernel) ?_
  refine Tr.tp 29 (by decide +kernel) ?_
  refine Tr.iconst (pc := 32) d_X3_clear_32 (by decide) ?_
  refine Tr.callS (pc := 33) (as := [_, _]) d_X3_clear_33 s_3_53 ok_J7_fill_53178 rfl rfl (Nat.le_of_ble_eq_true rfl) (Nat.le_of_ble_eq_true rfl) ?_
  refine Tr.imp (sp_fill (N := 24) (show mT C_260 29 = (20, 24) by decide +kernel) (by decide)) ?_
  rintro _ _ ⟨rfl, rfl⟩
  refine Tr.sc [] rfl ?_
  refine Tr.mc C_261 rfl ?_
  refine Tr.aload_n (pc := 36) (i := 0) d_X3_clear_36 rfl rfl ?_
  refine Tr.getf (pc := 37) d_X3_clear_37 f_3_24 (by decide) (by decide) (show mT C_261 27 = (3, 12) by decide +kernel) ?_
  refine Tr.tp 32 (by decide +kernel) ?_
  refine Tr.iconst (pc := 40) d_X3_clear_40 (by decide) ?_
  refine Tr.callS (pc := 41) (as := [_, _]) d_X3_clear_41 s_3_53 ok_J7_fill_53178 rfl rfl (Nat.le_of_ble_eq_true rfl) (Nat.le_of_ble_eq_true rfl) ?_
  refine Tr.imp (sp_fill (N := 3) (show mT C_261 32 = (20, 3) by decide +kernel) (by decide)) ?_
  rintro _ _ ⟨rfl, rfl⟩
  refine Tr.sc [] rfl ?_
  refine Tr.mc C_262 rfl ?_
  refine Tr.aload_n (pc := 44) (i := 0) d_X3_clear_44 rfl rfl ?_
  refine Tr.getf (pc := 45) d_X3_clear_45 f_3_27 (by decide) (by decide) (show mT C_262 27 = (3, 12) by decide +kernel) ?_
  refine Tr.tp 33 (by decide +kernel) ?_
  refine Tr.iconst (pc := 48) d_X3_clear_48 (by decide) ?_
  refine Tr.callS (pc := 49) (as := [_, _]) d_X3_clear_49 s_3_53 ok_J7_fill_53178 rfl rfl (Nat.le_of_ble_eq_true rfl) (Nat.le_of_ble_eq_true rfl) ?_
  refine Tr.imp (sp_fill (N := 3) (show mT C_262 33 = (20, 3) by decide +kernel) (by decide)) ?_
  rintro _ _ ⟨rfl, rfl⟩
  refine Tr.sc [] rfl ?_
  refine Tr.mc C_263 rfl ?_
  refine Tr.aload_n (pc := 52) (i := 0) d_X3_clear_52 rfl rfl ?_
  refine Tr.getf (pc := 53) d_X3_clear_53 f_3_30 (by decide) (by decide) (show mT C_263 27 = (3, 12) by decide +kernel) ?_
  refine Tr.tp 34 (by decide +kernel) ?_
  refine Tr.iconst (pc := 56) d_X3_clear_56 (by decide) ?_
  refine Tr.callS (pc := 57) (as := [_, _]) d_X3_clear_57 s_3_53 ok_J7_fill_53178 rfl rfl (Nat.le_of_ble_eq_true rfl) (Nat.le_of_ble_eq_true rfl) ?_
  refine Tr.imp (sp_fill (N := 15) (show mT C_263 34 = (20, 15) by decide +kernel) (by decide)) ?_
  rintro _ _ ⟨rfl, rfl⟩
  refine Tr.sc [] rfl ?_
  refine Tr.mc C_264 rfl ?_
  refine Tr.aload_n (pc := 60) (i := 0) d_X3_clear_60 rfl rfl ?_
  refine Tr.getf (pc := 61) d_X3_clear_61 f_3_36 (by decide) (by decide) (show mT C_264 27 = (3, 12) by decide +kernel) ?_
  refine Tr.tp 35 (by decide +kernel) ?_
  refine Tr.callV (pc := 64) (as := []) d_X3_clear_64 s_3_59 ok_X4_clear rfl rfl (Nat.le_of_ble_eq_true rfl) (Nat.le_of_ble_eq_true rfl) (by decide) (show mT C_264 35 = (4, 13) by decide +kernel) ?_
  refine Tr.imp (ct_19 (l := l) hN) ?_
  rintro _ _ ⟨rfl, rfl⟩
  refine Tr.sc [] rfl ?_
  exact Tr.vret (pc := 67) d_X3_clear_67 rfl ⟨rfl, rfl⟩
set_option maxRecDepth 100000 in
set_option maxHeartbeats 4000000 in
theorem ct_21 {l : Launch} {K : EC} (hN : e_nst K) : Tr l K 59 mX11_init 0 [(0, (2, 0))] [] C_1 (fun M' r => M' = C_266 ∧ r = none) := by
  refine Tr.aload_n (pc := 0) (i := 0) d_X11_init_0 rfl rfl ?_
  refine Tr.obj (pc := 1) d_X11_init_1 ow_11_1 ow2 ow3 (Nat.le_of_ble_eq_true rfl) (by decide) ?_
  refine Tr.aload_n (pc := 4) (i := 0) d_X11_init_4 rfl rfl ?_
  refine Tr.sipush (pc := 5) d_X11_init_5 rfl (by decide) ?_
  refine Tr.newa_b (pc := 8) (x := 1) (N := 900) d_X11_init_8 aw_byte rfl (by decide) (by decide +kernel) ?_
  refine Tr.mc C_2 rfl ?_
  refine Tr.putF (pc := 10) d_X11_init_10 f_11_9 (by decide) (by decide) rfl rfl (show mT C_2 0 = (11, 14) by decide +kernel) ?_
  refine Tr.mc C_3 rfl ?_
  refine Tr.aload_n (pc := 13) (i := 0) d_X11_init_13 rfl rfl ?_
  refine Tr.new (pc := 14) (x := 2) d_X11_init_14 n_11_13 (by decide) (by decide +kernel) ?_
  refine Tr.mc C_4 rfl ?_
  refine Tr.dup (pc := 17) d_X11_init_17 ne21 ?_
  refine Tr.callI (pc := 18) (as := []) d_X11_init_18 (Or.inr ⟨_, s_11_15 hN⟩) ok_X7_init rfl rfl (Nat.le_of_ble_eq_true rfl) (Nat.le_of_ble_eq_true rfl) (by decide) ?_
  refine Tr.imp (ct_1 (l := l) hN) ?_
  rintro _ _ ⟨rfl, rfl⟩
  refine Tr.sc [_, _] rfl ?_
  refine Tr.putF (pc := 21) d_X11_init_21 f_11_16 (by decide) (by decide) rfl rfl (show mT C_10 0 = (11, 14) by decide +kernel) ?_
  refine Tr.mc C_11 rfl ?_
  refine Tr.aload_n (pc := 24) (i := 0) d_X11_init_24 rfl rfl ?_
  refine Tr.new (pc := 25) (x := 6) d_X11_init_25 n_11_20 (by decide) (by decide +kernel) ?_
  refine Tr.mc C_12 rfl ?_
  refine Tr.dup (pc := 28) d_X11_init_28 ne21 ?_
  refine Tr.callI (pc := 29) (as := []) d_X11_init_29 (Or.inr ⟨_, s_11_22 hN⟩) ok_X5_init rfl rfl (Nat.le_of_ble_eq_true rfl) (Nat.le_of_ble_eq_true rfl) (by decide) ?_
  refine Tr.imp (ct_2 (l := l) hN) ?_
  rintro _ _ ⟨rfl, rfl⟩
  refine Tr.sc [_, _] rfl ?_
  refine Tr.putF (pc := 32) d_X11_init_32 f_11_23 (by decide) (by decide) rfl rfl (show mT C_14 0 = (11, 14) by decide +kernel) ?_
  refine Tr.mc C_15 rfl ?_
  refine Tr.aload_n (pc := 35) (i := 0) d_X11_init_35 rfl rfl ?_
  refine Tr.new (pc := 36) (x := 7) d_X11_init_36 n_11_27 (by decide) (by decide +kernel) ?_
  refine Tr.mc C_16 rfl ?_
  refine Tr.dup (pc := 39) d_X11_init_39 ne21 ?_
  refine Tr.callI (pc := 40) (as := []) d_X11_init_40 (Or.inr ⟨_, s_11_29 hN⟩) ok_X3_init rfl rfl (Nat.le_of_ble_eq_true rfl) (Nat.le_of_ble_eq_true rfl) (by decide) ?_
  refine Tr.imp (ct_4 (l := l) hN) ?_
  rintro _ _ ⟨rfl, rfl⟩
  refine Tr.sc [_, _] rfl ?_
  refine Tr.putf (pc := 43) d_X11_init_43 f_11_30 (by decide) (by decide) (show mT C_54 0 = (11, 14) by decide +kernel) ?_
  refine Tr.mc C_55 rfl ?_
  refine Tr.aload_n (pc := 46) (i := 0) d_X11_init_46 rfl rfl ?_
  refine Tr.new (pc := 47) (x := 27) d_X11_init_47 n_11_27 (by decide) (by decide +kernel) ?_
  refine Tr.mc C_56 rfl ?_
  refine Tr.dup (pc := 50) d_X11_init_50 ne21 ?_
  refine Tr.callI (pc := 51) (as := []) d_X11_init_51 (Or.inr ⟨_, s_11_29 hN⟩) ok_X3_init rfl rfl (Nat.le_of_ble_eq_true rfl) (Nat.le_of_ble_eq_true rfl) (by decide) ?_
  refine Tr.imp (ct_6 (l := l) hN) ?_
  rintro _ _ ⟨rfl, rfl⟩
  refine Tr.sc [_, _] rfl ?_
  refine Tr.putf (pc := 54) d_X11_init_54 f_11_34 (by decide) (by decide) (show mT C_94 0 = (11, 14) by decide +kernel) ?_
  refine Tr.mc C_95 rfl ?_
  refine Tr.aload_n (pc := 57) (i := 0) d_X11_init_57 rfl rfl ?_
  refine Tr.iconst (pc := 58) d_X11_init_58 (by decide) ?_
  refine Tr.newa_i (pc := 59) (x := 47) (N := 3) d_X11_init_59 aw_int rfl (by decide) (by decide +kernel) ?_
  refine Tr.mc C_96 rfl ?_
  refine Tr.putF (pc := 61) d_X11_init_61 f_11_37 (by decide) (by decide) rfl rfl (show mT C_96 0 = (11, 14) by decide +kernel) ?_
  refine Tr.mc C_97 rfl ?_
  refine Tr.aload_n (pc := 64) (i := 0) d_X11_init_64 rfl rfl ?_
  refine Tr.new (pc := 65) (x := 48) d_X11_init_65 n_11_41 (by decide) (by decide +kernel) ?_
  refine Tr.mc C_98 rfl ?_
  refine Tr.dup (pc := 68) d_X11_init_68 ne21 ?_
  refine Tr.iconst (pc := 69) d_X11_init_69 (by decide) ?_
  refine Tr.callI (pc := 70) (as := [_]) d_X11_init_70 (Or.inl s_11_43) ok_X6_init rfl rfl (Nat.le_of_ble_eq_true rfl) (Nat.le_of_ble_eq_true rfl) (by decide) ?_
  refine Tr.imp (ct_9 (l := l) hN) ?_
  rintro _ _ ⟨rfl, rfl⟩
  refine Tr.sc [_, _] rfl ?_
  refine Tr.putF (pc := 73) d_X11_init_73 f_11_46 (by decide) (by decide) rfl rfl (show mT C_149 0 = (11, 14) by decide +kernel) ?_
  refine Tr.mc C_150 rfl ?_
  refine Tr.aload_n (pc := 76) (i := 0) d_X11_init_76 rfl rfl ?_
  refine Tr.new (pc := 77) (x := 74) d_X11_init_77 n_11_41 (by decide) (by decide +kernel) ?_
  refine Tr.mc C_151 rfl ?_
  refine Tr.dup (pc := 80) d_X11_init_80 ne21 ?_
  refine Tr.iconst (pc := 81) d_X11_init_81 (by decide) ?_
  refine Tr.callI (pc := 82) (as := [_]) d_X11_init_82 (Or.inl s_11_43) ok_X6_init rfl rfl (Nat.le_of_ble_eq_true rfl) (Nat.le_of_ble_eq_true rfl) (by decide) ?_
  refine Tr.imp (ct_12 (l := l) hN) ?_
  rintro _ _ ⟨rfl, rfl⟩
  refine Tr.sc [_, _] rfl ?_
  refine Tr.putF (pc := 85) d_X11_init_85 f_11_50 (by decide) (by decide) rfl rfl (show mT C_202 0 = (11, 14) by decide +kernel) ?_
  refine Tr.mc C_203 rfl ?_
  refine Tr.aload_n (pc := 88) (i := 0) d_X11_init_88 rfl rfl ?_
  refine Tr.new (pc := 89) (x := 100) d_X11_init_89 n_11_53 (by decide) (by decide +kernel) ?_
  refine Tr.mc C_204 rfl ?_
  refine Tr.dup (pc := 92) d_X11_init_92 ne21 ?_
  refine Tr.callI (pc := 93) (as := []) d_X11_init_93 (Or.inr ⟨_, s_11_55 hN⟩) ok_X9_init rfl rfl (Nat.le_of_ble_eq_true rfl) (Nat.le_of_ble_eq_true rfl) (by decide) ?_
  refine Tr.imp (ct_13 (l := l) hN) ?_
  rintro _ _ ⟨rfl, rfl⟩
  refine Tr.sc [_, _] rfl ?_
  refine Tr.putF (pc := 96) d_X11_init_96 f_11_56 (by decide) (by decide) rfl rfl (show mT C_209 0 = (11, 14) by decide +kernel) ?_
  refine Tr.mc C_210 rfl ?_
  refine Tr.aload_n (pc := 99) (i := 0) d_X11_init_99 rfl rfl ?_
  refine Tr.new (pc := 100) (x := 103) d_X11_init_100 n_11_60 (by decide) (by decide +kernel) ?_
  refine Tr.mc C_211 rfl ?_
  refine Tr.dup (pc := 103) d_X11_init_103 ne21 ?_
  refine Tr.callI (pc := 104) (as := []) d_X11_init_104 (Or.inr ⟨_, s_11_62 hN⟩) ok_X10_init rfl rfl (Nat.le_of_ble_eq_true rfl) (Nat.le_of_ble_eq_true rfl) (by decide) ?_
  refine Tr.imp (ct_14 (l := l) hN) ?_
  rintro _ _ ⟨rfl, rfl⟩
  refine Tr.sc [_, _] rfl ?_
  refine Tr.putF (pc := 107) d_X11_init_107 f_11_63 (by decide) (by decide) rfl rfl (show mT C_217 0 = (11, 14) by decide +kernel) ?_
  refine Tr.mc C_218 rfl ?_
  refine Tr.aload_n (pc := 110) (i := 0) d_X11_init_110 rfl rfl ?_
  refine Tr.new (pc := 111) (x := 107) d_X11_init_111 n_11_67 (by decide) (by decide +kernel) ?_
  refine Tr.mc C_219 rfl ?_
  refine Tr.dup (pc := 114) d_X11_init_114 ne21 ?_
  refine Tr.callI (pc := 115) (as := []) d_X11_init_115 (Or.inr ⟨_, s_11_69 hN⟩) ok_X2_init rfl rfl (Nat.le_of_ble_eq_true rfl) (Nat.le_of_ble_eq_true rfl) (by decide) ?_
  refine Tr.imp (ct_15 (l := l) hN) ?_
  rintro _ _ ⟨rfl, rfl⟩
  refine Tr.sc [_, _] rfl ?_
  refine Tr.putF (pc := 118) d_X11_init_118 f_11_70 (by decide) (by decide) rfl rfl (show mT C_229 0 = (11, 14) by decide +kernel) ?_
  refine Tr.mc C_230 rfl ?_
  refine Tr.aload_n (pc := 121) (i := 0) d_X11_init_121 rfl rfl ?_
  refine Tr.new (pc := 122) (x := 113) d_X11_init_122 n_11_74 (by decide) (by decide +kernel) ?_
  refine Tr.mc C_231 rfl ?_
  refine Tr.dup (pc := 125) d_X11_init_125 ne21 ?_
  refine Tr.callI (pc := 126) (as := []) d_X11_init_126 (Or.inr ⟨_, s_11_76 hN⟩) ok_X0_init rfl rfl (Nat.le_of_ble_eq_true rfl) (Nat.le_of_ble_eq_true rfl) (by decide) ?_
  refine Tr.imp (ct_16 (l := l) hN) ?_
  rintro _ _ ⟨rfl, rfl⟩
  refine Tr.sc [_, _] rfl ?_
  refine Tr.putF (pc := 129) d_X11_init_129 f_11_77 (by decide) (by decide) rfl rfl (show mT C_243 0 = (11, 14) by decide +kernel) ?_
  refine Tr.mc C_244 rfl ?_
  refine Tr.aload_n (pc := 132) (i := 0) d_X11_init_132 rfl rfl ?_
  refine Tr.getf (pc := 133) d_X11_init_133 f_11_30 (by decide) (by decide) (show mT C_244 0 = (11, 14) by decide +kernel) ?_
  refine Tr.tp 7 (by decide +kernel) ?_
  refine Tr.callV (pc := 136) (as := []) d_X11_init_136 s_11_81 ok_X3_clear rfl rfl (Nat.le_of_ble_eq_true rfl) (Nat.le_of_ble_eq_true rfl) (by decide) (show mT C_244 7 = (3, 12) by decide +kernel) ?_
  refine Tr.imp (ct_18 (l := l) hN) ?_
  rintro _ _ ⟨rfl, rfl⟩
  refine Tr.sc [] rfl ?_
  refine Tr.aload_n (pc := 139) (i := 0) d_X11_init_139 rfl rfl ?_
  refine Tr.getf (pc := 140) d_X11_init_140 f_11_34 (by decide) (by decide) (show mT C_255 0 = (11, 14) by decide +kernel) ?_
  refine Tr.tp 27 (by decide +kernel) ?_
  refine Tr.callV (pc := 143) (as := []) d_X11_init_143 s_11_81 ok_X3_clear rfl rfl (Nat.le_of_ble_eq_true rfl) (Nat.le_of_ble_eq_true rfl) (by decide) (show mT C_255 27 = (3, 12) by decide +kernel) ?_
  refine Tr.imp (ct_20 (l := l) hN) ?_
  rintro _ _ ⟨rfl, rfl⟩
  refine Tr.sc [] rfl ?_
  exact Tr.vret (pc := 146) d_X11_init_146 rfl ⟨rfl, rfl⟩
set_option maxRecDepth 100000 in
set_option maxHeartbeats 4000000 in
theorem ct_22 {l : Launch} {K : EC} (hN : e_nst K) : Tr l K 59 mX12_init 0 [(0, (2, 120))] [] C_267 (fun M' r => M' = C_461 ∧ r = none) := by
  refine Tr.aload_n (pc := 0) (i := 0) d_X12_init_0 rfl rfl ?_
  refine Tr.obj (pc := 1) d_X12_init_1 ow_12_1 ow2 ow3 (Nat.le_of_ble_eq_true rfl) (by decide) ?_
  refine Tr.aload_n (pc := 4) (i := 0) d_X12_init_4 rfl rfl ?_
  refine Tr.sipush (pc := 5) d_X12_init_5 rfl (by decide) ?_
  refine Tr.newa_i (pc := 8) (x := 121) (N := 900) d_X12_init_8 aw_int rfl (by decide) (by decide +kernel) ?_
  refine Tr.mc C_268 rfl ?_
  refine Tr.putF (pc := 10) d_X12_init_10 f_12_7 (by decide) (by decide) rfl rfl (show mT C_268 120 = (12, 121) by decide +kernel) ?_
  refine Tr.mc C_269 rfl ?_
  refine Tr.aload_n (pc := 13) (i := 0) d_X12_init_13 rfl rfl ?_
  refine Tr.iconst (pc := 14) d_X12_init_14 (by decide) ?_
  refine Tr.putf (pc := 15) d_X12_init_15 f_12_13 (by decide) (by decide) (show mT C_269 120 = (12, 121) by decide +kernel) ?_
  refine Tr.mc C_270 rfl ?_
  refine Tr.aload_n (pc := 18) (i := 0) d_X12_init_18 rfl rfl ?_
  refine Tr.iconst (pc := 19) d_X12_init_19 (by decide) ?_
  refine Tr.putf (pc := 20) d_X12_init_20 f_12_17 (by decide) (by decide) (show mT C_270 120 = (12, 121) by decide +kernel) ?_
  refine Tr.mc C_271 rfl ?_
  refine Tr.aload_n (pc := 23) (i := 0) d_X12_init_23 rfl rfl ?_
  refine Tr.iconst (pc := 24) d_X12_init_24 (by decide) ?_
  refine Tr.putf (pc := 25) d_X12_init_25 f_12_20 (by decide) (by decide) (show mT C_271 120 = (12, 121) by decide +kernel) ?_
  refine Tr.mc C_272 rfl ?_
  refine Tr.aload_n (pc := 28) (i := 0) d_X12_init_28 rfl rfl ?_
  refine Tr.iconst (pc := 29) d_X12_init_29 (by decide) ?_
  refine Tr.putf (pc := 30) d_X12_init_30 f_12_23 (by decide) (by decide) (show mT C_272 120 = (12, 121) by decide +kernel) ?_
  refine Tr.mc C_273 rfl ?_
  refine Tr.aload_n (pc := 33) (i := 0) d_X12_init_33 rfl rfl ?_
  refine Tr.iconst (pc := 34) d_X12_init_34 (by decide) ?_
  refine Tr.putf (pc := 35) d_X12_init_35 f_12_26 (by decide) (by decide) (show mT C_273 120 = (12, 121) by decide +kernel) ?_
  refine Tr.mc C_274 rfl ?_
  refine Tr.aload_n (pc := 38) (i := 0) d_X12_init_38 rfl rfl ?_
  refine Tr.iconst (pc := 39) d_X12_init_39 (by decide) ?_
  refine Tr.putf (pc := 40) d_X12_init_40 f_12_29 (by decide) (by decide) (show mT C_274 120 = (12, 121) by decide +kernel) ?_
  refine Tr.mc C_275 rfl ?_
  refine Tr.aload_n (pc := 43) (i := 0) d_X12_init_43 rfl rfl ?_
  refine Tr.lconst (pc := 44) (v := 0) d_X12_init_44 rfl (by decide) ?_
  refine Tr.putf (pc := 45) d_X12_init_45 f_12_32 (by decide) (by decide) (show mT C_275 120 = (12, 121) by decide +kernel) ?_
  refine Tr.mc C_276 rfl ?_
  refine Tr.aload_n (pc := 48) (i := 0) d_X12_init_48 rfl rfl ?_
  refine Tr.iconst (pc := 49) d_X12_init_49 (by decide) ?_
  refine Tr.putf (pc := 50) d_X12_init_50 f_12_36 (by decide) (by decide) (show mT C_276 120 = (12, 121) by decide +kernel) ?_
  refine Tr.mc C_277 rfl ?_
  refine Tr.aload_n (pc := 53) (i := 0) d_X12_init_53 rfl rfl ?_
  refine Tr.iconst (pc := 54) d_X12_init_54 (by decide) ?_
  refine Tr.putf (pc := 55) d_X12_init_55 f_12_39 (by decide) (by decide) (show mT C_277 120 = (12, 121) by decide +kernel) ?_
  refine Tr.mc C_278 rfl ?_
  refine Tr.aload_n (pc := 58) (i := 0) d_X12_init_58 rfl rfl ?_
  refine Tr.iconst (pc := 59) d_X12_init_59 (by decide) ?_
  refine Tr.putf (pc := 60) d_X12_init_60 f_12_42 (by decide) (by decide) (show mT C_278 120 = (12, 121) by decide +kernel) ?_
  refine Tr.mc C_279 rfl ?_
  refine Tr.aload_n (pc := 63) (i := 0) d_X12_init_63 rfl rfl ?_
  refine Tr.iconst (pc := 64) d_X12_init_64 (by decide) ?_
  refine Tr.putf (pc := 65) d_X12_init_65 f_12_45 (by decide) (by decide) (show mT C_279 120 = (12, 121) by decide +kernel) ?_
  refine Tr.mc C_280 rfl ?_
  refine Tr.aload_n (pc := 68) (i := 0) d_X12_init_68 rfl rfl ?_
  refine Tr.iconst (pc := 69) d_X12_init_69 (by decide) ?_
  refine Tr.putf (pc := 70) d_X12_init_70 f_12_48 (by decide) (by decide) (show mT C_280 120 = (12, 121) by decide +kernel) ?_
  refine Tr.mc C_281 rfl ?_
  refine Tr.aload_n (pc := 73) (i := 0) d_X12_init_73 rfl rfl ?_
  refine Tr.iconst (pc := 74) d_X12_init_74 (by decide) ?_
  refine Tr.newa_i (pc := 75) (x := 122) (N := 2) d_X12_init_75 aw_int rfl (by decide) (by decide +kernel) ?_
  refine Tr.mc C_282 rfl ?_
  refine Tr.putF (pc := 77) d_X12_init_77 f_12_51 (by decide) (by decide) rfl rfl (show mT C_282 120 = (12, 121) by decide +kernel) ?_
  refine Tr.mc C_283 rfl ?_
  refine Tr.aload_n (pc := 80) (i := 0) d_X12_init_80 rfl rfl ?_
  refine Tr.iconst (pc := 81) d_X12_init_81 (by decide) ?_
  refine Tr.newa_i (pc := 82) (x := 123) (N := 2) d_X12_init_82 aw_int rfl (by decide) (by decide +kernel) ?_
  refine Tr.mc C_284 rfl ?_
  refine Tr.putF (pc := 84) d_X12_init_84 f_12_54 (by decide) (by decide) rfl rfl (show mT C_284 120 = (12, 121) by decide +kernel) ?_
  refine Tr.mc C_285 rfl ?_
  refine Tr.aload_n (pc := 87) (i := 0) d_X12_init_87 rfl rfl ?_
  refine Tr.iconst (pc := 88) d_X12_init_88 (by decide) ?_
  refine Tr.newa_i (pc := 89) (x := 124) (N := 2) d_X12_init_89 aw_int rfl (by decide) (by decide +kernel) ?_
  refine Tr.mc C_286 rfl ?_
  refine Tr.putF (pc := 91) d_X12_init_91 f_12_57 (by decide) (by decide) rfl rfl (show mT C_286 120 = (12, 121) by decide +kernel) ?_
  refine Tr.mc C_287 rfl ?_
  refine Tr.aload_n (pc := 94) (i := 0) d_X12_init_94 rfl rfl ?_
  refine Tr.iconst (pc := 95) d_X12_init_95 (by decide) ?_
  refine Tr.newa_i (pc := 96) (x := 125) (N := 2) d_X12_init_96 aw_int rfl (by decide) (by decide +kernel) ?_
  refine Tr.mc C_288 rfl ?_
  refine Tr.putF (pc := 98) d_X12_init_98 f_12_60 (by decide) (by decide) rfl rfl (show mT C_288 120 = (12, 121) by decide +kernel) ?_
  refine Tr.mc C_289 rfl ?_
  refine Tr.aload_n (pc := 101) (i := 0) d_X12_init_101 rfl rfl ?_
  refine Tr.iconst (pc := 102) d_X12_init_102 (by decide) ?_
  refine Tr.newa_i (pc := 103) (x := 126) (N := 2) d_X12_init_103 aw_int rfl (by decide) (by decide +kernel) ?_
  refine Tr.mc C_290 rfl ?_
  refine Tr.putF (pc := 105) d_X12_init_105 f_12_63 (by decide) (by decide) rfl rfl (show mT C_290 120 = (12, 121) by decide +kernel) ?_
  refine Tr.mc C_291 rfl ?_
  refine Tr.aload_n (pc := 108) (i := 0) d_X12_init_108 rfl rfl ?_
  refine Tr.iconst (pc := 109) d_X12_init_109 (by decide) ?_
  refine Tr.newa_i (pc := 110) (x := 127) (N := 2) d_X12_init_110 aw_int rfl (by decide) (by decide +kernel) ?_
  refine Tr.mc C_292 rfl ?_
  refine Tr.putF (pc := 112) d_X12_init_112 f_12_66 (by decide) (by decide) rfl rfl (show mT C_292 120 = (12, 121) by decide +kernel) ?_
  refine Tr.mc C_293 rfl ?_
  refine Tr.aload_n (pc := 115) (i := 0) d_X12_init_115 rfl rfl ?_
  refine Tr.iconst (pc := 116) d_X12_init_116 (by decide) ?_
  refine Tr.newa_i (pc := 117) (x := 128) (N := 2) d_X12_init_117 aw_int rfl (by decide) (by decide +kernel) ?_
  refine Tr.mc C_294 rfl ?_
  refine Tr.putF (pc := 119) d_X12_init_119 f_12_69 (by decide) (by decide) rfl rfl (show mT C_294 120 = (12, 121) by decide +kernel) ?_
  refine Tr.mc C_295 rfl ?_
  refine Tr.aload_n (pc := 122) (i := 0) d_X12_init_122 rfl rfl ?_
  refine Tr.iconst (pc := 123) d_X12_init_123 (by decide) ?_
  refine Tr.newa_i (pc := 124) (x := 129) (N := 2) d_X12_init_124 aw_int rfl (by decide) (by decide +kernel) ?_
  refine Tr.mc C_296 rfl ?_
  refine Tr.putF (pc := 126) d_X12_init_126 f_12_72 (by decide) (by decide) rfl rfl (show mT C_296 120 = (12, 121) by decide +kernel) ?_
  refine Tr.mc C_297 rfl ?_
  refine Tr.aload_n (pc := 129) (i := 0) d_X12_init_129 rfl rfl ?_
  refine Tr.bipush (pc := 130) d_X12_init_130 rfl (by decide) ?_
  refine Tr.newa_l (pc := 132) (x := 130) (N := 12) d_X12_init_132 aw_long rfl (by decide) (by decide +kernel) ?_
  refine Tr.mc C_298 rfl ?_
  refine Tr.putF (pc := 134) d_X12_init_134 f_12_75 (by decide) (by decide) rfl rfl (show mT C_298 120 = (12, 121) by decide +kernel) ?_
  refine Tr.mc C_299 rfl ?_
  refine Tr.aload_n (pc := 137) (i := 0) d_X12_init_137 rfl rfl ?_
  refine Tr.bipush (pc := 138) d_X12_init_138 rfl (by decide) ?_
  refine Tr.newa_i (pc := 140) (x := 131) (N := 72) d_X12_init_140 aw_int rfl (by decide) (by decide +kernel) ?_
  refine Tr.mc C_300 rfl ?_
  refine Tr.putF (pc := 142) d_X12_init_142 f_12_79 (by decide) (by decide) rfl rfl (show mT C_300 120 = (12, 121) by decide +kernel) ?_
  refine Tr.mc C_301 rfl ?_
  refine Tr.aload_n (pc := 145) (i := 0) d_X12_init_145 rfl rfl ?_
  refine Tr.bipush (pc := 146) d_X12_init_146 rfl (by decide) ?_
  refine Tr.newa_l (pc := 148) (x := 132) (N := 6) d_X12_init_148 aw_long rfl (by decide) (by decide +kernel) ?_
  refine Tr.mc C_302 rfl ?_
  refine Tr.putF (pc := 150) d_X12_init_150 f_12_82 (by decide) (by decide) rfl rfl (show mT C_302 120 = (12, 121) by decide +kernel) ?_
  refine Tr.mc C_303 rfl ?_
  refine Tr.aload_n (pc := 153) (i := 0) d_X12_init_153 rfl rfl ?_
  refine Tr.bipush (pc := 154) d_X12_init_154 rfl (by decide) ?_
  refine Tr.newa_i (pc := 156) (x := 133) (N := 6) d_X12_init_156 aw_int rfl (by decide) (by decide +kernel) ?_
  refine Tr.mc C_304 rfl ?_
  refine Tr.putF (pc := 158) d_X12_init_158 f_12_85 (by decide) (by decide) rfl rfl (show mT C_304 120 = (12, 121) by decide +kernel) ?_
  refine Tr.mc C_305 rfl ?_
  refine Tr.aload_n (pc := 161) (i := 0) d_X12_init_161 rfl rfl ?_
  refine Tr.bipush (pc := 162) d_X12_init_162 rfl (by decide) ?_
  refine Tr.newa_i (pc := 164) (x := 134) (N := 6) d_X12_init_164 aw_int rfl (by decide) (by decide +kernel) ?_
  refine Tr.mc C_306 rfl ?_
  refine Tr.putF (pc := 166) d_X12_init_166 f_12_88 (by decide) (by decide) rfl rfl (show mT C_306 120 = (12, 121) by decide +kernel) ?_
  refine Tr.mc C_307 rfl ?_
  refine Tr.aload_n (pc := 169) (i := 0) d_X12_init_169 rfl rfl ?_
  refine Tr.bipush (pc := 170) d_X12_init_170 rfl (by decide) ?_
  refine Tr.newa_l (pc := 172) (x := 135) (N := 12) d_X12_init_172 aw_long rfl (by decide) (by decide +kernel) ?_
  refine Tr.mc C_308 rfl ?_
  refine Tr.putF (pc := 174) d_X12_init_174 f_12_91 (by decide) (by decide) rfl rfl (show mT C_308 120 = (12, 121) by decide +kernel) ?_
  refine Tr.mc C_309 rfl ?_
  refine Tr.aload_n (pc := 177) (i := 0) d_X12_init_177 rfl rfl ?_
  refine Tr.iconst (pc := 178) d_X12_init_178 (by decide) ?_
  refine Tr.newa_i (pc := 179) (x := 136) (N := 2) d_X12_init_179 aw_int rfl (by decide) (by decide +kernel) ?_
  refine Tr.mc C_310 rfl ?_
  refine Tr.putF (pc := 181) d_X12_init_181 f_12_94 (by decide) (by decide) rfl rfl (show mT C_310 120 = (12, 121) by decide +kernel) ?_
  refine Tr.mc C_311 rfl ?_
  refine Tr.aload_n (pc := 184) (i := 0) d_X12_init_184 rfl rfl ?_
  refine Tr.sipush (pc := 185) d_X12_init_185 rfl (by decide) ?_
  refine Tr.newa_i (pc := 188) (x := 137) (N := 400) d_X12_init_188 aw_int rfl (by decide) (by decide +kernel) ?_
  refine Tr.mc C_312 rfl ?_
  refine Tr.putF (pc := 190) d_X12_init_190 f_12_97 (by decide) (by decide) rfl rfl (show mT C_312 120 = (12, 121) by decide +kernel) ?_
  refine Tr.mc C_313 rfl ?_
  refine Tr.aload_n (pc := 193) (i := 0) d_X12_init_193 rfl rfl ?_
  refine Tr.sipush (pc := 194) d_X12_init_194 rfl (by decide) ?_
  refine Tr.newa_i (pc := 197) (x := 138) (N := 400) d_X12_init_197 aw_int rfl (by decide) (by decide +kernel) ?_
  refine Tr.mc C_314 rfl ?_
  refine Tr.putF (pc := 199) d_X12_init_199 f_12_100 (by decide) (by decide) rfl rfl (show mT C_314 120 = (12, 121) by decide +kernel) ?_
  refine Tr.mc C_315 rfl ?_
  refine Tr.aload_n (pc := 202) (i := 0) d_X12_init_202 rfl rfl ?_
  refine Tr.sipush (pc := 203) d_X12_init_203 rfl (by decide) ?_
  refine Tr.newa_i (pc := 206) (x := 139) (N := 400) d_X12_init_206 aw_int rfl (by decide) (by decide +kernel) ?_
  refine Tr.mc C_316 rfl ?_
  refine Tr.putF (pc := 208) d_X12_init_208 f_12_103 (by decide) (by decide) rfl rfl (show mT C_316 120 = (12, 121) by decide +kernel) ?_
  refine Tr.mc C_317 rfl ?_
  refine Tr.aload_n (pc := 211) (i := 0) d_X12_init_211 rfl rfl ?_
  refine Tr.sipush (pc := 212) d_X12_init_212 rfl (by decide) ?_
  refine Tr.newa_i (pc := 215) (x := 140) (N := 400) d_X12_init_215 aw_int rfl (by decide) (by decide +kernel) ?_
  refine Tr.mc C_318 rfl ?_
  refine Tr.putF (pc := 217) d_X12_init_217 f_12_106 (by decide) (by decide) rfl rfl (show mT C_318 120 = (12, 121) by decide +kernel) ?_
  refine Tr.mc C_319 rfl ?_
  refine Tr.aload_n (pc := 220) (i := 0) d_X12_init_220 rfl rfl ?_
  refine Tr.sipush (pc := 221) d_X12_init_221 rfl (by decide) ?_
  refine Tr.newa_i (pc := 224) (x := 141) (N := 400) d_X12_init_224 aw_int rfl (by decide) (by decide +kernel) ?_
  refine Tr.mc C_320 rfl ?_
  refine Tr.putF (pc := 226) d_X12_init_226 f_12_109 (by decide) (by decide) rfl rfl (show mT C_320 120 = (12, 121) by decide +kernel) ?_
  refine Tr.mc C_321 rfl ?_
  refine Tr.aload_n (pc := 229) (i := 0) d_X12_init_229 rfl rfl ?_
  refine Tr.sipush (pc := 230) d_X12_init_230 rfl (by decide) ?_
  refine Tr.newa_i (pc := 233) (x := 142) (N := 400) d_X12_init_233 aw_int rfl (by decide) (by decide +kernel) ?_
  refine Tr.mc C_322 rfl ?_
  refine Tr.putF (pc := 235) d_X12_init_235 f_12_112 (by decide) (by decide) rfl rfl (show mT C_322 120 = (12, 121) by decide +kernel) ?_
  refine Tr.mc C_323 rfl ?_
  refine Tr.aload_n (pc := 238) (i := 0) d_X12_init_238 rfl rfl ?_
  refine Tr.sipush (pc := 239) d_X12_init_239 rfl (by decide) ?_
  refine Tr.newa_i (pc := 242) (x := 143) (N := 1800) d_X12_init_242 aw_int rfl (by decide) (by decide +kernel) ?_
  refine Tr.mc C_324 rfl ?_
  refine Tr.putF (pc := 244) d_X12_init_244 f_12_115 (by decide) (by decide) rfl rfl (show mT C_324 120 = (12, 121) by decide +kernel) ?_
  refine Tr.mc C_325 rfl ?_
  refine Tr.aload_n (pc := 247) (i := 0) d_X12_init_247 rfl rfl ?_
  refine Tr.sipush (pc := 248) d_X12_init_248 rfl (by decide) ?_
  refine Tr.newa_i (pc := 251) (x := 144) (N := 1800) d_X12_init_251 aw_int rfl (by decide) (by decide +kernel) ?_
  refine Tr.mc C_326 rfl ?_
  refine Tr.putF (pc := 253) d_X12_init_253 f_12_118 (by decide) (by decide) rfl rfl (show mT C_326 120 = (12, 121) by decide +kernel) ?_
  refine Tr.mc C_327 rfl ?_
  refine Tr.aload_n (pc := 256) (i := 0) d_X12_init_256 rfl rfl ?_
  refine Tr.iconst (pc := 257) d_X12_init_257 (by decide) ?_
  refine Tr.putf (pc := 258) d_X12_init_258 f_12_121 (by decide) (by decide) (show mT C_327 120 = (12, 121) by decide +kernel) ?_
  refine Tr.mc C_328 rfl ?_
  refine Tr.aload_n (pc := 261) (i := 0) d_X12_init_261 rfl rfl ?_
  refine Tr.iconst (pc := 262) d_X12_init_262 (by decide) ?_
  refine Tr.putf (pc := 263) d_X12_init_263 f_12_124 (by decide) (by decide) (show mT C_328 120 = (12, 121) by decide +kernel) ?_
  refine Tr.mc C_329 rfl ?_
  refine Tr.aload_n (pc := 266) (i := 0) d_X12_init_266 rfl rfl ?_
  refine Tr.bipush (pc := 267) d_X12_init_267 rfl (by decide) ?_
  refine Tr.newa_i (pc := 269) (x := 145) (N := 20) d_X12_init_269 aw_int rfl (by decide) (by decide +kernel) ?_
  refine Tr.mc C_330 rfl ?_
  refine Tr.putF (pc := 271) d_X12_init_271 f_12_127 (by decide) (by decide) rfl rfl (show mT C_330 120 = (12, 121) by decide +kernel) ?_
  refine Tr.mc C_331 rfl ?_
  refine Tr.aload_n (pc := 274) (i := 0) d_X12_init_274 rfl rfl ?_
  refine Tr.bipush (pc := 275) d_X12_init_275 rfl (by decide) ?_
  refine Tr.newa_i (pc := 277) (x := 146) (N := 20) d_X12_init_277 aw_int rfl (by decide) (by decide +kernel) ?_
  refine Tr.mc C_332 rfl ?_
  refine Tr.putF (pc := 279) d_X12_init_279 f_12_130 (by decide) (by decide) rfl rfl (show mT C_332 120 = (12, 121) by decide +kernel) ?_
  refine Tr.mc C_333 rfl ?_
  refine Tr.aload_n (pc := 282) (i := 0) d_X12_init_282 rfl rfl ?_
  refine Tr.bipush (pc := 283) d_X12_init_283 rfl (by decide) ?_
  refine Tr.newa_z (pc := 285) (x := 147) (N := 20) d_X12_init_285 aw_boolean rfl (by decide) (by decide +kernel) ?_
  refine Tr.mc C_334 rfl ?_
  refine Tr.putF (pc := 287) d_X12_init_287 f_12_133 (by decide) (by decide) rfl rfl (show mT C_334 120 = (12, 121) by decide +kernel) ?_
  refine Tr.mc C_335 rfl ?_
  refine Tr.aload_n (pc := 290) (i := 0) d_X12_init_290 rfl rfl ?_
  refine Tr.bipush (pc := 291) d_X12_init_291 rfl (by decide) ?_
  refine Tr.newa_i (pc := 293) (x := 148) (N := 20) d_X12_init_293 aw_int rfl (by decide) (by decide +kernel) ?_
  refine Tr.mc C_336 rfl ?_
  refine Tr.putF (pc := 295) d_X12_init_295 f_12_137 (by decide) (by decide) rfl rfl (show mT C_336 120 = (12, 121) by decide +kernel) ?_
  refine Tr.mc C_337 rfl ?_
  refine Tr.aload_n (pc := 298) (i := 0) d_X12_init_298 rfl rfl ?_
  refine Tr.bipush (pc := 299) d_X12_init_299 rfl (by decide) ?_
  refine Tr.newa_i (pc := 301) (x := 149) (N := 20) d_X12_init_301 aw_int rfl (by decide) (by decide +kernel) ?_
  refine Tr.mc C_338 rfl ?_
  refine Tr.putF (pc := 303) d_X12_init_303 f_12_140 (by decide) (by decide) rfl rfl (show mT C_338 120 = (12, 121) by decide +kernel) ?_
  refine Tr.mc C_339 rfl ?_
  refine Tr.aload_n (pc := 306) (i := 0) d_X12_init_306 rfl rfl ?_
  refine Tr.iconst (pc := 307) d_X12_init_307 (by decide) ?_
  refine Tr.putf (pc := 308) d_X12_init_308 f_12_143 (by decide) (by decide) (show mT C_339 120 = (12, 121) by decide +kernel) ?_
  refine Tr.mc C_340 rfl ?_
  refine Tr.aload_n (pc := 311) (i := 0) d_X12_init_311 rfl rfl ?_
  refine Tr.iconst (pc := 312) d_X12_init_312 (by decide) ?_
  refine Tr.putf (pc := 313) d_X12_init_313 f_12_146 (by decide) (by decide) (show mT C_340 120 = (12, 121) by decide +kernel) ?_
  refine Tr.mc C_341 rfl ?_
  refine Tr.aload_n (pc := 316) (i := 0) d_X12_init_316 rfl rfl ?_
  refine Tr.sipush (pc := 317) d_X12_init_317 rfl (by decide) ?_
  refine Tr.newa_i (pc := 320) (x := 150) (N := 500) d_X12_init_320 aw_int rfl (by decide) (by decide +kernel) ?_
  refine Tr.mc C_342 rfl ?_
  refine Tr.putF (pc := 322) d_X12_init_322 f_12_149 (by decide) (by decide) rfl rfl (show mT C_342 120 = (12, 121) by decide +kernel) ?_
  refine Tr.mc C_343 rfl ?_
  refine Tr.aload_n (pc := 325) (i := 0) d_X12_init_325 rfl rfl ?_
  refine Tr.iconst (pc := 326) d_X12_init_326 (by decide) ?_
  refine Tr.putf (pc := 327) d_X12_init_327 f_12_152 (by decide) (by decide) (show mT C_343 120 = (12, 121) by decide +kernel) ?_
  refine Tr.mc C_344 rfl ?_
  refine Tr.aload_n (pc := 330) (i := 0) d_X12_init_330 rfl rfl ?_
  refine Tr.iconst (pc := 331) d_X12_init_331 (by decide) ?_
  refine Tr.putz (pc := 332) d_X12_init_332 f_12_155 (by decide) (show mT C_344 120 = (12, 121) by decide +kernel) (by decide) ?_
  refine Tr.mc C_345 rfl ?_
  refine Tr.aload_n (pc := 335) (i := 0) d_X12_init_335 rfl rfl ?_
  refine Tr.bipush (pc := 336) d_X12_init_336 rfl (by decide) ?_
  refine Tr.newa_i (pc := 338) (x := 151) (N := 20) d_X12_init_338 aw_int rfl (by decide) (by decide +kernel) ?_
  refine Tr.mc C_346 rfl ?_
  refine Tr.putF (pc := 340) d_X12_init_340 f_12_159 (by decide) (by decide) rfl rfl (show mT C_346 120 = (12, 121) by decide +kernel) ?_
  refine Tr.mc C_347 rfl ?_
  refine Tr.aload_n (pc := 343) (i := 0) d_X12_init_343 rfl rfl ?_
  refine Tr.bipush (pc := 344) d_X12_init_344 rfl (by decide) ?_
  refine Tr.newa_i (pc := 346) (x := 152) (N := 20) d_X12_init_346 aw_int rfl (by decide) (by decide +kernel) ?_
  refine Tr.mc C_348 rfl ?_
  refine Tr.putF (pc := 348) d_X12_init_348 f_12_162 (by decide) (by decide) rfl rfl (show mT C_348 120 = (12, 121) by decide +kernel) ?_
  refine Tr.mc C_349 rfl ?_
  refine Tr.aload_n (pc := 351) (i := 0) d_X12_init_351 rfl rfl ?_
  refine Tr.iconst (pc := 352) d_X12_init_352 (by decide) ?_
  refine Tr.putf (pc := 353) d_X12_init_353 f_12_165 (by decide) (by decide) (show mT C_349 120 = (12, 121) by decide +kernel) ?_
  refine Tr.mc C_350 rfl ?_
  refine Tr.aload_n (pc := 356) (i := 0) d_X12_init_356 rfl rfl ?_
  refine Tr.iconst (pc := 357) d_X12_init_357 (by decide) ?_
  refine Tr.newa_i (pc := 358) (x := 153) (N := 3) d_X12_init_358 aw_int rfl (by decide) (by decide +kernel) ?_
  refine Tr.mc C_351 rfl ?_
  refine Tr.putF (pc := 360) d_X12_init_360 f_12_168 (by decide) (by decide) rfl rfl (show mT C_351 120 = (12, 121) by decide +kernel) ?_
  refine Tr.mc C_352 rfl ?_
  refine Tr.aload_n (pc := 363) (i := 0) d_X12_init_363 rfl rfl ?_
  refine Tr.iconst (pc := 364) d_X12_init_364 (by decide) ?_
  refine Tr.newa_i (pc := 365) (x := 154) (N := 3) d_X12_init_365 aw_int rfl (by decide) (by decide +kernel) ?_
  refine Tr.mc C_353 rfl ?_
  refine Tr.putF (pc := 367) d_X12_init_367 f_12_171 (by decide) (by decide) rfl rfl (show mT C_353 120 = (12, 121) by decide +kernel) ?_
  refine Tr.mc C_354 rfl ?_
  refine Tr.aload_n (pc := 370) (i := 0) d_X12_init_370 rfl rfl ?_
  refine Tr.bipush (pc := 371) d_X12_init_371 rfl (by decide) ?_
  refine Tr.newa_i (pc := 373) (x := 155) (N := 6) d_X12_init_373 aw_int rfl (by decide) (by decide +kernel) ?_
  refine Tr.mc C_355 rfl ?_
  refine Tr.putF (pc := 375) d_X12_init_375 f_12_174 (by decide) (by decide) rfl rfl (show mT C_355 120 = (12, 121) by decide +kernel) ?_
  refine Tr.mc C_356 rfl ?_
  refine Tr.aload_n (pc := 378) (i := 0) d_X12_init_378 rfl rfl ?_
  refine Tr.bipush (pc := 379) d_X12_init_379 rfl (by decide) ?_
  refine Tr.newa_z (pc := 381) (x := 156) (N := 6) d_X12_init_381 aw_boolean rfl (by decide) (by decide +kernel) ?_
  refine Tr.mc C_357 rfl ?_
  refine Tr.putF (pc := 383) d_X12_init_383 f_12_177 (by decide) (by decide) rfl rfl (show mT C_357 120 = (12, 121) by decide +kernel) ?_
  refine Tr.mc C_358 rfl ?_
  refine Tr.aload_n (pc := 386) (i := 0) d_X12_init_386 rfl rfl ?_
  refine Tr.bipush (pc := 387) d_X12_init_387 rfl (by decide) ?_
  refine Tr.newa_i (pc := 389) (x := 157) (N := 6) d_X12_init_389 aw_int rfl (by decide) (by decide +kernel) ?_
  refine Tr.mc C_359 rfl ?_
  refine Tr.putF (pc := 391) d_X12_init_391 f_12_180 (by decide) (by decide) rfl rfl (show mT C_359 120 = (12, 121) by decide +kernel) ?_
  refine Tr.mc C_360 rfl ?_
  refine Tr.aload_n (pc := 394) (i := 0) d_X12_init_394 rfl rfl ?_
  refine Tr.bipush (pc := 395) d_X12_init_395 rfl (by decide) ?_
  refine Tr.newa_i (pc := 397) (x := 158) (N := 6) d_X12_init_397 aw_int rfl (by decide) (by decide +kernel) ?_
  refine Tr.mc C_361 rfl ?_
  refine Tr.putF (pc := 399) d_X12_init_399 f_12_183 (by decide) (by decide) rfl rfl (show mT C_361 120 = (12, 121) by decide +kernel) ?_
  refine Tr.mc C_362 rfl ?_
  refine Tr.aload_n (pc := 402) (i := 0) d_X12_init_402 rfl rfl ?_
  refine Tr.bipush (pc := 403) d_X12_init_403 rfl (by decide) ?_
  refine Tr.newa_i (pc := 405) (x := 159) (N := 6) d_X12_init_405 aw_int rfl (by decide) (by decide +kernel) ?_
  refine Tr.mc C_363 rfl ?_
  refine Tr.putF (pc := 407) d_X12_init_407 f_12_186 (by decide) (by decide) rfl rfl (show mT C_363 120 = (12, 121) by decide +kernel) ?_
  refine Tr.mc C_364 rfl ?_
  refine Tr.aload_n (pc := 410) (i := 0) d_X12_init_410 rfl rfl ?_
  refine Tr.bipush (pc := 411) d_X12_init_411 rfl (by decide) ?_
  refine Tr.newa_i (pc := 413) (x := 160) (N := 8) d_X12_init_413 aw_int rfl (by decide) (by decide +kernel) ?_
  refine Tr.mc C_365 rfl ?_
  refine Tr.putF (pc := 415) d_X12_init_415 f_12_189 (by decide) (by decide) rfl rfl (show mT C_365 120 = (12, 121) by decide +kernel) ?_
  refine Tr.mc C_366 rfl ?_
  refine Tr.aload_n (pc := 418) (i := 0) d_X12_init_418 rfl rfl ?_
  refine Tr.iconst (pc := 419) d_X12_init_419 (by decide) ?_
  refine Tr.putf (pc := 420) d_X12_init_420 f_12_192 (by decide) (by decide) (show mT C_366 120 = (12, 121) by decide +kernel) ?_
  refine Tr.mc C_367 rfl ?_
  refine Tr.aload_n (pc := 423) (i := 0) d_X12_init_423 rfl rfl ?_
  refine Tr.iconst (pc := 424) d_X12_init_424 (by decide) ?_
  refine Tr.putf (pc := 425) d_X12_init_425 f_12_195 (by decide) (by decide) (show mT C_367 120 = (12, 121) by decide +kernel) ?_
  refine Tr.mc C_368 rfl ?_
  refine Tr.aload_n (pc := 428) (i := 0) d_X12_init_428 rfl rfl ?_
  refine Tr.iconst (pc := 429) d_X12_init_429 (by decide) ?_
  refine Tr.putf (pc := 430) d_X12_init_430 f_12_198 (by decide) (by decide) (show mT C_368 120 = (12, 121) by decide +kernel) ?_
  refine Tr.mc C_369 rfl ?_
  refine Tr.aload_n (pc := 433) (i := 0) d_X12_init_433 rfl rfl ?_
  refine Tr.iconst (pc := 434) d_X12_init_434 (by decide) ?_
  refine Tr.putf (pc := 435) d_X12_init_435 f_12_201 (by decide) (by decide) (show mT C_369 120 = (12, 121) by decide +kernel) ?_
  refine Tr.mc C_370 rfl ?_
  refine Tr.aload_n (pc := 438) (i := 0) d_X12_init_438 rfl rfl ?_
  refine Tr.lconst (pc := 439) (v := 0) d_X12_init_439 rfl (by decide) ?_
  refine Tr.putf (pc := 440) d_X12_init_440 f_12_204 (by decide) (by decide) (show mT C_370 120 = (12, 121) by decide +kernel) ?_
  refine Tr.mc C_371 rfl ?_
  refine Tr.aload_n (pc := 443) (i := 0) d_X12_init_443 rfl rfl ?_
  refine Tr.lconst (pc := 444) (v := 0) d_X12_init_444 rfl (by decide) ?_
  refine Tr.putf (pc := 445) d_X12_init_445 f_12_207 (by decide) (by decide) (show mT C_371 120 = (12, 121) by decide +kernel) ?_
  refine Tr.mc C_372 rfl ?_
  refine Tr.aload_n (pc := 448) (i := 0) d_X12_init_448 rfl rfl ?_
  refine Tr.iconst (pc := 449) d_X12_init_449 (by decide) ?_
  refine Tr.putf (pc := 450) d_X12_init_450 f_12_210 (by decide) (by decide) (show mT C_372 120 = (12, 121) by decide +kernel) ?_
  refine Tr.mc C_373 rfl ?_
  refine Tr.aload_n (pc := 453) (i := 0) d_X12_init_453 rfl rfl ?_
  refine Tr.iconst (pc := 454) d_X12_init_454 (by decide) ?_
  refine Tr.putf (pc := 455) d_X12_init_455 f_12_213 (by decide) (by decide) (show mT C_373 120 = (12, 121) by decide +kernel) ?_
  refine Tr.mc C_374 rfl ?_
  refine Tr.aload_n (pc := 458) (i := 0) d_X12_init_458 rfl rfl ?_
  refine Tr.iconst (pc := 459) d_X12_init_459 (by decide) ?_
  refine Tr.putf (pc := 460) d_X12_init_460 f_12_216 (by decide) (by decide) (show mT C_374 120 = (12, 121) by decide +kernel) ?_
  refine Tr.mc C_375 rfl ?_
  refine Tr.aload_n (pc := 463) (i := 0) d_X12_init_463 rfl rfl ?_
  refine Tr.iconst (pc := 464) d_X12_init_464 (by decide) ?_
  refine Tr.putf (pc := 465) d_X12_init_465 f_12_219 (by decide) (by decide) (show mT C_375 120 = (12, 121) by decide +kernel) ?_
  refine Tr.mc C_376 rfl ?_
  refine Tr.aload_n (pc := 468) (i := 0) d_X12_init_468 rfl rfl ?_
  refine Tr.bipush (pc := 469) d_X12_init_469 rfl (by decide) ?_
  refine Tr.newa_i (pc := 471) (x := 161) (N := 24) d_X12_init_471 aw_int rfl (by decide) (by decide +kernel) ?_
  refine Tr.mc C_377 rfl ?_
  refine Tr.putF (pc := 473) d_X12_init_473 f_12_222 (by decide) (by decide) rfl rfl (show mT C_377 120 = (12, 121) by decide +kernel) ?_
  refine Tr.mc C_378 rfl ?_
  refine Tr.aload_n (pc := 476) (i := 0) d_X12_init_476 rfl rfl ?_
  refine Tr.iconst (pc := 477) d_X12_init_477 (by decide) ?_
  refine Tr.putz (pc := 478) d_X12_init_478 f_12_225 (by decide) (show mT C_378 120 = (12, 121) by decide +kernel) (by decide) ?_
  refine Tr.mc C_379 rfl ?_
  refine Tr.aload_n (pc := 481) (i := 0) d_X12_init_481 rfl rfl ?_
  refine Tr.sipush (pc := 482) d_X12_init_482 rfl (by decide) ?_
  refine Tr.newa_i (pc := 485) (x := 162) (N := 2100) d_X12_init_485 aw_int rfl (by decide) (by decide +kernel) ?_
  refine Tr.mc C_380 rfl ?_
  refine Tr.putF (pc := 487) d_X12_init_487 f_12_228 (by decide) (by decide) rfl rfl (show mT C_380 120 = (12, 121) by decide +kernel) ?_
  refine Tr.mc C_381 rfl ?_
  refine Tr.aload_n (pc := 490) (i := 0) d_X12_init_490 rfl rfl ?_
  refine Tr.sipush (pc := 491) d_X12_init_491 rfl (by decide) ?_
  refine Tr.newa_i (pc := 494) (x := 163) (N := 12600) d_X12_init_494 aw_int rfl (by decide) (by decide +kernel) ?_
  refine Tr.mc C_382 rfl ?_
  refine Tr.putF (pc := 496) d_X12_init_496 f_12_231 (by decide) (by decide) rfl rfl (show mT C_382 120 = (12, 121) by decide +kernel) ?_
  refine Tr.mc C_383 rfl ?_
  refine Tr.aload_n (pc := 499) (i := 0) d_X12_init_499 rfl rfl ?_
  refine Tr.sipush (pc := 500) d_X12_init_500 rfl (by decide) ?_
  refine Tr.newa_i (pc := 503) (x := 164) (N := 12600) d_X12_init_503 aw_int rfl (by decide) (by decide +kernel) ?_
  refine Tr.mc C_384 rfl ?_
  refine Tr.putF (pc := 505) d_X12_init_505 f_12_234 (by decide) (by decide) rfl rfl (show mT C_384 120 = (12, 121) by decide +kernel) ?_
  refine Tr.mc C_385 rfl ?_
  refine Tr.aload_n (pc := 508) (i := 0) d_X12_init_508 rfl rfl ?_
  refine Tr.sipush (pc := 509) d_X12_init_509 rfl (by decide) ?_
  refine Tr.newa_i (pc := 512) (x := 165) (N := 12600) d_X12_init_512 aw_int rfl (by decide) (by decide +kernel) ?_
  refine Tr.mc C_386 rfl ?_
  refine Tr.putF (pc := 514) d_X12_init_514 f_12_237 (by decide) (by decide) rfl rfl (show mT C_386 120 = (12, 121) by decide +kernel) ?_
  refine Tr.mc C_387 rfl ?_
  refine Tr.aload_n (pc := 517) (i := 0) d_X12_init_517 rfl rfl ?_
  refine Tr.iconst (pc := 518) d_X12_init_518 (by decide) ?_
  refine Tr.putf (pc := 519) d_X12_init_519 f_12_240 (by decide) (by decide) (show mT C_387 120 = (12, 121) by decide +kernel) ?_
  refine Tr.mc C_388 rfl ?_
  refine Tr.aload_n (pc := 522) (i := 0) d_X12_init_522 rfl rfl ?_
  refine Tr.sipush (pc := 523) d_X12_init_523 rfl (by decide) ?_
  refine Tr.newa_i (pc := 526) (x := 166) (N := 2100) d_X12_init_526 aw_int rfl (by decide) (by decide +kernel) ?_
  refine Tr.mc C_389 rfl ?_
  refine Tr.putF (pc := 528) d_X12_init_528 f_12_243 (by decide) (by decide) rfl rfl (show mT C_389 120 = (12, 121) by decide +kernel) ?_
  refine Tr.mc C_390 rfl ?_
  refine Tr.aload_n (pc := 531) (i := 0) d_X12_init_531 rfl rfl ?_
  refine Tr.sipush (pc := 532) d_X12_init_532 rfl (by decide) ?_
  refine Tr.newa_i (pc := 535) (x := 167) (N := 2100) d_X12_init_535 aw_int rfl (by decide) (by decide +kernel) ?_
  refine Tr.mc C_391 rfl ?_
  refine Tr.putF (pc := 537) d_X12_init_537 f_12_246 (by decide) (by decide) rfl rfl (show mT C_391 120 = (12, 121) by decide +kernel) ?_
  refine Tr.mc C_392 rfl ?_
  refine Tr.aload_n (pc := 540) (i := 0) d_X12_init_540 rfl rfl ?_
  refine Tr.sipush (pc := 541) d_X12_init_541 rfl (by decide) ?_
  refine Tr.newa_i (pc := 544) (x := 168) (N := 2100) d_X12_init_544 aw_int rfl (by decide) (by decide +kernel) ?_
  refine Tr.mc C_393 rfl ?_
  refine Tr.putF (pc := 546) d_X12_init_546 f_12_249 (by decide) (by decide) rfl rfl (show mT C_393 120 = (12, 121) by decide +kernel) ?_
  refine Tr.mc C_394 rfl ?_
  refine Tr.aload_n (pc := 549) (i := 0) d_X12_init_549 rfl rfl ?_
  refine Tr.iconst (pc := 550) d_X12_init_550 (by decide) ?_
  refine Tr.putf (pc := 551) d_X12_init_551 f_12_252 (by decide) (by decide) (show mT C_394 120 = (12, 121) by decide +kernel) ?_
  refine Tr.mc C_395 rfl ?_
  refine Tr.aload_n (pc := 554) (i := 0) d_X12_init_554 rfl rfl ?_
  refine Tr.sipush (pc := 555) d_X12_init_555 rfl (by decide) ?_
  refine Tr.newa_i (pc := 558) (x := 169) (N := 2100) d_X12_init_558 aw_int rfl (by decide) (by decide +kernel) ?_
  refine Tr.mc C_396 rfl ?_
  refine Tr.putF (pc := 560) d_X12_init_560 f_12_255 (by decide) (by decide) rfl rfl (show mT C_396 120 = (12, 121) by decide +kernel) ?_
  refine Tr.mc C_397 rfl ?_
  refine Tr.aload_n (pc := 563) (i := 0) d_X12_init_563 rfl rfl ?_
  refine Tr.sipush (pc := 564) d_X12_init_564 rfl (by decide) ?_
  refine Tr.newa_i (pc := 567) (x := 170) (N := 2100) d_X12_init_567 aw_int rfl (by decide) (by decide +kernel) ?_
  refine Tr.mc C_398 rfl ?_
  refine Tr.putF (pc := 569) d_X12_init_569 f_12_258 (by decide) (by decide) rfl rfl (show mT C_398 120 = (12, 121) by decide +kernel) ?_
  refine Tr.mc C_399 rfl ?_
  refine Tr.aload_n (pc := 572) (i := 0) d_X12_init_572 rfl rfl ?_
  refine Tr.sipush (pc := 573) d_X12_init_573 rfl (by decide) ?_
  refine Tr.newa_i (pc := 576) (x := 171) (N := 2100) d_X12_init_576 aw_int rfl (by decide) (by decide +kernel) ?_
  refine Tr.mc C_400 rfl ?_
  refine Tr.putF (pc := 578) d_X12_init_578 f_12_261 (by decide) (by decide) rfl rfl (show mT C_400 120 = (12, 121) by decide +kernel) ?_
  refine Tr.mc C_401 rfl ?_
  refine Tr.aload_n (pc := 581) (i := 0) d_X12_init_581 rfl rfl ?_
  refine Tr.sipush (pc := 582) d_X12_init_582 rfl (by decide) ?_
  refine Tr.newa_l (pc := 585) (x := 172) (N := 950) d_X12_init_585 aw_long rfl (by decide) (by decide +kernel) ?_
  refine Tr.mc C_402 rfl ?_
  refine Tr.putF (pc := 587) d_X12_init_587 f_12_264 (by decide) (by decide) rfl rfl (show mT C_402 120 = (12, 121) by decide +kernel) ?_
  refine Tr.mc C_403 rfl ?_
  refine Tr.aload_n (pc := 590) (i := 0) d_X12_init_590 rfl rfl ?_
  refine Tr.iconst (pc := 591) d_X12_init_591 (by decide) ?_
  refine Tr.putf (pc := 592) d_X12_init_592 f_12_267 (by decide) (by decide) (show mT C_403 120 = (12, 121) by decide +kernel) ?_
  refine Tr.mc C_404 rfl ?_
  refine Tr.aload_n (pc := 595) (i := 0) d_X12_init_595 rfl rfl ?_
  refine Tr.iconst (pc := 596) d_X12_init_596 (by decide) ?_
  refine Tr.putz (pc := 597) d_X12_init_597 f_12_270 (by decide) (show mT C_404 120 = (12, 121) by decide +kernel) (by decide) ?_
  refine Tr.mc C_405 rfl ?_
  refine Tr.aload_n (pc := 600) (i := 0) d_X12_init_600 rfl rfl ?_
  refine Tr.iconst (pc := 601) d_X12_init_601 (by decide) ?_
  refine Tr.putf (pc := 602) d_X12_init_602 f_12_273 (by decide) (by decide) (show mT C_405 120 = (12, 121) by decide +kernel) ?_
  refine Tr.mc C_406 rfl ?_
  refine Tr.aload_n (pc := 605) (i := 0) d_X12_init_605 rfl rfl ?_
  refine Tr.lconst (pc := 606) (v := 0) d_X12_init_606 rfl (by decide) ?_
  refine Tr.putf (pc := 607) d_X12_init_607 f_12_276 (by decide) (by decide) (show mT C_406 120 = (12, 121) by decide +kernel) ?_
  refine Tr.mc C_407 rfl ?_
  refine Tr.aload_n (pc := 610) (i := 0) d_X12_init_610 rfl rfl ?_
  refine Tr.iconst (pc := 611) d_X12_init_611 (by decide) ?_
  refine Tr.putf (pc := 612) d_X12_init_612 f_12_279 (by decide) (by decide) (show mT C_407 120 = (12, 121) by decide +kernel) ?_
  refine Tr.mc C_408 rfl ?_
  refine Tr.aload_n (pc := 615) (i := 0) d_X12_init_615 rfl rfl ?_
  refine Tr.iconst (pc := 616) d_X12_init_616 (by decide) ?_
  refine Tr.putf (pc := 617) d_X12_init_617 f_12_282 (by decide) (by decide) (show mT C_408 120 = (12, 121) by decide +kernel) ?_
  refine Tr.mc C_409 rfl ?_
  refine Tr.aload_n (pc := 620) (i := 0) d_X12_init_620 rfl rfl ?_
  refine Tr.iconst (pc := 621) d_X12_init_621 (by decide) ?_
  refine Tr.putf (pc := 622) d_X12_init_622 f_12_285 (by decide) (by decide) (show mT C_409 120 = (12, 121) by decide +kernel) ?_
  refine Tr.mc C_410 rfl ?_
  refine Tr.aload_n (pc := 625) (i := 0) d_X12_init_625 rfl rfl ?_
  refine Tr.iconst (pc := 626) d_X12_init_626 (by decide) ?_
  refine Tr.putf (pc := 627) d_X12_init_627 f_12_288 (by decide) (by decide) (show mT C_410 120 = (12, 121) by decide +kernel) ?_
  refine Tr.mc C_411 rfl ?_
  refine Tr.aload_n (pc := 630) (i := 0) d_X12_init_630 rfl rfl ?_
  refine Tr.bipush (pc := 631) d_X12_init_631 rfl (by decide) ?_
  refine Tr.newa_i (pc := 633) (x := 173) (N := 6) d_X12_init_633 aw_int rfl (by decide) (by decide +kernel) ?_
  refine Tr.mc C_412 rfl ?_
  refine Tr.putF (pc := 635) d_X12_init_635 f_12_291 (by decide) (by decide) rfl rfl (show mT C_412 120 = (12, 121) by decide +kernel) ?_
  refine Tr.mc C_413 rfl ?_
  refine Tr.aload_n (pc := 638) (i := 0) d_X12_init_638 rfl rfl ?_
  refine Tr.bipush (pc := 639) d_X12_init_639 rfl (by decide) ?_
  refine Tr.newa_i (pc := 641) (x := 174) (N := 24) d_X12_init_641 aw_int rfl (by decide) (by decide +kernel) ?_
  refine Tr.mc C_414 rfl ?_
  refine Tr.putF (pc := 643) d_X12_init_643 f_12_294 (by decide) (by decide) rfl rfl (show mT C_414 120 = (12, 121) by decide +kernel) ?_
  refine Tr.mc C_415 rfl ?_
  refine Tr.aload_n (pc := 646) (i := 0) d_X12_init_646 rfl rfl ?_
  refine Tr.bipush (pc := 647) d_X12_init_647 rfl (by decide) ?_
  refine Tr.newa_z (pc := 649) (x := 175) (N := 6) d_X12_init_649 aw_boolean rfl (by decide) (by decide +kernel) ?_
  refine Tr.mc C_416 rfl ?_
  refine Tr.putF (pc := 651) d_X12_init_651 f_12_297 (by decide) (by decide) rfl rfl (show mT C_416 120 = (12, 121) by decide +kernel) ?_
  refine Tr.mc C_417 rfl ?_
  refine Tr.aload_n (pc := 654) (i := 0) d_X12_init_654 rfl rfl ?_
  refine Tr.iconst (pc := 655) d_X12_init_655 (by decide) ?_
  refine Tr.putf (pc := 656) d_X12_init_656 f_12_300 (by decide) (by decide) (show mT C_417 120 = (12, 121) by decide +kernel) ?_
  refine Tr.mc C_418 rfl ?_
  refine Tr.aload_n (pc := 659) (i := 0) d_X12_init_659 rfl rfl ?_
  refine Tr.iconst (pc := 660) d_X12_init_660 (by decide) ?_
  refine Tr.putf (pc := 661) d_X12_init_661 f_12_303 (by decide) (by decide) (show mT C_418 120 = (12, 121) by decide +kernel) ?_
  refine Tr.mc C_419 rfl ?_
  refine Tr.aload_n (pc := 664) (i := 0) d_X12_init_664 rfl rfl ?_
  refine Tr.iconst (pc := 665) d_X12_init_665 (by decide) ?_
  refine Tr.putf (pc := 666) d_X12_init_666 f_12_306 (by decide) (by decide) (show mT C_419 120 = (12, 121) by decide +kernel) ?_
  refine Tr.mc C_420 rfl ?_
  refine Tr.aload_n (pc := 669) (i := 0) d_X12_init_669 rfl rfl ?_
  refine Tr.iconst (pc := 670) d_X12_init_670 (by decide) ?_
  refine Tr.putf (pc := 671) d_X12_init_671 f_12_309 (by decide) (by decide) (show mT C_420 120 = (12, 121) by decide +kernel) ?_
  refine Tr.mc C_421 rfl ?_
  refine Tr.aload_n (pc := 674) (i := 0) d_X12_init_674 rfl rfl ?_
  refine Tr.iconst (pc := 675) d_X12_init_675 (by decide) ?_
  refine Tr.putf (pc := 676) d_X12_init_676 f_12_312 (by decide) (by decide) (show mT C_421 120 = (12, 121) by decide +kernel) ?_
  refine Tr.mc C_422 rfl ?_
  refine Tr.aload_n (pc := 679) (i := 0) d_X12_init_679 rfl rfl ?_
  refine Tr.bipush (pc := 680) d_X12_init_680 rfl (by decide) ?_
  refine Tr.newa_i (pc := 682) (x := 176) (N := 8) d_X12_init_682 aw_int rfl (by decide) (by decide +kernel) ?_
  refine Tr.mc C_423 rfl ?_
  refine Tr.putF (pc := 684) d_X12_init_684 f_12_315 (by decide) (by decide) rfl rfl (show mT C_423 120 = (12, 121) by decide +kernel) ?_
  refine Tr.mc C_424 rfl ?_
  refine Tr.aload_n (pc := 687) (i := 0) d_X12_init_687 rfl rfl ?_
  refine Tr.iconst (pc := 688) d_X12_init_688 (by decide) ?_
  refine Tr.putf (pc := 689) d_X12_init_689 f_12_318 (by decide) (by decide) (show mT C_424 120 = (12, 121) by decide +kernel) ?_
  refine Tr.mc C_425 rfl ?_
  refine Tr.aload_n (pc := 692) (i := 0) d_X12_init_692 rfl rfl ?_
  refine Tr.sipush (pc := 693) d_X12_init_693 rfl (by decide) ?_
  refine Tr.newa_z (pc := 696) (x := 177) (N := 2200) d_X12_init_696 aw_boolean rfl (by decide) (by decide +kernel) ?_
  refine Tr.mc C_426 rfl ?_
  refine Tr.putF (pc := 698) d_X12_init_698 f_12_321 (by decide) (by decide) rfl rfl (show mT C_426 120 = (12, 121) by decide +kernel) ?_
  refine Tr.mc C_427 rfl ?_
  refine Tr.aload_n (pc := 701) (i := 0) d_X12_init_701 rfl rfl ?_
  refine Tr.sipush (pc := 702) d_X12_init_702 rfl (by decide) ?_
  refine Tr.newa_l (pc := 705) (x := 178) (N := 256) d_X12_init_705 aw_long rfl (by decide) (by decide +kernel) ?_
  refine Tr.mc C_428 rfl ?_
  refine Tr.putF (pc := 707) d_X12_init_707 f_12_324 (by decide) (by decide) rfl rfl (show mT C_428 120 = (12, 121) by decide +kernel) ?_
  refine Tr.mc C_429 rfl ?_
  refine Tr.aload_n (pc := 710) (i := 0) d_X12_init_710 rfl rfl ?_
  refine Tr.iconst (pc := 711) d_X12_init_711 (by decide) ?_
  refine Tr.putz (pc := 712) d_X12_init_712 f_12_327 (by decide) (show mT C_429 120 = (12, 121) by decide +kernel) (by decide) ?_
  refine Tr.mc C_430 rfl ?_
  refine Tr.aload_n (pc := 715) (i := 0) d_X12_init_715 rfl rfl ?_
  refine Tr.iconst (pc := 716) d_X12_init_716 (by decide) ?_
  refine Tr.newa_i (pc := 717) (x := 179) (N := 3) d_X12_init_717 aw_int rfl (by decide) (by decide +kernel) ?_
  refine Tr.mc C_431 rfl ?_
  refine Tr.putF (pc := 719) d_X12_init_719 f_12_330 (by decide) (by decide) rfl rfl (show mT C_431 120 = (12, 121) by decide +kernel) ?_
  refine Tr.mc C_432 rfl ?_
  refine Tr.aload_n (pc := 722) (i := 0) d_X12_init_722 rfl rfl ?_
  refine Tr.iconst (pc := 723) d_X12_init_723 (by decide) ?_
  refine Tr.putf (pc := 724) d_X12_init_724 f_12_333 (by decide) (by decide) (show mT C_432 120 = (12, 121) by decide +kernel) ?_
  refine Tr.mc C_433 rfl ?_
  refine Tr.aload_n (pc := 727) (i := 0) d_X12_init_727 rfl rfl ?_
  refine Tr.bipush (pc := 728) d_X12_init_728 rfl (by decide) ?_
  refine Tr.newa_i (pc := 730) (x := 180) (N := 36) d_X12_init_730 aw_int rfl (by decide) (by decide +kernel) ?_
  refine Tr.mc C_434 rfl ?_
  refine Tr.putF (pc := 732) d_X12_init_732 f_12_336 (by decide) (by decide) rfl rfl (show mT C_434 120 = (12, 121) by decide +kernel) ?_
  refine Tr.mc C_435 rfl ?_
  refine Tr.aload_n (pc := 735) (i := 0) d_X12_init_735 rfl rfl ?_
  refine Tr.bipush (pc := 736) d_X12_init_736 rfl (by decide) ?_
  refine Tr.newa_i (pc := 738) (x := 181) (N := 12) d_X12_init_738 aw_int rfl (by decide) (by decide +kernel) ?_
  refine Tr.mc C_436 rfl ?_
  refine Tr.putF (pc := 740) d_X12_init_740 f_12_339 (by decide) (by decide) rfl rfl (show mT C_436 120 = (12, 121) by decide +kernel) ?_
  refine Tr.mc C_437 rfl ?_
  refine Tr.aload_n (pc := 743) (i := 0) d_X12_init_743 rfl rfl ?_
  refine Tr.iconst (pc := 744) d_X12_init_744 (by decide) ?_
  refine Tr.putz (pc := 745) d_X12_init_745 f_12_342 (by decide) (show mT C_437 120 = (12, 121) by decide +kernel) (by decide) ?_
  refine Tr.mc C_438 rfl ?_
  refine Tr.aload_n (pc := 748) (i := 0) d_X12_init_748 rfl rfl ?_
  refine Tr.iconst (pc := 749) d_X12_init_749 (by decide) ?_
  refine Tr.newa_i (pc := 750) (x := 182) (N := 4) d_X12_init_750 aw_int rfl (by decide) (by decide +kernel) ?_
  refine Tr.mc C_439 rfl ?_
  refine Tr.putF (pc := 752) d_X12_init_752 f_12_345 (by decide) (by decide) rfl rfl (show mT C_439 120 = (12, 121) by decide +kernel) ?_
  refine Tr.mc C_440 rfl ?_
  refine Tr.aload_n (pc := 755) (i := 0) d_X12_init_755 rfl rfl ?_
  refine Tr.bipush (pc := 756) d_X12_init_756 rfl (by decide) ?_
  refine Tr.newa_l (pc := 758) (x := 183) (N := 12) d_X12_init_758 aw_long rfl (by decide) (by decide +kernel) ?_
  refine Tr.mc C_441 rfl ?_
  refine Tr.putF (pc := 760) d_X12_init_760 f_12_348 (by decide) (by decide) rfl rfl (show mT C_441 120 = (12, 121) by decide +kernel) ?_
  refine Tr.mc C_442 rfl ?_
  refine Tr.aload_n (pc := 763) (i := 0) d_X12_init_763 rfl rfl ?_
  refine Tr.bipush (pc := 764) d_X12_init_764 rfl (by decide) ?_
  refine Tr.newa_i (pc := 766) (x := 184) (N := 36) d_X12_init_766 aw_int rfl (by decide) (by decide +kernel) ?_
  refine Tr.mc C_443 rfl ?_
  refine Tr.putF (pc := 768) d_X12_init_768 f_12_351 (by decide) (by decide) rfl rfl (show mT C_443 120 = (12, 121) by decide +kernel) ?_
  refine Tr.mc C_444 rfl ?_
  refine Tr.aload_n (pc := 771) (i := 0) d_X12_init_771 rfl rfl ?_
  refine Tr.iconst (pc := 772) d_X12_init_772 (by decide) ?_
  refine Tr.putf (pc := 773) d_X12_init_773 f_12_354 (by decide) (by decide) (show mT C_444 120 = (12, 121) by decide +kernel) ?_
  refine Tr.mc C_445 rfl ?_
  refine Tr.aload_n (pc := 776) (i := 0) d_X12_init_776 rfl rfl ?_
  refine Tr.bipush (pc := 777) d_X12_init_777 rfl (by decide) ?_
  refine Tr.newa_i (pc := 779) (x := 185) (N := 6) d_X12_init_779 aw_int rfl (by decide) (by decide +kernel) ?_
  refine Tr.mc C_446 rfl ?_
  refine Tr.putF (pc := 781) d_X12_init_781 f_12_357 (by decide) (by decide) rfl rfl (show mT C_446 120 = (12, 121) by decide +kernel) ?_
  refine Tr.mc C_447 rfl ?_
  refine Tr.aload_n (pc := 784) (i := 0) d_X12_init_784 rfl rfl ?_
  refine Tr.bipush (pc := 785) d_X12_init_785 rfl (by decide) ?_
  refine Tr.newa_i (pc := 787) (x := 186) (N := 6) d_X12_init_787 aw_int rfl (by decide) (by decide +kernel) ?_
  refine Tr.mc C_448 rfl ?_
  refine Tr.putF (pc := 789) d_X12_init_789 f_12_360 (by decide) (by decide) rfl rfl (show mT C_448 120 = (12, 121) by decide +kernel) ?_
  refine Tr.mc C_449 rfl ?_
  refine Tr.aload_n (pc := 792) (i := 0) d_X12_init_792 rfl rfl ?_
  refine Tr.bipush (pc := 793) d_X12_init_793 rfl (by decide) ?_
  refine Tr.newa_i (pc := 795) (x := 187) (N := 6) d_X12_init_795 aw_int rfl (by decide) (by decide +kernel) ?_
  refine Tr.mc C_450 rfl ?_
  refine Tr.putF (pc := 797) d_X12_init_797 f_12_363 (by decide) (by decide) rfl rfl (show mT C_450 120 = (12, 121) by decide +kernel) ?_
  refine Tr.mc C_451 rfl ?_
  refine Tr.aload_n (pc := 800) (i := 0) d_X12_init_800 rfl rfl ?_
  refine Tr.iconst (pc := 801) d_X12_init_801 (by decide) ?_
  refine Tr.putf (pc := 802) d_X12_init_802 f_12_366 (by decide) (by decide) (show mT C_451 120 = (12, 121) by decide +kernel) ?_
  refine Tr.mc C_452 rfl ?_
  refine Tr.aload_n (pc := 805) (i := 0) d_X12_init_805 rfl rfl ?_
  refine Tr.bipush (pc := 806) d_X12_init_806 rfl (by decide) ?_
  refine Tr.newa_i (pc := 808) (x := 188) (N := 6) d_X12_init_808 aw_int rfl (by decide) (by decide +kernel) ?_
  refine Tr.mc C_453 rfl ?_
  refine Tr.putF (pc := 810) d_X12_init_810 f_12_369 (by decide) (by decide) rfl rfl (show mT C_453 120 = (12, 121) by decide +kernel) ?_
  refine Tr.mc C_454 rfl ?_
  refine Tr.aload_n (pc := 813) (i := 0) d_X12_init_813 rfl rfl ?_
  refine Tr.bipush (pc := 814) d_X12_init_814 rfl (by decide) ?_
  refine Tr.newa_i (pc := 816) (x := 189) (N := 6) d_X12_init_816 aw_int rfl (by decide) (by decide +kernel) ?_
  refine Tr.mc C_455 rfl ?_
  refine Tr.putF (pc := 818) d_X12_init_818 f_12_372 (by decide) (by decide) rfl rfl (show mT C_455 120 = (12, 121) by decide +kernel) ?_
  refine Tr.mc C_456 rfl ?_
  refine Tr.aload_n (pc := 821) (i := 0) d_X12_init_821 rfl rfl ?_
  refine Tr.sipush (pc := 822) d_X12_init_822 rfl (by decide) ?_
  refine Tr.newa_l (pc := 825) (x := 190) (N := 201) d_X12_init_825 aw_long rfl (by decide) (by decide +kernel) ?_
  refine Tr.mc C_457 rfl ?_
  refine Tr.putF (pc := 827) d_X12_init_827 f_12_375 (by decide) (by decide) rfl rfl (show mT C_457 120 = (12, 121) by decide +kernel) ?_
  refine Tr.mc C_458 rfl ?_
  refine Tr.aload_n (pc := 830) (i := 0) d_X12_init_830 rfl rfl ?_
  refine Tr.getf (pc := 831) d_X12_init_831 f_12_54 (by decide) (by decide) (show mT C_458 120 = (12, 121) by decide +kernel) ?_
  refine Tr.tp 123 (by decide +kernel) ?_
  refine Tr.iconst (pc := 834) d_X12_init_834 (by decide) ?_
  refine Tr.iconst (pc := 835) d_X12_init_835 (by decide) ?_
  refine Tr.iast (pc := 836) d_X12_init_836 (show mT C_458 123 = (20, 2) by decide +kernel) (by decide) (by decide) ?_
  refine Tr.mc C_459 rfl ?_
  refine Tr.aload_n (pc := 837) (i := 0) d_X12_init_837 rfl rfl ?_
  refine Tr.getf (pc := 838) d_X12_init_838 f_12_57 (by decide) (by decide) (show mT C_459 120 = (12, 121) by decide +kernel) ?_
  refine Tr.tp 124 (by decide +kernel) ?_
  refine Tr.iconst (pc := 841) d_X12_init_841 (by decide) ?_
  refine Tr.iconst (pc := 842) d_X12_init_842 (by decide) ?_
  refine Tr.iast (pc := 843) d_X12_init_843 (show mT C_459 124 = (20, 2) by decide +kernel) (by decide) (by decide) ?_
  refine Tr.mc C_460 rfl ?_
  refine Tr.aload_n (pc := 844) (i := 0) d_X12_init_844 rfl rfl ?_
  refine Tr.getf (pc := 845) d_X12_init_845 f_12_51 (by decide) (by decide) (show mT C_460 120 = (12, 121) by decide +kernel) ?_
  refine Tr.tp 122 (by decide +kernel) ?_
  refine Tr.iconst (pc := 848) d_X12_init_848 (by decide) ?_
  refine Tr.iconst (pc := 849) d_X12_init_849 (by decide) ?_
  refine Tr.iast (pc := 850) d_X12_init_850 (show mT C_460 122 = (20, 2) by decide +kernel) (by decide) (by decide) ?_
  refine Tr.mc C_461 rfl ?_
  exact Tr.vret (pc := 851) d_X12_init_851 rfl ⟨rfl, rfl⟩
set_option maxRecDepth 100000 in
set_option maxHeartbeats 4000000 in
theorem ct_law {l : Launch} {K : EC} (hN : e_nst K) {Q : Mem → Option PV → Prop} (k : Tr l K 60 mL_law 18 [(3, (0, 0)), (2, (2, 120)), (1, (2, 0)), (0, (2, (-2)))] [] C_461 Q) : Tr l K 60 mL_law 0 [(0, (2, -2))] [] C_0 Q := by
  refine Tr.new (pc := 0) (x := 0) d_L_law_0 n_13_7 (by decide) (by decide +kernel) ?_
  refine Tr.mc C_1 rfl ?_
  refine Tr.dup (pc := 3) d_L_law_3 ne21 ?_
  refine Tr.callI (pc := 4) (as := []) d_L_law_4 (Or.inl s_13_9) ok_X11_init rfl rfl (Nat.le_of_ble_eq_true rfl) (Nat.le_of_ble_eq_true rfl) (by decide) ?_
  refine Tr.imp (ct_21 (l := l) hN) ?_
  rintro _ _ ⟨rfl, rfl⟩
  refine Tr.sc [_] rfl ?_
  refine Tr.astore_n (pc := 7) (i := 1) (ls2 := [(1, (2, 0)), (0, (2, (-2)))]) d_L_law_7 rfl (by decide) rfl ?_
  refine Tr.new (pc := 8) (x := 120) d_L_law_8 n_13_10 (by decide) (by decide +kernel) ?_
  refine Tr.mc C_267 rfl ?_
  refine Tr.dup (pc := 11) d_L_law_11 ne21 ?_
  refine Tr.callI (pc := 12) (as := []) d_L_law_12 (Or.inl s_13_12) ok_X12_init rfl rfl (Nat.le_of_ble_eq_true rfl) (Nat.le_of_ble_eq_true rfl) (by decide) ?_
  refine Tr.imp (ct_22 (l := l) hN) ?_
  rintro _ _ ⟨rfl, rfl⟩
  refine Tr.sc [_] rfl ?_
  refine Tr.astore_n (pc := 15) (i := 2) (ls2 := [(2, (2, 120)), (1, (2, 0)), (0, (2, (-2)))]) d_L_law_15 rfl (by decide) rfl ?_
  refine Tr.iconst (pc := 16) d_L_law_16 (by decide) ?_
  refine Tr.istore_n (pc := 17) (i := 3) (ls2 := [(3, (0, 0)), (2, (2, 120)), (1, (2, 0)), (0, (2, (-2)))]) d_L_law_17 rfl (by decide) rfl ?_
  exact k
