theorem d_X12_fit_121 : decode mX12_fit.2.2.1 121 = .ok (.iastore, 1) := by decide +kernel
theorem d_X12_fit_122 : decode mX12_fit.2.2.1 122 = .ok (.aload_n 0, 1) := by decide +kernel
theorem d_X12_fit_123 : decode mX12_fit.2.2.1 123 = .ok (.getfield 348, 3) := by decide +kernel
theorem d_X12_fit_126 : decode mX12_fit.2.2.1 126 = .ok (.iload_n 2, 1) := by decide +kernel
theorem d_X12_fit_127 : decode mX12_fit.2.2.1 127 = .ok (.aload_n 0, 1) := by decide +kernel
theorem d_X12_fit_128 : decode mX12_fit.2.2.1 128 = .ok (.getfield 204, 3) := by decide +kernel
theorem d_X12_fit_131 : decode mX12_fit.2.2.1 131 = .ok (.aload_n 0, 1) := by decide +kernel
theorem d_X12_fit_132 : decode mX12_fit.2.2.1 132 = .ok (.getfield 351, 3) := by decide +kernel
theorem d_X12_fit_135 : decode mX12_fit.2.2.1 135 = .ok (.iconst 3, 1) := by decide +kernel
theorem d_X12_fit_136 : decode mX12_fit.2.2.1 136 = .ok (.iload_n 2, 1) := by decide +kernel
theorem d_X12_fit_137 : decode mX12_fit.2.2.1 137 = .ok (.imul, 1) := by decide +kernel
theorem d_X12_fit_138 : decode mX12_fit.2.2.1 138 = .ok (.iaload, 1) := by decide +kernel
theorem d_X12_fit_139 : decode mX12_fit.2.2.1 139 = .ok (.i2l, 1) := by decide +kernel
theorem d_X12_fit_140 : decode mX12_fit.2.2.1 140 = .ok (.aload_n 0, 1) := by decide +kernel
theorem d_X12_fit_141 : decode mX12_fit.2.2.1 141 = .ok (.iload_n 1, 1) := by decide +kernel
theorem d_X12_fit_142 : decode mX12_fit.2.2.1 142 = .ok (.iconst 0, 1) := by decide +kernel
theorem d_X12_fit_143 : decode mX12_fit.2.2.1 143 = .ok (.invokevirtual 565, 3) := by decide +kernel
theorem d_X12_fit_146 : decode mX12_fit.2.2.1 146 = .ok (.i2l, 1) := by decide +kernel
theorem d_X12_fit_147 : decode mX12_fit.2.2.1 147 = .ok (.lmul, 1) := by decide +kernel
theorem d_X12_fit_148 : decode mX12_fit.2.2.1 148 = .ok (.lsub, 1) := by decide +kernel
theorem d_X12_fit_149 : decode mX12_fit.2.2.1 149 = .ok (.aload_n 0, 1) := by decide +kernel
theorem d_X12_fit_150 : decode mX12_fit.2.2.1 150 = .ok (.getfield 351, 3) := by decide +kernel
theorem d_X12_fit_153 : decode mX12_fit.2.2.1 153 = .ok (.iconst 3, 1) := by decide +kernel
theorem d_X12_fit_154 : decode mX12_fit.2.2.1 154 = .ok (.iload_n 2, 1) := by decide +kernel
theorem d_X12_fit_155 : decode mX12_fit.2.2.1 155 = .ok (.imul, 1) := by decide +kernel
theorem d_X12_fit_156 : decode mX12_fit.2.2.1 156 = .ok (.iconst 1, 1) := by decide +kernel
theorem d_X12_fit_157 : decode mX12_fit.2.2.1 157 = .ok (.iadd, 1) := by decide +kernel
theorem d_X12_fit_158 : decode mX12_fit.2.2.1 158 = .ok (.iaload, 1) := by decide +kernel
theorem d_X12_fit_159 : decode mX12_fit.2.2.1 159 = .ok (.i2l, 1) := by decide +kernel
theorem d_X12_fit_160 : decode mX12_fit.2.2.1 160 = .ok (.aload_n 0, 1) := by decide +kernel
theorem d_X12_fit_161 : decode mX12_fit.2.2.1 161 = .ok (.iload_n 1, 1) := by decide +kernel
theorem d_X12_fit_162 : decode mX12_fit.2.2.1 162 = .ok (.iconst 3, 1) := by decide +kernel
theorem d_X12_fit_163 : decode mX12_fit.2.2.1 163 = .ok (.invokevirtual 565, 3) := by decide +kernel
theorem d_X12_fit_166 : decode mX12_fit.2.2.1 166 = .ok (.i2l, 1) := by decide +kernel
theorem d_X12_fit_167 : decode mX12_fit.2.2.1 167 = .ok (.lmul, 1) := by decide +kernel
theorem d_X12_fit_168 : decode mX12_fit.2.2.1 168 = .ok (.lsub, 1) := by decide +kernel
theorem d_X12_fit_169 : decode mX12_fit.2.2.1 169 = .ok (.aload_n 0, 1) := by decide +kernel
theorem d_X12_fit_170 : decode mX12_fit.2.2.1 170 = .ok (.getfield 351, 3) := by decide +kernel
theorem d_X12_fit_173 : decode mX12_fit.2.2.1 173 = .ok (.iconst 3, 1) := by decide +kernel
theorem d_X12_fit_174 : decode mX12_fit.2.2.1 174 = .ok (.iload_n 2, 1) := by decide +kernel
theorem d_X12_fit_175 : decode mX12_fit.2.2.1 175 = .ok (.imul, 1) := by decide +kernel
theorem d_X12_fit_176 : decode mX12_fit.2.2.1 176 = .ok (.iconst 2, 1) := by decide +kernel
theorem d_X12_fit_177 : decode mX12_fit.2.2.1 177 = .ok (.iadd, 1) := by decide +kernel
theorem d_X12_fit_178 : decode mX12_fit.2.2.1 178 = .ok (.iaload, 1) := by decide +kernel
theorem d_X12_fit_179 : decode mX12_fit.2.2.1 179 = .ok (.i2l, 1) := by decide +kernel
theorem d_X12_fit_180 : decode mX12_fit.2.2.1 180 = .ok (.aload_n 0, 1) := by decide +kernel
theorem d_X12_fit_181 : decode mX12_fit.2.2.1 181 = .ok (.iload_n 1, 1) := by decide +kernel
theorem d_X12_fit_182 : decode mX12_fit.2.2.1 182 = .ok (.iconst 4, 1) := by decide +kernel
theorem d_X12_fit_183 : decode mX12_fit.2.2.1 183 = .ok (.invokevirtual 565, 3) := by decide +kernel
theorem d_X12_fit_186 : decode mX12_fit.2.2.1 186 = .ok (.i2l, 1) := by decide +kernel
theorem d_X12_fit_187 : decode mX12_fit.2.2.1 187 = .ok (.lmul, 1) := by decide +kernel
theorem d_X12_fit_188 : decode mX12_fit.2.2.1 188 = .ok (.lsub, 1) := by decide +kernel
theorem d_X12_fit_189 : decode mX12_fit.2.2.1 189 = .ok (.lastore, 1) := by decide +kernel
theorem d_X12_fit_190 : decode mX12_fit.2.2.1 190 = .ok (.iinc 2 1, 3) := by decide +kernel
theorem d_X12_fit_193 : decode mX12_fit.2.2.1 193 = .ok (.goto (-174), 3) := by decide +kernel
theorem d_X12_fit_196 : decode mX12_fit.2.2.1 196 = .ok (.lconst 0, 1) := by decide +kernel
theorem d_X12_fit_197 : decode mX12_fit.2.2.1 197 = .ok (.lstore_n 2, 1) := by decide +kernel
theorem d_X12_fit_198 : decode mX12_fit.2.2.1 198 = .ok (.aload_n 0, 1) := by decide +kernel
theorem d_X12_fit_199 : decode mX12_fit.2.2.1 199 = .ok (.getfield 345, 3) := by decide +kernel
theorem d_X12_fit_202 : decode mX12_fit.2.2.1 202 = .ok (.iconst 3, 1) := by decide +kernel
theorem d_X12_fit_203 : decode mX12_fit.2.2.1 203 = .ok (.iconst 0, 1) := by decide +kernel
theorem d_X12_fit_204 : decode mX12_fit.2.2.1 204 = .ok (.iastore, 1) := by decide +kernel
theorem d_X12_fit_205 : decode mX12_fit.2.2.1 205 = .ok (.iconst 0, 1) := by decide +kernel
theorem d_X12_fit_206 : decode mX12_fit.2.2.1 206 = .ok (.istore 4, 2) := by decide +kernel
theorem d_X12_fit_208 : decode mX12_fit.2.2.1 208 = .ok (.iload 4, 2) := by decide +kernel
theorem d_X12_fit_210 : decode mX12_fit.2.2.1 210 = .ok (.sipush 4096, 3) := by decide +kernel
theorem d_X12_fit_213 : decode mX12_fit.2.2.1 213 = .ok (.if_icmp .ge 218, 3) := by decide +kernel
theorem d_X12_fit_216 : decode mX12_fit.2.2.1 216 = .ok (.lconst 0, 1) := by decide +kernel
theorem d_X12_fit_217 : decode mX12_fit.2.2.1 217 = .ok (.lstore 5, 2) := by decide +kernel
theorem d_X12_fit_219 : decode mX12_fit.2.2.1 219 = .ok (.iconst 0, 1) := by decide +kernel
theorem d_X12_fit_220 : decode mX12_fit.2.2.1 220 = .ok (.istore 7, 2) := by decide +kernel
theorem d_X12_fit_222 : decode mX12_fit.2.2.1 222 = .ok (.iload 7, 2) := by decide +kernel
theorem d_X12_fit_224 : decode mX12_fit.2.2.1 224 = .ok (.aload_n 0, 1) := by decide +kernel
theorem d_X12_fit_225 : decode mX12_fit.2.2.1 225 = .ok (.getfield 333, 3) := by decide +kernel
theorem d_X12_fit_228 : decode mX12_fit.2.2.1 228 = .ok (.if_icmp .ge 107, 3) := by decide +kernel
theorem d_X12_fit_231 : decode mX12_fit.2.2.1 231 = .ok (.aload_n 0, 1) := by decide +kernel
theorem d_X12_fit_232 : decode mX12_fit.2.2.1 232 = .ok (.getfield 348, 3) := by decide +kernel
theorem d_X12_fit_235 : decode mX12_fit.2.2.1 235 = .ok (.iload 7, 2) := by decide +kernel
theorem d_X12_fit_237 : decode mX12_fit.2.2.1 237 = .ok (.laload, 1) := by decide +kernel
theorem d_X12_fit_238 : decode mX12_fit.2.2.1 238 = .ok (.aload_n 0, 1) := by decide +kernel
theorem d_X12_fit_239 : decode mX12_fit.2.2.1 239 = .ok (.getfield 351, 3) := by decide +kernel
theorem d_X12_fit_242 : decode mX12_fit.2.2.1 242 = .ok (.iconst 3, 1) := by decide +kernel
theorem d_X12_fit_243 : decode mX12_fit.2.2.1 243 = .ok (.iload 7, 2) := by decide +kernel
theorem d_X12_fit_245 : decode mX12_fit.2.2.1 245 = .ok (.imul, 1) := by decide +kernel
theorem d_X12_fit_246 : decode mX12_fit.2.2.1 246 = .ok (.iaload, 1) := by decide +kernel
theorem d_X12_fit_247 : decode mX12_fit.2.2.1 247 = .ok (.i2l, 1) := by decide +kernel
theorem d_X12_fit_248 : decode mX12_fit.2.2.1 248 = .ok (.iload 4, 2) := by decide +kernel
theorem d_X12_fit_250 : decode mX12_fit.2.2.1 250 = .ok (.bipush 8, 2) := by decide +kernel
theorem d_X12_fit_252 : decode mX12_fit.2.2.1 252 = .ok (.ishr, 1) := by decide +kernel
theorem d_X12_fit_253 : decode mX12_fit.2.2.1 253 = .ok (.i2l, 1) := by decide +kernel
theorem d_X12_fit_254 : decode mX12_fit.2.2.1 254 = .ok (.lmul, 1) := by decide +kernel
theorem d_X12_fit_255 : decode mX12_fit.2.2.1 255 = .ok (.ladd, 1) := by decide +kernel
theorem d_X12_fit_256 : decode mX12_fit.2.2.1 256 = .ok (.aload_n 0, 1) := by decide +kernel
theorem d_X12_fit_257 : decode mX12_fit.2.2.1 257 = .ok (.getfield 351, 3) := by decide +kernel
theorem d_X12_fit_260 : decode mX12_fit.2.2.1 260 = .ok (.iconst 3, 1) := by decide +kernel
theorem d_X12_fit_261 : decode mX12_fit.2.2.1 261 = .ok (.iload 7, 2) := by decide +kernel
theorem d_X12_fit_263 : decode mX12_fit.2.2.1 263 = .ok (.imul, 1) := by decide +kernel
theorem d_X12_fit_264 : decode mX12_fit.2.2.1 264 = .ok (.iconst 1, 1) := by decide +kernel
theorem d_X12_fit_265 : decode mX12_fit.2.2.1 265 = .ok (.iadd, 1) := by decide +kernel
theorem d_X12_fit_266 : decode mX12_fit.2.2.1 266 = .ok (.iaload, 1) := by decide +kernel
theorem d_X12_fit_267 : decode mX12_fit.2.2.1 267 = .ok (.i2l, 1) := by decide +kernel
theorem d_X12_fit_268 : decode mX12_fit.2.2.1 268 = .ok (.iload 4, 2) := by decide +kernel
theorem d_X12_fit_270 : decode mX12_fit.2.2.1 270 = .ok (.iconst 4, 1) := by decide +kernel
theorem d_X12_fit_271 : decode mX12_fit.2.2.1 271 = .ok (.ishr, 1) := by decide +kernel
theorem d_X12_fit_272 : decode mX12_fit.2.2.1 272 = .ok (.bipush 15, 2) := by decide +kernel
theorem d_X12_fit_274 : decode mX12_fit.2.2.1 274 = .ok (.iand, 1) := by decide +kernel
theorem d_X12_fit_275 : decode mX12_fit.2.2.1 275 = .ok (.i2l, 1) := by decide +kernel
theorem d_X12_fit_276 : decode mX12_fit.2.2.1 276 = .ok (.lmul, 1) := by decide +kernel
theorem d_X12_fit_277 : decode mX12_fit.2.2.1 277 = .ok (.ladd, 1) := by decide +kernel
theorem d_X12_fit_278 : decode mX12_fit.2.2.1 278 = .ok (.aload_n 0, 1) := by decide +kernel
theorem d_X12_fit_279 : decode mX12_fit.2.2.1 279 = .ok (.getfield 351, 3) := by decide +kernel
theorem d_X12_fit_282 : decode mX12_fit.2.2.1 282 = .ok (.iconst 3, 1) := by decide +kernel
theorem d_X12_fit_283 : decode mX12_fit.2.2.1 283 = .ok (.iload 7, 2) := by decide +kernel
theorem d_X12_fit_285 : decode mX12_fit.2.2.1 285 = .ok (.imul, 1) := by decide +kernel
theorem d_X12_fit_286 : decode mX12_fit.2.2.1 286 = .ok (.iconst 2, 1) := by decide +kernel
theorem d_X12_fit_287 : decode mX12_fit.2.2.1 287 = .ok (.iadd, 1) := by decide +kernel
theorem d_X12_fit_288 : decode mX12_fit.2.2.1 288 = .ok (.iaload, 1) := by decide +kernel
theorem d_X12_fit_289 : decode mX12_fit.2.2.1 289 = .ok (.i2l, 1) := by decide +kernel
theorem d_X12_fit_290 : decode mX12_fit.2.2.1 290 = .ok (.iload 4, 2) := by decide +kernel
theorem d_X12_fit_292 : decode mX12_fit.2.2.1 292 = .ok (.bipush 15, 2) := by decide +kernel
theorem d_X12_fit_294 : decode mX12_fit.2.2.1 294 = .ok (.iand, 1) := by decide +kernel
theorem d_X12_fit_295 : decode mX12_fit.2.2.1 295 = .ok (.i2l, 1) := by decide +kernel
theorem d_X12_fit_296 : decode mX12_fit.2.2.1 296 = .ok (.lmul, 1) := by decide +kernel
theorem d_X12_fit_297 : decode mX12_fit.2.2.1 297 = .ok (.ladd, 1) := by decide +kernel
theorem d_X12_fit_298 : decode mX12_fit.2.2.1 298 = .ok (.aload_n 0, 1) := by decide +kernel
theorem d_X12_fit_299 : decode mX12_fit.2.2.1 299 = .ok (.getfield 339, 3) := by decide +kernel
theorem d_X12_fit_302 : decode mX12_fit.2.2.1 302 = .ok (.iload 7, 2) := by decide +kernel
theorem d_X12_fit_304 : decode mX12_fit.2.2.1 304 = .ok (.iaload, 1) := by decide +kernel
theorem d_X12_fit_305 : decode mX12_fit.2.2.1 305 = .ok (.i2l, 1) := by decide +kernel
theorem d_X12_fit_306 : decode mX12_fit.2.2.1 306 = .ok (.lsub, 1) := by decide +kernel
theorem d_X12_fit_307 : decode mX12_fit.2.2.1 307 = .ok (.lstore 8, 2) := by decide +kernel
theorem d_X12_fit_309 : decode mX12_fit.2.2.1 309 = .ok (.lload 5, 2) := by decide +kernel
theorem d_X12_fit_311 : decode mX12_fit.2.2.1 311 = .ok (.lload 8, 2) := by decide +kernel
theorem d_X12_fit_313 : decode mX12_fit.2.2.1 313 = .ok (.lconst 0, 1) := by decide +kernel
theorem d_X12_fit_314 : decode mX12_fit.2.2.1 314 = .ok (.lcmp, 1) := by decide +kernel
theorem d_X12_fit_315 : decode mX12_fit.2.2.1 315 = .ok (.ifCond .ge 9, 3) := by decide +kernel
theorem d_X12_fit_324 : decode mX12_fit.2.2.1 324 = .ok (.lload 8, 2) := by decide +kernel
theorem d_X12_fit_318 : decode mX12_fit.2.2.1 318 = .ok (.lload 8, 2) := by decide +kernel
theorem d_X12_fit_320 : decode mX12_fit.2.2.1 320 = .ok (.lneg, 1) := by decide +kernel
theorem d_X12_fit_321 : decode mX12_fit.2.2.1 321 = .ok (.goto 5, 3) := by decide +kernel
theorem d_X12_fit_326 : decode mX12_fit.2.2.1 326 = .ok (.ladd, 1) := by decide +kernel
theorem d_X12_fit_327 : decode mX12_fit.2.2.1 327 = .ok (.lstore 5, 2) := by decide +kernel
theorem d_X12_fit_329 : decode mX12_fit.2.2.1 329 = .ok (.iinc 7 1, 3) := by decide +kernel
theorem d_X12_fit_332 : decode mX12_fit.2.2.1 332 = .ok (.goto (-110), 3) := by decide +kernel
theorem d_X12_fit_335 : decode mX12_fit.2.2.1 335 = .ok (.aload_n 0, 1) := by decide +kernel
theorem d_X12_fit_336 : decode mX12_fit.2.2.1 336 = .ok (.getfield 345, 3) := by decide +kernel
theorem d_X12_fit_339 : decode mX12_fit.2.2.1 339 = .ok (.iconst 3, 1) := by decide +kernel
theorem d_X12_fit_340 : decode mX12_fit.2.2.1 340 = .ok (.iaload, 1) := by decide +kernel
theorem d_X12_fit_341 : decode mX12_fit.2.2.1 341 = .ok (.ifCond .le 20, 3) := by decide +kernel
theorem d_X12_fit_361 : decode mX12_fit.2.2.1 361 = .ok (.aload_n 0, 1) := by decide +kernel
theorem d_X12_fit_362 : decode mX12_fit.2.2.1 362 = .ok (.getfield 345, 3) := by decide +kernel
theorem d_X12_fit_365 : decode mX12_fit.2.2.1 365 = .ok (.iconst 3, 1) := by decide +kernel
theorem d_X12_fit_366 : decode mX12_fit.2.2.1 366 = .ok (.iaload, 1) := by decide +kernel
theorem d_X12_fit_367 : decode mX12_fit.2.2.1 367 = .ok (.ifCond .le 13, 3) := by decide +kernel
theorem d_X12_fit_380 : decode mX12_fit.2.2.1 380 = .ok (.lload 5, 2) := by decide +kernel
theorem d_X12_fit_382 : decode mX12_fit.2.2.1 382 = .ok (.lstore_n 2, 1) := by decide +kernel
theorem d_X12_fit_383 : decode mX12_fit.2.2.1 383 = .ok (.aload_n 0, 1) := by decide +kernel
theorem d_X12_fit_384 : decode mX12_fit.2.2.1 384 = .ok (.getfield 345, 3) := by decide +kernel
theorem d_X12_fit_387 : decode mX12_fit.2.2.1 387 = .ok (.iconst 0, 1) := by decide +kernel
theorem d_X12_fit_388 : decode mX12_fit.2.2.1 388 = .ok (.iload 4, 2) := by decide +kernel
theorem d_X12_fit_390 : decode mX12_fit.2.2.1 390 = .ok (.bipush 8, 2) := by decide +kernel
theorem d_X12_fit_392 : decode mX12_fit.2.2.1 392 = .ok (.ishr, 1) := by decide +kernel
theorem d_X12_fit_393 : decode mX12_fit.2.2.1 393 = .ok (.iastore, 1) := by decide +kernel
theorem d_X12_fit_394 : decode mX12_fit.2.2.1 394 = .ok (.aload_n 0, 1) := by decide +kernel
theorem d_X12_fit_395 : decode mX12_fit.2.2.1 395 = .ok (.getfield 345, 3) := by decide +kernel
theorem d_X12_fit_398 : decode mX12_fit.2.2.1 398 = .ok (.iconst 1, 1) := by decide +kernel
theorem d_X12_fit_399 : decode mX12_fit.2.2.1 399 = .ok (.iload 4, 2) := by decide +kernel
theorem d_X12_fit_401 : decode mX12_fit.2.2.1 401 = .ok (.iconst 4, 1) := by decide +kernel
theorem d_X12_fit_402 : decode mX12_fit.2.2.1 402 = .ok (.ishr, 1) := by decide +kernel
theorem d_X12_fit_403 : decode mX12_fit.2.2.1 403 = .ok (.bipush 15, 2) := by decide +kernel
theorem d_X12_fit_405 : decode mX12_fit.2.2.1 405 = .ok (.iand, 1) := by decide +kernel
theorem d_X12_fit_406 : decode mX12_fit.2.2.1 406 = .ok (.iastore, 1) := by decide +kernel
theorem d_X12_fit_407 : decode mX12_fit.2.2.1 407 = .ok (.aload_n 0, 1) := by decide +kernel
theorem d_X12_fit_408 : decode mX12_fit.2.2.1 408 = .ok (.getfield 345, 3) := by decide +kernel
theorem d_X12_fit_411 : decode mX12_fit.2.2.1 411 = .ok (.iconst 2, 1) := by decide +kernel
theorem d_X12_fit_412 : decode mX12_fit.2.2.1 412 = .ok (.iload 4, 2) := by decide +kernel
theorem d_X12_fit_414 : decode mX12_fit.2.2.1 414 = .ok (.bipush 15, 2) := by decide +kernel
theorem d_X12_fit_416 : decode mX12_fit.2.2.1 416 = .ok (.iand, 1) := by decide +kernel
theorem d_X12_fit_417 : decode mX12_fit.2.2.1 417 = .ok (.iastore, 1) := by decide +kernel
theorem d_X12_fit_418 : decode mX12_fit.2.2.1 418 = .ok (.aload_n 0, 1) := by decide +kernel
theorem d_X12_fit_419 : decode mX12_fit.2.2.1 419 = .ok (.getfield 345, 3) := by decide +kernel
theorem d_X12_fit_422 : decode mX12_fit.2.2.1 422 = .ok (.iconst 3, 1) := by decide +kernel
theorem d_X12_fit_423 : decode mX12_fit.2.2.1 423 = .ok (.iconst 1, 1) := by decide +kernel
theorem d_X12_fit_424 : decode mX12_fit.2.2.1 424 = .ok (.iastore, 1) := by decide +kernel
theorem d_X12_fit_425 : decode mX12_fit.2.2.1 425 = .ok (.iinc 4 1, 3) := by decide +kernel
theorem d_X12_fit_428 : decode mX12_fit.2.2.1 428 = .ok (.goto (-220), 3) := by decide +kernel
theorem d_X12_fit_344 : decode mX12_fit.2.2.1 344 = .ok (.lload 5, 2) := by decide +kernel
theorem d_X12_fit_346 : decode mX12_fit.2.2.1 346 = .ok (.lload_n 2, 1) := by decide +kernel
theorem d_X12_fit_347 : decode mX12_fit.2.2.1 347 = .ok (.lcmp, 1) := by decide +kernel
theorem d_X12_fit_348 : decode mX12_fit.2.2.1 348 = .ok (.ifCond .ne 13, 3) := by decide +kernel
theorem d_X12_fit_351 : decode mX12_fit.2.2.1 351 = .ok (.aload_n 0, 1) := by decide +kernel
theorem d_X12_fit_352 : decode mX12_fit.2.2.1 352 = .ok (.getfield 345, 3) := by decide +kernel
theorem d_X12_fit_355 : decode mX12_fit.2.2.1 355 = .ok (.iconst 3, 1) := by decide +kernel
theorem d_X12_fit_356 : decode mX12_fit.2.2.1 356 = .ok (.dup2, 1) := by decide +kernel
theorem d_X12_fit_357 : decode mX12_fit.2.2.1 357 = .ok (.iaload, 1) := by decide +kernel
theorem d_X12_fit_358 : decode mX12_fit.2.2.1 358 = .ok (.iconst 1, 1) := by decide +kernel
theorem d_X12_fit_359 : decode mX12_fit.2.2.1 359 = .ok (.iadd, 1) := by decide +kernel
theorem d_X12_fit_360 : decode mX12_fit.2.2.1 360 = .ok (.iastore, 1) := by decide +kernel
theorem d_X12_fit_370 : decode mX12_fit.2.2.1 370 = .ok (.lload 5, 2) := by decide +kernel
theorem d_X12_fit_372 : decode mX12_fit.2.2.1 372 = .ok (.lload_n 2, 1) := by decide +kernel
theorem d_X12_fit_373 : decode mX12_fit.2.2.1 373 = .ok (.lcmp, 1) := by decide +kernel
theorem d_X12_fit_374 : decode mX12_fit.2.2.1 374 = .ok (.ifCond .lt 6, 3) := by decide +kernel
theorem d_X12_fit_377 : decode mX12_fit.2.2.1 377 = .ok (.goto 48, 3) := by decide +kernel
theorem d_X12_fit_431 : decode mX12_fit.2.2.1 431 = .ok (.aload_n 0, 1) := by decide +kernel
theorem d_X12_fit_432 : decode mX12_fit.2.2.1 432 = .ok (.iconst 1, 1) := by decide +kernel
theorem d_X12_fit_433 : decode mX12_fit.2.2.1 433 = .ok (.putfield 342, 3) := by decide +kernel
theorem d_X12_fit_436 : decode mX12_fit.2.2.1 436 = .ok (.lload_n 2, 1) := by decide +kernel
theorem d_X12_fit_437 : decode mX12_fit.2.2.1 437 = .ok (.l2i, 1) := by decide +kernel
theorem d_X12_fit_438 : decode mX12_fit.2.2.1 438 = .ok (.ireturn, 1) := by decide +kernel
def mX12_fitted : MD := (12, yX12_fitted, cX12_fitted, 2, some .int)
theorem d_X12_fitted_0 : decode mX12_fitted.2.2.1 0 = .ok (.aload_n 0, 1) := by decide +kernel
theorem d_X12_fitted_1 : decode mX12_fitted.2.2.1 1 = .ok (.getfield 342, 3) := by decide +kernel
theorem d_X12_fitted_4 : decode mX12_fitted.2.2.1 4 = .ok (.ifCond .eq 21, 3) := by decide +kernel
theorem d_X12_fitted_25 : decode mX12_fitted.2.2.1 25 = .ok (.iconst (-1), 1) := by decide +kernel
theorem d_X12_fitted_26 : decode mX12_fitted.2.2.1 26 = .ok (.ireturn, 1) := by decide +kernel
theorem d_X12_fitted_7 : decode mX12_fitted.2.2.1 7 = .ok (.iload_n 1, 1) := by decide +kernel
theorem d_X12_fitted_8 : decode mX12_fitted.2.2.1 8 = .ok (.iconst 0, 1) := by decide +kernel
theorem d_X12_fitted_9 : decode mX12_fitted.2.2.1 9 = .ok (.iconst 3, 1) := by decide +kernel
theorem d_X12_fitted_10 : decode mX12_fitted.2.2.1 10 = .ok (.invokestatic 467, 3) := by decide +kernel
theorem d_X12_fitted_13 : decode mX12_fitted.2.2.1 13 = .ok (.ifCond .eq 12, 3) := by decide +kernel
theorem d_X12_fitted_16 : decode mX12_fitted.2.2.1 16 = .ok (.aload_n 0, 1) := by decide +kernel
theorem d_X12_fitted_17 : decode mX12_fitted.2.2.1 17 = .ok (.getfield 345, 3) := by decide +kernel
theorem d_X12_fitted_20 : decode mX12_fitted.2.2.1 20 = .ok (.iload_n 1, 1) := by decide +kernel
theorem d_X12_fitted_21 : decode mX12_fitted.2.2.1 21 = .ok (.iaload, 1) := by decide +kernel
theorem d_X12_fitted_22 : decode mX12_fitted.2.2.1 22 = .ok (.goto 4, 3) := by decide +kernel
def mX12_ask : MD := (12, yX12_ask, cX12_ask, 4, some .int)
theorem d_X12_ask_0 : decode mX12_ask.2.2.1 0 = .ok (.iload_n 1, 1) := by decide +kernel
theorem d_X12_ask_1 : decode mX12_ask.2.2.1 1 = .ok (.iconst 0, 1) := by decide +kernel
theorem d_X12_ask_2 : decode mX12_ask.2.2.1 2 = .ok (.sipush 200, 3) := by decide +kernel
theorem d_X12_ask_5 : decode mX12_ask.2.2.1 5 = .ok (.invokestatic 467, 3) := by decide +kernel
