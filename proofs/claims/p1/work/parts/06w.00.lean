/-! decoded instructions of L_law -/
theorem d_L_law_0 : decode mL_law.2.2.1 0 = .ok (.new 7, 3) := by decide +kernel
theorem d_L_law_3 : decode mL_law.2.2.1 3 = .ok (.dup, 1) := by decide +kernel
theorem d_L_law_4 : decode mL_law.2.2.1 4 = .ok (.invokespecial 9, 3) := by decide +kernel
theorem d_L_law_7 : decode mL_law.2.2.1 7 = .ok (.astore_n 1, 1) := by decide +kernel
theorem d_L_law_8 : decode mL_law.2.2.1 8 = .ok (.new 10, 3) := by decide +kernel
theorem d_L_law_11 : decode mL_law.2.2.1 11 = .ok (.dup, 1) := by decide +kernel
theorem d_L_law_12 : decode mL_law.2.2.1 12 = .ok (.invokespecial 12, 3) := by decide +kernel
theorem d_L_law_15 : decode mL_law.2.2.1 15 = .ok (.astore_n 2, 1) := by decide +kernel
theorem d_L_law_16 : decode mL_law.2.2.1 16 = .ok (.iconst 0, 1) := by decide +kernel
theorem d_L_law_17 : decode mL_law.2.2.1 17 = .ok (.istore_n 3, 1) := by decide +kernel
theorem d_L_law_160 : decode mL_law.2.2.1 160 = .ok (.aload_n 1, 1) := by decide +kernel
theorem d_L_law_161 : decode mL_law.2.2.1 161 = .ok (.aload_n 0, 1) := by decide +kernel
theorem d_L_law_162 : decode mL_law.2.2.1 162 = .ok (.iload_n 3, 1) := by decide +kernel
theorem d_L_law_163 : decode mL_law.2.2.1 163 = .ok (.iconst 1, 1) := by decide +kernel
theorem d_L_law_164 : decode mL_law.2.2.1 164 = .ok (.iadd, 1) := by decide +kernel
theorem d_L_law_165 : decode mL_law.2.2.1 165 = .ok (.iaload, 1) := by decide +kernel
theorem d_L_law_166 : decode mL_law.2.2.1 166 = .ok (.aload_n 0, 1) := by decide +kernel
theorem d_L_law_167 : decode mL_law.2.2.1 167 = .ok (.iload_n 3, 1) := by decide +kernel
theorem d_L_law_168 : decode mL_law.2.2.1 168 = .ok (.iconst 2, 1) := by decide +kernel
theorem d_L_law_169 : decode mL_law.2.2.1 169 = .ok (.iadd, 1) := by decide +kernel
theorem d_L_law_170 : decode mL_law.2.2.1 170 = .ok (.iaload, 1) := by decide +kernel
theorem d_L_law_171 : decode mL_law.2.2.1 171 = .ok (.aload_n 0, 1) := by decide +kernel
theorem d_L_law_172 : decode mL_law.2.2.1 172 = .ok (.iload_n 3, 1) := by decide +kernel
theorem d_L_law_173 : decode mL_law.2.2.1 173 = .ok (.iconst 3, 1) := by decide +kernel
theorem d_L_law_174 : decode mL_law.2.2.1 174 = .ok (.iadd, 1) := by decide +kernel
theorem d_L_law_175 : decode mL_law.2.2.1 175 = .ok (.iaload, 1) := by decide +kernel
theorem d_L_law_176 : decode mL_law.2.2.1 176 = .ok (.aload_n 0, 1) := by decide +kernel
theorem d_L_law_177 : decode mL_law.2.2.1 177 = .ok (.iload_n 3, 1) := by decide +kernel
theorem d_L_law_178 : decode mL_law.2.2.1 178 = .ok (.iconst 4, 1) := by decide +kernel
theorem d_L_law_179 : decode mL_law.2.2.1 179 = .ok (.iadd, 1) := by decide +kernel
theorem d_L_law_180 : decode mL_law.2.2.1 180 = .ok (.iaload, 1) := by decide +kernel
theorem d_L_law_181 : decode mL_law.2.2.1 181 = .ok (.aload_n 0, 1) := by decide +kernel
theorem d_L_law_182 : decode mL_law.2.2.1 182 = .ok (.iload_n 3, 1) := by decide +kernel
theorem d_L_law_183 : decode mL_law.2.2.1 183 = .ok (.iconst 5, 1) := by decide +kernel
theorem d_L_law_184 : decode mL_law.2.2.1 184 = .ok (.iadd, 1) := by decide +kernel
theorem d_L_law_185 : decode mL_law.2.2.1 185 = .ok (.iaload, 1) := by decide +kernel
theorem d_L_law_186 : decode mL_law.2.2.1 186 = .ok (.invokevirtual 13, 3) := by decide +kernel
theorem d_L_law_189 : decode mL_law.2.2.1 189 = .ok (.aload_n 2, 1) := by decide +kernel
theorem d_L_law_190 : decode mL_law.2.2.1 190 = .ok (.aload_n 0, 1) := by decide +kernel
theorem d_L_law_191 : decode mL_law.2.2.1 191 = .ok (.iload_n 3, 1) := by decide +kernel
theorem d_L_law_192 : decode mL_law.2.2.1 192 = .ok (.iconst 1, 1) := by decide +kernel
theorem d_L_law_193 : decode mL_law.2.2.1 193 = .ok (.iadd, 1) := by decide +kernel
theorem d_L_law_194 : decode mL_law.2.2.1 194 = .ok (.iaload, 1) := by decide +kernel
theorem d_L_law_195 : decode mL_law.2.2.1 195 = .ok (.aload_n 0, 1) := by decide +kernel
theorem d_L_law_196 : decode mL_law.2.2.1 196 = .ok (.iload_n 3, 1) := by decide +kernel
theorem d_L_law_197 : decode mL_law.2.2.1 197 = .ok (.iconst 2, 1) := by decide +kernel
theorem d_L_law_198 : decode mL_law.2.2.1 198 = .ok (.iadd, 1) := by decide +kernel
theorem d_L_law_199 : decode mL_law.2.2.1 199 = .ok (.iaload, 1) := by decide +kernel
theorem d_L_law_200 : decode mL_law.2.2.1 200 = .ok (.aload_n 0, 1) := by decide +kernel
theorem d_L_law_201 : decode mL_law.2.2.1 201 = .ok (.iload_n 3, 1) := by decide +kernel
theorem d_L_law_202 : decode mL_law.2.2.1 202 = .ok (.iconst 3, 1) := by decide +kernel
theorem d_L_law_203 : decode mL_law.2.2.1 203 = .ok (.iadd, 1) := by decide +kernel
theorem d_L_law_204 : decode mL_law.2.2.1 204 = .ok (.iaload, 1) := by decide +kernel
theorem d_L_law_205 : decode mL_law.2.2.1 205 = .ok (.aload_n 0, 1) := by decide +kernel
theorem d_L_law_206 : decode mL_law.2.2.1 206 = .ok (.iload_n 3, 1) := by decide +kernel
theorem d_L_law_207 : decode mL_law.2.2.1 207 = .ok (.iconst 4, 1) := by decide +kernel
theorem d_L_law_208 : decode mL_law.2.2.1 208 = .ok (.iadd, 1) := by decide +kernel
theorem d_L_law_209 : decode mL_law.2.2.1 209 = .ok (.iaload, 1) := by decide +kernel
theorem d_L_law_210 : decode mL_law.2.2.1 210 = .ok (.aload_n 0, 1) := by decide +kernel
theorem d_L_law_211 : decode mL_law.2.2.1 211 = .ok (.iload_n 3, 1) := by decide +kernel
theorem d_L_law_212 : decode mL_law.2.2.1 212 = .ok (.iconst 5, 1) := by decide +kernel
theorem d_L_law_213 : decode mL_law.2.2.1 213 = .ok (.iadd, 1) := by decide +kernel
theorem d_L_law_214 : decode mL_law.2.2.1 214 = .ok (.iaload, 1) := by decide +kernel
theorem d_L_law_215 : decode mL_law.2.2.1 215 = .ok (.invokevirtual 17, 3) := by decide +kernel
theorem d_L_law_218 : decode mL_law.2.2.1 218 = .ok (.if_icmp .eq 780, 3) := by decide +kernel
theorem d_L_law_998 : decode mL_law.2.2.1 998 = .ok (.iinc 3 6, 3) := by decide +kernel
theorem d_L_law_1001 : decode mL_law.2.2.1 1001 = .ok (.goto (-983), 3) := by decide +kernel
theorem d_L_law_18 : decode mL_law.2.2.1 18 = .ok (.iload_n 3, 1) := by decide +kernel
theorem d_L_law_19 : decode mL_law.2.2.1 19 = .ok (.aload_n 0, 1) := by decide +kernel
theorem d_L_law_20 : decode mL_law.2.2.1 20 = .ok (.arraylength, 1) := by decide +kernel
theorem d_L_law_21 : decode mL_law.2.2.1 21 = .ok (.bipush 6, 2) := by decide +kernel
theorem d_L_law_23 : decode mL_law.2.2.1 23 = .ok (.isub, 1) := by decide +kernel
theorem d_L_law_24 : decode mL_law.2.2.1 24 = .ok (.if_icmp .gt 980, 3) := by decide +kernel
theorem d_L_law_1004 : decode mL_law.2.2.1 1004 = .ok (.iconst 1, 1) := by decide +kernel
theorem d_L_law_1005 : decode mL_law.2.2.1 1005 = .ok (.ireturn, 1) := by decide +kernel
theorem d_L_law_223 : decode mL_law.2.2.1 223 = .ok (.aload_n 1, 1) := by decide +kernel
theorem d_L_law_224 : decode mL_law.2.2.1 224 = .ok (.aload_n 0, 1) := by decide +kernel
theorem d_L_law_225 : decode mL_law.2.2.1 225 = .ok (.iload_n 3, 1) := by decide +kernel
theorem d_L_law_226 : decode mL_law.2.2.1 226 = .ok (.iconst 1, 1) := by decide +kernel
theorem d_L_law_227 : decode mL_law.2.2.1 227 = .ok (.iadd, 1) := by decide +kernel
theorem d_L_law_228 : decode mL_law.2.2.1 228 = .ok (.iaload, 1) := by decide +kernel
theorem d_L_law_229 : decode mL_law.2.2.1 229 = .ok (.invokevirtual 18, 3) := by decide +kernel
theorem d_L_law_232 : decode mL_law.2.2.1 232 = .ok (.aload_n 2, 1) := by decide +kernel
theorem d_L_law_233 : decode mL_law.2.2.1 233 = .ok (.aload_n 0, 1) := by decide +kernel
theorem d_L_law_234 : decode mL_law.2.2.1 234 = .ok (.iload_n 3, 1) := by decide +kernel
theorem d_L_law_235 : decode mL_law.2.2.1 235 = .ok (.iconst 1, 1) := by decide +kernel
theorem d_L_law_236 : decode mL_law.2.2.1 236 = .ok (.iadd, 1) := by decide +kernel
theorem d_L_law_237 : decode mL_law.2.2.1 237 = .ok (.iaload, 1) := by decide +kernel
theorem d_L_law_238 : decode mL_law.2.2.1 238 = .ok (.invokevirtual 22, 3) := by decide +kernel
theorem d_L_law_241 : decode mL_law.2.2.1 241 = .ok (.if_icmp .eq 757, 3) := by decide +kernel
theorem d_L_law_246 : decode mL_law.2.2.1 246 = .ok (.aload_n 1, 1) := by decide +kernel
theorem d_L_law_247 : decode mL_law.2.2.1 247 = .ok (.invokevirtual 23, 3) := by decide +kernel
theorem d_L_law_250 : decode mL_law.2.2.1 250 = .ok (.aload_n 2, 1) := by decide +kernel
theorem d_L_law_251 : decode mL_law.2.2.1 251 = .ok (.invokevirtual 27, 3) := by decide +kernel
theorem d_L_law_254 : decode mL_law.2.2.1 254 = .ok (.if_icmp .eq 744, 3) := by decide +kernel
theorem d_L_law_259 : decode mL_law.2.2.1 259 = .ok (.aload_n 1, 1) := by decide +kernel
theorem d_L_law_260 : decode mL_law.2.2.1 260 = .ok (.aload_n 0, 1) := by decide +kernel
theorem d_L_law_261 : decode mL_law.2.2.1 261 = .ok (.iload_n 3, 1) := by decide +kernel
theorem d_L_law_262 : decode mL_law.2.2.1 262 = .ok (.iconst 1, 1) := by decide +kernel
theorem d_L_law_263 : decode mL_law.2.2.1 263 = .ok (.iadd, 1) := by decide +kernel
theorem d_L_law_264 : decode mL_law.2.2.1 264 = .ok (.iaload, 1) := by decide +kernel
theorem d_L_law_265 : decode mL_law.2.2.1 265 = .ok (.invokevirtual 28, 3) := by decide +kernel
theorem d_L_law_268 : decode mL_law.2.2.1 268 = .ok (.aload_n 2, 1) := by decide +kernel
theorem d_L_law_269 : decode mL_law.2.2.1 269 = .ok (.aload_n 0, 1) := by decide +kernel
theorem d_L_law_270 : decode mL_law.2.2.1 270 = .ok (.iload_n 3, 1) := by decide +kernel
theorem d_L_law_271 : decode mL_law.2.2.1 271 = .ok (.iconst 1, 1) := by decide +kernel
theorem d_L_law_272 : decode mL_law.2.2.1 272 = .ok (.iadd, 1) := by decide +kernel
theorem d_L_law_273 : decode mL_law.2.2.1 273 = .ok (.iaload, 1) := by decide +kernel
theorem d_L_law_274 : decode mL_law.2.2.1 274 = .ok (.invokevirtual 32, 3) := by decide +kernel
theorem d_L_law_277 : decode mL_law.2.2.1 277 = .ok (.if_icmp .eq 721, 3) := by decide +kernel
theorem d_L_law_282 : decode mL_law.2.2.1 282 = .ok (.aload_n 1, 1) := by decide +kernel
theorem d_L_law_283 : decode mL_law.2.2.1 283 = .ok (.aload_n 0, 1) := by decide +kernel
theorem d_L_law_284 : decode mL_law.2.2.1 284 = .ok (.iload_n 3, 1) := by decide +kernel
theorem d_L_law_285 : decode mL_law.2.2.1 285 = .ok (.iconst 1, 1) := by decide +kernel
theorem d_L_law_286 : decode mL_law.2.2.1 286 = .ok (.iadd, 1) := by decide +kernel
theorem d_L_law_287 : decode mL_law.2.2.1 287 = .ok (.iaload, 1) := by decide +kernel
theorem d_L_law_288 : decode mL_law.2.2.1 288 = .ok (.invokevirtual 33, 3) := by decide +kernel
theorem d_L_law_291 : decode mL_law.2.2.1 291 = .ok (.aload_n 2, 1) := by decide +kernel
theorem d_L_law_292 : decode mL_law.2.2.1 292 = .ok (.aload_n 0, 1) := by decide +kernel
theorem d_L_law_293 : decode mL_law.2.2.1 293 = .ok (.iload_n 3, 1) := by decide +kernel
theorem d_L_law_294 : decode mL_law.2.2.1 294 = .ok (.iconst 1, 1) := by decide +kernel
theorem d_L_law_295 : decode mL_law.2.2.1 295 = .ok (.iadd, 1) := by decide +kernel
theorem d_L_law_296 : decode mL_law.2.2.1 296 = .ok (.iaload, 1) := by decide +kernel
theorem d_L_law_297 : decode mL_law.2.2.1 297 = .ok (.invokevirtual 36, 3) := by decide +kernel
theorem d_L_law_300 : decode mL_law.2.2.1 300 = .ok (.if_icmp .eq 698, 3) := by decide +kernel
theorem d_L_law_305 : decode mL_law.2.2.1 305 = .ok (.aload_n 1, 1) := by decide +kernel
theorem d_L_law_306 : decode mL_law.2.2.1 306 = .ok (.aload_n 0, 1) := by decide +kernel
theorem d_L_law_307 : decode mL_law.2.2.1 307 = .ok (.iload_n 3, 1) := by decide +kernel
theorem d_L_law_308 : decode mL_law.2.2.1 308 = .ok (.iconst 1, 1) := by decide +kernel
theorem d_L_law_309 : decode mL_law.2.2.1 309 = .ok (.iadd, 1) := by decide +kernel
theorem d_L_law_310 : decode mL_law.2.2.1 310 = .ok (.iaload, 1) := by decide +kernel
theorem d_L_law_311 : decode mL_law.2.2.1 311 = .ok (.aload_n 0, 1) := by decide +kernel
theorem d_L_law_312 : decode mL_law.2.2.1 312 = .ok (.iload_n 3, 1) := by decide +kernel
theorem d_L_law_313 : decode mL_law.2.2.1 313 = .ok (.iconst 2, 1) := by decide +kernel
theorem d_L_law_314 : decode mL_law.2.2.1 314 = .ok (.iadd, 1) := by decide +kernel
theorem d_L_law_315 : decode mL_law.2.2.1 315 = .ok (.iaload, 1) := by decide +kernel
theorem d_L_law_316 : decode mL_law.2.2.1 316 = .ok (.aload_n 0, 1) := by decide +kernel
theorem d_L_law_317 : decode mL_law.2.2.1 317 = .ok (.iload_n 3, 1) := by decide +kernel
theorem d_L_law_318 : decode mL_law.2.2.1 318 = .ok (.iconst 3, 1) := by decide +kernel
theorem d_L_law_319 : decode mL_law.2.2.1 319 = .ok (.iadd, 1) := by decide +kernel
theorem d_L_law_320 : decode mL_law.2.2.1 320 = .ok (.iaload, 1) := by decide +kernel
theorem d_L_law_321 : decode mL_law.2.2.1 321 = .ok (.invokevirtual 37, 3) := by decide +kernel
theorem d_L_law_324 : decode mL_law.2.2.1 324 = .ok (.aload_n 2, 1) := by decide +kernel
theorem d_L_law_325 : decode mL_law.2.2.1 325 = .ok (.aload_n 0, 1) := by decide +kernel
theorem d_L_law_326 : decode mL_law.2.2.1 326 = .ok (.iload_n 3, 1) := by decide +kernel
theorem d_L_law_327 : decode mL_law.2.2.1 327 = .ok (.iconst 1, 1) := by decide +kernel
theorem d_L_law_328 : decode mL_law.2.2.1 328 = .ok (.iadd, 1) := by decide +kernel
theorem d_L_law_329 : decode mL_law.2.2.1 329 = .ok (.iaload, 1) := by decide +kernel
theorem d_L_law_330 : decode mL_law.2.2.1 330 = .ok (.aload_n 0, 1) := by decide +kernel
theorem d_L_law_331 : decode mL_law.2.2.1 331 = .ok (.iload_n 3, 1) := by decide +kernel
theorem d_L_law_332 : decode mL_law.2.2.1 332 = .ok (.iconst 2, 1) := by decide +kernel
theorem d_L_law_333 : decode mL_law.2.2.1 333 = .ok (.iadd, 1) := by decide +kernel
theorem d_L_law_334 : decode mL_law.2.2.1 334 = .ok (.iaload, 1) := by decide +kernel
theorem d_L_law_335 : decode mL_law.2.2.1 335 = .ok (.aload_n 0, 1) := by decide +kernel
theorem d_L_law_336 : decode mL_law.2.2.1 336 = .ok (.iload_n 3, 1) := by decide +kernel
theorem d_L_law_337 : decode mL_law.2.2.1 337 = .ok (.iconst 3, 1) := by decide +kernel
theorem d_L_law_338 : decode mL_law.2.2.1 338 = .ok (.iadd, 1) := by decide +kernel
theorem d_L_law_339 : decode mL_law.2.2.1 339 = .ok (.iaload, 1) := by decide +kernel
theorem d_L_law_340 : decode mL_law.2.2.1 340 = .ok (.invokevirtual 41, 3) := by decide +kernel
theorem d_L_law_343 : decode mL_law.2.2.1 343 = .ok (.if_icmp .eq 655, 3) := by decide +kernel
theorem d_L_law_348 : decode mL_law.2.2.1 348 = .ok (.aload_n 1, 1) := by decide +kernel
theorem d_L_law_349 : decode mL_law.2.2.1 349 = .ok (.aload_n 0, 1) := by decide +kernel
theorem d_L_law_350 : decode mL_law.2.2.1 350 = .ok (.iload_n 3, 1) := by decide +kernel
theorem d_L_law_351 : decode mL_law.2.2.1 351 = .ok (.iconst 1, 1) := by decide +kernel
theorem d_L_law_352 : decode mL_law.2.2.1 352 = .ok (.iadd, 1) := by decide +kernel
theorem d_L_law_353 : decode mL_law.2.2.1 353 = .ok (.iaload, 1) := by decide +kernel
theorem d_L_law_354 : decode mL_law.2.2.1 354 = .ok (.aload_n 0, 1) := by decide +kernel
theorem d_L_law_355 : decode mL_law.2.2.1 355 = .ok (.iload_n 3, 1) := by decide +kernel
theorem d_L_law_356 : decode mL_law.2.2.1 356 = .ok (.iconst 2, 1) := by decide +kernel
theorem d_L_law_357 : decode mL_law.2.2.1 357 = .ok (.iadd, 1) := by decide +kernel
theorem d_L_law_358 : decode mL_law.2.2.1 358 = .ok (.iaload, 1) := by decide +kernel
theorem d_L_law_359 : decode mL_law.2.2.1 359 = .ok (.invokevirtual 42, 3) := by decide +kernel
theorem d_L_law_362 : decode mL_law.2.2.1 362 = .ok (.aload_n 2, 1) := by decide +kernel
theorem d_L_law_363 : decode mL_law.2.2.1 363 = .ok (.aload_n 0, 1) := by decide +kernel
theorem d_L_law_364 : decode mL_law.2.2.1 364 = .ok (.iload_n 3, 1) := by decide +kernel
theorem d_L_law_365 : decode mL_law.2.2.1 365 = .ok (.iconst 1, 1) := by decide +kernel
theorem d_L_law_366 : decode mL_law.2.2.1 366 = .ok (.iadd, 1) := by decide +kernel
theorem d_L_law_367 : decode mL_law.2.2.1 367 = .ok (.iaload, 1) := by decide +kernel
theorem d_L_law_368 : decode mL_law.2.2.1 368 = .ok (.aload_n 0, 1) := by decide +kernel
theorem d_L_law_369 : decode mL_law.2.2.1 369 = .ok (.iload_n 3, 1) := by decide +kernel
theorem d_L_law_370 : decode mL_law.2.2.1 370 = .ok (.iconst 2, 1) := by decide +kernel
theorem d_L_law_371 : decode mL_law.2.2.1 371 = .ok (.iadd, 1) := by decide +kernel
theorem d_L_law_372 : decode mL_law.2.2.1 372 = .ok (.iaload, 1) := by decide +kernel
theorem d_L_law_373 : decode mL_law.2.2.1 373 = .ok (.invokevirtual 46, 3) := by decide +kernel
theorem d_L_law_376 : decode mL_law.2.2.1 376 = .ok (.if_icmp .eq 622, 3) := by decide +kernel
theorem d_L_law_381 : decode mL_law.2.2.1 381 = .ok (.aload_n 1, 1) := by decide +kernel
theorem d_L_law_382 : decode mL_law.2.2.1 382 = .ok (.aload_n 0, 1) := by decide +kernel
theorem d_L_law_383 : decode mL_law.2.2.1 383 = .ok (.iload_n 3, 1) := by decide +kernel
theorem d_L_law_384 : decode mL_law.2.2.1 384 = .ok (.iconst 1, 1) := by decide +kernel
theorem d_L_law_385 : decode mL_law.2.2.1 385 = .ok (.iadd, 1) := by decide +kernel
theorem d_L_law_386 : decode mL_law.2.2.1 386 = .ok (.iaload, 1) := by decide +kernel
theorem d_L_law_387 : decode mL_law.2.2.1 387 = .ok (.invokevirtual 47, 3) := by decide +kernel
theorem d_L_law_390 : decode mL_law.2.2.1 390 = .ok (.aload_n 2, 1) := by decide +kernel
theorem d_L_law_391 : decode mL_law.2.2.1 391 = .ok (.aload_n 0, 1) := by decide +kernel
theorem d_L_law_392 : decode mL_law.2.2.1 392 = .ok (.iload_n 3, 1) := by decide +kernel
theorem d_L_law_393 : decode mL_law.2.2.1 393 = .ok (.iconst 1, 1) := by decide +kernel
theorem d_L_law_394 : decode mL_law.2.2.1 394 = .ok (.iadd, 1) := by decide +kernel
theorem d_L_law_395 : decode mL_law.2.2.1 395 = .ok (.iaload, 1) := by decide +kernel
theorem d_L_law_396 : decode mL_law.2.2.1 396 = .ok (.invokevirtual 50, 3) := by decide +kernel
theorem d_L_law_399 : decode mL_law.2.2.1 399 = .ok (.if_icmp .eq 599, 3) := by decide +kernel
theorem d_L_law_404 : decode mL_law.2.2.1 404 = .ok (.aload_n 1, 1) := by decide +kernel
theorem d_L_law_405 : decode mL_law.2.2.1 405 = .ok (.aload_n 0, 1) := by decide +kernel
theorem d_L_law_406 : decode mL_law.2.2.1 406 = .ok (.iload_n 3, 1) := by decide +kernel
theorem d_L_law_407 : decode mL_law.2.2.1 407 = .ok (.iconst 1, 1) := by decide +kernel
theorem d_L_law_408 : decode mL_law.2.2.1 408 = .ok (.iadd, 1) := by decide +kernel
theorem d_L_law_409 : decode mL_law.2.2.1 409 = .ok (.iaload, 1) := by decide +kernel
theorem d_L_law_410 : decode mL_law.2.2.1 410 = .ok (.invokevirtual 51, 3) := by decide +kernel
theorem d_L_law_413 : decode mL_law.2.2.1 413 = .ok (.aload_n 2, 1) := by decide +kernel
theorem d_L_law_414 : decode mL_law.2.2.1 414 = .ok (.aload_n 0, 1) := by decide +kernel
theorem d_L_law_415 : decode mL_law.2.2.1 415 = .ok (.iload_n 3, 1) := by decide +kernel
theorem d_L_law_416 : decode mL_law.2.2.1 416 = .ok (.iconst 1, 1) := by decide +kernel
theorem d_L_law_417 : decode mL_law.2.2.1 417 = .ok (.iadd, 1) := by decide +kernel
theorem d_L_law_418 : decode mL_law.2.2.1 418 = .ok (.iaload, 1) := by decide +kernel
theorem d_L_law_419 : decode mL_law.2.2.1 419 = .ok (.invokevirtual 54, 3) := by decide +kernel
theorem d_L_law_422 : decode mL_law.2.2.1 422 = .ok (.if_icmp .eq 576, 3) := by decide +kernel
theorem d_L_law_427 : decode mL_law.2.2.1 427 = .ok (.aload_n 1, 1) := by decide +kernel
theorem d_L_law_428 : decode mL_law.2.2.1 428 = .ok (.aload_n 0, 1) := by decide +kernel
theorem d_L_law_429 : decode mL_law.2.2.1 429 = .ok (.iload_n 3, 1) := by decide +kernel
theorem d_L_law_430 : decode mL_law.2.2.1 430 = .ok (.iconst 1, 1) := by decide +kernel
theorem d_L_law_431 : decode mL_law.2.2.1 431 = .ok (.iadd, 1) := by decide +kernel
theorem d_L_law_432 : decode mL_law.2.2.1 432 = .ok (.iaload, 1) := by decide +kernel
theorem d_L_law_433 : decode mL_law.2.2.1 433 = .ok (.invokevirtual 55, 3) := by decide +kernel
theorem d_L_law_436 : decode mL_law.2.2.1 436 = .ok (.aload_n 2, 1) := by decide +kernel
theorem d_L_law_437 : decode mL_law.2.2.1 437 = .ok (.aload_n 0, 1) := by decide +kernel
theorem d_L_law_438 : decode mL_law.2.2.1 438 = .ok (.iload_n 3, 1) := by decide +kernel
theorem d_L_law_439 : decode mL_law.2.2.1 439 = .ok (.iconst 1, 1) := by decide +kernel
theorem d_L_law_440 : decode mL_law.2.2.1 440 = .ok (.iadd, 1) := by decide +kernel
theorem d_L_law_441 : decode mL_law.2.2.1 441 = .ok (.iaload, 1) := by decide +kernel
theorem d_L_law_442 : decode mL_law.2.2.1 442 = .ok (.invokevirtual 58, 3) := by decide +kernel
theorem d_L_law_445 : decode mL_law.2.2.1 445 = .ok (.if_icmp .eq 553, 3) := by decide +kernel
