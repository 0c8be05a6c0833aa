theorem d_X12_joins_52 : decode mX12_joins.2.2.1 52 = .ok (.getfield 152, 3) := by decide +kernel
theorem d_X12_joins_55 : decode mX12_joins.2.2.1 55 = .ok (.iaload, 1) := by decide +kernel
theorem d_X12_joins_56 : decode mX12_joins.2.2.1 56 = .ok (.iconst 0, 1) := by decide +kernel
theorem d_X12_joins_57 : decode mX12_joins.2.2.1 57 = .ok (.invokevirtual 475, 3) := by decide +kernel
theorem d_X12_joins_60 : decode mX12_joins.2.2.1 60 = .ok (.goto (-60), 3) := by decide +kernel
theorem ok_X12_joins : e_m mX12_joins 1 := ⟨tblG_in (inT9 (List.mem_of_getElem? (i := 14) rfl)) rfl, plainFor_of_name (by decide), rfl, ini_12, by decide +kernel, by decide⟩
theorem d_X12_goesOn_496 : decode mX12_goesOn.2.2.1 496 = .ok (.invokevirtual 393, 3) := by decide +kernel
theorem d_X12_goesOn_499 : decode mX12_goesOn.2.2.1 499 = .ok (.ifCond .ne 12, 3) := by decide +kernel
theorem d_X12_goesOn_502 : decode mX12_goesOn.2.2.1 502 = .ok (.aload_n 0, 1) := by decide +kernel
theorem d_X12_goesOn_503 : decode mX12_goesOn.2.2.1 503 = .ok (.iconst 1, 1) := by decide +kernel
theorem d_X12_goesOn_504 : decode mX12_goesOn.2.2.1 504 = .ok (.aload_n 0, 1) := by decide +kernel
theorem d_X12_goesOn_505 : decode mX12_goesOn.2.2.1 505 = .ok (.getfield 23, 3) := by decide +kernel
theorem d_X12_goesOn_508 : decode mX12_goesOn.2.2.1 508 = .ok (.invokevirtual 389, 3) := by decide +kernel
theorem d_X12_goesOn_511 : decode mX12_goesOn.2.2.1 511 = .ok (.aload_n 0, 1) := by decide +kernel
theorem d_X12_goesOn_512 : decode mX12_goesOn.2.2.1 512 = .ok (.getfield 36, 3) := by decide +kernel
theorem d_X12_goesOn_515 : decode mX12_goesOn.2.2.1 515 = .ok (.ifCond .le 5, 3) := by decide +kernel
theorem d_X12_goesOn_520 : decode mX12_goesOn.2.2.1 520 = .ok (.aload_n 0, 1) := by decide +kernel
theorem d_X12_goesOn_521 : decode mX12_goesOn.2.2.1 521 = .ok (.iconst 1, 1) := by decide +kernel
theorem d_X12_goesOn_522 : decode mX12_goesOn.2.2.1 522 = .ok (.invokevirtual 496, 3) := by decide +kernel
theorem d_X12_goesOn_525 : decode mX12_goesOn.2.2.1 525 = .ok (.aload_n 0, 1) := by decide +kernel
theorem d_X12_goesOn_526 : decode mX12_goesOn.2.2.1 526 = .ok (.dup, 1) := by decide +kernel
theorem d_X12_goesOn_527 : decode mX12_goesOn.2.2.1 527 = .ok (.getfield 143, 3) := by decide +kernel
theorem d_X12_goesOn_530 : decode mX12_goesOn.2.2.1 530 = .ok (.iconst 1, 1) := by decide +kernel
theorem d_X12_goesOn_531 : decode mX12_goesOn.2.2.1 531 = .ok (.isub, 1) := by decide +kernel
theorem d_X12_goesOn_532 : decode mX12_goesOn.2.2.1 532 = .ok (.putfield 143, 3) := by decide +kernel
theorem d_X12_goesOn_535 : decode mX12_goesOn.2.2.1 535 = .ok (.aload_n 0, 1) := by decide +kernel
theorem d_X12_goesOn_536 : decode mX12_goesOn.2.2.1 536 = .ok (.dup, 1) := by decide +kernel
theorem d_X12_goesOn_537 : decode mX12_goesOn.2.2.1 537 = .ok (.getfield 146, 3) := by decide +kernel
theorem d_X12_goesOn_540 : decode mX12_goesOn.2.2.1 540 = .ok (.iconst 1, 1) := by decide +kernel
theorem d_X12_goesOn_541 : decode mX12_goesOn.2.2.1 541 = .ok (.isub, 1) := by decide +kernel
theorem d_X12_goesOn_542 : decode mX12_goesOn.2.2.1 542 = .ok (.putfield 146, 3) := by decide +kernel
theorem d_X12_goesOn_545 : decode mX12_goesOn.2.2.1 545 = .ok (.iload_n 2, 1) := by decide +kernel
theorem d_X12_goesOn_546 : decode mX12_goesOn.2.2.1 546 = .ok (.iconst 4, 1) := by decide +kernel
theorem d_X12_goesOn_547 : decode mX12_goesOn.2.2.1 547 = .ok (.if_icmp .ne 14, 3) := by decide +kernel
theorem d_X12_goesOn_550 : decode mX12_goesOn.2.2.1 550 = .ok (.aload_n 0, 1) := by decide +kernel
theorem d_X12_goesOn_551 : decode mX12_goesOn.2.2.1 551 = .ok (.aload_n 0, 1) := by decide +kernel
theorem d_X12_goesOn_552 : decode mX12_goesOn.2.2.1 552 = .ok (.getfield 137, 3) := by decide +kernel
theorem d_X12_goesOn_555 : decode mX12_goesOn.2.2.1 555 = .ok (.iload_n 1, 1) := by decide +kernel
theorem d_X12_goesOn_556 : decode mX12_goesOn.2.2.1 556 = .ok (.iaload, 1) := by decide +kernel
theorem d_X12_goesOn_557 : decode mX12_goesOn.2.2.1 557 = .ok (.iconst 0, 1) := by decide +kernel
theorem d_X12_goesOn_558 : decode mX12_goesOn.2.2.1 558 = .ok (.invokevirtual 475, 3) := by decide +kernel
theorem d_X12_goesOn_518 : decode mX12_goesOn.2.2.1 518 = .ok (.iconst 0, 1) := by decide +kernel
theorem d_X12_goesOn_519 : decode mX12_goesOn.2.2.1 519 = .ok (.ireturn, 1) := by decide +kernel
theorem d_X12_goesOn_561 : decode mX12_goesOn.2.2.1 561 = .ok (.iload_n 2, 1) := by decide +kernel
theorem d_X12_goesOn_562 : decode mX12_goesOn.2.2.1 562 = .ok (.iconst 5, 1) := by decide +kernel
theorem d_X12_goesOn_563 : decode mX12_goesOn.2.2.1 563 = .ok (.if_icmp .ne 15, 3) := by decide +kernel
theorem d_X12_goesOn_566 : decode mX12_goesOn.2.2.1 566 = .ok (.aload_n 0, 1) := by decide +kernel
theorem d_X12_goesOn_567 : decode mX12_goesOn.2.2.1 567 = .ok (.getfield 130, 3) := by decide +kernel
theorem d_X12_goesOn_570 : decode mX12_goesOn.2.2.1 570 = .ok (.aload_n 0, 1) := by decide +kernel
theorem d_X12_goesOn_571 : decode mX12_goesOn.2.2.1 571 = .ok (.getfield 143, 3) := by decide +kernel
theorem d_X12_goesOn_574 : decode mX12_goesOn.2.2.1 574 = .ok (.iconst 1, 1) := by decide +kernel
theorem d_X12_goesOn_575 : decode mX12_goesOn.2.2.1 575 = .ok (.isub, 1) := by decide +kernel
theorem d_X12_goesOn_576 : decode mX12_goesOn.2.2.1 576 = .ok (.iconst 2, 1) := by decide +kernel
theorem d_X12_goesOn_577 : decode mX12_goesOn.2.2.1 577 = .ok (.iastore, 1) := by decide +kernel
theorem d_X12_goesOn_578 : decode mX12_goesOn.2.2.1 578 = .ok (.aload_n 0, 1) := by decide +kernel
theorem d_X12_goesOn_579 : decode mX12_goesOn.2.2.1 579 = .ok (.invokevirtual 396, 3) := by decide +kernel
theorem d_X12_goesOn_582 : decode mX12_goesOn.2.2.1 582 = .ok (.iconst 1, 1) := by decide +kernel
theorem d_X12_goesOn_583 : decode mX12_goesOn.2.2.1 583 = .ok (.ireturn, 1) := by decide +kernel
theorem d_X12_goesOn_451 : decode mX12_goesOn.2.2.1 451 = .ok (.aload_n 0, 1) := by decide +kernel
theorem d_X12_goesOn_452 : decode mX12_goesOn.2.2.1 452 = .ok (.getfield 36, 3) := by decide +kernel
theorem d_X12_goesOn_455 : decode mX12_goesOn.2.2.1 455 = .ok (.ifCond .le 5, 3) := by decide +kernel
theorem d_X12_goesOn_460 : decode mX12_goesOn.2.2.1 460 = .ok (.aload_n 0, 1) := by decide +kernel
theorem d_X12_goesOn_461 : decode mX12_goesOn.2.2.1 461 = .ok (.iconst 1, 1) := by decide +kernel
theorem d_X12_goesOn_462 : decode mX12_goesOn.2.2.1 462 = .ok (.invokevirtual 496, 3) := by decide +kernel
theorem d_X12_goesOn_465 : decode mX12_goesOn.2.2.1 465 = .ok (.aload_n 0, 1) := by decide +kernel
theorem d_X12_goesOn_466 : decode mX12_goesOn.2.2.1 466 = .ok (.getfield 127, 3) := by decide +kernel
theorem d_X12_goesOn_469 : decode mX12_goesOn.2.2.1 469 = .ok (.iload_n 1, 1) := by decide +kernel
theorem d_X12_goesOn_470 : decode mX12_goesOn.2.2.1 470 = .ok (.iconst 4, 1) := by decide +kernel
theorem d_X12_goesOn_471 : decode mX12_goesOn.2.2.1 471 = .ok (.iastore, 1) := by decide +kernel
theorem d_X12_goesOn_472 : decode mX12_goesOn.2.2.1 472 = .ok (.aload_n 0, 1) := by decide +kernel
theorem d_X12_goesOn_473 : decode mX12_goesOn.2.2.1 473 = .ok (.invokevirtual 396, 3) := by decide +kernel
theorem d_X12_goesOn_476 : decode mX12_goesOn.2.2.1 476 = .ok (.aload_n 0, 1) := by decide +kernel
theorem d_X12_goesOn_477 : decode mX12_goesOn.2.2.1 477 = .ok (.iconst 0, 1) := by decide +kernel
theorem d_X12_goesOn_478 : decode mX12_goesOn.2.2.1 478 = .ok (.putfield 155, 3) := by decide +kernel
theorem d_X12_goesOn_481 : decode mX12_goesOn.2.2.1 481 = .ok (.iconst 1, 1) := by decide +kernel
theorem d_X12_goesOn_482 : decode mX12_goesOn.2.2.1 482 = .ok (.ireturn, 1) := by decide +kernel
theorem d_X12_goesOn_458 : decode mX12_goesOn.2.2.1 458 = .ok (.iconst 0, 1) := by decide +kernel
theorem d_X12_goesOn_459 : decode mX12_goesOn.2.2.1 459 = .ok (.ireturn, 1) := by decide +kernel
theorem d_X12_goesOn_296 : decode mX12_goesOn.2.2.1 296 = .ok (.aload_n 0, 1) := by decide +kernel
theorem d_X12_goesOn_297 : decode mX12_goesOn.2.2.1 297 = .ok (.getfield 130, 3) := by decide +kernel
theorem d_X12_goesOn_300 : decode mX12_goesOn.2.2.1 300 = .ok (.iload_n 1, 1) := by decide +kernel
theorem d_X12_goesOn_301 : decode mX12_goesOn.2.2.1 301 = .ok (.iaload, 1) := by decide +kernel
theorem d_X12_goesOn_302 : decode mX12_goesOn.2.2.1 302 = .ok (.ifCond .ne 12, 3) := by decide +kernel
theorem d_X12_goesOn_305 : decode mX12_goesOn.2.2.1 305 = .ok (.aload_n 0, 1) := by decide +kernel
theorem d_X12_goesOn_306 : decode mX12_goesOn.2.2.1 306 = .ok (.iconst 1, 1) := by decide +kernel
theorem d_X12_goesOn_307 : decode mX12_goesOn.2.2.1 307 = .ok (.aload_n 0, 1) := by decide +kernel
theorem d_X12_goesOn_308 : decode mX12_goesOn.2.2.1 308 = .ok (.getfield 23, 3) := by decide +kernel
theorem d_X12_goesOn_311 : decode mX12_goesOn.2.2.1 311 = .ok (.invokevirtual 389, 3) := by decide +kernel
theorem d_X12_goesOn_314 : decode mX12_goesOn.2.2.1 314 = .ok (.aload_n 0, 1) := by decide +kernel
theorem d_X12_goesOn_315 : decode mX12_goesOn.2.2.1 315 = .ok (.getfield 36, 3) := by decide +kernel
theorem d_X12_goesOn_318 : decode mX12_goesOn.2.2.1 318 = .ok (.ifCond .le 5, 3) := by decide +kernel
theorem d_X12_goesOn_323 : decode mX12_goesOn.2.2.1 323 = .ok (.aload_n 0, 1) := by decide +kernel
theorem d_X12_goesOn_324 : decode mX12_goesOn.2.2.1 324 = .ok (.ldc2_w 439, 3) := by decide +kernel
theorem d_X12_goesOn_327 : decode mX12_goesOn.2.2.1 327 = .ok (.invokevirtual 484, 3) := by decide +kernel
theorem d_X12_goesOn_330 : decode mX12_goesOn.2.2.1 330 = .ok (.istore 4, 2) := by decide +kernel
theorem d_X12_goesOn_332 : decode mX12_goesOn.2.2.1 332 = .ok (.aload_n 0, 1) := by decide +kernel
theorem d_X12_goesOn_333 : decode mX12_goesOn.2.2.1 333 = .ok (.iload 4, 2) := by decide +kernel
theorem d_X12_goesOn_335 : decode mX12_goesOn.2.2.1 335 = .ok (.ifCond .eq 7, 3) := by decide +kernel
theorem d_X12_goesOn_342 : decode mX12_goesOn.2.2.1 342 = .ok (.iconst 1, 1) := by decide +kernel
theorem d_X12_goesOn_338 : decode mX12_goesOn.2.2.1 338 = .ok (.iconst 2, 1) := by decide +kernel
theorem d_X12_goesOn_339 : decode mX12_goesOn.2.2.1 339 = .ok (.goto 4, 3) := by decide +kernel
theorem d_X12_goesOn_321 : decode mX12_goesOn.2.2.1 321 = .ok (.iconst 0, 1) := by decide +kernel
theorem d_X12_goesOn_322 : decode mX12_goesOn.2.2.1 322 = .ok (.ireturn, 1) := by decide +kernel
theorem d_X12_goesOn_343 : decode mX12_goesOn.2.2.1 343 = .ok (.invokevirtual 496, 3) := by decide +kernel
theorem d_X12_goesOn_346 : decode mX12_goesOn.2.2.1 346 = .ok (.aload_n 0, 1) := by decide +kernel
theorem d_X12_goesOn_347 : decode mX12_goesOn.2.2.1 347 = .ok (.iload 4, 2) := by decide +kernel
theorem d_X12_goesOn_349 : decode mX12_goesOn.2.2.1 349 = .ok (.ifCond .eq 8, 3) := by decide +kernel
theorem d_X12_goesOn_357 : decode mX12_goesOn.2.2.1 357 = .ok (.bipush 17, 2) := by decide +kernel
theorem d_X12_goesOn_352 : decode mX12_goesOn.2.2.1 352 = .ok (.bipush 16, 2) := by decide +kernel
theorem d_X12_goesOn_354 : decode mX12_goesOn.2.2.1 354 = .ok (.goto 5, 3) := by decide +kernel
theorem d_X12_goesOn_359 : decode mX12_goesOn.2.2.1 359 = .ok (.invokevirtual 487, 3) := by decide +kernel
theorem d_X12_goesOn_362 : decode mX12_goesOn.2.2.1 362 = .ok (.aload_n 0, 1) := by decide +kernel
theorem d_X12_goesOn_363 : decode mX12_goesOn.2.2.1 363 = .ok (.getfield 130, 3) := by decide +kernel
theorem d_X12_goesOn_366 : decode mX12_goesOn.2.2.1 366 = .ok (.iload_n 1, 1) := by decide +kernel
theorem d_X12_goesOn_367 : decode mX12_goesOn.2.2.1 367 = .ok (.iconst 0, 1) := by decide +kernel
theorem d_X12_goesOn_368 : decode mX12_goesOn.2.2.1 368 = .ok (.iastore, 1) := by decide +kernel
theorem d_X12_goesOn_369 : decode mX12_goesOn.2.2.1 369 = .ok (.aload_n 0, 1) := by decide +kernel
theorem d_X12_goesOn_370 : decode mX12_goesOn.2.2.1 370 = .ok (.getfield 133, 3) := by decide +kernel
theorem d_X12_goesOn_373 : decode mX12_goesOn.2.2.1 373 = .ok (.iload_n 1, 1) := by decide +kernel
theorem d_X12_goesOn_374 : decode mX12_goesOn.2.2.1 374 = .ok (.iconst 1, 1) := by decide +kernel
theorem d_X12_goesOn_375 : decode mX12_goesOn.2.2.1 375 = .ok (.bastore, 1) := by decide +kernel
theorem d_X12_goesOn_376 : decode mX12_goesOn.2.2.1 376 = .ok (.aload_n 0, 1) := by decide +kernel
theorem d_X12_goesOn_377 : decode mX12_goesOn.2.2.1 377 = .ok (.invokevirtual 396, 3) := by decide +kernel
theorem d_X12_goesOn_380 : decode mX12_goesOn.2.2.1 380 = .ok (.aload_n 0, 1) := by decide +kernel
theorem d_X12_goesOn_381 : decode mX12_goesOn.2.2.1 381 = .ok (.iconst 0, 1) := by decide +kernel
theorem d_X12_goesOn_382 : decode mX12_goesOn.2.2.1 382 = .ok (.putfield 155, 3) := by decide +kernel
theorem d_X12_goesOn_385 : decode mX12_goesOn.2.2.1 385 = .ok (.iconst 1, 1) := by decide +kernel
theorem d_X12_goesOn_386 : decode mX12_goesOn.2.2.1 386 = .ok (.ireturn, 1) := by decide +kernel
theorem d_X12_goesOn_215 : decode mX12_goesOn.2.2.1 215 = .ok (.aload_n 0, 1) := by decide +kernel
theorem d_X12_goesOn_216 : decode mX12_goesOn.2.2.1 216 = .ok (.iconst 5, 1) := by decide +kernel
theorem d_X12_goesOn_217 : decode mX12_goesOn.2.2.1 217 = .ok (.invokevirtual 496, 3) := by decide +kernel
theorem d_X12_goesOn_220 : decode mX12_goesOn.2.2.1 220 = .ok (.aload_n 0, 1) := by decide +kernel
theorem d_X12_goesOn_221 : decode mX12_goesOn.2.2.1 221 = .ok (.aload_n 0, 1) := by decide +kernel
theorem d_X12_goesOn_222 : decode mX12_goesOn.2.2.1 222 = .ok (.bipush 60, 2) := by decide +kernel
theorem d_X12_goesOn_224 : decode mX12_goesOn.2.2.1 224 = .ok (.invokevirtual 393, 3) := by decide +kernel
theorem d_X12_goesOn_227 : decode mX12_goesOn.2.2.1 227 = .ok (.ifCond .eq 8, 3) := by decide +kernel
theorem d_X12_goesOn_235 : decode mX12_goesOn.2.2.1 235 = .ok (.aload_n 0, 1) := by decide +kernel
theorem d_X12_goesOn_236 : decode mX12_goesOn.2.2.1 236 = .ok (.bipush 62, 2) := by decide +kernel
theorem d_X12_goesOn_238 : decode mX12_goesOn.2.2.1 238 = .ok (.invokevirtual 393, 3) := by decide +kernel
theorem d_X12_goesOn_241 : decode mX12_goesOn.2.2.1 241 = .ok (.ifCond .eq 8, 3) := by decide +kernel
theorem d_X12_goesOn_249 : decode mX12_goesOn.2.2.1 249 = .ok (.bipush 15, 2) := by decide +kernel
theorem d_X12_goesOn_244 : decode mX12_goesOn.2.2.1 244 = .ok (.bipush 14, 2) := by decide +kernel
theorem d_X12_goesOn_246 : decode mX12_goesOn.2.2.1 246 = .ok (.goto 5, 3) := by decide +kernel
theorem d_X12_goesOn_230 : decode mX12_goesOn.2.2.1 230 = .ok (.bipush 13, 2) := by decide +kernel
theorem d_X12_goesOn_232 : decode mX12_goesOn.2.2.1 232 = .ok (.goto 19, 3) := by decide +kernel
theorem d_X12_goesOn_251 : decode mX12_goesOn.2.2.1 251 = .ok (.invokevirtual 487, 3) := by decide +kernel
theorem d_X12_goesOn_254 : decode mX12_goesOn.2.2.1 254 = .ok (.aload_n 0, 1) := by decide +kernel
theorem d_X12_goesOn_255 : decode mX12_goesOn.2.2.1 255 = .ok (.getfield 130, 3) := by decide +kernel
theorem d_X12_goesOn_258 : decode mX12_goesOn.2.2.1 258 = .ok (.iload_n 1, 1) := by decide +kernel
theorem d_X12_goesOn_259 : decode mX12_goesOn.2.2.1 259 = .ok (.iconst 1, 1) := by decide +kernel
theorem d_X12_goesOn_260 : decode mX12_goesOn.2.2.1 260 = .ok (.iastore, 1) := by decide +kernel
theorem d_X12_goesOn_261 : decode mX12_goesOn.2.2.1 261 = .ok (.aload_n 0, 1) := by decide +kernel
theorem d_X12_goesOn_262 : decode mX12_goesOn.2.2.1 262 = .ok (.invokevirtual 396, 3) := by decide +kernel
theorem d_X12_goesOn_265 : decode mX12_goesOn.2.2.1 265 = .ok (.aload_n 0, 1) := by decide +kernel
theorem d_X12_goesOn_266 : decode mX12_goesOn.2.2.1 266 = .ok (.iconst 0, 1) := by decide +kernel
theorem d_X12_goesOn_267 : decode mX12_goesOn.2.2.1 267 = .ok (.putfield 155, 3) := by decide +kernel
theorem d_X12_goesOn_270 : decode mX12_goesOn.2.2.1 270 = .ok (.iconst 1, 1) := by decide +kernel
theorem d_X12_goesOn_271 : decode mX12_goesOn.2.2.1 271 = .ok (.ireturn, 1) := by decide +kernel
theorem d_X12_goesOn_74 : decode mX12_goesOn.2.2.1 74 = .ok (.aload_n 0, 1) := by decide +kernel
theorem d_X12_goesOn_75 : decode mX12_goesOn.2.2.1 75 = .ok (.aload_n 0, 1) := by decide +kernel
theorem d_X12_goesOn_76 : decode mX12_goesOn.2.2.1 76 = .ok (.bipush 43, 2) := by decide +kernel
theorem d_X12_goesOn_78 : decode mX12_goesOn.2.2.1 78 = .ok (.invokevirtual 393, 3) := by decide +kernel
theorem d_X12_goesOn_81 : decode mX12_goesOn.2.2.1 81 = .ok (.ifCond .ne 12, 3) := by decide +kernel
theorem d_X12_goesOn_84 : decode mX12_goesOn.2.2.1 84 = .ok (.aload_n 0, 1) := by decide +kernel
theorem d_X12_goesOn_85 : decode mX12_goesOn.2.2.1 85 = .ok (.bipush 45, 2) := by decide +kernel
theorem d_X12_goesOn_87 : decode mX12_goesOn.2.2.1 87 = .ok (.invokevirtual 393, 3) := by decide +kernel
theorem d_X12_goesOn_90 : decode mX12_goesOn.2.2.1 90 = .ok (.ifCond .eq 7, 3) := by decide +kernel
theorem d_X12_goesOn_97 : decode mX12_goesOn.2.2.1 97 = .ok (.bipush 6, 2) := by decide +kernel
theorem d_X12_goesOn_93 : decode mX12_goesOn.2.2.1 93 = .ok (.iconst 5, 1) := by decide +kernel
theorem d_X12_goesOn_94 : decode mX12_goesOn.2.2.1 94 = .ok (.goto 5, 3) := by decide +kernel
theorem d_X12_goesOn_99 : decode mX12_goesOn.2.2.1 99 = .ok (.invokevirtual 496, 3) := by decide +kernel
theorem d_X12_goesOn_102 : decode mX12_goesOn.2.2.1 102 = .ok (.aload_n 0, 1) := by decide +kernel
theorem d_X12_goesOn_103 : decode mX12_goesOn.2.2.1 103 = .ok (.aload_n 0, 1) := by decide +kernel
theorem d_X12_goesOn_104 : decode mX12_goesOn.2.2.1 104 = .ok (.bipush 43, 2) := by decide +kernel
theorem d_X12_goesOn_106 : decode mX12_goesOn.2.2.1 106 = .ok (.invokevirtual 393, 3) := by decide +kernel
theorem d_X12_goesOn_109 : decode mX12_goesOn.2.2.1 109 = .ok (.ifCond .eq 8, 3) := by decide +kernel
theorem d_X12_goesOn_117 : decode mX12_goesOn.2.2.1 117 = .ok (.aload_n 0, 1) := by decide +kernel
theorem d_X12_goesOn_118 : decode mX12_goesOn.2.2.1 118 = .ok (.bipush 45, 2) := by decide +kernel
theorem d_X12_goesOn_120 : decode mX12_goesOn.2.2.1 120 = .ok (.invokevirtual 393, 3) := by decide +kernel
theorem d_X12_goesOn_123 : decode mX12_goesOn.2.2.1 123 = .ok (.ifCond .eq 8, 3) := by decide +kernel
theorem d_X12_goesOn_131 : decode mX12_goesOn.2.2.1 131 = .ok (.aload_n 0, 1) := by decide +kernel
theorem d_X12_goesOn_132 : decode mX12_goesOn.2.2.1 132 = .ok (.bipush 42, 2) := by decide +kernel
theorem d_X12_goesOn_134 : decode mX12_goesOn.2.2.1 134 = .ok (.invokevirtual 393, 3) := by decide +kernel
theorem d_X12_goesOn_137 : decode mX12_goesOn.2.2.1 137 = .ok (.ifCond .eq 8, 3) := by decide +kernel
theorem d_X12_goesOn_145 : decode mX12_goesOn.2.2.1 145 = .ok (.aload_n 0, 1) := by decide +kernel
theorem d_X12_goesOn_146 : decode mX12_goesOn.2.2.1 146 = .ok (.bipush 47, 2) := by decide +kernel
theorem d_X12_goesOn_148 : decode mX12_goesOn.2.2.1 148 = .ok (.invokevirtual 393, 3) := by decide +kernel
theorem d_X12_goesOn_151 : decode mX12_goesOn.2.2.1 151 = .ok (.ifCond .eq 8, 3) := by decide +kernel
theorem d_X12_goesOn_159 : decode mX12_goesOn.2.2.1 159 = .ok (.bipush 10, 2) := by decide +kernel
theorem d_X12_goesOn_154 : decode mX12_goesOn.2.2.1 154 = .ok (.bipush 9, 2) := by decide +kernel
theorem d_X12_goesOn_156 : decode mX12_goesOn.2.2.1 156 = .ok (.goto 5, 3) := by decide +kernel
theorem d_X12_goesOn_140 : decode mX12_goesOn.2.2.1 140 = .ok (.bipush 8, 2) := by decide +kernel
theorem d_X12_goesOn_142 : decode mX12_goesOn.2.2.1 142 = .ok (.goto 19, 3) := by decide +kernel
theorem d_X12_goesOn_126 : decode mX12_goesOn.2.2.1 126 = .ok (.bipush 7, 2) := by decide +kernel
theorem d_X12_goesOn_128 : decode mX12_goesOn.2.2.1 128 = .ok (.goto 33, 3) := by decide +kernel
theorem d_X12_goesOn_112 : decode mX12_goesOn.2.2.1 112 = .ok (.bipush 6, 2) := by decide +kernel
theorem d_X12_goesOn_114 : decode mX12_goesOn.2.2.1 114 = .ok (.goto 47, 3) := by decide +kernel
theorem d_X12_goesOn_161 : decode mX12_goesOn.2.2.1 161 = .ok (.invokevirtual 487, 3) := by decide +kernel
theorem d_X12_goesOn_164 : decode mX12_goesOn.2.2.1 164 = .ok (.aload_n 0, 1) := by decide +kernel
theorem d_X12_goesOn_165 : decode mX12_goesOn.2.2.1 165 = .ok (.invokevirtual 396, 3) := by decide +kernel
theorem d_X12_goesOn_168 : decode mX12_goesOn.2.2.1 168 = .ok (.aload_n 0, 1) := by decide +kernel
theorem d_X12_goesOn_169 : decode mX12_goesOn.2.2.1 169 = .ok (.iconst 0, 1) := by decide +kernel
theorem d_X12_goesOn_170 : decode mX12_goesOn.2.2.1 170 = .ok (.putfield 155, 3) := by decide +kernel
theorem d_X12_goesOn_173 : decode mX12_goesOn.2.2.1 173 = .ok (.iconst 1, 1) := by decide +kernel
theorem d_X12_goesOn_174 : decode mX12_goesOn.2.2.1 174 = .ok (.ireturn, 1) := by decide +kernel
theorem ok_X12_goesOn : e_m mX12_goesOn 0 := ⟨tblG_in (inT9 (List.mem_of_getElem? (i := 10) rfl)) rfl, plainFor_of_name (by decide), rfl, ini_12, by decide +kernel, by decide⟩
theorem d_X12_reads_64 : decode mX12_reads.2.2.1 64 = .ok (.istore_n 2, 1) := by decide +kernel
theorem ok_X12_reads : e_m mX12_reads 1 := ⟨tblG_in (inT8 (List.mem_of_getElem? (i := 223) rfl)) rfl, plainFor_of_name (by decide), rfl, ini_12, by decide +kernel, by decide⟩
theorem d_X12_statement_179 : decode mX12_statement.2.2.1 179 = .ok (.aload_n 0, 1) := by decide +kernel
theorem d_X12_statement_180 : decode mX12_statement.2.2.1 180 = .ok (.getfield 109, 3) := by decide +kernel
theorem d_X12_statement_183 : decode mX12_statement.2.2.1 183 = .ok (.iload_n 2, 1) := by decide +kernel
theorem d_X12_statement_184 : decode mX12_statement.2.2.1 184 = .ok (.aload_n 0, 1) := by decide +kernel
theorem d_X12_statement_185 : decode mX12_statement.2.2.1 185 = .ok (.getfield 121, 3) := by decide +kernel
theorem d_X12_statement_188 : decode mX12_statement.2.2.1 188 = .ok (.iastore, 1) := by decide +kernel
theorem d_X12_statement_189 : decode mX12_statement.2.2.1 189 = .ok (.aload_n 0, 1) := by decide +kernel
theorem d_X12_statement_190 : decode mX12_statement.2.2.1 190 = .ok (.getfield 36, 3) := by decide +kernel
theorem d_X12_statement_193 : decode mX12_statement.2.2.1 193 = .ok (.ifCond .le 4, 3) := by decide +kernel
theorem d_X12_statement_197 : decode mX12_statement.2.2.1 197 = .ok (.iload_n 1, 1) := by decide +kernel
theorem d_X12_statement_198 : decode mX12_statement.2.2.1 198 = .ok (.bipush 7, 2) := by decide +kernel
theorem d_X12_statement_200 : decode mX12_statement.2.2.1 200 = .ok (.if_icmp .lt 22, 3) := by decide +kernel
theorem d_X12_statement_222 : decode mX12_statement.2.2.1 222 = .ok (.aload_n 0, 1) := by decide +kernel
theorem d_X12_statement_223 : decode mX12_statement.2.2.1 223 = .ok (.bipush 59, 2) := by decide +kernel
theorem d_X12_statement_225 : decode mX12_statement.2.2.1 225 = .ok (.invokevirtual 529, 3) := by decide +kernel
theorem d_X12_statement_228 : decode mX12_statement.2.2.1 228 = .ok (.return_, 1) := by decide +kernel
theorem d_X12_statement_203 : decode mX12_statement.2.2.1 203 = .ok (.aload_n 0, 1) := by decide +kernel
theorem d_X12_statement_204 : decode mX12_statement.2.2.1 204 = .ok (.iload_n 1, 1) := by decide +kernel
theorem d_X12_statement_205 : decode mX12_statement.2.2.1 205 = .ok (.bipush 7, 2) := by decide +kernel
theorem d_X12_statement_207 : decode mX12_statement.2.2.1 207 = .ok (.if_icmp .ne 7, 3) := by decide +kernel
theorem d_X12_statement_214 : decode mX12_statement.2.2.1 214 = .ok (.iconst 2, 1) := by decide +kernel
theorem d_X12_statement_210 : decode mX12_statement.2.2.1 210 = .ok (.iconst 0, 1) := by decide +kernel
