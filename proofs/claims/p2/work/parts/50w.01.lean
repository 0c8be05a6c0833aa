theorem d_L_law_391 : decode mL_law.2.2.1 391 = .ok (.aload_n 2, 1) := by decide +kernel
theorem d_L_law_392 : decode mL_law.2.2.1 392 = .ok (.aload_n 0, 1) := by decide +kernel
theorem d_L_law_393 : decode mL_law.2.2.1 393 = .ok (.iload_n 3, 1) := by decide +kernel
theorem d_L_law_394 : decode mL_law.2.2.1 394 = .ok (.iconst 1, 1) := by decide +kernel
theorem d_L_law_395 : decode mL_law.2.2.1 395 = .ok (.iadd, 1) := by decide +kernel
theorem d_L_law_396 : decode mL_law.2.2.1 396 = .ok (.iaload, 1) := by decide +kernel
theorem d_L_law_397 : decode mL_law.2.2.1 397 = .ok (.invokevirtual 50, 3) := by decide +kernel
theorem sel_X12_run : Cond.instanceMethod mX12_run.2.1 ∈ tblG ∧ Cond.selects mX12_run.2.1.cls mX12_run.2.1 mX12_run.2.1 ∈ tblG := ⟨tblG_in (inT9 (List.mem_of_getElem? (i := 47) rfl)) rfl, tblG_in (inT9 (List.mem_of_getElem? (i := 48) rfl)) rfl⟩
theorem s_13_50 : e_siteV 13 50 mX12_run 12 := ⟨tblG_in (inT9 (List.mem_of_getElem? (i := 46) rfl)) rfl, sel_X12_run.1, sel_X12_run.2, rfl⟩
theorem ok_X12_run : e_m mX12_run 1 := ⟨tblG_in (inT9 (List.mem_of_getElem? (i := 49) rfl)) rfl, plainFor_of_name (by decide), rfl, ini_12, by decide +kernel, by decide⟩
theorem d_L_law_400 : decode mL_law.2.2.1 400 = .ok (.pop, 1) := by decide +kernel
theorem d_L_law_401 : decode mL_law.2.2.1 401 = .ok (.goto 595, 3) := by decide +kernel
theorem d_L_law_404 : decode mL_law.2.2.1 404 = .ok (.aload_n 1, 1) := by decide +kernel
theorem d_L_law_405 : decode mL_law.2.2.1 405 = .ok (.aload_n 0, 1) := by decide +kernel
theorem d_L_law_406 : decode mL_law.2.2.1 406 = .ok (.iload_n 3, 1) := by decide +kernel
theorem d_L_law_407 : decode mL_law.2.2.1 407 = .ok (.iconst 1, 1) := by decide +kernel
theorem d_L_law_408 : decode mL_law.2.2.1 408 = .ok (.iadd, 1) := by decide +kernel
theorem d_L_law_409 : decode mL_law.2.2.1 409 = .ok (.iaload, 1) := by decide +kernel
theorem d_L_law_410 : decode mL_law.2.2.1 410 = .ok (.invokevirtual 51, 3) := by decide +kernel
theorem sel_X11_ran : Cond.instanceMethod mX11_ran.2.1 ∈ tblG ∧ Cond.selects mX11_ran.2.1.cls mX11_ran.2.1 mX11_ran.2.1 ∈ tblG := ⟨tblG_in (inT5 (List.mem_of_getElem? (i := 166) rfl)) rfl, tblG_in (inT5 (List.mem_of_getElem? (i := 167) rfl)) rfl⟩
theorem s_13_51 : e_siteV 13 51 mX11_ran 11 := ⟨tblG_in (inT5 (List.mem_of_getElem? (i := 165) rfl)) rfl, sel_X11_ran.1, sel_X11_ran.2, rfl⟩
theorem ok_X11_ran : e_m mX11_ran 1 := ⟨tblG_in (inT5 (List.mem_of_getElem? (i := 168) rfl)) rfl, plainFor_of_name (by decide), rfl, ini_11, by decide +kernel, by decide⟩
theorem d_L_law_413 : decode mL_law.2.2.1 413 = .ok (.pop, 1) := by decide +kernel
theorem d_L_law_414 : decode mL_law.2.2.1 414 = .ok (.aload_n 2, 1) := by decide +kernel
theorem d_L_law_415 : decode mL_law.2.2.1 415 = .ok (.aload_n 0, 1) := by decide +kernel
theorem d_L_law_416 : decode mL_law.2.2.1 416 = .ok (.iload_n 3, 1) := by decide +kernel
theorem d_L_law_417 : decode mL_law.2.2.1 417 = .ok (.iconst 1, 1) := by decide +kernel
theorem d_L_law_418 : decode mL_law.2.2.1 418 = .ok (.iadd, 1) := by decide +kernel
theorem d_L_law_419 : decode mL_law.2.2.1 419 = .ok (.iaload, 1) := by decide +kernel
theorem d_L_law_420 : decode mL_law.2.2.1 420 = .ok (.invokevirtual 54, 3) := by decide +kernel
theorem sel_X12_ran : Cond.instanceMethod mX12_ran.2.1 ∈ tblG ∧ Cond.selects mX12_ran.2.1.cls mX12_ran.2.1 mX12_ran.2.1 ∈ tblG := ⟨tblG_in (inT9 (List.mem_of_getElem? (i := 134) rfl)) rfl, tblG_in (inT9 (List.mem_of_getElem? (i := 135) rfl)) rfl⟩
theorem s_13_54 : e_siteV 13 54 mX12_ran 12 := ⟨tblG_in (inT9 (List.mem_of_getElem? (i := 133) rfl)) rfl, sel_X12_ran.1, sel_X12_ran.2, rfl⟩
theorem ok_X12_ran : e_m mX12_ran 1 := ⟨tblG_in (inT9 (List.mem_of_getElem? (i := 136) rfl)) rfl, plainFor_of_name (by decide), rfl, ini_12, by decide +kernel, by decide⟩
theorem d_L_law_423 : decode mL_law.2.2.1 423 = .ok (.pop, 1) := by decide +kernel
theorem d_L_law_424 : decode mL_law.2.2.1 424 = .ok (.goto 572, 3) := by decide +kernel
theorem d_L_law_427 : decode mL_law.2.2.1 427 = .ok (.aload_n 1, 1) := by decide +kernel
theorem d_L_law_428 : decode mL_law.2.2.1 428 = .ok (.aload_n 0, 1) := by decide +kernel
theorem d_L_law_429 : decode mL_law.2.2.1 429 = .ok (.iload_n 3, 1) := by decide +kernel
theorem d_L_law_430 : decode mL_law.2.2.1 430 = .ok (.iconst 1, 1) := by decide +kernel
theorem d_L_law_431 : decode mL_law.2.2.1 431 = .ok (.iadd, 1) := by decide +kernel
theorem d_L_law_432 : decode mL_law.2.2.1 432 = .ok (.iaload, 1) := by decide +kernel
theorem d_L_law_433 : decode mL_law.2.2.1 433 = .ok (.invokevirtual 55, 3) := by decide +kernel
theorem sel_X11_value : Cond.instanceMethod mX11_value.2.1 ∈ tblG ∧ Cond.selects mX11_value.2.1.cls mX11_value.2.1 mX11_value.2.1 ∈ tblG := ⟨tblG_in (inT5 (List.mem_of_getElem? (i := 170) rfl)) rfl, tblG_in (inT5 (List.mem_of_getElem? (i := 171) rfl)) rfl⟩
theorem s_13_55 : e_siteV 13 55 mX11_value 11 := ⟨tblG_in (inT5 (List.mem_of_getElem? (i := 169) rfl)) rfl, sel_X11_value.1, sel_X11_value.2, rfl⟩
theorem ok_X11_value : e_m mX11_value 1 := ⟨tblG_in (inT5 (List.mem_of_getElem? (i := 172) rfl)) rfl, plainFor_of_name (by decide), rfl, ini_11, by decide +kernel, by decide⟩
theorem d_L_law_436 : decode mL_law.2.2.1 436 = .ok (.pop, 1) := by decide +kernel
theorem d_L_law_437 : decode mL_law.2.2.1 437 = .ok (.aload_n 2, 1) := by decide +kernel
theorem d_L_law_438 : decode mL_law.2.2.1 438 = .ok (.aload_n 0, 1) := by decide +kernel
theorem d_L_law_439 : decode mL_law.2.2.1 439 = .ok (.iload_n 3, 1) := by decide +kernel
theorem d_L_law_440 : decode mL_law.2.2.1 440 = .ok (.iconst 1, 1) := by decide +kernel
theorem d_L_law_441 : decode mL_law.2.2.1 441 = .ok (.iadd, 1) := by decide +kernel
theorem d_L_law_442 : decode mL_law.2.2.1 442 = .ok (.iaload, 1) := by decide +kernel
theorem d_L_law_443 : decode mL_law.2.2.1 443 = .ok (.invokevirtual 58, 3) := by decide +kernel
theorem sel_X12_value : Cond.instanceMethod mX12_value.2.1 ∈ tblG ∧ Cond.selects mX12_value.2.1.cls mX12_value.2.1 mX12_value.2.1 ∈ tblG := ⟨tblG_in (inT9 (List.mem_of_getElem? (i := 138) rfl)) rfl, tblG_in (inT9 (List.mem_of_getElem? (i := 139) rfl)) rfl⟩
theorem s_13_58 : e_siteV 13 58 mX12_value 12 := ⟨tblG_in (inT9 (List.mem_of_getElem? (i := 137) rfl)) rfl, sel_X12_value.1, sel_X12_value.2, rfl⟩
theorem ok_X12_value : e_m mX12_value 1 := ⟨tblG_in (inT9 (List.mem_of_getElem? (i := 140) rfl)) rfl, plainFor_of_name (by decide), rfl, ini_12, by decide +kernel, by decide⟩
theorem d_L_law_446 : decode mL_law.2.2.1 446 = .ok (.pop, 1) := by decide +kernel
theorem d_L_law_447 : decode mL_law.2.2.1 447 = .ok (.goto 549, 3) := by decide +kernel
theorem d_L_law_450 : decode mL_law.2.2.1 450 = .ok (.aload_n 1, 1) := by decide +kernel
theorem d_L_law_451 : decode mL_law.2.2.1 451 = .ok (.aload_n 0, 1) := by decide +kernel
theorem d_L_law_452 : decode mL_law.2.2.1 452 = .ok (.iload_n 3, 1) := by decide +kernel
theorem d_L_law_453 : decode mL_law.2.2.1 453 = .ok (.iconst 1, 1) := by decide +kernel
theorem d_L_law_454 : decode mL_law.2.2.1 454 = .ok (.iadd, 1) := by decide +kernel
theorem d_L_law_455 : decode mL_law.2.2.1 455 = .ok (.iaload, 1) := by decide +kernel
theorem d_L_law_456 : decode mL_law.2.2.1 456 = .ok (.aload_n 0, 1) := by decide +kernel
theorem d_L_law_457 : decode mL_law.2.2.1 457 = .ok (.iload_n 3, 1) := by decide +kernel
theorem d_L_law_458 : decode mL_law.2.2.1 458 = .ok (.iconst 2, 1) := by decide +kernel
theorem d_L_law_459 : decode mL_law.2.2.1 459 = .ok (.iadd, 1) := by decide +kernel
theorem d_L_law_460 : decode mL_law.2.2.1 460 = .ok (.iaload, 1) := by decide +kernel
theorem d_L_law_461 : decode mL_law.2.2.1 461 = .ok (.invokevirtual 59, 3) := by decide +kernel
theorem sel_X11_spent : Cond.instanceMethod mX11_spent.2.1 ∈ tblG ∧ Cond.selects mX11_spent.2.1.cls mX11_spent.2.1 mX11_spent.2.1 ∈ tblG := ⟨tblG_in (inT5 (List.mem_of_getElem? (i := 175) rfl)) rfl, tblG_in (inT5 (List.mem_of_getElem? (i := 176) rfl)) rfl⟩
theorem s_13_59 : e_siteV 13 59 mX11_spent 11 := ⟨tblG_in (inT5 (List.mem_of_getElem? (i := 174) rfl)) rfl, sel_X11_spent.1, sel_X11_spent.2, rfl⟩
theorem ok_X11_spent : e_m mX11_spent 2 := ⟨tblG_in (inT5 (List.mem_of_getElem? (i := 177) rfl)) rfl, plainFor_of_name (by decide), rfl, ini_11, by decide +kernel, by decide⟩
theorem d_L_law_464 : decode mL_law.2.2.1 464 = .ok (.pop, 1) := by decide +kernel
theorem d_L_law_465 : decode mL_law.2.2.1 465 = .ok (.aload_n 2, 1) := by decide +kernel
theorem d_L_law_466 : decode mL_law.2.2.1 466 = .ok (.aload_n 0, 1) := by decide +kernel
theorem d_L_law_467 : decode mL_law.2.2.1 467 = .ok (.iload_n 3, 1) := by decide +kernel
theorem d_L_law_468 : decode mL_law.2.2.1 468 = .ok (.iconst 1, 1) := by decide +kernel
theorem d_L_law_469 : decode mL_law.2.2.1 469 = .ok (.iadd, 1) := by decide +kernel
theorem d_L_law_470 : decode mL_law.2.2.1 470 = .ok (.iaload, 1) := by decide +kernel
theorem d_L_law_471 : decode mL_law.2.2.1 471 = .ok (.aload_n 0, 1) := by decide +kernel
theorem d_L_law_472 : decode mL_law.2.2.1 472 = .ok (.iload_n 3, 1) := by decide +kernel
theorem d_L_law_473 : decode mL_law.2.2.1 473 = .ok (.iconst 2, 1) := by decide +kernel
theorem d_L_law_474 : decode mL_law.2.2.1 474 = .ok (.iadd, 1) := by decide +kernel
theorem d_L_law_475 : decode mL_law.2.2.1 475 = .ok (.iaload, 1) := by decide +kernel
theorem d_L_law_476 : decode mL_law.2.2.1 476 = .ok (.invokevirtual 63, 3) := by decide +kernel
theorem sel_X12_spent : Cond.instanceMethod mX12_spent.2.1 ∈ tblG ∧ Cond.selects mX12_spent.2.1.cls mX12_spent.2.1 mX12_spent.2.1 ∈ tblG := ⟨tblG_in (inT9 (List.mem_of_getElem? (i := 143) rfl)) rfl, tblG_in (inT9 (List.mem_of_getElem? (i := 144) rfl)) rfl⟩
theorem s_13_63 : e_siteV 13 63 mX12_spent 12 := ⟨tblG_in (inT9 (List.mem_of_getElem? (i := 142) rfl)) rfl, sel_X12_spent.1, sel_X12_spent.2, rfl⟩
theorem ok_X12_spent : e_m mX12_spent 2 := ⟨tblG_in (inT9 (List.mem_of_getElem? (i := 145) rfl)) rfl, plainFor_of_name (by decide), rfl, ini_12, by decide +kernel, by decide⟩
theorem d_L_law_479 : decode mL_law.2.2.1 479 = .ok (.pop, 1) := by decide +kernel
theorem d_L_law_480 : decode mL_law.2.2.1 480 = .ok (.goto 516, 3) := by decide +kernel
theorem d_L_law_483 : decode mL_law.2.2.1 483 = .ok (.aload_n 1, 1) := by decide +kernel
theorem d_L_law_484 : decode mL_law.2.2.1 484 = .ok (.aload_n 0, 1) := by decide +kernel
theorem d_L_law_485 : decode mL_law.2.2.1 485 = .ok (.iload_n 3, 1) := by decide +kernel
theorem d_L_law_486 : decode mL_law.2.2.1 486 = .ok (.iconst 1, 1) := by decide +kernel
theorem d_L_law_487 : decode mL_law.2.2.1 487 = .ok (.iadd, 1) := by decide +kernel
theorem d_L_law_488 : decode mL_law.2.2.1 488 = .ok (.iaload, 1) := by decide +kernel
theorem d_L_law_489 : decode mL_law.2.2.1 489 = .ok (.aload_n 0, 1) := by decide +kernel
theorem d_L_law_490 : decode mL_law.2.2.1 490 = .ok (.iload_n 3, 1) := by decide +kernel
theorem d_L_law_491 : decode mL_law.2.2.1 491 = .ok (.iconst 2, 1) := by decide +kernel
theorem d_L_law_492 : decode mL_law.2.2.1 492 = .ok (.iadd, 1) := by decide +kernel
theorem d_L_law_493 : decode mL_law.2.2.1 493 = .ok (.iaload, 1) := by decide +kernel
theorem d_L_law_494 : decode mL_law.2.2.1 494 = .ok (.invokevirtual 64, 3) := by decide +kernel
theorem sel_X11_pays : Cond.instanceMethod mX11_pays.2.1 ∈ tblG ∧ Cond.selects mX11_pays.2.1.cls mX11_pays.2.1 mX11_pays.2.1 ∈ tblG := ⟨tblG_in (inT5 (List.mem_of_getElem? (i := 183) rfl)) rfl, tblG_in (inT5 (List.mem_of_getElem? (i := 184) rfl)) rfl⟩
theorem s_13_64 : e_siteV 13 64 mX11_pays 11 := ⟨tblG_in (inT5 (List.mem_of_getElem? (i := 182) rfl)) rfl, sel_X11_pays.1, sel_X11_pays.2, rfl⟩
theorem ok_X11_pays : e_m mX11_pays 2 := ⟨tblG_in (inT5 (List.mem_of_getElem? (i := 185) rfl)) rfl, plainFor_of_name (by decide), rfl, ini_11, by decide +kernel, by decide⟩
theorem d_L_law_497 : decode mL_law.2.2.1 497 = .ok (.pop, 1) := by decide +kernel
theorem d_L_law_498 : decode mL_law.2.2.1 498 = .ok (.aload_n 2, 1) := by decide +kernel
theorem d_L_law_499 : decode mL_law.2.2.1 499 = .ok (.aload_n 0, 1) := by decide +kernel
theorem d_L_law_500 : decode mL_law.2.2.1 500 = .ok (.iload_n 3, 1) := by decide +kernel
theorem d_L_law_501 : decode mL_law.2.2.1 501 = .ok (.iconst 1, 1) := by decide +kernel
theorem d_L_law_502 : decode mL_law.2.2.1 502 = .ok (.iadd, 1) := by decide +kernel
theorem d_L_law_503 : decode mL_law.2.2.1 503 = .ok (.iaload, 1) := by decide +kernel
theorem d_L_law_504 : decode mL_law.2.2.1 504 = .ok (.aload_n 0, 1) := by decide +kernel
theorem d_L_law_505 : decode mL_law.2.2.1 505 = .ok (.iload_n 3, 1) := by decide +kernel
theorem d_L_law_506 : decode mL_law.2.2.1 506 = .ok (.iconst 2, 1) := by decide +kernel
theorem d_L_law_507 : decode mL_law.2.2.1 507 = .ok (.iadd, 1) := by decide +kernel
theorem d_L_law_508 : decode mL_law.2.2.1 508 = .ok (.iaload, 1) := by decide +kernel
theorem d_L_law_509 : decode mL_law.2.2.1 509 = .ok (.invokevirtual 67, 3) := by decide +kernel
theorem sel_X12_pays : Cond.instanceMethod mX12_pays.2.1 ∈ tblG ∧ Cond.selects mX12_pays.2.1.cls mX12_pays.2.1 mX12_pays.2.1 ∈ tblG := ⟨tblG_in (inT9 (List.mem_of_getElem? (i := 175) rfl)) rfl, tblG_in (inT9 (List.mem_of_getElem? (i := 176) rfl)) rfl⟩
theorem s_13_67 : e_siteV 13 67 mX12_pays 12 := ⟨tblG_in (inT9 (List.mem_of_getElem? (i := 174) rfl)) rfl, sel_X12_pays.1, sel_X12_pays.2, rfl⟩
theorem ok_X12_pays : e_m mX12_pays 2 := ⟨tblG_in (inT9 (List.mem_of_getElem? (i := 177) rfl)) rfl, plainFor_of_name (by decide), rfl, ini_12, by decide +kernel, by decide⟩
theorem d_L_law_512 : decode mL_law.2.2.1 512 = .ok (.pop, 1) := by decide +kernel
theorem d_L_law_513 : decode mL_law.2.2.1 513 = .ok (.goto 483, 3) := by decide +kernel
theorem d_L_law_516 : decode mL_law.2.2.1 516 = .ok (.aload_n 1, 1) := by decide +kernel
theorem d_L_law_517 : decode mL_law.2.2.1 517 = .ok (.aload_n 0, 1) := by decide +kernel
theorem d_L_law_518 : decode mL_law.2.2.1 518 = .ok (.iload_n 3, 1) := by decide +kernel
theorem d_L_law_519 : decode mL_law.2.2.1 519 = .ok (.iconst 1, 1) := by decide +kernel
theorem d_L_law_520 : decode mL_law.2.2.1 520 = .ok (.iadd, 1) := by decide +kernel
theorem d_L_law_521 : decode mL_law.2.2.1 521 = .ok (.iaload, 1) := by decide +kernel
theorem d_L_law_522 : decode mL_law.2.2.1 522 = .ok (.invokevirtual 68, 3) := by decide +kernel
theorem sel_X11_stretches : Cond.instanceMethod mX11_stretches.2.1 ∈ tblG ∧ Cond.selects mX11_stretches.2.1.cls mX11_stretches.2.1 mX11_stretches.2.1 ∈ tblG := ⟨tblG_in (inT5 (List.mem_of_getElem? (i := 212) rfl)) rfl, tblG_in (inT5 (List.mem_of_getElem? (i := 213) rfl)) rfl⟩
theorem s_13_68 : e_siteV 13 68 mX11_stretches 11 := ⟨tblG_in (inT5 (List.mem_of_getElem? (i := 211) rfl)) rfl, sel_X11_stretches.1, sel_X11_stretches.2, rfl⟩
theorem ok_X11_stretches : e_m mX11_stretches 1 := ⟨tblG_in (inT5 (List.mem_of_getElem? (i := 214) rfl)) rfl, plainFor_of_name (by decide), rfl, ini_11, by decide +kernel, by decide⟩
theorem d_L_law_525 : decode mL_law.2.2.1 525 = .ok (.pop, 1) := by decide +kernel
theorem d_L_law_526 : decode mL_law.2.2.1 526 = .ok (.aload_n 2, 1) := by decide +kernel
theorem d_L_law_527 : decode mL_law.2.2.1 527 = .ok (.aload_n 0, 1) := by decide +kernel
theorem d_L_law_528 : decode mL_law.2.2.1 528 = .ok (.iload_n 3, 1) := by decide +kernel
theorem d_L_law_529 : decode mL_law.2.2.1 529 = .ok (.iconst 1, 1) := by decide +kernel
theorem d_L_law_530 : decode mL_law.2.2.1 530 = .ok (.iadd, 1) := by decide +kernel
theorem d_L_law_531 : decode mL_law.2.2.1 531 = .ok (.iaload, 1) := by decide +kernel
theorem d_L_law_532 : decode mL_law.2.2.1 532 = .ok (.invokevirtual 71, 3) := by decide +kernel
theorem sel_X12_stretches : Cond.instanceMethod mX12_stretches.2.1 ∈ tblG ∧ Cond.selects mX12_stretches.2.1.cls mX12_stretches.2.1 mX12_stretches.2.1 ∈ tblG := ⟨tblG_in (inT9 (List.mem_of_getElem? (i := 147) rfl)) rfl, tblG_in (inT9 (List.mem_of_getElem? (i := 148) rfl)) rfl⟩
theorem s_13_71 : e_siteV 13 71 mX12_stretches 12 := ⟨tblG_in (inT9 (List.mem_of_getElem? (i := 146) rfl)) rfl, sel_X12_stretches.1, sel_X12_stretches.2, rfl⟩
theorem ok_X12_stretches : e_m mX12_stretches 1 := ⟨tblG_in (inT9 (List.mem_of_getElem? (i := 149) rfl)) rfl, plainFor_of_name (by decide), rfl, ini_12, by decide +kernel, by decide⟩
theorem d_L_law_535 : decode mL_law.2.2.1 535 = .ok (.pop, 1) := by decide +kernel
theorem d_L_law_536 : decode mL_law.2.2.1 536 = .ok (.goto 460, 3) := by decide +kernel
theorem d_L_law_539 : decode mL_law.2.2.1 539 = .ok (.aload_n 1, 1) := by decide +kernel
theorem d_L_law_540 : decode mL_law.2.2.1 540 = .ok (.aload_n 0, 1) := by decide +kernel
theorem d_L_law_541 : decode mL_law.2.2.1 541 = .ok (.iload_n 3, 1) := by decide +kernel
theorem d_L_law_542 : decode mL_law.2.2.1 542 = .ok (.iconst 1, 1) := by decide +kernel
theorem d_L_law_543 : decode mL_law.2.2.1 543 = .ok (.iadd, 1) := by decide +kernel
theorem d_L_law_544 : decode mL_law.2.2.1 544 = .ok (.iaload, 1) := by decide +kernel
theorem d_L_law_545 : decode mL_law.2.2.1 545 = .ok (.aload_n 0, 1) := by decide +kernel
theorem d_L_law_546 : decode mL_law.2.2.1 546 = .ok (.iload_n 3, 1) := by decide +kernel
theorem d_L_law_547 : decode mL_law.2.2.1 547 = .ok (.iconst 2, 1) := by decide +kernel
theorem d_L_law_548 : decode mL_law.2.2.1 548 = .ok (.iadd, 1) := by decide +kernel
theorem d_L_law_549 : decode mL_law.2.2.1 549 = .ok (.iaload, 1) := by decide +kernel
theorem d_L_law_550 : decode mL_law.2.2.1 550 = .ok (.aload_n 0, 1) := by decide +kernel
theorem d_L_law_551 : decode mL_law.2.2.1 551 = .ok (.iload_n 3, 1) := by decide +kernel
theorem d_L_law_552 : decode mL_law.2.2.1 552 = .ok (.iconst 3, 1) := by decide +kernel
theorem d_L_law_553 : decode mL_law.2.2.1 553 = .ok (.iadd, 1) := by decide +kernel
theorem d_L_law_554 : decode mL_law.2.2.1 554 = .ok (.iaload, 1) := by decide +kernel
theorem d_L_law_555 : decode mL_law.2.2.1 555 = .ok (.invokevirtual 72, 3) := by decide +kernel
theorem sel_X11_stretch : Cond.instanceMethod mX11_stretch.2.1 ∈ tblG ∧ Cond.selects mX11_stretch.2.1.cls mX11_stretch.2.1 mX11_stretch.2.1 ∈ tblG := ⟨tblG_in (inT5 (List.mem_of_getElem? (i := 220) rfl)) rfl, tblG_in (inT5 (List.mem_of_getElem? (i := 221) rfl)) rfl⟩
theorem s_13_72 : e_siteV 13 72 mX11_stretch 11 := ⟨tblG_in (inT5 (List.mem_of_getElem? (i := 219) rfl)) rfl, sel_X11_stretch.1, sel_X11_stretch.2, rfl⟩
theorem ok_X11_stretch : e_m mX11_stretch 3 := ⟨tblG_in (inT5 (List.mem_of_getElem? (i := 222) rfl)) rfl, plainFor_of_name (by decide), rfl, ini_11, by decide +kernel, by decide⟩
theorem d_L_law_558 : decode mL_law.2.2.1 558 = .ok (.pop, 1) := by decide +kernel
theorem d_L_law_559 : decode mL_law.2.2.1 559 = .ok (.aload_n 2, 1) := by decide +kernel
theorem d_L_law_560 : decode mL_law.2.2.1 560 = .ok (.aload_n 0, 1) := by decide +kernel
theorem d_L_law_561 : decode mL_law.2.2.1 561 = .ok (.iload_n 3, 1) := by decide +kernel
theorem d_L_law_562 : decode mL_law.2.2.1 562 = .ok (.iconst 1, 1) := by decide +kernel
theorem d_L_law_563 : decode mL_law.2.2.1 563 = .ok (.iadd, 1) := by decide +kernel
theorem d_L_law_564 : decode mL_law.2.2.1 564 = .ok (.iaload, 1) := by decide +kernel
theorem d_L_law_565 : decode mL_law.2.2.1 565 = .ok (.aload_n 0, 1) := by decide +kernel
theorem d_L_law_566 : decode mL_law.2.2.1 566 = .ok (.iload_n 3, 1) := by decide +kernel
theorem d_L_law_567 : decode mL_law.2.2.1 567 = .ok (.iconst 2, 1) := by decide +kernel
theorem d_L_law_568 : decode mL_law.2.2.1 568 = .ok (.iadd, 1) := by decide +kernel
theorem d_L_law_569 : decode mL_law.2.2.1 569 = .ok (.iaload, 1) := by decide +kernel
theorem d_L_law_570 : decode mL_law.2.2.1 570 = .ok (.aload_n 0, 1) := by decide +kernel
theorem d_L_law_571 : decode mL_law.2.2.1 571 = .ok (.iload_n 3, 1) := by decide +kernel
theorem d_L_law_572 : decode mL_law.2.2.1 572 = .ok (.iconst 3, 1) := by decide +kernel
theorem d_L_law_573 : decode mL_law.2.2.1 573 = .ok (.iadd, 1) := by decide +kernel
theorem d_L_law_574 : decode mL_law.2.2.1 574 = .ok (.iaload, 1) := by decide +kernel
theorem d_L_law_575 : decode mL_law.2.2.1 575 = .ok (.invokevirtual 75, 3) := by decide +kernel
theorem sel_X12_stretch : Cond.instanceMethod mX12_stretch.2.1 ∈ tblG ∧ Cond.selects mX12_stretch.2.1.cls mX12_stretch.2.1 mX12_stretch.2.1 ∈ tblG := ⟨tblG_in (inT9 (List.mem_of_getElem? (i := 159) rfl)) rfl, tblG_in (inT9 (List.mem_of_getElem? (i := 160) rfl)) rfl⟩
theorem s_13_75 : e_siteV 13 75 mX12_stretch 12 := ⟨tblG_in (inT9 (List.mem_of_getElem? (i := 158) rfl)) rfl, sel_X12_stretch.1, sel_X12_stretch.2, rfl⟩
theorem ok_X12_stretch : e_m mX12_stretch 3 := ⟨tblG_in (inT9 (List.mem_of_getElem? (i := 161) rfl)) rfl, plainFor_of_name (by decide), rfl, ini_12, by decide +kernel, by decide⟩
theorem d_L_law_578 : decode mL_law.2.2.1 578 = .ok (.pop, 1) := by decide +kernel
theorem d_L_law_579 : decode mL_law.2.2.1 579 = .ok (.goto 417, 3) := by decide +kernel
theorem d_L_law_582 : decode mL_law.2.2.1 582 = .ok (.aload_n 1, 1) := by decide +kernel
theorem d_L_law_583 : decode mL_law.2.2.1 583 = .ok (.aload_n 0, 1) := by decide +kernel
theorem d_L_law_584 : decode mL_law.2.2.1 584 = .ok (.iload_n 3, 1) := by decide +kernel
theorem d_L_law_585 : decode mL_law.2.2.1 585 = .ok (.iconst 1, 1) := by decide +kernel
theorem d_L_law_586 : decode mL_law.2.2.1 586 = .ok (.iadd, 1) := by decide +kernel
theorem d_L_law_587 : decode mL_law.2.2.1 587 = .ok (.iaload, 1) := by decide +kernel
theorem d_L_law_588 : decode mL_law.2.2.1 588 = .ok (.aload_n 0, 1) := by decide +kernel
theorem d_L_law_589 : decode mL_law.2.2.1 589 = .ok (.iload_n 3, 1) := by decide +kernel
theorem d_L_law_590 : decode mL_law.2.2.1 590 = .ok (.iconst 2, 1) := by decide +kernel
theorem d_L_law_591 : decode mL_law.2.2.1 591 = .ok (.iadd, 1) := by decide +kernel
theorem d_L_law_592 : decode mL_law.2.2.1 592 = .ok (.iaload, 1) := by decide +kernel
theorem d_L_law_593 : decode mL_law.2.2.1 593 = .ok (.invokevirtual 76, 3) := by decide +kernel
theorem sel_X11_lines : Cond.instanceMethod mX11_lines.2.1 ∈ tblG ∧ Cond.selects mX11_lines.2.1.cls mX11_lines.2.1 mX11_lines.2.1 ∈ tblG := ⟨tblG_in (inT5 (List.mem_of_getElem? (i := 232) rfl)) rfl, tblG_in (inT5 (List.mem_of_getElem? (i := 233) rfl)) rfl⟩
theorem s_13_76 : e_siteV 13 76 mX11_lines 11 := ⟨tblG_in (inT5 (List.mem_of_getElem? (i := 231) rfl)) rfl, sel_X11_lines.1, sel_X11_lines.2, rfl⟩
theorem ok_X11_lines : e_m mX11_lines 2 := ⟨tblG_in (inT5 (List.mem_of_getElem? (i := 234) rfl)) rfl, plainFor_of_name (by decide), rfl, ini_11, by decide +kernel, by decide⟩
theorem d_L_law_596 : decode mL_law.2.2.1 596 = .ok (.pop2, 1) := by decide +kernel
theorem d_L_law_597 : decode mL_law.2.2.1 597 = .ok (.aload_n 2, 1) := by decide +kernel
theorem d_L_law_598 : decode mL_law.2.2.1 598 = .ok (.aload_n 0, 1) := by decide +kernel
theorem d_L_law_599 : decode mL_law.2.2.1 599 = .ok (.iload_n 3, 1) := by decide +kernel
theorem d_L_law_600 : decode mL_law.2.2.1 600 = .ok (.iconst 1, 1) := by decide +kernel
theorem d_L_law_601 : decode mL_law.2.2.1 601 = .ok (.iadd, 1) := by decide +kernel
theorem d_L_law_602 : decode mL_law.2.2.1 602 = .ok (.iaload, 1) := by decide +kernel
theorem d_L_law_603 : decode mL_law.2.2.1 603 = .ok (.aload_n 0, 1) := by decide +kernel
theorem d_L_law_604 : decode mL_law.2.2.1 604 = .ok (.iload_n 3, 1) := by decide +kernel
theorem d_L_law_605 : decode mL_law.2.2.1 605 = .ok (.iconst 2, 1) := by decide +kernel
theorem d_L_law_606 : decode mL_law.2.2.1 606 = .ok (.iadd, 1) := by decide +kernel
theorem d_L_law_607 : decode mL_law.2.2.1 607 = .ok (.iaload, 1) := by decide +kernel
theorem d_L_law_608 : decode mL_law.2.2.1 608 = .ok (.invokevirtual 80, 3) := by decide +kernel
theorem sel_X12_lines : Cond.instanceMethod mX12_lines.2.1 ∈ tblG ∧ Cond.selects mX12_lines.2.1.cls mX12_lines.2.1 mX12_lines.2.1 ∈ tblG := ⟨tblG_in (inT9 (List.mem_of_getElem? (i := 167) rfl)) rfl, tblG_in (inT9 (List.mem_of_getElem? (i := 168) rfl)) rfl⟩
theorem s_13_80 : e_siteV 13 80 mX12_lines 12 := ⟨tblG_in (inT9 (List.mem_of_getElem? (i := 166) rfl)) rfl, sel_X12_lines.1, sel_X12_lines.2, rfl⟩
theorem ok_X12_lines : e_m mX12_lines 2 := ⟨tblG_in (inT9 (List.mem_of_getElem? (i := 169) rfl)) rfl, plainFor_of_name (by decide), rfl, ini_12, by decide +kernel, by decide⟩
theorem d_L_law_611 : decode mL_law.2.2.1 611 = .ok (.pop2, 1) := by decide +kernel
theorem d_L_law_612 : decode mL_law.2.2.1 612 = .ok (.goto 384, 3) := by decide +kernel
theorem d_L_law_615 : decode mL_law.2.2.1 615 = .ok (.aload_n 1, 1) := by decide +kernel
theorem d_L_law_616 : decode mL_law.2.2.1 616 = .ok (.aload_n 0, 1) := by decide +kernel
theorem d_L_law_617 : decode mL_law.2.2.1 617 = .ok (.iload_n 3, 1) := by decide +kernel
theorem d_L_law_618 : decode mL_law.2.2.1 618 = .ok (.iconst 1, 1) := by decide +kernel
theorem d_L_law_619 : decode mL_law.2.2.1 619 = .ok (.iadd, 1) := by decide +kernel
theorem d_L_law_620 : decode mL_law.2.2.1 620 = .ok (.iaload, 1) := by decide +kernel
theorem d_L_law_621 : decode mL_law.2.2.1 621 = .ok (.aload_n 0, 1) := by decide +kernel
