/-! decoded instructions of L_law -/
theorem d_L_law_450 : decode mL_law.2.2.1 450 = .ok (.aload_n 1, 1) := by decide +kernel
theorem d_L_law_451 : decode mL_law.2.2.1 451 = .ok (.aload_n 0, 1) := by decide +kernel
theorem d_L_law_452 : decode mL_law.2.2.1 452 = .ok (.iload_n 3, 1) := by decide +kernel
theorem d_L_law_453 : decode mL_law.2.2.1 453 = .ok (.iconst 1, 1) := by decide +kernel
theorem d_L_law_454 : decode mL_law.2.2.1 454 = .ok (.iadd, 1) := by decide +kernel
theorem d_L_law_455 : decode mL_law.2.2.1 455 = .ok (.iaload, 1) := by decide +kernel
theorem d_L_law_456 : decode mL_law.2.2.1 456 = .ok (.aload_n 0, 1) := by decide +kernel
theorem d_L_law_457 : decode mL_law.2.2.1 457 = .ok (.iload_n 3, 1) := by decide +kernel
theorem d_L_law_458 : decode mL_law.2.2.1 458 = .ok (.iconst 2, 1) := by decide +kernel
theorem d_L_law_459 : decode mL_law.2.2.1 459 = .ok (.iadd, 1) := by decide +kernel
theorem d_L_law_460 : decode mL_law.2.2.1 460 = .ok (.iaload, 1) := by decide +kernel
theorem d_L_law_461 : decode mL_law.2.2.1 461 = .ok (.invokevirtual 59, 3) := by decide +kernel
theorem d_L_law_464 : decode mL_law.2.2.1 464 = .ok (.aload_n 2, 1) := by decide +kernel
theorem d_L_law_465 : decode mL_law.2.2.1 465 = .ok (.aload_n 0, 1) := by decide +kernel
theorem d_L_law_466 : decode mL_law.2.2.1 466 = .ok (.iload_n 3, 1) := by decide +kernel
theorem d_L_law_467 : decode mL_law.2.2.1 467 = .ok (.iconst 1, 1) := by decide +kernel
theorem d_L_law_468 : decode mL_law.2.2.1 468 = .ok (.iadd, 1) := by decide +kernel
theorem d_L_law_469 : decode mL_law.2.2.1 469 = .ok (.iaload, 1) := by decide +kernel
theorem d_L_law_470 : decode mL_law.2.2.1 470 = .ok (.aload_n 0, 1) := by decide +kernel
theorem d_L_law_471 : decode mL_law.2.2.1 471 = .ok (.iload_n 3, 1) := by decide +kernel
theorem d_L_law_472 : decode mL_law.2.2.1 472 = .ok (.iconst 2, 1) := by decide +kernel
theorem d_L_law_473 : decode mL_law.2.2.1 473 = .ok (.iadd, 1) := by decide +kernel
theorem d_L_law_474 : decode mL_law.2.2.1 474 = .ok (.iaload, 1) := by decide +kernel
theorem d_L_law_475 : decode mL_law.2.2.1 475 = .ok (.invokevirtual 63, 3) := by decide +kernel
theorem d_L_law_478 : decode mL_law.2.2.1 478 = .ok (.if_icmp .eq 520, 3) := by decide +kernel
theorem d_L_law_483 : decode mL_law.2.2.1 483 = .ok (.aload_n 1, 1) := by decide +kernel
theorem d_L_law_484 : decode mL_law.2.2.1 484 = .ok (.aload_n 0, 1) := by decide +kernel
theorem d_L_law_485 : decode mL_law.2.2.1 485 = .ok (.iload_n 3, 1) := by decide +kernel
theorem d_L_law_486 : decode mL_law.2.2.1 486 = .ok (.iconst 1, 1) := by decide +kernel
theorem d_L_law_487 : decode mL_law.2.2.1 487 = .ok (.iadd, 1) := by decide +kernel
theorem d_L_law_488 : decode mL_law.2.2.1 488 = .ok (.iaload, 1) := by decide +kernel
theorem d_L_law_489 : decode mL_law.2.2.1 489 = .ok (.aload_n 0, 1) := by decide +kernel
theorem d_L_law_490 : decode mL_law.2.2.1 490 = .ok (.iload_n 3, 1) := by decide +kernel
theorem d_L_law_491 : decode mL_law.2.2.1 491 = .ok (.iconst 2, 1) := by decide +kernel
theorem d_L_law_492 : decode mL_law.2.2.1 492 = .ok (.iadd, 1) := by decide +kernel
theorem d_L_law_493 : decode mL_law.2.2.1 493 = .ok (.iaload, 1) := by decide +kernel
theorem d_L_law_494 : decode mL_law.2.2.1 494 = .ok (.invokevirtual 64, 3) := by decide +kernel
theorem d_L_law_497 : decode mL_law.2.2.1 497 = .ok (.aload_n 2, 1) := by decide +kernel
theorem d_L_law_498 : decode mL_law.2.2.1 498 = .ok (.aload_n 0, 1) := by decide +kernel
theorem d_L_law_499 : decode mL_law.2.2.1 499 = .ok (.iload_n 3, 1) := by decide +kernel
theorem d_L_law_500 : decode mL_law.2.2.1 500 = .ok (.iconst 1, 1) := by decide +kernel
theorem d_L_law_501 : decode mL_law.2.2.1 501 = .ok (.iadd, 1) := by decide +kernel
theorem d_L_law_502 : decode mL_law.2.2.1 502 = .ok (.iaload, 1) := by decide +kernel
theorem d_L_law_503 : decode mL_law.2.2.1 503 = .ok (.aload_n 0, 1) := by decide +kernel
theorem d_L_law_504 : decode mL_law.2.2.1 504 = .ok (.iload_n 3, 1) := by decide +kernel
theorem d_L_law_505 : decode mL_law.2.2.1 505 = .ok (.iconst 2, 1) := by decide +kernel
theorem d_L_law_506 : decode mL_law.2.2.1 506 = .ok (.iadd, 1) := by decide +kernel
theorem d_L_law_507 : decode mL_law.2.2.1 507 = .ok (.iaload, 1) := by decide +kernel
theorem d_L_law_508 : decode mL_law.2.2.1 508 = .ok (.invokevirtual 67, 3) := by decide +kernel
theorem d_L_law_511 : decode mL_law.2.2.1 511 = .ok (.if_icmp .eq 487, 3) := by decide +kernel
theorem d_L_law_516 : decode mL_law.2.2.1 516 = .ok (.aload_n 1, 1) := by decide +kernel
theorem d_L_law_517 : decode mL_law.2.2.1 517 = .ok (.aload_n 0, 1) := by decide +kernel
theorem d_L_law_518 : decode mL_law.2.2.1 518 = .ok (.iload_n 3, 1) := by decide +kernel
theorem d_L_law_519 : decode mL_law.2.2.1 519 = .ok (.iconst 1, 1) := by decide +kernel
theorem d_L_law_520 : decode mL_law.2.2.1 520 = .ok (.iadd, 1) := by decide +kernel
theorem d_L_law_521 : decode mL_law.2.2.1 521 = .ok (.iaload, 1) := by decide +kernel
theorem d_L_law_522 : decode mL_law.2.2.1 522 = .ok (.invokevirtual 68, 3) := by decide +kernel
theorem d_L_law_525 : decode mL_law.2.2.1 525 = .ok (.aload_n 2, 1) := by decide +kernel
theorem d_L_law_526 : decode mL_law.2.2.1 526 = .ok (.aload_n 0, 1) := by decide +kernel
theorem d_L_law_527 : decode mL_law.2.2.1 527 = .ok (.iload_n 3, 1) := by decide +kernel
theorem d_L_law_528 : decode mL_law.2.2.1 528 = .ok (.iconst 1, 1) := by decide +kernel
theorem d_L_law_529 : decode mL_law.2.2.1 529 = .ok (.iadd, 1) := by decide +kernel
theorem d_L_law_530 : decode mL_law.2.2.1 530 = .ok (.iaload, 1) := by decide +kernel
theorem d_L_law_531 : decode mL_law.2.2.1 531 = .ok (.invokevirtual 71, 3) := by decide +kernel
theorem d_L_law_534 : decode mL_law.2.2.1 534 = .ok (.if_icmp .eq 464, 3) := by decide +kernel
theorem d_L_law_539 : decode mL_law.2.2.1 539 = .ok (.aload_n 1, 1) := by decide +kernel
theorem d_L_law_540 : decode mL_law.2.2.1 540 = .ok (.aload_n 0, 1) := by decide +kernel
theorem d_L_law_541 : decode mL_law.2.2.1 541 = .ok (.iload_n 3, 1) := by decide +kernel
theorem d_L_law_542 : decode mL_law.2.2.1 542 = .ok (.iconst 1, 1) := by decide +kernel
theorem d_L_law_543 : decode mL_law.2.2.1 543 = .ok (.iadd, 1) := by decide +kernel
theorem d_L_law_544 : decode mL_law.2.2.1 544 = .ok (.iaload, 1) := by decide +kernel
theorem d_L_law_545 : decode mL_law.2.2.1 545 = .ok (.aload_n 0, 1) := by decide +kernel
theorem d_L_law_546 : decode mL_law.2.2.1 546 = .ok (.iload_n 3, 1) := by decide +kernel
theorem d_L_law_547 : decode mL_law.2.2.1 547 = .ok (.iconst 2, 1) := by decide +kernel
theorem d_L_law_548 : decode mL_law.2.2.1 548 = .ok (.iadd, 1) := by decide +kernel
theorem d_L_law_549 : decode mL_law.2.2.1 549 = .ok (.iaload, 1) := by decide +kernel
theorem d_L_law_550 : decode mL_law.2.2.1 550 = .ok (.aload_n 0, 1) := by decide +kernel
theorem d_L_law_551 : decode mL_law.2.2.1 551 = .ok (.iload_n 3, 1) := by decide +kernel
theorem d_L_law_552 : decode mL_law.2.2.1 552 = .ok (.iconst 3, 1) := by decide +kernel
theorem d_L_law_553 : decode mL_law.2.2.1 553 = .ok (.iadd, 1) := by decide +kernel
theorem d_L_law_554 : decode mL_law.2.2.1 554 = .ok (.iaload, 1) := by decide +kernel
theorem d_L_law_555 : decode mL_law.2.2.1 555 = .ok (.invokevirtual 72, 3) := by decide +kernel
theorem d_L_law_558 : decode mL_law.2.2.1 558 = .ok (.aload_n 2, 1) := by decide +kernel
theorem d_L_law_559 : decode mL_law.2.2.1 559 = .ok (.aload_n 0, 1) := by decide +kernel
theorem d_L_law_560 : decode mL_law.2.2.1 560 = .ok (.iload_n 3, 1) := by decide +kernel
theorem d_L_law_561 : decode mL_law.2.2.1 561 = .ok (.iconst 1, 1) := by decide +kernel
theorem d_L_law_562 : decode mL_law.2.2.1 562 = .ok (.iadd, 1) := by decide +kernel
theorem d_L_law_563 : decode mL_law.2.2.1 563 = .ok (.iaload, 1) := by decide +kernel
theorem d_L_law_564 : decode mL_law.2.2.1 564 = .ok (.aload_n 0, 1) := by decide +kernel
theorem d_L_law_565 : decode mL_law.2.2.1 565 = .ok (.iload_n 3, 1) := by decide +kernel
theorem d_L_law_566 : decode mL_law.2.2.1 566 = .ok (.iconst 2, 1) := by decide +kernel
theorem d_L_law_567 : decode mL_law.2.2.1 567 = .ok (.iadd, 1) := by decide +kernel
theorem d_L_law_568 : decode mL_law.2.2.1 568 = .ok (.iaload, 1) := by decide +kernel
theorem d_L_law_569 : decode mL_law.2.2.1 569 = .ok (.aload_n 0, 1) := by decide +kernel
theorem d_L_law_570 : decode mL_law.2.2.1 570 = .ok (.iload_n 3, 1) := by decide +kernel
theorem d_L_law_571 : decode mL_law.2.2.1 571 = .ok (.iconst 3, 1) := by decide +kernel
theorem d_L_law_572 : decode mL_law.2.2.1 572 = .ok (.iadd, 1) := by decide +kernel
theorem d_L_law_573 : decode mL_law.2.2.1 573 = .ok (.iaload, 1) := by decide +kernel
theorem d_L_law_574 : decode mL_law.2.2.1 574 = .ok (.invokevirtual 75, 3) := by decide +kernel
theorem d_L_law_577 : decode mL_law.2.2.1 577 = .ok (.if_icmp .eq 421, 3) := by decide +kernel
theorem d_L_law_582 : decode mL_law.2.2.1 582 = .ok (.aload_n 1, 1) := by decide +kernel
theorem d_L_law_583 : decode mL_law.2.2.1 583 = .ok (.aload_n 0, 1) := by decide +kernel
theorem d_L_law_584 : decode mL_law.2.2.1 584 = .ok (.iload_n 3, 1) := by decide +kernel
theorem d_L_law_585 : decode mL_law.2.2.1 585 = .ok (.iconst 1, 1) := by decide +kernel
theorem d_L_law_586 : decode mL_law.2.2.1 586 = .ok (.iadd, 1) := by decide +kernel
theorem d_L_law_587 : decode mL_law.2.2.1 587 = .ok (.iaload, 1) := by decide +kernel
theorem d_L_law_588 : decode mL_law.2.2.1 588 = .ok (.aload_n 0, 1) := by decide +kernel
theorem d_L_law_589 : decode mL_law.2.2.1 589 = .ok (.iload_n 3, 1) := by decide +kernel
theorem d_L_law_590 : decode mL_law.2.2.1 590 = .ok (.iconst 2, 1) := by decide +kernel
theorem d_L_law_591 : decode mL_law.2.2.1 591 = .ok (.iadd, 1) := by decide +kernel
theorem d_L_law_592 : decode mL_law.2.2.1 592 = .ok (.iaload, 1) := by decide +kernel
theorem d_L_law_593 : decode mL_law.2.2.1 593 = .ok (.invokevirtual 76, 3) := by decide +kernel
theorem d_L_law_596 : decode mL_law.2.2.1 596 = .ok (.aload_n 2, 1) := by decide +kernel
theorem d_L_law_597 : decode mL_law.2.2.1 597 = .ok (.aload_n 0, 1) := by decide +kernel
theorem d_L_law_598 : decode mL_law.2.2.1 598 = .ok (.iload_n 3, 1) := by decide +kernel
theorem d_L_law_599 : decode mL_law.2.2.1 599 = .ok (.iconst 1, 1) := by decide +kernel
theorem d_L_law_600 : decode mL_law.2.2.1 600 = .ok (.iadd, 1) := by decide +kernel
theorem d_L_law_601 : decode mL_law.2.2.1 601 = .ok (.iaload, 1) := by decide +kernel
theorem d_L_law_602 : decode mL_law.2.2.1 602 = .ok (.aload_n 0, 1) := by decide +kernel
theorem d_L_law_603 : decode mL_law.2.2.1 603 = .ok (.iload_n 3, 1) := by decide +kernel
theorem d_L_law_604 : decode mL_law.2.2.1 604 = .ok (.iconst 2, 1) := by decide +kernel
theorem d_L_law_605 : decode mL_law.2.2.1 605 = .ok (.iadd, 1) := by decide +kernel
theorem d_L_law_606 : decode mL_law.2.2.1 606 = .ok (.iaload, 1) := by decide +kernel
theorem d_L_law_607 : decode mL_law.2.2.1 607 = .ok (.invokevirtual 80, 3) := by decide +kernel
theorem d_L_law_610 : decode mL_law.2.2.1 610 = .ok (.lcmp, 1) := by decide +kernel
theorem d_L_law_611 : decode mL_law.2.2.1 611 = .ok (.ifCond .eq 387, 3) := by decide +kernel
theorem d_L_law_616 : decode mL_law.2.2.1 616 = .ok (.aload_n 1, 1) := by decide +kernel
theorem d_L_law_617 : decode mL_law.2.2.1 617 = .ok (.aload_n 0, 1) := by decide +kernel
theorem d_L_law_618 : decode mL_law.2.2.1 618 = .ok (.iload_n 3, 1) := by decide +kernel
theorem d_L_law_619 : decode mL_law.2.2.1 619 = .ok (.iconst 1, 1) := by decide +kernel
theorem d_L_law_620 : decode mL_law.2.2.1 620 = .ok (.iadd, 1) := by decide +kernel
theorem d_L_law_621 : decode mL_law.2.2.1 621 = .ok (.iaload, 1) := by decide +kernel
theorem d_L_law_622 : decode mL_law.2.2.1 622 = .ok (.aload_n 0, 1) := by decide +kernel
theorem d_L_law_623 : decode mL_law.2.2.1 623 = .ok (.iload_n 3, 1) := by decide +kernel
theorem d_L_law_624 : decode mL_law.2.2.1 624 = .ok (.iconst 2, 1) := by decide +kernel
theorem d_L_law_625 : decode mL_law.2.2.1 625 = .ok (.iadd, 1) := by decide +kernel
theorem d_L_law_626 : decode mL_law.2.2.1 626 = .ok (.iaload, 1) := by decide +kernel
theorem d_L_law_627 : decode mL_law.2.2.1 627 = .ok (.aload_n 0, 1) := by decide +kernel
theorem d_L_law_628 : decode mL_law.2.2.1 628 = .ok (.iload_n 3, 1) := by decide +kernel
theorem d_L_law_629 : decode mL_law.2.2.1 629 = .ok (.iconst 3, 1) := by decide +kernel
theorem d_L_law_630 : decode mL_law.2.2.1 630 = .ok (.iadd, 1) := by decide +kernel
theorem d_L_law_631 : decode mL_law.2.2.1 631 = .ok (.iaload, 1) := by decide +kernel
theorem d_L_law_632 : decode mL_law.2.2.1 632 = .ok (.aload_n 0, 1) := by decide +kernel
theorem d_L_law_633 : decode mL_law.2.2.1 633 = .ok (.iload_n 3, 1) := by decide +kernel
theorem d_L_law_634 : decode mL_law.2.2.1 634 = .ok (.iconst 4, 1) := by decide +kernel
theorem d_L_law_635 : decode mL_law.2.2.1 635 = .ok (.iadd, 1) := by decide +kernel
theorem d_L_law_636 : decode mL_law.2.2.1 636 = .ok (.iaload, 1) := by decide +kernel
theorem d_L_law_637 : decode mL_law.2.2.1 637 = .ok (.ifCond .eq 7, 3) := by decide +kernel
theorem d_L_law_644 : decode mL_law.2.2.1 644 = .ok (.iconst 0, 1) := by decide +kernel
theorem d_L_law_645 : decode mL_law.2.2.1 645 = .ok (.invokevirtual 81, 3) := by decide +kernel
theorem d_L_law_648 : decode mL_law.2.2.1 648 = .ok (.aload_n 2, 1) := by decide +kernel
theorem d_L_law_649 : decode mL_law.2.2.1 649 = .ok (.aload_n 0, 1) := by decide +kernel
theorem d_L_law_650 : decode mL_law.2.2.1 650 = .ok (.iload_n 3, 1) := by decide +kernel
theorem d_L_law_651 : decode mL_law.2.2.1 651 = .ok (.iconst 1, 1) := by decide +kernel
theorem d_L_law_652 : decode mL_law.2.2.1 652 = .ok (.iadd, 1) := by decide +kernel
theorem d_L_law_653 : decode mL_law.2.2.1 653 = .ok (.iaload, 1) := by decide +kernel
theorem d_L_law_654 : decode mL_law.2.2.1 654 = .ok (.aload_n 0, 1) := by decide +kernel
theorem d_L_law_655 : decode mL_law.2.2.1 655 = .ok (.iload_n 3, 1) := by decide +kernel
theorem d_L_law_656 : decode mL_law.2.2.1 656 = .ok (.iconst 2, 1) := by decide +kernel
theorem d_L_law_657 : decode mL_law.2.2.1 657 = .ok (.iadd, 1) := by decide +kernel
theorem d_L_law_658 : decode mL_law.2.2.1 658 = .ok (.iaload, 1) := by decide +kernel
theorem d_L_law_659 : decode mL_law.2.2.1 659 = .ok (.aload_n 0, 1) := by decide +kernel
theorem d_L_law_660 : decode mL_law.2.2.1 660 = .ok (.iload_n 3, 1) := by decide +kernel
theorem d_L_law_661 : decode mL_law.2.2.1 661 = .ok (.iconst 3, 1) := by decide +kernel
theorem d_L_law_662 : decode mL_law.2.2.1 662 = .ok (.iadd, 1) := by decide +kernel
theorem d_L_law_663 : decode mL_law.2.2.1 663 = .ok (.iaload, 1) := by decide +kernel
theorem d_L_law_664 : decode mL_law.2.2.1 664 = .ok (.aload_n 0, 1) := by decide +kernel
theorem d_L_law_665 : decode mL_law.2.2.1 665 = .ok (.iload_n 3, 1) := by decide +kernel
theorem d_L_law_666 : decode mL_law.2.2.1 666 = .ok (.iconst 4, 1) := by decide +kernel
theorem d_L_law_667 : decode mL_law.2.2.1 667 = .ok (.iadd, 1) := by decide +kernel
theorem d_L_law_668 : decode mL_law.2.2.1 668 = .ok (.iaload, 1) := by decide +kernel
theorem d_L_law_669 : decode mL_law.2.2.1 669 = .ok (.ifCond .eq 7, 3) := by decide +kernel
theorem d_L_law_676 : decode mL_law.2.2.1 676 = .ok (.iconst 0, 1) := by decide +kernel
theorem d_L_law_677 : decode mL_law.2.2.1 677 = .ok (.invokevirtual 85, 3) := by decide +kernel
theorem d_L_law_680 : decode mL_law.2.2.1 680 = .ok (.lcmp, 1) := by decide +kernel
theorem d_L_law_681 : decode mL_law.2.2.1 681 = .ok (.ifCond .eq 317, 3) := by decide +kernel
theorem d_L_law_640 : decode mL_law.2.2.1 640 = .ok (.iconst 1, 1) := by decide +kernel
theorem d_L_law_641 : decode mL_law.2.2.1 641 = .ok (.goto 4, 3) := by decide +kernel
theorem d_L_law_672 : decode mL_law.2.2.1 672 = .ok (.iconst 1, 1) := by decide +kernel
theorem d_L_law_673 : decode mL_law.2.2.1 673 = .ok (.goto 4, 3) := by decide +kernel
theorem d_L_law_686 : decode mL_law.2.2.1 686 = .ok (.aload_n 1, 1) := by decide +kernel
theorem d_L_law_687 : decode mL_law.2.2.1 687 = .ok (.aload_n 0, 1) := by decide +kernel
theorem d_L_law_688 : decode mL_law.2.2.1 688 = .ok (.iload_n 3, 1) := by decide +kernel
theorem d_L_law_689 : decode mL_law.2.2.1 689 = .ok (.iconst 1, 1) := by decide +kernel
theorem d_L_law_690 : decode mL_law.2.2.1 690 = .ok (.iadd, 1) := by decide +kernel
theorem d_L_law_691 : decode mL_law.2.2.1 691 = .ok (.iaload, 1) := by decide +kernel
theorem d_L_law_692 : decode mL_law.2.2.1 692 = .ok (.invokevirtual 86, 3) := by decide +kernel
theorem d_L_law_695 : decode mL_law.2.2.1 695 = .ok (.aload_n 2, 1) := by decide +kernel
theorem d_L_law_696 : decode mL_law.2.2.1 696 = .ok (.aload_n 0, 1) := by decide +kernel
theorem d_L_law_697 : decode mL_law.2.2.1 697 = .ok (.iload_n 3, 1) := by decide +kernel
theorem d_L_law_698 : decode mL_law.2.2.1 698 = .ok (.iconst 1, 1) := by decide +kernel
theorem d_L_law_699 : decode mL_law.2.2.1 699 = .ok (.iadd, 1) := by decide +kernel
theorem d_L_law_700 : decode mL_law.2.2.1 700 = .ok (.iaload, 1) := by decide +kernel
theorem d_L_law_701 : decode mL_law.2.2.1 701 = .ok (.invokevirtual 89, 3) := by decide +kernel
theorem d_L_law_704 : decode mL_law.2.2.1 704 = .ok (.if_icmp .eq 294, 3) := by decide +kernel
theorem d_L_law_709 : decode mL_law.2.2.1 709 = .ok (.aload_n 1, 1) := by decide +kernel
theorem d_L_law_710 : decode mL_law.2.2.1 710 = .ok (.aload_n 0, 1) := by decide +kernel
theorem d_L_law_711 : decode mL_law.2.2.1 711 = .ok (.iload_n 3, 1) := by decide +kernel
theorem d_L_law_712 : decode mL_law.2.2.1 712 = .ok (.iconst 1, 1) := by decide +kernel
theorem d_L_law_713 : decode mL_law.2.2.1 713 = .ok (.iadd, 1) := by decide +kernel
theorem d_L_law_714 : decode mL_law.2.2.1 714 = .ok (.iaload, 1) := by decide +kernel
theorem d_L_law_715 : decode mL_law.2.2.1 715 = .ok (.ifCond .eq 7, 3) := by decide +kernel
theorem d_L_law_722 : decode mL_law.2.2.1 722 = .ok (.iconst 0, 1) := by decide +kernel
theorem d_L_law_723 : decode mL_law.2.2.1 723 = .ok (.invokevirtual 90, 3) := by decide +kernel
theorem d_L_law_726 : decode mL_law.2.2.1 726 = .ok (.aload_n 2, 1) := by decide +kernel
theorem d_L_law_727 : decode mL_law.2.2.1 727 = .ok (.aload_n 0, 1) := by decide +kernel
theorem d_L_law_728 : decode mL_law.2.2.1 728 = .ok (.iload_n 3, 1) := by decide +kernel
theorem d_L_law_729 : decode mL_law.2.2.1 729 = .ok (.iconst 1, 1) := by decide +kernel
theorem d_L_law_730 : decode mL_law.2.2.1 730 = .ok (.iadd, 1) := by decide +kernel
theorem d_L_law_731 : decode mL_law.2.2.1 731 = .ok (.iaload, 1) := by decide +kernel
theorem d_L_law_732 : decode mL_law.2.2.1 732 = .ok (.ifCond .eq 7, 3) := by decide +kernel
theorem d_L_law_739 : decode mL_law.2.2.1 739 = .ok (.iconst 0, 1) := by decide +kernel
theorem d_L_law_740 : decode mL_law.2.2.1 740 = .ok (.invokevirtual 94, 3) := by decide +kernel
theorem d_L_law_743 : decode mL_law.2.2.1 743 = .ok (.if_icmp .eq 255, 3) := by decide +kernel
theorem d_L_law_718 : decode mL_law.2.2.1 718 = .ok (.iconst 1, 1) := by decide +kernel
theorem d_L_law_719 : decode mL_law.2.2.1 719 = .ok (.goto 4, 3) := by decide +kernel
theorem d_L_law_735 : decode mL_law.2.2.1 735 = .ok (.iconst 1, 1) := by decide +kernel
theorem d_L_law_736 : decode mL_law.2.2.1 736 = .ok (.goto 4, 3) := by decide +kernel
theorem d_L_law_748 : decode mL_law.2.2.1 748 = .ok (.aload_n 1, 1) := by decide +kernel
theorem d_L_law_749 : decode mL_law.2.2.1 749 = .ok (.aload_n 0, 1) := by decide +kernel
theorem d_L_law_750 : decode mL_law.2.2.1 750 = .ok (.iload_n 3, 1) := by decide +kernel
theorem d_L_law_751 : decode mL_law.2.2.1 751 = .ok (.iconst 1, 1) := by decide +kernel
theorem d_L_law_752 : decode mL_law.2.2.1 752 = .ok (.iadd, 1) := by decide +kernel
theorem d_L_law_753 : decode mL_law.2.2.1 753 = .ok (.iaload, 1) := by decide +kernel
theorem d_L_law_754 : decode mL_law.2.2.1 754 = .ok (.invokevirtual 95, 3) := by decide +kernel
theorem d_L_law_757 : decode mL_law.2.2.1 757 = .ok (.aload_n 2, 1) := by decide +kernel
theorem d_L_law_758 : decode mL_law.2.2.1 758 = .ok (.aload_n 0, 1) := by decide +kernel
theorem d_L_law_759 : decode mL_law.2.2.1 759 = .ok (.iload_n 3, 1) := by decide +kernel
theorem d_L_law_760 : decode mL_law.2.2.1 760 = .ok (.iconst 1, 1) := by decide +kernel
theorem d_L_law_761 : decode mL_law.2.2.1 761 = .ok (.iadd, 1) := by decide +kernel
