theorem d_LA_law_470 : decode code 470 = .ok (.iaload, 1) := by decide +kernel
theorem d_LA_law_471 : decode code 471 = .ok (.aload_n 3, 1) := by decide +kernel
theorem d_LA_law_472 : decode code 472 = .ok (.invokestatic 94, 3) := by decide +kernel
theorem d_LA_law_475 : decode code 475 = .ok (.istore 5, 2) := by decide +kernel
theorem d_LA_law_477 : decode code 477 = .ok (.aload_n 2, 1) := by decide +kernel
theorem d_LA_law_478 : decode code 478 = .ok (.aload_n 0, 1) := by decide +kernel
theorem d_LA_law_479 : decode code 479 = .ok (.iload 4, 2) := by decide +kernel
theorem d_LA_law_481 : decode code 481 = .ok (.iconst 1, 1) := by decide +kernel
theorem d_LA_law_482 : decode code 482 = .ok (.iadd, 1) := by decide +kernel
theorem d_LA_law_483 : decode code 483 = .ok (.iaload, 1) := by decide +kernel
theorem d_LA_law_484 : decode code 484 = .ok (.invokevirtual 97, 3) := by decide +kernel
theorem d_LA_law_487 : decode code 487 = .ok (.lstore 6, 2) := by decide +kernel
theorem d_LA_law_489 : decode code 489 = .ok (.aload_n 2, 1) := by decide +kernel
theorem d_LA_law_490 : decode code 490 = .ok (.invokevirtual 74, 3) := by decide +kernel
theorem d_LA_law_493 : decode code 493 = .ok (.iload 5, 2) := by decide +kernel
theorem d_LA_law_495 : decode code 495 = .ok (.if_icmp .eq 5, 3) := by decide +kernel
theorem d_LA_law_500 : decode code 500 = .ok (.iload 5, 2) := by decide +kernel
theorem d_LA_law_502 : decode code 502 = .ok (.ifCond .ne 14, 3) := by decide +kernel
theorem d_LA_law_505 : decode code 505 = .ok (.aload_n 3, 1) := by decide +kernel
theorem d_LA_law_506 : decode code 506 = .ok (.iconst 0, 1) := by decide +kernel
theorem d_LA_law_507 : decode code 507 = .ok (.laload, 1) := by decide +kernel
theorem d_LA_law_508 : decode code 508 = .ok (.lload 6, 2) := by decide +kernel
theorem d_LA_law_510 : decode code 510 = .ok (.lcmp, 1) := by decide +kernel
theorem d_LA_law_511 : decode code 511 = .ok (.ifCond .eq 5, 3) := by decide +kernel
theorem d_LA_law_516 : decode code 516 = .ok (.goto 592, 3) := by decide +kernel
theorem d_LA_law_519 : decode code 519 = .ok (.aload_n 1, 1) := by decide +kernel
theorem d_LA_law_520 : decode code 520 = .ok (.aload_n 0, 1) := by decide +kernel
theorem d_LA_law_521 : decode code 521 = .ok (.iload 4, 2) := by decide +kernel
theorem d_LA_law_523 : decode code 523 = .ok (.iconst 1, 1) := by decide +kernel
theorem d_LA_law_524 : decode code 524 = .ok (.iadd, 1) := by decide +kernel
theorem d_LA_law_525 : decode code 525 = .ok (.iaload, 1) := by decide +kernel
theorem d_LA_law_526 : decode code 526 = .ok (.aload_n 0, 1) := by decide +kernel
theorem d_LA_law_527 : decode code 527 = .ok (.iload 4, 2) := by decide +kernel
theorem d_LA_law_529 : decode code 529 = .ok (.iconst 2, 1) := by decide +kernel
theorem d_LA_law_530 : decode code 530 = .ok (.iadd, 1) := by decide +kernel
theorem d_LA_law_531 : decode code 531 = .ok (.iaload, 1) := by decide +kernel
theorem d_LA_law_532 : decode code 532 = .ok (.aload_n 3, 1) := by decide +kernel
theorem d_LA_law_533 : decode code 533 = .ok (.invokestatic 98, 3) := by decide +kernel
theorem d_LA_law_536 : decode code 536 = .ok (.istore 5, 2) := by decide +kernel
theorem d_LA_law_538 : decode code 538 = .ok (.aload_n 2, 1) := by decide +kernel
theorem d_LA_law_539 : decode code 539 = .ok (.aload_n 0, 1) := by decide +kernel
theorem d_LA_law_540 : decode code 540 = .ok (.iload 4, 2) := by decide +kernel
theorem d_LA_law_542 : decode code 542 = .ok (.iconst 1, 1) := by decide +kernel
theorem d_LA_law_543 : decode code 543 = .ok (.iadd, 1) := by decide +kernel
theorem d_LA_law_544 : decode code 544 = .ok (.iaload, 1) := by decide +kernel
theorem d_LA_law_545 : decode code 545 = .ok (.aload_n 0, 1) := by decide +kernel
theorem d_LA_law_546 : decode code 546 = .ok (.iload 4, 2) := by decide +kernel
theorem d_LA_law_548 : decode code 548 = .ok (.iconst 2, 1) := by decide +kernel
theorem d_LA_law_549 : decode code 549 = .ok (.iadd, 1) := by decide +kernel
theorem d_LA_law_550 : decode code 550 = .ok (.iaload, 1) := by decide +kernel
theorem d_LA_law_551 : decode code 551 = .ok (.invokevirtual 100, 3) := by decide +kernel
theorem d_LA_law_554 : decode code 554 = .ok (.istore 6, 2) := by decide +kernel
theorem d_LA_law_556 : decode code 556 = .ok (.aload_n 2, 1) := by decide +kernel
theorem d_LA_law_557 : decode code 557 = .ok (.invokevirtual 74, 3) := by decide +kernel
theorem d_LA_law_560 : decode code 560 = .ok (.iload 5, 2) := by decide +kernel
theorem d_LA_law_562 : decode code 562 = .ok (.if_icmp .eq 5, 3) := by decide +kernel
theorem d_LA_law_567 : decode code 567 = .ok (.iload 5, 2) := by decide +kernel
theorem d_LA_law_569 : decode code 569 = .ok (.ifCond .ne 15, 3) := by decide +kernel
theorem d_LA_law_572 : decode code 572 = .ok (.aload_n 3, 1) := by decide +kernel
theorem d_LA_law_573 : decode code 573 = .ok (.iconst 0, 1) := by decide +kernel
