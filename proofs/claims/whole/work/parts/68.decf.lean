theorem d_LA_law_574 : decode code 574 = .ok (.laload, 1) := by decide +kernel
theorem d_LA_law_575 : decode code 575 = .ok (.iload 6, 2) := by decide +kernel
theorem d_LA_law_577 : decode code 577 = .ok (.i2l, 1) := by decide +kernel
theorem d_LA_law_578 : decode code 578 = .ok (.lcmp, 1) := by decide +kernel
theorem d_LA_law_579 : decode code 579 = .ok (.ifCond .eq 5, 3) := by decide +kernel
theorem d_LA_law_584 : decode code 584 = .ok (.goto 524, 3) := by decide +kernel
theorem d_LA_law_587 : decode code 587 = .ok (.aload_n 1, 1) := by decide +kernel
theorem d_LA_law_588 : decode code 588 = .ok (.aload_n 0, 1) := by decide +kernel
theorem d_LA_law_589 : decode code 589 = .ok (.iload 4, 2) := by decide +kernel
theorem d_LA_law_591 : decode code 591 = .ok (.iconst 1, 1) := by decide +kernel
theorem d_LA_law_592 : decode code 592 = .ok (.iadd, 1) := by decide +kernel
theorem d_LA_law_593 : decode code 593 = .ok (.iaload, 1) := by decide +kernel
theorem d_LA_law_594 : decode code 594 = .ok (.aload_n 3, 1) := by decide +kernel
theorem d_LA_law_595 : decode code 595 = .ok (.invokestatic 101, 3) := by decide +kernel
theorem d_LA_law_598 : decode code 598 = .ok (.istore 5, 2) := by decide +kernel
theorem d_LA_law_600 : decode code 600 = .ok (.aload_n 2, 1) := by decide +kernel
theorem d_LA_law_601 : decode code 601 = .ok (.aload_n 0, 1) := by decide +kernel
theorem d_LA_law_602 : decode code 602 = .ok (.iload 4, 2) := by decide +kernel
theorem d_LA_law_604 : decode code 604 = .ok (.iconst 1, 1) := by decide +kernel
theorem d_LA_law_605 : decode code 605 = .ok (.iadd, 1) := by decide +kernel
theorem d_LA_law_606 : decode code 606 = .ok (.iaload, 1) := by decide +kernel
theorem d_LA_law_607 : decode code 607 = .ok (.invokevirtual 103, 3) := by decide +kernel
theorem d_LA_law_610 : decode code 610 = .ok (.istore 6, 2) := by decide +kernel
theorem d_LA_law_612 : decode code 612 = .ok (.aload_n 2, 1) := by decide +kernel
theorem d_LA_law_613 : decode code 613 = .ok (.invokevirtual 74, 3) := by decide +kernel
theorem d_LA_law_616 : decode code 616 = .ok (.iload 5, 2) := by decide +kernel
theorem d_LA_law_618 : decode code 618 = .ok (.if_icmp .eq 5, 3) := by decide +kernel
theorem d_LA_law_623 : decode code 623 = .ok (.iload 5, 2) := by decide +kernel
theorem d_LA_law_625 : decode code 625 = .ok (.ifCond .ne 15, 3) := by decide +kernel
theorem d_LA_law_628 : decode code 628 = .ok (.aload_n 3, 1) := by decide +kernel
theorem d_LA_law_629 : decode code 629 = .ok (.iconst 0, 1) := by decide +kernel
theorem d_LA_law_630 : decode code 630 = .ok (.laload, 1) := by decide +kernel
theorem d_LA_law_631 : decode code 631 = .ok (.iload 6, 2) := by decide +kernel
theorem d_LA_law_633 : decode code 633 = .ok (.i2l, 1) := by decide +kernel
theorem d_LA_law_634 : decode code 634 = .ok (.lcmp, 1) := by decide +kernel
theorem d_LA_law_635 : decode code 635 = .ok (.ifCond .eq 5, 3) := by decide +kernel
theorem d_LA_law_640 : decode code 640 = .ok (.goto 468, 3) := by decide +kernel
theorem d_LA_law_643 : decode code 643 = .ok (.aload_n 1, 1) := by decide +kernel
theorem d_LA_law_644 : decode code 644 = .ok (.aload_n 3, 1) := by decide +kernel
theorem d_LA_law_645 : decode code 645 = .ok (.invokestatic 104, 3) := by decide +kernel
theorem d_LA_law_648 : decode code 648 = .ok (.istore 5, 2) := by decide +kernel
theorem d_LA_law_650 : decode code 650 = .ok (.aload_n 2, 1) := by decide +kernel
theorem d_LA_law_651 : decode code 651 = .ok (.invokevirtual 107, 3) := by decide +kernel
theorem d_LA_law_654 : decode code 654 = .ok (.lstore 6, 2) := by decide +kernel
theorem d_LA_law_656 : decode code 656 = .ok (.aload_n 2, 1) := by decide +kernel
theorem d_LA_law_657 : decode code 657 = .ok (.invokevirtual 74, 3) := by decide +kernel
theorem d_LA_law_660 : decode code 660 = .ok (.iload 5, 2) := by decide +kernel
theorem d_LA_law_662 : decode code 662 = .ok (.if_icmp .eq 5, 3) := by decide +kernel
theorem d_LA_law_667 : decode code 667 = .ok (.iload 5, 2) := by decide +kernel
theorem d_LA_law_669 : decode code 669 = .ok (.ifCond .ne 14, 3) := by decide +kernel
theorem d_LA_law_672 : decode code 672 = .ok (.aload_n 3, 1) := by decide +kernel
theorem d_LA_law_673 : decode code 673 = .ok (.iconst 0, 1) := by decide +kernel
theorem d_LA_law_674 : decode code 674 = .ok (.laload, 1) := by decide +kernel
theorem d_LA_law_675 : decode code 675 = .ok (.lload 6, 2) := by decide +kernel
theorem d_LA_law_677 : decode code 677 = .ok (.lcmp, 1) := by decide +kernel
theorem d_LA_law_678 : decode code 678 = .ok (.ifCond .eq 5, 3) := by decide +kernel
theorem d_LA_law_683 : decode code 683 = .ok (.goto 425, 3) := by decide +kernel
theorem d_LA_law_686 : decode code 686 = .ok (.aload_n 1, 1) := by decide +kernel
theorem d_LA_law_687 : decode code 687 = .ok (.aload_n 0, 1) := by decide +kernel
theorem d_LA_law_688 : decode code 688 = .ok (.iload 4, 2) := by decide +kernel
