theorem d_LA_law_690 : decode code 690 = .ok (.iconst 1, 1) := by decide +kernel
theorem d_LA_law_691 : decode code 691 = .ok (.iadd, 1) := by decide +kernel
theorem d_LA_law_692 : decode code 692 = .ok (.iaload, 1) := by decide +kernel
theorem d_LA_law_693 : decode code 693 = .ok (.aload_n 0, 1) := by decide +kernel
theorem d_LA_law_694 : decode code 694 = .ok (.iload 4, 2) := by decide +kernel
theorem d_LA_law_696 : decode code 696 = .ok (.iconst 2, 1) := by decide +kernel
theorem d_LA_law_697 : decode code 697 = .ok (.iadd, 1) := by decide +kernel
theorem d_LA_law_698 : decode code 698 = .ok (.iaload, 1) := by decide +kernel
theorem d_LA_law_699 : decode code 699 = .ok (.aload_n 0, 1) := by decide +kernel
theorem d_LA_law_700 : decode code 700 = .ok (.iload 4, 2) := by decide +kernel
theorem d_LA_law_702 : decode code 702 = .ok (.iconst 3, 1) := by decide +kernel
theorem d_LA_law_703 : decode code 703 = .ok (.iadd, 1) := by decide +kernel
theorem d_LA_law_704 : decode code 704 = .ok (.iaload, 1) := by decide +kernel
theorem d_LA_law_705 : decode code 705 = .ok (.aload_n 3, 1) := by decide +kernel
theorem d_LA_law_706 : decode code 706 = .ok (.invokestatic 108, 3) := by decide +kernel
theorem d_LA_law_709 : decode code 709 = .ok (.istore 5, 2) := by decide +kernel
theorem d_LA_law_711 : decode code 711 = .ok (.aload_n 2, 1) := by decide +kernel
theorem d_LA_law_712 : decode code 712 = .ok (.aload_n 0, 1) := by decide +kernel
theorem d_LA_law_713 : decode code 713 = .ok (.iload 4, 2) := by decide +kernel
theorem d_LA_law_715 : decode code 715 = .ok (.iconst 1, 1) := by decide +kernel
theorem d_LA_law_716 : decode code 716 = .ok (.iadd, 1) := by decide +kernel
theorem d_LA_law_717 : decode code 717 = .ok (.iaload, 1) := by decide +kernel
theorem d_LA_law_718 : decode code 718 = .ok (.aload_n 0, 1) := by decide +kernel
theorem d_LA_law_719 : decode code 719 = .ok (.iload 4, 2) := by decide +kernel
theorem d_LA_law_721 : decode code 721 = .ok (.iconst 2, 1) := by decide +kernel
theorem d_LA_law_722 : decode code 722 = .ok (.iadd, 1) := by decide +kernel
theorem d_LA_law_723 : decode code 723 = .ok (.iaload, 1) := by decide +kernel
theorem d_LA_law_724 : decode code 724 = .ok (.aload_n 0, 1) := by decide +kernel
theorem d_LA_law_725 : decode code 725 = .ok (.iload 4, 2) := by decide +kernel
theorem d_LA_law_727 : decode code 727 = .ok (.iconst 3, 1) := by decide +kernel
theorem d_LA_law_728 : decode code 728 = .ok (.iadd, 1) := by decide +kernel
theorem d_LA_law_729 : decode code 729 = .ok (.iaload, 1) := by decide +kernel
theorem d_LA_law_730 : decode code 730 = .ok (.invokevirtual 110, 3) := by decide +kernel
theorem d_LA_law_733 : decode code 733 = .ok (.istore 6, 2) := by decide +kernel
theorem d_LA_law_735 : decode code 735 = .ok (.aload_n 2, 1) := by decide +kernel
theorem d_LA_law_736 : decode code 736 = .ok (.invokevirtual 74, 3) := by decide +kernel
theorem d_LA_law_739 : decode code 739 = .ok (.iload 5, 2) := by decide +kernel
theorem d_LA_law_741 : decode code 741 = .ok (.if_icmp .eq 5, 3) := by decide +kernel
theorem d_LA_law_746 : decode code 746 = .ok (.iload 5, 2) := by decide +kernel
theorem d_LA_law_748 : decode code 748 = .ok (.ifCond .ne 15, 3) := by decide +kernel
theorem d_LA_law_751 : decode code 751 = .ok (.aload_n 3, 1) := by decide +kernel
theorem d_LA_law_752 : decode code 752 = .ok (.iconst 0, 1) := by decide +kernel
theorem d_LA_law_753 : decode code 753 = .ok (.laload, 1) := by decide +kernel
theorem d_LA_law_754 : decode code 754 = .ok (.iload 6, 2) := by decide +kernel
theorem d_LA_law_756 : decode code 756 = .ok (.i2l, 1) := by decide +kernel
theorem d_LA_law_757 : decode code 757 = .ok (.lcmp, 1) := by decide +kernel
theorem d_LA_law_758 : decode code 758 = .ok (.ifCond .eq 5, 3) := by decide +kernel
theorem d_LA_law_763 : decode code 763 = .ok (.goto 345, 3) := by decide +kernel
theorem d_LA_law_766 : decode code 766 = .ok (.aload_n 1, 1) := by decide +kernel
theorem d_LA_law_767 : decode code 767 = .ok (.aload_n 0, 1) := by decide +kernel
theorem d_LA_law_768 : decode code 768 = .ok (.iload 4, 2) := by decide +kernel
theorem d_LA_law_770 : decode code 770 = .ok (.iconst 1, 1) := by decide +kernel
theorem d_LA_law_771 : decode code 771 = .ok (.iadd, 1) := by decide +kernel
theorem d_LA_law_772 : decode code 772 = .ok (.iaload, 1) := by decide +kernel
theorem d_LA_law_773 : decode code 773 = .ok (.aload_n 0, 1) := by decide +kernel
theorem d_LA_law_774 : decode code 774 = .ok (.iload 4, 2) := by decide +kernel
theorem d_LA_law_776 : decode code 776 = .ok (.iconst 2, 1) := by decide +kernel
theorem d_LA_law_777 : decode code 777 = .ok (.iadd, 1) := by decide +kernel
theorem d_LA_law_778 : decode code 778 = .ok (.iaload, 1) := by decide +kernel
theorem d_LA_law_779 : decode code 779 = .ok (.aload_n 3, 1) := by decide +kernel
