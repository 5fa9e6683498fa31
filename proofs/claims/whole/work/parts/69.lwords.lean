theorem wm_25 : (.initialized xR_LA : Cond) ∈ xall := List.mem_filter.mpr ⟨List.mem_of_getElem? (i := 25) (by decide +kernel), by decide +kernel⟩
theorem wm_41 : (.classLink xR_LA 8 xR_SR : Cond) ∈ xall := List.mem_filter.mpr ⟨List.mem_of_getElem? (i := 41) (by decide +kernel), by decide +kernel⟩
theorem wm_42 : (.instantiable xR_SR 6 : Cond) ∈ xall := List.mem_filter.mpr ⟨List.mem_of_getElem? (i := 42) (by decide +kernel), by decide +kernel⟩
theorem wm_43 : (.methodLink xR_LA 64 xy_SR_init : Cond) ∈ xall := List.mem_filter.mpr ⟨List.mem_of_getElem? (i := 43) (by decide +kernel), by decide +kernel⟩
theorem wm_44 : (.instanceMethod xy_SR_init : Cond) ∈ xall := List.mem_filter.mpr ⟨List.mem_of_getElem? (i := 44) (by decide +kernel), by decide +kernel⟩
theorem wm_45 : (.code xy_SR_init prog_1_method_1_code 1 none : Cond) ∈ xall := List.mem_filter.mpr ⟨List.mem_of_getElem? (i := 45) (by decide +kernel), by decide +kernel⟩
theorem wm_265 : (.methodLink xR_LA 90 xy_SR_setUp : Cond) ∈ xall := List.mem_filter.mpr ⟨List.mem_of_getElem? (i := 265) (by decide +kernel), by decide +kernel⟩
theorem wm_266 : (.instanceMethod xy_SR_setUp : Cond) ∈ xall := List.mem_filter.mpr ⟨List.mem_of_getElem? (i := 266) (by decide +kernel), by decide +kernel⟩
theorem wm_267 : (.selects xR_SR xy_SR_setUp xy_SR_setUp : Cond) ∈ xall := List.mem_filter.mpr ⟨List.mem_of_getElem? (i := 267) (by decide +kernel), by decide +kernel⟩
theorem wm_268 : (.code xy_SR_setUp prog_1_method_6_code 1 (some .int) : Cond) ∈ xall := List.mem_filter.mpr ⟨List.mem_of_getElem? (i := 268) (by decide +kernel), by decide +kernel⟩
theorem wm_324 : (.methodLink xR_LA 120 xy_SR_open : Cond) ∈ xall := List.mem_filter.mpr ⟨List.mem_of_getElem? (i := 324) (by decide +kernel), by decide +kernel⟩
theorem wm_325 : (.instanceMethod xy_SR_open : Cond) ∈ xall := List.mem_filter.mpr ⟨List.mem_of_getElem? (i := 325) (by decide +kernel), by decide +kernel⟩
theorem wm_326 : (.selects xR_SR xy_SR_open xy_SR_open : Cond) ∈ xall := List.mem_filter.mpr ⟨List.mem_of_getElem? (i := 326) (by decide +kernel), by decide +kernel⟩
theorem wm_327 : (.code xy_SR_open prog_1_method_15_code 2 (some .int) : Cond) ∈ xall := List.mem_filter.mpr ⟨List.mem_of_getElem? (i := 327) (by decide +kernel), by decide +kernel⟩
theorem wm_328 : (.methodLink xR_LA 127 xy_SR_read : Cond) ∈ xall := List.mem_filter.mpr ⟨List.mem_of_getElem? (i := 328) (by decide +kernel), by decide +kernel⟩
theorem wm_329 : (.instanceMethod xy_SR_read : Cond) ∈ xall := List.mem_filter.mpr ⟨List.mem_of_getElem? (i := 329) (by decide +kernel), by decide +kernel⟩
theorem wm_330 : (.selects xR_SR xy_SR_read xy_SR_read : Cond) ∈ xall := List.mem_filter.mpr ⟨List.mem_of_getElem? (i := 330) (by decide +kernel), by decide +kernel⟩
theorem wm_331 : (.code xy_SR_read prog_1_method_17_code 4 (some .int) : Cond) ∈ xall := List.mem_filter.mpr ⟨List.mem_of_getElem? (i := 331) (by decide +kernel), by decide +kernel⟩
theorem wm_381 : (.methodLink xR_LA 68 xy_LA_mark : Cond) ∈ xall := List.mem_filter.mpr ⟨List.mem_of_getElem? (i := 381) (by decide +kernel), by decide +kernel⟩
theorem wm_382 : (.static xy_LA_mark : Cond) ∈ xall := List.mem_filter.mpr ⟨List.mem_of_getElem? (i := 382) (by decide +kernel), by decide +kernel⟩
theorem wm_383 : (.codeWith xy_LA_mark method_3_code 6 (some .int) [(0, 12, 15, 13), (0, 12, 19, 15)] : Cond) ∈ xall := List.mem_filter.mpr ⟨List.mem_of_getElem? (i := 383) (by decide +kernel), by decide +kernel⟩
theorem wm_482 : (.methodLink xR_LA 78 xy_LA_observe : Cond) ∈ xall := List.mem_filter.mpr ⟨List.mem_of_getElem? (i := 482) (by decide +kernel), by decide +kernel⟩
theorem wm_483 : (.static xy_LA_observe : Cond) ∈ xall := List.mem_filter.mpr ⟨List.mem_of_getElem? (i := 483) (by decide +kernel), by decide +kernel⟩
theorem wm_484 : (.codeWith xy_LA_observe method_4_code 7 (some .int) [(0, 14, 17, 21), (0, 14, 21, 13), (0, 14, 25, 15)] : Cond) ∈ xall := List.mem_filter.mpr ⟨List.mem_of_getElem? (i := 484) (by decide +kernel), by decide +kernel⟩
theorem wm_508 : (.methodLink xR_LA 82 xy_LA_prism : Cond) ∈ xall := List.mem_filter.mpr ⟨List.mem_of_getElem? (i := 508) (by decide +kernel), by decide +kernel⟩
theorem wm_509 : (.static xy_LA_prism : Cond) ∈ xall := List.mem_filter.mpr ⟨List.mem_of_getElem? (i := 509) (by decide +kernel), by decide +kernel⟩
theorem wm_510 : (.codeWith xy_LA_prism method_5_code 5 (some .int) [(0, 10, 13, 21), (0, 10, 17, 15)] : Cond) ∈ xall := List.mem_filter.mpr ⟨List.mem_of_getElem? (i := 510) (by decide +kernel), by decide +kernel⟩
theorem wm_521 : (.methodLink xR_LA 86 xy_LA_use : Cond) ∈ xall := List.mem_filter.mpr ⟨List.mem_of_getElem? (i := 521) (by decide +kernel), by decide +kernel⟩
theorem wm_522 : (.static xy_LA_use : Cond) ∈ xall := List.mem_filter.mpr ⟨List.mem_of_getElem? (i := 522) (by decide +kernel), by decide +kernel⟩
theorem wm_523 : (.codeWith xy_LA_use method_6_code 5 (some .int) [(0, 17, 20, 21)] : Cond) ∈ xall := List.mem_filter.mpr ⟨List.mem_of_getElem? (i := 523) (by decide +kernel), by decide +kernel⟩
theorem wm_528 : (.methodLink xR_LA 94 xy_LA_turned : Cond) ∈ xall := List.mem_filter.mpr ⟨List.mem_of_getElem? (i := 528) (by decide +kernel), by decide +kernel⟩
theorem wm_529 : (.static xy_LA_turned : Cond) ∈ xall := List.mem_filter.mpr ⟨List.mem_of_getElem? (i := 529) (by decide +kernel), by decide +kernel⟩
theorem wm_530 : (.codeWith xy_LA_turned method_7_code 4 (some .int) [(0, 8, 11, 21), (0, 8, 14, 13)] : Cond) ∈ xall := List.mem_filter.mpr ⟨List.mem_of_getElem? (i := 530) (by decide +kernel), by decide +kernel⟩
theorem wm_546 : (.methodLink xR_LA 98 xy_LA_residual : Cond) ∈ xall := List.mem_filter.mpr ⟨List.mem_of_getElem? (i := 546) (by decide +kernel), by decide +kernel⟩
theorem wm_547 : (.static xy_LA_residual : Cond) ∈ xall := List.mem_filter.mpr ⟨List.mem_of_getElem? (i := 547) (by decide +kernel), by decide +kernel⟩
theorem wm_548 : (.codeWith xy_LA_residual method_8_code 5 (some .int) [(0, 10, 13, 21), (0, 10, 17, 13)] : Cond) ∈ xall := List.mem_filter.mpr ⟨List.mem_of_getElem? (i := 548) (by decide +kernel), by decide +kernel⟩
theorem wm_562 : (.methodLink xR_LA 101 xy_LA_blunders : Cond) ∈ xall := List.mem_filter.mpr ⟨List.mem_of_getElem? (i := 562) (by decide +kernel), by decide +kernel⟩
theorem wm_563 : (.static xy_LA_blunders : Cond) ∈ xall := List.mem_filter.mpr ⟨List.mem_of_getElem? (i := 563) (by decide +kernel), by decide +kernel⟩
theorem wm_564 : (.codeWith xy_LA_blunders method_9_code 4 (some .int) [(0, 9, 12, 15)] : Cond) ∈ xall := List.mem_filter.mpr ⟨List.mem_of_getElem? (i := 564) (by decide +kernel), by decide +kernel⟩
theorem wm_583 : (.methodLink xR_LA 104 xy_LA_sum : Cond) ∈ xall := List.mem_filter.mpr ⟨List.mem_of_getElem? (i := 583) (by decide +kernel), by decide +kernel⟩
theorem wm_584 : (.static xy_LA_sum : Cond) ∈ xall := List.mem_filter.mpr ⟨List.mem_of_getElem? (i := 584) (by decide +kernel), by decide +kernel⟩
theorem wm_585 : (.codeWith xy_LA_sum method_10_code 3 (some .int) [(0, 7, 10, 13)] : Cond) ∈ xall := List.mem_filter.mpr ⟨List.mem_of_getElem? (i := 585) (by decide +kernel), by decide +kernel⟩
theorem wm_594 : (.methodLink xR_LA 108 xy_LA_point : Cond) ∈ xall := List.mem_filter.mpr ⟨List.mem_of_getElem? (i := 594) (by decide +kernel), by decide +kernel⟩
theorem wm_595 : (.static xy_LA_point : Cond) ∈ xall := List.mem_filter.mpr ⟨List.mem_of_getElem? (i := 595) (by decide +kernel), by decide +kernel⟩
theorem wm_596 : (.codeWith xy_LA_point method_11_code 6 (some .int) [(0, 12, 15, 13), (0, 12, 19, 15)] : Cond) ∈ xall := List.mem_filter.mpr ⟨List.mem_of_getElem? (i := 596) (by decide +kernel), by decide +kernel⟩
theorem wm_603 : (.methodLink xR_LA 111 xy_LA_place : Cond) ∈ xall := List.mem_filter.mpr ⟨List.mem_of_getElem? (i := 603) (by decide +kernel), by decide +kernel⟩
theorem wm_604 : (.static xy_LA_place : Cond) ∈ xall := List.mem_filter.mpr ⟨List.mem_of_getElem? (i := 604) (by decide +kernel), by decide +kernel⟩
theorem wm_605 : (.codeWith xy_LA_place method_12_code 5 (some .int) [(0, 10, 13, 21), (0, 10, 17, 13)] : Cond) ∈ xall := List.mem_filter.mpr ⟨List.mem_of_getElem? (i := 605) (by decide +kernel), by decide +kernel⟩
theorem wm_612 : (.methodLink xR_LA 114 xy_LA_level : Cond) ∈ xall := List.mem_filter.mpr ⟨List.mem_of_getElem? (i := 612) (by decide +kernel), by decide +kernel⟩
theorem wm_613 : (.static xy_LA_level : Cond) ∈ xall := List.mem_filter.mpr ⟨List.mem_of_getElem? (i := 613) (by decide +kernel), by decide +kernel⟩
theorem wm_614 : (.codeWith xy_LA_level method_13_code 5 (some .int) [(0, 10, 13, 13), (0, 10, 17, 15)] : Cond) ∈ xall := List.mem_filter.mpr ⟨List.mem_of_getElem? (i := 614) (by decide +kernel), by decide +kernel⟩
theorem wm_631 : (.methodLink xR_LA 117 xy_LA_closed : Cond) ∈ xall := List.mem_filter.mpr ⟨List.mem_of_getElem? (i := 631) (by decide +kernel), by decide +kernel⟩
theorem wm_632 : (.static xy_LA_closed : Cond) ∈ xall := List.mem_filter.mpr ⟨List.mem_of_getElem? (i := 632) (by decide +kernel), by decide +kernel⟩
theorem wm_633 : (.codeWith xy_LA_closed method_14_code 4 (some .int) [(0, 9, 12, 21)] : Cond) ∈ xall := List.mem_filter.mpr ⟨List.mem_of_getElem? (i := 633) (by decide +kernel), by decide +kernel⟩
theorem wm_661 : (.methodLink xR_LA 124 xy_LA_unit : Cond) ∈ xall := List.mem_filter.mpr ⟨List.mem_of_getElem? (i := 661) (by decide +kernel), by decide +kernel⟩
theorem wm_662 : (.static xy_LA_unit : Cond) ∈ xall := List.mem_filter.mpr ⟨List.mem_of_getElem? (i := 662) (by decide +kernel), by decide +kernel⟩
theorem wm_663 : (.codeWith xy_LA_unit method_15_code 5 (some .int) [(0, 10, 13, 13), (0, 10, 17, 15)] : Cond) ∈ xall := List.mem_filter.mpr ⟨List.mem_of_getElem? (i := 663) (by decide +kernel), by decide +kernel⟩
theorem wm_683 : (.methodLink xR_LA 131 xy_LA_count : Cond) ∈ xall := List.mem_filter.mpr ⟨List.mem_of_getElem? (i := 683) (by decide +kernel), by decide +kernel⟩
theorem wm_684 : (.static xy_LA_count : Cond) ∈ xall := List.mem_filter.mpr ⟨List.mem_of_getElem? (i := 684) (by decide +kernel), by decide +kernel⟩
theorem wm_685 : (.codeWith xy_LA_count method_16_code 4 (some .int) [(0, 9, 12, 21)] : Cond) ∈ xall := List.mem_filter.mpr ⟨List.mem_of_getElem? (i := 685) (by decide +kernel), by decide +kernel⟩
theorem wm_691 : (.classLink xR_LA 65 xR_MD : Cond) ∈ xall := List.mem_filter.mpr ⟨List.mem_of_getElem? (i := 691) (by decide +kernel), by decide +kernel⟩
theorem wm_692 : (.instantiable xR_MD 27 : Cond) ∈ xall := List.mem_filter.mpr ⟨List.mem_of_getElem? (i := 692) (by decide +kernel), by decide +kernel⟩
theorem wm_693 : (.methodLink xR_LA 67 xy_MD_init : Cond) ∈ xall := List.mem_filter.mpr ⟨List.mem_of_getElem? (i := 693) (by decide +kernel), by decide +kernel⟩
theorem wm_694 : (.instanceMethod xy_MD_init : Cond) ∈ xall := List.mem_filter.mpr ⟨List.mem_of_getElem? (i := 694) (by decide +kernel), by decide +kernel⟩
theorem wm_695 : (.code xy_MD_init prog_9_method_1_code 1 none : Cond) ∈ xall := List.mem_filter.mpr ⟨List.mem_of_getElem? (i := 695) (by decide +kernel), by decide +kernel⟩
theorem wm_779 : (.methodLink xR_LA 74 xy_MD_thrown : Cond) ∈ xall := List.mem_filter.mpr ⟨List.mem_of_getElem? (i := 779) (by decide +kernel), by decide +kernel⟩
theorem wm_780 : (.instanceMethod xy_MD_thrown : Cond) ∈ xall := List.mem_filter.mpr ⟨List.mem_of_getElem? (i := 780) (by decide +kernel), by decide +kernel⟩
theorem wm_781 : (.selects xR_MD xy_MD_thrown xy_MD_thrown : Cond) ∈ xall := List.mem_filter.mpr ⟨List.mem_of_getElem? (i := 781) (by decide +kernel), by decide +kernel⟩
theorem wm_782 : (.code xy_MD_thrown prog_9_method_2_code 1 (some .int) : Cond) ∈ xall := List.mem_filter.mpr ⟨List.mem_of_getElem? (i := 782) (by decide +kernel), by decide +kernel⟩
theorem wm_783 : (.methodLink xR_LA 73 xy_MD_mark : Cond) ∈ xall := List.mem_filter.mpr ⟨List.mem_of_getElem? (i := 783) (by decide +kernel), by decide +kernel⟩
theorem wm_784 : (.instanceMethod xy_MD_mark : Cond) ∈ xall := List.mem_filter.mpr ⟨List.mem_of_getElem? (i := 784) (by decide +kernel), by decide +kernel⟩
theorem wm_785 : (.selects xR_MD xy_MD_mark xy_MD_mark : Cond) ∈ xall := List.mem_filter.mpr ⟨List.mem_of_getElem? (i := 785) (by decide +kernel), by decide +kernel⟩
theorem wm_786 : (.code xy_MD_mark prog_9_method_8_code 4 (some .int) : Cond) ∈ xall := List.mem_filter.mpr ⟨List.mem_of_getElem? (i := 786) (by decide +kernel), by decide +kernel⟩
theorem wm_797 : (.methodLink xR_LA 81 xy_MD_observe : Cond) ∈ xall := List.mem_filter.mpr ⟨List.mem_of_getElem? (i := 797) (by decide +kernel), by decide +kernel⟩
theorem wm_798 : (.instanceMethod xy_MD_observe : Cond) ∈ xall := List.mem_filter.mpr ⟨List.mem_of_getElem? (i := 798) (by decide +kernel), by decide +kernel⟩
theorem wm_799 : (.selects xR_MD xy_MD_observe xy_MD_observe : Cond) ∈ xall := List.mem_filter.mpr ⟨List.mem_of_getElem? (i := 799) (by decide +kernel), by decide +kernel⟩
theorem wm_800 : (.code xy_MD_observe prog_9_method_10_code 5 (some .int) : Cond) ∈ xall := List.mem_filter.mpr ⟨List.mem_of_getElem? (i := 800) (by decide +kernel), by decide +kernel⟩
theorem wm_805 : (.methodLink xR_LA 85 xy_MD_prism : Cond) ∈ xall := List.mem_filter.mpr ⟨List.mem_of_getElem? (i := 805) (by decide +kernel), by decide +kernel⟩
theorem wm_806 : (.instanceMethod xy_MD_prism : Cond) ∈ xall := List.mem_filter.mpr ⟨List.mem_of_getElem? (i := 806) (by decide +kernel), by decide +kernel⟩
theorem wm_807 : (.selects xR_MD xy_MD_prism xy_MD_prism : Cond) ∈ xall := List.mem_filter.mpr ⟨List.mem_of_getElem? (i := 807) (by decide +kernel), by decide +kernel⟩
theorem wm_808 : (.code xy_MD_prism prog_9_method_11_code 4 (some .int) : Cond) ∈ xall := List.mem_filter.mpr ⟨List.mem_of_getElem? (i := 808) (by decide +kernel), by decide +kernel⟩
theorem wm_813 : (.methodLink xR_LA 89 xy_MD_use : Cond) ∈ xall := List.mem_filter.mpr ⟨List.mem_of_getElem? (i := 813) (by decide +kernel), by decide +kernel⟩
theorem wm_814 : (.instanceMethod xy_MD_use : Cond) ∈ xall := List.mem_filter.mpr ⟨List.mem_of_getElem? (i := 814) (by decide +kernel), by decide +kernel⟩
theorem wm_815 : (.selects xR_MD xy_MD_use xy_MD_use : Cond) ∈ xall := List.mem_filter.mpr ⟨List.mem_of_getElem? (i := 815) (by decide +kernel), by decide +kernel⟩
theorem wm_816 : (.code xy_MD_use prog_9_method_12_code 4 (some .boolean) : Cond) ∈ xall := List.mem_filter.mpr ⟨List.mem_of_getElem? (i := 816) (by decide +kernel), by decide +kernel⟩
theorem wm_817 : (.methodLink xR_LA 93 xy_MD_setUp : Cond) ∈ xall := List.mem_filter.mpr ⟨List.mem_of_getElem? (i := 817) (by decide +kernel), by decide +kernel⟩
theorem wm_818 : (.instanceMethod xy_MD_setUp : Cond) ∈ xall := List.mem_filter.mpr ⟨List.mem_of_getElem? (i := 818) (by decide +kernel), by decide +kernel⟩
theorem wm_819 : (.selects xR_MD xy_MD_setUp xy_MD_setUp : Cond) ∈ xall := List.mem_filter.mpr ⟨List.mem_of_getElem? (i := 819) (by decide +kernel), by decide +kernel⟩
theorem wm_820 : (.code xy_MD_setUp prog_9_method_15_code 1 (some .int) : Cond) ∈ xall := List.mem_filter.mpr ⟨List.mem_of_getElem? (i := 820) (by decide +kernel), by decide +kernel⟩
theorem wm_832 : (.methodLink xR_LA 97 xy_MD_turned : Cond) ∈ xall := List.mem_filter.mpr ⟨List.mem_of_getElem? (i := 832) (by decide +kernel), by decide +kernel⟩
theorem wm_833 : (.instanceMethod xy_MD_turned : Cond) ∈ xall := List.mem_filter.mpr ⟨List.mem_of_getElem? (i := 833) (by decide +kernel), by decide +kernel⟩
theorem wm_834 : (.selects xR_MD xy_MD_turned xy_MD_turned : Cond) ∈ xall := List.mem_filter.mpr ⟨List.mem_of_getElem? (i := 834) (by decide +kernel), by decide +kernel⟩
theorem wm_835 : (.code xy_MD_turned prog_9_method_17_code 2 (some .long) : Cond) ∈ xall := List.mem_filter.mpr ⟨List.mem_of_getElem? (i := 835) (by decide +kernel), by decide +kernel⟩
theorem wm_840 : (.methodLink xR_LA 100 xy_MD_residual : Cond) ∈ xall := List.mem_filter.mpr ⟨List.mem_of_getElem? (i := 840) (by decide +kernel), by decide +kernel⟩
theorem wm_841 : (.instanceMethod xy_MD_residual : Cond) ∈ xall := List.mem_filter.mpr ⟨List.mem_of_getElem? (i := 841) (by decide +kernel), by decide +kernel⟩
theorem wm_842 : (.selects xR_MD xy_MD_residual xy_MD_residual : Cond) ∈ xall := List.mem_filter.mpr ⟨List.mem_of_getElem? (i := 842) (by decide +kernel), by decide +kernel⟩
theorem wm_843 : (.code xy_MD_residual prog_9_method_20_code 5 (some .int) : Cond) ∈ xall := List.mem_filter.mpr ⟨List.mem_of_getElem? (i := 843) (by decide +kernel), by decide +kernel⟩
theorem wm_852 : (.methodLink xR_LA 103 xy_MD_blunders : Cond) ∈ xall := List.mem_filter.mpr ⟨List.mem_of_getElem? (i := 852) (by decide +kernel), by decide +kernel⟩
theorem wm_853 : (.instanceMethod xy_MD_blunders : Cond) ∈ xall := List.mem_filter.mpr ⟨List.mem_of_getElem? (i := 853) (by decide +kernel), by decide +kernel⟩
theorem wm_854 : (.selects xR_MD xy_MD_blunders xy_MD_blunders : Cond) ∈ xall := List.mem_filter.mpr ⟨List.mem_of_getElem? (i := 854) (by decide +kernel), by decide +kernel⟩
theorem wm_855 : (.code xy_MD_blunders prog_9_method_22_code 6 (some .int) : Cond) ∈ xall := List.mem_filter.mpr ⟨List.mem_of_getElem? (i := 855) (by decide +kernel), by decide +kernel⟩
theorem wm_861 : (.methodLink xR_LA 107 xy_MD_sum : Cond) ∈ xall := List.mem_filter.mpr ⟨List.mem_of_getElem? (i := 861) (by decide +kernel), by decide +kernel⟩
theorem wm_862 : (.instanceMethod xy_MD_sum : Cond) ∈ xall := List.mem_filter.mpr ⟨List.mem_of_getElem? (i := 862) (by decide +kernel), by decide +kernel⟩
theorem wm_863 : (.selects xR_MD xy_MD_sum xy_MD_sum : Cond) ∈ xall := List.mem_filter.mpr ⟨List.mem_of_getElem? (i := 863) (by decide +kernel), by decide +kernel⟩
theorem wm_864 : (.code xy_MD_sum prog_9_method_23_code 6 (some .long) : Cond) ∈ xall := List.mem_filter.mpr ⟨List.mem_of_getElem? (i := 864) (by decide +kernel), by decide +kernel⟩
theorem wm_865 : (.methodLink xR_LA 110 xy_MD_point : Cond) ∈ xall := List.mem_filter.mpr ⟨List.mem_of_getElem? (i := 865) (by decide +kernel), by decide +kernel⟩
theorem wm_866 : (.instanceMethod xy_MD_point : Cond) ∈ xall := List.mem_filter.mpr ⟨List.mem_of_getElem? (i := 866) (by decide +kernel), by decide +kernel⟩
theorem wm_867 : (.selects xR_MD xy_MD_point xy_MD_point : Cond) ∈ xall := List.mem_filter.mpr ⟨List.mem_of_getElem? (i := 867) (by decide +kernel), by decide +kernel⟩
theorem wm_868 : (.code xy_MD_point prog_9_method_24_code 4 (some .int) : Cond) ∈ xall := List.mem_filter.mpr ⟨List.mem_of_getElem? (i := 868) (by decide +kernel), by decide +kernel⟩
theorem wm_869 : (.methodLink xR_LA 113 xy_MD_place : Cond) ∈ xall := List.mem_filter.mpr ⟨List.mem_of_getElem? (i := 869) (by decide +kernel), by decide +kernel⟩
theorem wm_870 : (.instanceMethod xy_MD_place : Cond) ∈ xall := List.mem_filter.mpr ⟨List.mem_of_getElem? (i := 870) (by decide +kernel), by decide +kernel⟩
theorem wm_871 : (.selects xR_MD xy_MD_place xy_MD_place : Cond) ∈ xall := List.mem_filter.mpr ⟨List.mem_of_getElem? (i := 871) (by decide +kernel), by decide +kernel⟩
theorem wm_872 : (.code xy_MD_place prog_9_method_25_code 3 (some .int) : Cond) ∈ xall := List.mem_filter.mpr ⟨List.mem_of_getElem? (i := 872) (by decide +kernel), by decide +kernel⟩
theorem wm_873 : (.methodLink xR_LA 116 xy_MD_level : Cond) ∈ xall := List.mem_filter.mpr ⟨List.mem_of_getElem? (i := 873) (by decide +kernel), by decide +kernel⟩
theorem wm_874 : (.instanceMethod xy_MD_level : Cond) ∈ xall := List.mem_filter.mpr ⟨List.mem_of_getElem? (i := 874) (by decide +kernel), by decide +kernel⟩
theorem wm_875 : (.selects xR_MD xy_MD_level xy_MD_level : Cond) ∈ xall := List.mem_filter.mpr ⟨List.mem_of_getElem? (i := 875) (by decide +kernel), by decide +kernel⟩
theorem wm_876 : (.code xy_MD_level prog_9_method_26_code 3 (some .int) : Cond) ∈ xall := List.mem_filter.mpr ⟨List.mem_of_getElem? (i := 876) (by decide +kernel), by decide +kernel⟩
theorem wm_878 : (.methodLink xR_LA 119 xy_MD_closed : Cond) ∈ xall := List.mem_filter.mpr ⟨List.mem_of_getElem? (i := 878) (by decide +kernel), by decide +kernel⟩
theorem wm_879 : (.instanceMethod xy_MD_closed : Cond) ∈ xall := List.mem_filter.mpr ⟨List.mem_of_getElem? (i := 879) (by decide +kernel), by decide +kernel⟩
theorem wm_880 : (.selects xR_MD xy_MD_closed xy_MD_closed : Cond) ∈ xall := List.mem_filter.mpr ⟨List.mem_of_getElem? (i := 880) (by decide +kernel), by decide +kernel⟩
theorem wm_881 : (.code xy_MD_closed prog_9_method_28_code 4 (some .int) : Cond) ∈ xall := List.mem_filter.mpr ⟨List.mem_of_getElem? (i := 881) (by decide +kernel), by decide +kernel⟩
theorem wm_886 : (.methodLink xR_LA 123 xy_MD_open : Cond) ∈ xall := List.mem_filter.mpr ⟨List.mem_of_getElem? (i := 886) (by decide +kernel), by decide +kernel⟩
theorem wm_887 : (.instanceMethod xy_MD_open : Cond) ∈ xall := List.mem_filter.mpr ⟨List.mem_of_getElem? (i := 887) (by decide +kernel), by decide +kernel⟩
theorem wm_888 : (.selects xR_MD xy_MD_open xy_MD_open : Cond) ∈ xall := List.mem_filter.mpr ⟨List.mem_of_getElem? (i := 888) (by decide +kernel), by decide +kernel⟩
theorem wm_889 : (.code xy_MD_open prog_9_method_29_code 2 (some .int) : Cond) ∈ xall := List.mem_filter.mpr ⟨List.mem_of_getElem? (i := 889) (by decide +kernel), by decide +kernel⟩
theorem wm_890 : (.methodLink xR_LA 126 xy_MD_unit : Cond) ∈ xall := List.mem_filter.mpr ⟨List.mem_of_getElem? (i := 890) (by decide +kernel), by decide +kernel⟩
theorem wm_891 : (.instanceMethod xy_MD_unit : Cond) ∈ xall := List.mem_filter.mpr ⟨List.mem_of_getElem? (i := 891) (by decide +kernel), by decide +kernel⟩
theorem wm_892 : (.selects xR_MD xy_MD_unit xy_MD_unit : Cond) ∈ xall := List.mem_filter.mpr ⟨List.mem_of_getElem? (i := 892) (by decide +kernel), by decide +kernel⟩
theorem wm_893 : (.code xy_MD_unit prog_9_method_33_code 3 (some .int) : Cond) ∈ xall := List.mem_filter.mpr ⟨List.mem_of_getElem? (i := 893) (by decide +kernel), by decide +kernel⟩
theorem wm_904 : (.methodLink xR_LA 130 xy_MD_read : Cond) ∈ xall := List.mem_filter.mpr ⟨List.mem_of_getElem? (i := 904) (by decide +kernel), by decide +kernel⟩
theorem wm_905 : (.instanceMethod xy_MD_read : Cond) ∈ xall := List.mem_filter.mpr ⟨List.mem_of_getElem? (i := 905) (by decide +kernel), by decide +kernel⟩
theorem wm_906 : (.selects xR_MD xy_MD_read xy_MD_read : Cond) ∈ xall := List.mem_filter.mpr ⟨List.mem_of_getElem? (i := 906) (by decide +kernel), by decide +kernel⟩
theorem wm_907 : (.code xy_MD_read prog_9_method_36_code 4 (some .int) : Cond) ∈ xall := List.mem_filter.mpr ⟨List.mem_of_getElem? (i := 907) (by decide +kernel), by decide +kernel⟩
theorem wm_916 : (.methodLink xR_LA 133 xy_MD_count : Cond) ∈ xall := List.mem_filter.mpr ⟨List.mem_of_getElem? (i := 916) (by decide +kernel), by decide +kernel⟩
theorem wm_917 : (.instanceMethod xy_MD_count : Cond) ∈ xall := List.mem_filter.mpr ⟨List.mem_of_getElem? (i := 917) (by decide +kernel), by decide +kernel⟩
theorem wm_918 : (.selects xR_MD xy_MD_count xy_MD_count : Cond) ∈ xall := List.mem_filter.mpr ⟨List.mem_of_getElem? (i := 918) (by decide +kernel), by decide +kernel⟩
theorem wm_919 : (.code xy_MD_count prog_9_method_37_code 2 (some .int) : Cond) ∈ xall := List.mem_filter.mpr ⟨List.mem_of_getElem? (i := 919) (by decide +kernel), by decide +kernel⟩
