theorem wm_38 : (.initialized "java/lang/IllegalStateException" : Cond) ∈ xall := List.mem_filter.mpr ⟨List.mem_of_getElem? (i := 38) (by decide +kernel), by decide +kernel⟩
theorem wm_39 : (.initialized "java/lang/IllegalArgumentException" : Cond) ∈ xall := List.mem_filter.mpr ⟨List.mem_of_getElem? (i := 39) (by decide +kernel), by decide +kernel⟩
theorem wm_40 : (.initialized "java/lang/IndexOutOfBoundsException" : Cond) ∈ xall := List.mem_filter.mpr ⟨List.mem_of_getElem? (i := 40) (by decide +kernel), by decide +kernel⟩
theorem wm_46 : (.methodLink xR_SR 1 objectInit : Cond) ∈ xall := List.mem_filter.mpr ⟨List.mem_of_getElem? (i := 46) (by decide +kernel), by decide +kernel⟩
theorem wm_49 : (.classLink xR_SR 7 xR_SP : Cond) ∈ xall := List.mem_filter.mpr ⟨List.mem_of_getElem? (i := 49) (by decide +kernel), by decide +kernel⟩
theorem wm_50 : (.instantiable xR_SP 4 : Cond) ∈ xall := List.mem_filter.mpr ⟨List.mem_of_getElem? (i := 50) (by decide +kernel), by decide +kernel⟩
theorem wm_51 : (.methodLink xR_SR 11 xy_SP_init : Cond) ∈ xall := List.mem_filter.mpr ⟨List.mem_of_getElem? (i := 51) (by decide +kernel), by decide +kernel⟩
theorem wm_52 : (.instanceMethod xy_SP_init : Cond) ∈ xall := List.mem_filter.mpr ⟨List.mem_of_getElem? (i := 52) (by decide +kernel), by decide +kernel⟩
theorem wm_53 : (.code xy_SP_init prog_6_method_1_code 3 none : Cond) ∈ xall := List.mem_filter.mpr ⟨List.mem_of_getElem? (i := 53) (by decide +kernel), by decide +kernel⟩
theorem wm_79 : (.classLink xR_SR 21 xR_OB : Cond) ∈ xall := List.mem_filter.mpr ⟨List.mem_of_getElem? (i := 79) (by decide +kernel), by decide +kernel⟩
theorem wm_80 : (.instantiable xR_OB 9 : Cond) ∈ xall := List.mem_filter.mpr ⟨List.mem_of_getElem? (i := 80) (by decide +kernel), by decide +kernel⟩
theorem wm_82 : (.instanceMethod xy_OB_init : Cond) ∈ xall := List.mem_filter.mpr ⟨List.mem_of_getElem? (i := 82) (by decide +kernel), by decide +kernel⟩
theorem wm_83 : (.code xy_OB_init prog_3_method_1_code 1 none : Cond) ∈ xall := List.mem_filter.mpr ⟨List.mem_of_getElem? (i := 83) (by decide +kernel), by decide +kernel⟩
theorem wm_131 : (.classLink xR_SR 28 xR_SU : Cond) ∈ xall := List.mem_filter.mpr ⟨List.mem_of_getElem? (i := 131) (by decide +kernel), by decide +kernel⟩
theorem wm_132 : (.instantiable xR_SU 8 : Cond) ∈ xall := List.mem_filter.mpr ⟨List.mem_of_getElem? (i := 132) (by decide +kernel), by decide +kernel⟩
theorem wm_134 : (.instanceMethod xy_SU_init : Cond) ∈ xall := List.mem_filter.mpr ⟨List.mem_of_getElem? (i := 134) (by decide +kernel), by decide +kernel⟩
theorem wm_135 : (.code xy_SU_init prog_5_method_1_code 1 none : Cond) ∈ xall := List.mem_filter.mpr ⟨List.mem_of_getElem? (i := 135) (by decide +kernel), by decide +kernel⟩
theorem wm_136 : (.methodLink xR_SU 3 objectInit : Cond) ∈ xall := List.mem_filter.mpr ⟨List.mem_of_getElem? (i := 136) (by decide +kernel), by decide +kernel⟩
theorem wm_137 : (.classLink xR_SU 9 xR_SM : Cond) ∈ xall := List.mem_filter.mpr ⟨List.mem_of_getElem? (i := 137) (by decide +kernel), by decide +kernel⟩
theorem wm_138 : (.instantiable xR_SM 9 : Cond) ∈ xall := List.mem_filter.mpr ⟨List.mem_of_getElem? (i := 138) (by decide +kernel), by decide +kernel⟩
theorem wm_140 : (.instanceMethod xy_SM_init : Cond) ∈ xall := List.mem_filter.mpr ⟨List.mem_of_getElem? (i := 140) (by decide +kernel), by decide +kernel⟩
theorem wm_141 : (.code xy_SM_init prog_7_method_1_code 1 none : Cond) ∈ xall := List.mem_filter.mpr ⟨List.mem_of_getElem? (i := 141) (by decide +kernel), by decide +kernel⟩
theorem wm_177 : (.classLink xR_SU 22 "[[I" : Cond) ∈ xall := List.mem_filter.mpr ⟨List.mem_of_getElem? (i := 177) (by decide +kernel), by decide +kernel⟩
theorem wm_206 : (.arrayClass .long : Cond) ∈ xall := List.mem_filter.mpr ⟨List.mem_of_getElem? (i := 206) (by decide +kernel), by decide +kernel⟩
theorem wm_207 : (.classLink xR_SR 35 xR_LE : Cond) ∈ xall := List.mem_filter.mpr ⟨List.mem_of_getElem? (i := 207) (by decide +kernel), by decide +kernel⟩
theorem wm_208 : (.instantiable xR_LE 3 : Cond) ∈ xall := List.mem_filter.mpr ⟨List.mem_of_getElem? (i := 208) (by decide +kernel), by decide +kernel⟩
theorem wm_210 : (.instanceMethod xy_LE_init : Cond) ∈ xall := List.mem_filter.mpr ⟨List.mem_of_getElem? (i := 210) (by decide +kernel), by decide +kernel⟩
theorem wm_211 : (.code xy_LE_init prog_2_method_1_code 1 none : Cond) ∈ xall := List.mem_filter.mpr ⟨List.mem_of_getElem? (i := 211) (by decide +kernel), by decide +kernel⟩
theorem wm_224 : (.classLink xR_SR 42 xR_PA : Cond) ∈ xall := List.mem_filter.mpr ⟨List.mem_of_getElem? (i := 224) (by decide +kernel), by decide +kernel⟩
theorem wm_225 : (.instantiable xR_PA 4 : Cond) ∈ xall := List.mem_filter.mpr ⟨List.mem_of_getElem? (i := 225) (by decide +kernel), by decide +kernel⟩
theorem wm_227 : (.instanceMethod xy_PA_init : Cond) ∈ xall := List.mem_filter.mpr ⟨List.mem_of_getElem? (i := 227) (by decide +kernel), by decide +kernel⟩
theorem wm_228 : (.code xy_PA_init prog_4_method_1_code 1 none : Cond) ∈ xall := List.mem_filter.mpr ⟨List.mem_of_getElem? (i := 228) (by decide +kernel), by decide +kernel⟩
theorem wm_384 : (.classLink xR_LA 13 "java/lang/IllegalStateException" : Cond) ∈ xall := List.mem_filter.mpr ⟨List.mem_of_getElem? (i := 384) (by decide +kernel), by decide +kernel⟩
theorem wm_385 : (.classLink xR_LA 15 "java/lang/IllegalArgumentException" : Cond) ∈ xall := List.mem_filter.mpr ⟨List.mem_of_getElem? (i := 385) (by decide +kernel), by decide +kernel⟩
theorem wm_386 : (.methodLink xR_LA 7 xy_SR_mark : Cond) ∈ xall := List.mem_filter.mpr ⟨List.mem_of_getElem? (i := 386) (by decide +kernel), by decide +kernel⟩
theorem wm_387 : (.instanceMethod xy_SR_mark : Cond) ∈ xall := List.mem_filter.mpr ⟨List.mem_of_getElem? (i := 387) (by decide +kernel), by decide +kernel⟩
theorem wm_388 : (.selects xR_SR xy_SR_mark xy_SR_mark : Cond) ∈ xall := List.mem_filter.mpr ⟨List.mem_of_getElem? (i := 388) (by decide +kernel), by decide +kernel⟩
theorem wm_389 : (.code xy_SR_mark prog_1_method_2_code 4 (some .int) : Cond) ∈ xall := List.mem_filter.mpr ⟨List.mem_of_getElem? (i := 389) (by decide +kernel), by decide +kernel⟩
theorem wm_394 : (.classLink xR_SR 53 "java/lang/IllegalStateException" : Cond) ∈ xall := List.mem_filter.mpr ⟨List.mem_of_getElem? (i := 394) (by decide +kernel), by decide +kernel⟩
theorem wm_462 : (.classLink xR_SR 64 "java/lang/IllegalArgumentException" : Cond) ∈ xall := List.mem_filter.mpr ⟨List.mem_of_getElem? (i := 462) (by decide +kernel), by decide +kernel⟩
theorem wm_485 : (.classLink xR_LA 21 "java/lang/IndexOutOfBoundsException" : Cond) ∈ xall := List.mem_filter.mpr ⟨List.mem_of_getElem? (i := 485) (by decide +kernel), by decide +kernel⟩
theorem wm_486 : (.methodLink xR_LA 17 xy_SR_observe : Cond) ∈ xall := List.mem_filter.mpr ⟨List.mem_of_getElem? (i := 486) (by decide +kernel), by decide +kernel⟩
theorem wm_487 : (.instanceMethod xy_SR_observe : Cond) ∈ xall := List.mem_filter.mpr ⟨List.mem_of_getElem? (i := 487) (by decide +kernel), by decide +kernel⟩
theorem wm_488 : (.selects xR_SR xy_SR_observe xy_SR_observe : Cond) ∈ xall := List.mem_filter.mpr ⟨List.mem_of_getElem? (i := 488) (by decide +kernel), by decide +kernel⟩
theorem wm_489 : (.code xy_SR_observe prog_1_method_3_code 5 (some .int) : Cond) ∈ xall := List.mem_filter.mpr ⟨List.mem_of_getElem? (i := 489) (by decide +kernel), by decide +kernel⟩
theorem wm_490 : (.classLink xR_SR 77 "java/lang/IndexOutOfBoundsException" : Cond) ∈ xall := List.mem_filter.mpr ⟨List.mem_of_getElem? (i := 490) (by decide +kernel), by decide +kernel⟩
theorem wm_511 : (.methodLink xR_LA 23 xy_SR_prism : Cond) ∈ xall := List.mem_filter.mpr ⟨List.mem_of_getElem? (i := 511) (by decide +kernel), by decide +kernel⟩
theorem wm_512 : (.instanceMethod xy_SR_prism : Cond) ∈ xall := List.mem_filter.mpr ⟨List.mem_of_getElem? (i := 512) (by decide +kernel), by decide +kernel⟩
theorem wm_513 : (.selects xR_SR xy_SR_prism xy_SR_prism : Cond) ∈ xall := List.mem_filter.mpr ⟨List.mem_of_getElem? (i := 513) (by decide +kernel), by decide +kernel⟩
theorem wm_514 : (.code xy_SR_prism prog_1_method_4_code 4 (some .int) : Cond) ∈ xall := List.mem_filter.mpr ⟨List.mem_of_getElem? (i := 514) (by decide +kernel), by decide +kernel⟩
theorem wm_524 : (.methodLink xR_LA 27 xy_SR_use : Cond) ∈ xall := List.mem_filter.mpr ⟨List.mem_of_getElem? (i := 524) (by decide +kernel), by decide +kernel⟩
theorem wm_525 : (.instanceMethod xy_SR_use : Cond) ∈ xall := List.mem_filter.mpr ⟨List.mem_of_getElem? (i := 525) (by decide +kernel), by decide +kernel⟩
theorem wm_526 : (.selects xR_SR xy_SR_use xy_SR_use : Cond) ∈ xall := List.mem_filter.mpr ⟨List.mem_of_getElem? (i := 526) (by decide +kernel), by decide +kernel⟩
theorem wm_527 : (.code xy_SR_use prog_1_method_5_code 4 (some .boolean) : Cond) ∈ xall := List.mem_filter.mpr ⟨List.mem_of_getElem? (i := 527) (by decide +kernel), by decide +kernel⟩
theorem wm_531 : (.methodLink xR_LA 31 xy_SR_turned : Cond) ∈ xall := List.mem_filter.mpr ⟨List.mem_of_getElem? (i := 531) (by decide +kernel), by decide +kernel⟩
theorem wm_532 : (.instanceMethod xy_SR_turned : Cond) ∈ xall := List.mem_filter.mpr ⟨List.mem_of_getElem? (i := 532) (by decide +kernel), by decide +kernel⟩
theorem wm_533 : (.selects xR_SR xy_SR_turned xy_SR_turned : Cond) ∈ xall := List.mem_filter.mpr ⟨List.mem_of_getElem? (i := 533) (by decide +kernel), by decide +kernel⟩
theorem wm_534 : (.code xy_SR_turned prog_1_method_7_code 2 (some .long) : Cond) ∈ xall := List.mem_filter.mpr ⟨List.mem_of_getElem? (i := 534) (by decide +kernel), by decide +kernel⟩
theorem wm_549 : (.methodLink xR_LA 35 xy_SR_residual : Cond) ∈ xall := List.mem_filter.mpr ⟨List.mem_of_getElem? (i := 549) (by decide +kernel), by decide +kernel⟩
theorem wm_550 : (.instanceMethod xy_SR_residual : Cond) ∈ xall := List.mem_filter.mpr ⟨List.mem_of_getElem? (i := 550) (by decide +kernel), by decide +kernel⟩
theorem wm_551 : (.selects xR_SR xy_SR_residual xy_SR_residual : Cond) ∈ xall := List.mem_filter.mpr ⟨List.mem_of_getElem? (i := 551) (by decide +kernel), by decide +kernel⟩
theorem wm_552 : (.code xy_SR_residual prog_1_method_8_code 3 (some .int) : Cond) ∈ xall := List.mem_filter.mpr ⟨List.mem_of_getElem? (i := 552) (by decide +kernel), by decide +kernel⟩
theorem wm_565 : (.methodLink xR_LA 38 xy_SR_blunders : Cond) ∈ xall := List.mem_filter.mpr ⟨List.mem_of_getElem? (i := 565) (by decide +kernel), by decide +kernel⟩
theorem wm_566 : (.instanceMethod xy_SR_blunders : Cond) ∈ xall := List.mem_filter.mpr ⟨List.mem_of_getElem? (i := 566) (by decide +kernel), by decide +kernel⟩
theorem wm_567 : (.selects xR_SR xy_SR_blunders xy_SR_blunders : Cond) ∈ xall := List.mem_filter.mpr ⟨List.mem_of_getElem? (i := 567) (by decide +kernel), by decide +kernel⟩
theorem wm_568 : (.code xy_SR_blunders prog_1_method_9_code 5 (some .int) : Cond) ∈ xall := List.mem_filter.mpr ⟨List.mem_of_getElem? (i := 568) (by decide +kernel), by decide +kernel⟩
theorem wm_586 : (.methodLink xR_LA 42 xy_SR_sum : Cond) ∈ xall := List.mem_filter.mpr ⟨List.mem_of_getElem? (i := 586) (by decide +kernel), by decide +kernel⟩
theorem wm_587 : (.instanceMethod xy_SR_sum : Cond) ∈ xall := List.mem_filter.mpr ⟨List.mem_of_getElem? (i := 587) (by decide +kernel), by decide +kernel⟩
theorem wm_588 : (.selects xR_SR xy_SR_sum xy_SR_sum : Cond) ∈ xall := List.mem_filter.mpr ⟨List.mem_of_getElem? (i := 588) (by decide +kernel), by decide +kernel⟩
theorem wm_589 : (.code xy_SR_sum prog_1_method_10_code 1 (some .long) : Cond) ∈ xall := List.mem_filter.mpr ⟨List.mem_of_getElem? (i := 589) (by decide +kernel), by decide +kernel⟩
theorem wm_597 : (.methodLink xR_LA 46 xy_SR_point : Cond) ∈ xall := List.mem_filter.mpr ⟨List.mem_of_getElem? (i := 597) (by decide +kernel), by decide +kernel⟩
theorem wm_598 : (.instanceMethod xy_SR_point : Cond) ∈ xall := List.mem_filter.mpr ⟨List.mem_of_getElem? (i := 598) (by decide +kernel), by decide +kernel⟩
theorem wm_599 : (.selects xR_SR xy_SR_point xy_SR_point : Cond) ∈ xall := List.mem_filter.mpr ⟨List.mem_of_getElem? (i := 599) (by decide +kernel), by decide +kernel⟩
theorem wm_600 : (.code xy_SR_point prog_1_method_11_code 4 (some .int) : Cond) ∈ xall := List.mem_filter.mpr ⟨List.mem_of_getElem? (i := 600) (by decide +kernel), by decide +kernel⟩
theorem wm_606 : (.methodLink xR_LA 49 xy_SR_place : Cond) ∈ xall := List.mem_filter.mpr ⟨List.mem_of_getElem? (i := 606) (by decide +kernel), by decide +kernel⟩
theorem wm_607 : (.instanceMethod xy_SR_place : Cond) ∈ xall := List.mem_filter.mpr ⟨List.mem_of_getElem? (i := 607) (by decide +kernel), by decide +kernel⟩
theorem wm_608 : (.selects xR_SR xy_SR_place xy_SR_place : Cond) ∈ xall := List.mem_filter.mpr ⟨List.mem_of_getElem? (i := 608) (by decide +kernel), by decide +kernel⟩
theorem wm_609 : (.code xy_SR_place prog_1_method_12_code 3 (some .int) : Cond) ∈ xall := List.mem_filter.mpr ⟨List.mem_of_getElem? (i := 609) (by decide +kernel), by decide +kernel⟩
theorem wm_615 : (.methodLink xR_LA 52 xy_SR_level : Cond) ∈ xall := List.mem_filter.mpr ⟨List.mem_of_getElem? (i := 615) (by decide +kernel), by decide +kernel⟩
theorem wm_616 : (.instanceMethod xy_SR_level : Cond) ∈ xall := List.mem_filter.mpr ⟨List.mem_of_getElem? (i := 616) (by decide +kernel), by decide +kernel⟩
theorem wm_617 : (.selects xR_SR xy_SR_level xy_SR_level : Cond) ∈ xall := List.mem_filter.mpr ⟨List.mem_of_getElem? (i := 617) (by decide +kernel), by decide +kernel⟩
theorem wm_618 : (.code xy_SR_level prog_1_method_13_code 3 (some .int) : Cond) ∈ xall := List.mem_filter.mpr ⟨List.mem_of_getElem? (i := 618) (by decide +kernel), by decide +kernel⟩
theorem wm_634 : (.methodLink xR_LA 55 xy_SR_closed : Cond) ∈ xall := List.mem_filter.mpr ⟨List.mem_of_getElem? (i := 634) (by decide +kernel), by decide +kernel⟩
theorem wm_635 : (.instanceMethod xy_SR_closed : Cond) ∈ xall := List.mem_filter.mpr ⟨List.mem_of_getElem? (i := 635) (by decide +kernel), by decide +kernel⟩
theorem wm_636 : (.selects xR_SR xy_SR_closed xy_SR_closed : Cond) ∈ xall := List.mem_filter.mpr ⟨List.mem_of_getElem? (i := 636) (by decide +kernel), by decide +kernel⟩
theorem wm_637 : (.code xy_SR_closed prog_1_method_14_code 2 (some .int) : Cond) ∈ xall := List.mem_filter.mpr ⟨List.mem_of_getElem? (i := 637) (by decide +kernel), by decide +kernel⟩
theorem wm_664 : (.methodLink xR_LA 58 xy_SR_unit : Cond) ∈ xall := List.mem_filter.mpr ⟨List.mem_of_getElem? (i := 664) (by decide +kernel), by decide +kernel⟩
theorem wm_665 : (.instanceMethod xy_SR_unit : Cond) ∈ xall := List.mem_filter.mpr ⟨List.mem_of_getElem? (i := 665) (by decide +kernel), by decide +kernel⟩
theorem wm_666 : (.selects xR_SR xy_SR_unit xy_SR_unit : Cond) ∈ xall := List.mem_filter.mpr ⟨List.mem_of_getElem? (i := 666) (by decide +kernel), by decide +kernel⟩
theorem wm_667 : (.code xy_SR_unit prog_1_method_16_code 3 (some .int) : Cond) ∈ xall := List.mem_filter.mpr ⟨List.mem_of_getElem? (i := 667) (by decide +kernel), by decide +kernel⟩
theorem wm_686 : (.methodLink xR_LA 61 xy_SR_count : Cond) ∈ xall := List.mem_filter.mpr ⟨List.mem_of_getElem? (i := 686) (by decide +kernel), by decide +kernel⟩
theorem wm_687 : (.instanceMethod xy_SR_count : Cond) ∈ xall := List.mem_filter.mpr ⟨List.mem_of_getElem? (i := 687) (by decide +kernel), by decide +kernel⟩
theorem wm_688 : (.selects xR_SR xy_SR_count xy_SR_count : Cond) ∈ xall := List.mem_filter.mpr ⟨List.mem_of_getElem? (i := 688) (by decide +kernel), by decide +kernel⟩
theorem wm_689 : (.code xy_SR_count prog_1_method_18_code 2 (some .int) : Cond) ∈ xall := List.mem_filter.mpr ⟨List.mem_of_getElem? (i := 689) (by decide +kernel), by decide +kernel⟩
