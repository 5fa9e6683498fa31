theorem wm_17 : (.selects xR_MD xy_MD_usedNow xy_MD_usedNow : Cond) ∈ xall := List.mem_filter.mpr ⟨List.mem_of_getElem? (i := 17) (by decide +kernel), by decide +kernel⟩
theorem wm_34 : (.initialized xR_MD : Cond) ∈ xall := List.mem_filter.mpr ⟨List.mem_of_getElem? (i := 34) (by decide +kernel), by decide +kernel⟩
theorem wm_697 : (.fieldLink xR_MD 48 "StationRoundsModel" "thrown" "I" : Cond) ∈ xall := List.mem_filter.mpr ⟨List.mem_of_getElem? (i := 697) (by decide +kernel), by decide +kernel⟩
theorem wm_699 : (.fieldLink xR_MD 7 "StationRoundsModel" "places" "[I" : Cond) ∈ xall := List.mem_filter.mpr ⟨List.mem_of_getElem? (i := 699) (by decide +kernel), by decide +kernel⟩
theorem wm_700 : (.fieldLink xR_MD 55 "StationRoundsModel" "observations" "I" : Cond) ∈ xall := List.mem_filter.mpr ⟨List.mem_of_getElem? (i := 700) (by decide +kernel), by decide +kernel⟩
theorem wm_701 : (.fieldLink xR_MD 13 "StationRoundsModel" "markOf" "[I" : Cond) ∈ xall := List.mem_filter.mpr ⟨List.mem_of_getElem? (i := 701) (by decide +kernel), by decide +kernel⟩
theorem wm_702 : (.fieldLink xR_MD 16 "StationRoundsModel" "ways" "[I" : Cond) ∈ xall := List.mem_filter.mpr ⟨List.mem_of_getElem? (i := 702) (by decide +kernel), by decide +kernel⟩
theorem wm_703 : (.fieldLink xR_MD 19 "StationRoundsModel" "prisms" "[I" : Cond) ∈ xall := List.mem_filter.mpr ⟨List.mem_of_getElem? (i := 703) (by decide +kernel), by decide +kernel⟩
theorem wm_704 : (.fieldLink xR_MD 22 "StationRoundsModel" "used" "[Z" : Cond) ∈ xall := List.mem_filter.mpr ⟨List.mem_of_getElem? (i := 704) (by decide +kernel), by decide +kernel⟩
theorem wm_705 : (.fieldLink xR_MD 26 "StationRoundsModel" "known" "I" : Cond) ∈ xall := List.mem_filter.mpr ⟨List.mem_of_getElem? (i := 705) (by decide +kernel), by decide +kernel⟩
theorem wm_706 : (.fieldLink xR_MD 87 "StationRoundsModel" "aboveP" "J" : Cond) ∈ xall := List.mem_filter.mpr ⟨List.mem_of_getElem? (i := 706) (by decide +kernel), by decide +kernel⟩
theorem wm_707 : (.fieldLink xR_MD 90 "StationRoundsModel" "aboveQ" "J" : Cond) ∈ xall := List.mem_filter.mpr ⟨List.mem_of_getElem? (i := 707) (by decide +kernel), by decide +kernel⟩
theorem wm_708 : (.fieldLink xR_MD 93 "StationRoundsModel" "aboveS" "J" : Cond) ∈ xall := List.mem_filter.mpr ⟨List.mem_of_getElem? (i := 708) (by decide +kernel), by decide +kernel⟩
theorem wm_709 : (.fieldLink xR_MD 96 "StationRoundsModel" "aboveT" "J" : Cond) ∈ xall := List.mem_filter.mpr ⟨List.mem_of_getElem? (i := 709) (by decide +kernel), by decide +kernel⟩
theorem wm_710 : (.fieldLink xR_MD 80 "StationRoundsModel" "below" "J" : Cond) ∈ xall := List.mem_filter.mpr ⟨List.mem_of_getElem? (i := 710) (by decide +kernel), by decide +kernel⟩
theorem wm_711 : (.fieldLink xR_MD 84 "StationRoundsModel" "many" "J" : Cond) ∈ xall := List.mem_filter.mpr ⟨List.mem_of_getElem? (i := 711) (by decide +kernel), by decide +kernel⟩
theorem wm_712 : (.fieldLink xR_MD 103 "StationRoundsModel" "height" "J" : Cond) ∈ xall := List.mem_filter.mpr ⟨List.mem_of_getElem? (i := 712) (by decide +kernel), by decide +kernel⟩
theorem wm_713 : (.fieldLink xR_MD 30 "StationRoundsModel" "oldPrisms" "[I" : Cond) ∈ xall := List.mem_filter.mpr ⟨List.mem_of_getElem? (i := 713) (by decide +kernel), by decide +kernel⟩
theorem wm_714 : (.fieldLink xR_MD 33 "StationRoundsModel" "oldUsed" "[Z" : Cond) ∈ xall := List.mem_filter.mpr ⟨List.mem_of_getElem? (i := 714) (by decide +kernel), by decide +kernel⟩
theorem wm_790 : (.methodLink xR_MD 51 xy_MD_within : Cond) ∈ xall := List.mem_filter.mpr ⟨List.mem_of_getElem? (i := 790) (by decide +kernel), by decide +kernel⟩
theorem wm_791 : (.static xy_MD_within : Cond) ∈ xall := List.mem_filter.mpr ⟨List.mem_of_getElem? (i := 791) (by decide +kernel), by decide +kernel⟩
theorem wm_792 : (.code xy_MD_within prog_9_method_4_code 3 (some .boolean) : Cond) ∈ xall := List.mem_filter.mpr ⟨List.mem_of_getElem? (i := 792) (by decide +kernel), by decide +kernel⟩
theorem wm_825 : (.methodLink xR_MD 76 xy_MD_usedNow : Cond) ∈ xall := List.mem_filter.mpr ⟨List.mem_of_getElem? (i := 825) (by decide +kernel), by decide +kernel⟩
theorem wm_827 : (.instanceMethod xy_MD_usedNow : Cond) ∈ xall := List.mem_filter.mpr ⟨List.mem_of_getElem? (i := 827) (by decide +kernel), by decide +kernel⟩
theorem wm_828 : (.code xy_MD_usedNow prog_9_method_13_code 3 (some .int) : Cond) ∈ xall := List.mem_filter.mpr ⟨List.mem_of_getElem? (i := 828) (by decide +kernel), by decide +kernel⟩
theorem wm_829 : (.methodLink xR_MD 99 xy_MD_down : Cond) ∈ xall := List.mem_filter.mpr ⟨List.mem_of_getElem? (i := 829) (by decide +kernel), by decide +kernel⟩
theorem wm_830 : (.static xy_MD_down : Cond) ∈ xall := List.mem_filter.mpr ⟨List.mem_of_getElem? (i := 830) (by decide +kernel), by decide +kernel⟩
theorem wm_831 : (.code xy_MD_down prog_9_method_6_code 6 (some .long) : Cond) ∈ xall := List.mem_filter.mpr ⟨List.mem_of_getElem? (i := 831) (by decide +kernel), by decide +kernel⟩
