theorem wm_34 : (.initialized xR_MD : Cond) ∈ xall := List.mem_filter.mpr ⟨List.mem_of_getElem? (i := 34) (by decide +kernel), by decide +kernel⟩
theorem wm_697 : (.fieldLink xR_MD 48 "StationRoundsModel" "thrown" "I" : Cond) ∈ xall := List.mem_filter.mpr ⟨List.mem_of_getElem? (i := 697) (by decide +kernel), by decide +kernel⟩
theorem wm_700 : (.fieldLink xR_MD 55 "StationRoundsModel" "observations" "I" : Cond) ∈ xall := List.mem_filter.mpr ⟨List.mem_of_getElem? (i := 700) (by decide +kernel), by decide +kernel⟩
theorem wm_701 : (.fieldLink xR_MD 13 "StationRoundsModel" "markOf" "[I" : Cond) ∈ xall := List.mem_filter.mpr ⟨List.mem_of_getElem? (i := 701) (by decide +kernel), by decide +kernel⟩
theorem wm_702 : (.fieldLink xR_MD 16 "StationRoundsModel" "ways" "[I" : Cond) ∈ xall := List.mem_filter.mpr ⟨List.mem_of_getElem? (i := 702) (by decide +kernel), by decide +kernel⟩
theorem wm_704 : (.fieldLink xR_MD 22 "StationRoundsModel" "used" "[Z" : Cond) ∈ xall := List.mem_filter.mpr ⟨List.mem_of_getElem? (i := 704) (by decide +kernel), by decide +kernel⟩
theorem wm_790 : (.methodLink xR_MD 51 xy_MD_within : Cond) ∈ xall := List.mem_filter.mpr ⟨List.mem_of_getElem? (i := 790) (by decide +kernel), by decide +kernel⟩
theorem wm_791 : (.static xy_MD_within : Cond) ∈ xall := List.mem_filter.mpr ⟨List.mem_of_getElem? (i := 791) (by decide +kernel), by decide +kernel⟩
theorem wm_792 : (.code xy_MD_within prog_9_method_4_code 3 (some .boolean) : Cond) ∈ xall := List.mem_filter.mpr ⟨List.mem_of_getElem? (i := 792) (by decide +kernel), by decide +kernel⟩
