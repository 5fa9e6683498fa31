theorem wm_13 : (.selects xR_MD xy_MD_goes xy_MD_goes : Cond) ∈ xall := List.mem_filter.mpr ⟨List.mem_of_getElem? (i := 13) (by decide +kernel), by decide +kernel⟩
theorem wm_14 : (.selects xR_MD xy_MD_tell xy_MD_tell : Cond) ∈ xall := List.mem_filter.mpr ⟨List.mem_of_getElem? (i := 14) (by decide +kernel), by decide +kernel⟩
theorem wm_15 : (.selects xR_MD xy_MD_isObservation xy_MD_isObservation : Cond) ∈ xall := List.mem_filter.mpr ⟨List.mem_of_getElem? (i := 15) (by decide +kernel), by decide +kernel⟩
theorem wm_16 : (.selects xR_MD xy_MD_sets xy_MD_sets : Cond) ∈ xall := List.mem_filter.mpr ⟨List.mem_of_getElem? (i := 16) (by decide +kernel), by decide +kernel⟩
theorem wm_17 : (.selects xR_MD xy_MD_usedNow xy_MD_usedNow : Cond) ∈ xall := List.mem_filter.mpr ⟨List.mem_of_getElem? (i := 17) (by decide +kernel), by decide +kernel⟩
theorem wm_18 : (.selects xR_MD xy_MD_missed xy_MD_missed : Cond) ∈ xall := List.mem_filter.mpr ⟨List.mem_of_getElem? (i := 18) (by decide +kernel), by decide +kernel⟩
theorem wm_19 : (.selects xR_MD xy_MD_placeOf xy_MD_placeOf : Cond) ∈ xall := List.mem_filter.mpr ⟨List.mem_of_getElem? (i := 19) (by decide +kernel), by decide +kernel⟩
theorem wm_20 : (.selects xR_MD xy_MD_flat xy_MD_flat : Cond) ∈ xall := List.mem_filter.mpr ⟨List.mem_of_getElem? (i := 20) (by decide +kernel), by decide +kernel⟩
theorem wm_21 : (.selects xR_MD xy_MD_shared xy_MD_shared : Cond) ∈ xall := List.mem_filter.mpr ⟨List.mem_of_getElem? (i := 21) (by decide +kernel), by decide +kernel⟩
theorem wm_22 : (.selects xR_MD xy_MD_push xy_MD_push : Cond) ∈ xall := List.mem_filter.mpr ⟨List.mem_of_getElem? (i := 22) (by decide +kernel), by decide +kernel⟩
theorem wm_23 : (.selects xR_MD xy_MD_readsRow xy_MD_readsRow : Cond) ∈ xall := List.mem_filter.mpr ⟨List.mem_of_getElem? (i := 23) (by decide +kernel), by decide +kernel⟩
theorem wm_24 : (.selects xR_MD xy_MD_reads xy_MD_reads : Cond) ∈ xall := List.mem_filter.mpr ⟨List.mem_of_getElem? (i := 24) (by decide +kernel), by decide +kernel⟩
theorem wm_34 : (.initialized xR_MD : Cond) ∈ xall := List.mem_filter.mpr ⟨List.mem_of_getElem? (i := 34) (by decide +kernel), by decide +kernel⟩
theorem wm_696 : (.methodLink xR_MD 1 objectInit : Cond) ∈ xall := List.mem_filter.mpr ⟨List.mem_of_getElem? (i := 696) (by decide +kernel), by decide +kernel⟩
theorem wm_697 : (.fieldLink xR_MD 48 "StationRoundsModel" "thrown" "I" : Cond) ∈ xall := List.mem_filter.mpr ⟨List.mem_of_getElem? (i := 697) (by decide +kernel), by decide +kernel⟩
theorem wm_698 : (.fieldLink xR_MD 58 "StationRoundsModel" "marks" "I" : Cond) ∈ xall := List.mem_filter.mpr ⟨List.mem_of_getElem? (i := 698) (by decide +kernel), by decide +kernel⟩
theorem wm_699 : (.fieldLink xR_MD 7 "StationRoundsModel" "places" "[I" : Cond) ∈ xall := List.mem_filter.mpr ⟨List.mem_of_getElem? (i := 699) (by decide +kernel), by decide +kernel⟩
theorem wm_700 : (.fieldLink xR_MD 55 "StationRoundsModel" "observations" "I" : Cond) ∈ xall := List.mem_filter.mpr ⟨List.mem_of_getElem? (i := 700) (by decide +kernel), by decide +kernel⟩
theorem wm_701 : (.fieldLink xR_MD 13 "StationRoundsModel" "markOf" "[I" : Cond) ∈ xall := List.mem_filter.mpr ⟨List.mem_of_getElem? (i := 701) (by decide +kernel), by decide +kernel⟩
theorem wm_702 : (.fieldLink xR_MD 16 "StationRoundsModel" "ways" "[I" : Cond) ∈ xall := List.mem_filter.mpr ⟨List.mem_of_getElem? (i := 702) (by decide +kernel), by decide +kernel⟩
theorem wm_703 : (.fieldLink xR_MD 19 "StationRoundsModel" "prisms" "[I" : Cond) ∈ xall := List.mem_filter.mpr ⟨List.mem_of_getElem? (i := 703) (by decide +kernel), by decide +kernel⟩
theorem wm_704 : (.fieldLink xR_MD 22 "StationRoundsModel" "used" "[Z" : Cond) ∈ xall := List.mem_filter.mpr ⟨List.mem_of_getElem? (i := 704) (by decide +kernel), by decide +kernel⟩
theorem wm_705 : (.fieldLink xR_MD 26 "StationRoundsModel" "known" "I" : Cond) ∈ xall := List.mem_filter.mpr ⟨List.mem_of_getElem? (i := 705) (by decide +kernel), by decide +kernel⟩
theorem wm_706 : (.fieldLink xR_MD 87 "StationRoundsModel" "aboveP" "J" : Cond) ∈ xall := List.mem_filter.mpr ⟨List.mem_of_getElem? (i := 706) (by decide +kernel), by decide +kernel⟩
theorem wm_707 : (.fieldLink xR_MD 90 "StationRoundsModel" "aboveQ" "J" : Cond) ∈ xall := List.mem_filter.mpr ⟨List.mem_of_getElem? (i := 707) (by decide +kernel), by decide +kernel⟩
theorem wm_708 : (.fieldLink xR_MD 93 "StationRoundsModel" "aboveS" "J" : Cond) ∈ xall := List.mem_filter.mpr ⟨List.mem_of_getElem? (i := 708) (by decide +kernel), by decide +kernel⟩
theorem wm_709 : (.fieldLink xR_MD 96 "StationRoundsModel" "aboveT" "J" : Cond) ∈ xall := List.mem_filter.mpr ⟨List.mem_of_getElem? (i := 709) (by decide +kernel), by decide +kernel⟩
theorem wm_710 : (.fieldLink xR_MD 80 "StationRoundsModel" "below" "J" : Cond) ∈ xall := List.mem_filter.mpr ⟨List.mem_of_getElem? (i := 710) (by decide +kernel), by decide +kernel⟩
theorem wm_711 : (.fieldLink xR_MD 84 "StationRoundsModel" "many" "J" : Cond) ∈ xall := List.mem_filter.mpr ⟨List.mem_of_getElem? (i := 711) (by decide +kernel), by decide +kernel⟩
theorem wm_712 : (.fieldLink xR_MD 103 "StationRoundsModel" "height" "J" : Cond) ∈ xall := List.mem_filter.mpr ⟨List.mem_of_getElem? (i := 712) (by decide +kernel), by decide +kernel⟩
theorem wm_713 : (.fieldLink xR_MD 30 "StationRoundsModel" "oldPrisms" "[I" : Cond) ∈ xall := List.mem_filter.mpr ⟨List.mem_of_getElem? (i := 713) (by decide +kernel), by decide +kernel⟩
theorem wm_714 : (.fieldLink xR_MD 33 "StationRoundsModel" "oldUsed" "[Z" : Cond) ∈ xall := List.mem_filter.mpr ⟨List.mem_of_getElem? (i := 714) (by decide +kernel), by decide +kernel⟩
theorem wm_715 : (.fieldLink xR_MD 128 "StationRoundsModel" "points" "I" : Cond) ∈ xall := List.mem_filter.mpr ⟨List.mem_of_getElem? (i := 715) (by decide +kernel), by decide +kernel⟩
theorem wm_716 : (.fieldLink xR_MD 36 "StationRoundsModel" "pointWays" "[I" : Cond) ∈ xall := List.mem_filter.mpr ⟨List.mem_of_getElem? (i := 716) (by decide +kernel), by decide +kernel⟩
theorem wm_717 : (.fieldLink xR_MD 131 "StationRoundsModel" "levels" "I" : Cond) ∈ xall := List.mem_filter.mpr ⟨List.mem_of_getElem? (i := 717) (by decide +kernel), by decide +kernel⟩
theorem wm_718 : (.fieldLink xR_MD 39 "StationRoundsModel" "differences" "[I" : Cond) ∈ xall := List.mem_filter.mpr ⟨List.mem_of_getElem? (i := 718) (by decide +kernel), by decide +kernel⟩
theorem wm_719 : (.fieldLink xR_MD 42 "StationRoundsModel" "lengths" "[I" : Cond) ∈ xall := List.mem_filter.mpr ⟨List.mem_of_getElem? (i := 719) (by decide +kernel), by decide +kernel⟩
theorem wm_720 : (.fieldLink xR_MD 139 "StationRoundsModel" "signs" "I" : Cond) ∈ xall := List.mem_filter.mpr ⟨List.mem_of_getElem? (i := 720) (by decide +kernel), by decide +kernel⟩
theorem wm_721 : (.fieldLink xR_MD 45 "StationRoundsModel" "pad" "[I" : Cond) ∈ xall := List.mem_filter.mpr ⟨List.mem_of_getElem? (i := 721) (by decide +kernel), by decide +kernel⟩
theorem wm_722 : (.fieldLink xR_MD 152 "StationRoundsModel" "at" "I" : Cond) ∈ xall := List.mem_filter.mpr ⟨List.mem_of_getElem? (i := 722) (by decide +kernel), by decide +kernel⟩
theorem wm_723 : (.fieldLink xR_MD 155 "StationRoundsModel" "number" "I" : Cond) ∈ xall := List.mem_filter.mpr ⟨List.mem_of_getElem? (i := 723) (by decide +kernel), by decide +kernel⟩
theorem wm_787 : (.methodLink xR_MD 61 xy_MD_areNear : Cond) ∈ xall := List.mem_filter.mpr ⟨List.mem_of_getElem? (i := 787) (by decide +kernel), by decide +kernel⟩
theorem wm_788 : (.static xy_MD_areNear : Cond) ∈ xall := List.mem_filter.mpr ⟨List.mem_of_getElem? (i := 788) (by decide +kernel), by decide +kernel⟩
theorem wm_789 : (.code xy_MD_areNear prog_9_method_5_code 3 (some .boolean) : Cond) ∈ xall := List.mem_filter.mpr ⟨List.mem_of_getElem? (i := 789) (by decide +kernel), by decide +kernel⟩
theorem wm_790 : (.methodLink xR_MD 51 xy_MD_within : Cond) ∈ xall := List.mem_filter.mpr ⟨List.mem_of_getElem? (i := 790) (by decide +kernel), by decide +kernel⟩
theorem wm_791 : (.static xy_MD_within : Cond) ∈ xall := List.mem_filter.mpr ⟨List.mem_of_getElem? (i := 791) (by decide +kernel), by decide +kernel⟩
theorem wm_792 : (.code xy_MD_within prog_9_method_4_code 3 (some .boolean) : Cond) ∈ xall := List.mem_filter.mpr ⟨List.mem_of_getElem? (i := 792) (by decide +kernel), by decide +kernel⟩
theorem wm_793 : (.methodLink xR_MD 64 xy_MD_goes : Cond) ∈ xall := List.mem_filter.mpr ⟨List.mem_of_getElem? (i := 793) (by decide +kernel), by decide +kernel⟩
theorem wm_795 : (.instanceMethod xy_MD_goes : Cond) ∈ xall := List.mem_filter.mpr ⟨List.mem_of_getElem? (i := 795) (by decide +kernel), by decide +kernel⟩
theorem wm_796 : (.code xy_MD_goes prog_9_method_3_code 4 (some .boolean) : Cond) ∈ xall := List.mem_filter.mpr ⟨List.mem_of_getElem? (i := 796) (by decide +kernel), by decide +kernel⟩
theorem wm_801 : (.methodLink xR_MD 68 xy_MD_tell : Cond) ∈ xall := List.mem_filter.mpr ⟨List.mem_of_getElem? (i := 801) (by decide +kernel), by decide +kernel⟩
theorem wm_803 : (.instanceMethod xy_MD_tell : Cond) ∈ xall := List.mem_filter.mpr ⟨List.mem_of_getElem? (i := 803) (by decide +kernel), by decide +kernel⟩
theorem wm_804 : (.code xy_MD_tell prog_9_method_9_code 5 none : Cond) ∈ xall := List.mem_filter.mpr ⟨List.mem_of_getElem? (i := 804) (by decide +kernel), by decide +kernel⟩
theorem wm_809 : (.methodLink xR_MD 72 xy_MD_isObservation : Cond) ∈ xall := List.mem_filter.mpr ⟨List.mem_of_getElem? (i := 809) (by decide +kernel), by decide +kernel⟩
theorem wm_811 : (.instanceMethod xy_MD_isObservation : Cond) ∈ xall := List.mem_filter.mpr ⟨List.mem_of_getElem? (i := 811) (by decide +kernel), by decide +kernel⟩
theorem wm_812 : (.code xy_MD_isObservation prog_9_method_7_code 2 (some .boolean) : Cond) ∈ xall := List.mem_filter.mpr ⟨List.mem_of_getElem? (i := 812) (by decide +kernel), by decide +kernel⟩
theorem wm_821 : (.methodLink xR_MD 106 xy_MD_sets : Cond) ∈ xall := List.mem_filter.mpr ⟨List.mem_of_getElem? (i := 821) (by decide +kernel), by decide +kernel⟩
theorem wm_823 : (.instanceMethod xy_MD_sets : Cond) ∈ xall := List.mem_filter.mpr ⟨List.mem_of_getElem? (i := 823) (by decide +kernel), by decide +kernel⟩
theorem wm_824 : (.code xy_MD_sets prog_9_method_14_code 28 (some .boolean) : Cond) ∈ xall := List.mem_filter.mpr ⟨List.mem_of_getElem? (i := 824) (by decide +kernel), by decide +kernel⟩
theorem wm_825 : (.methodLink xR_MD 76 xy_MD_usedNow : Cond) ∈ xall := List.mem_filter.mpr ⟨List.mem_of_getElem? (i := 825) (by decide +kernel), by decide +kernel⟩
theorem wm_827 : (.instanceMethod xy_MD_usedNow : Cond) ∈ xall := List.mem_filter.mpr ⟨List.mem_of_getElem? (i := 827) (by decide +kernel), by decide +kernel⟩
theorem wm_828 : (.code xy_MD_usedNow prog_9_method_13_code 3 (some .int) : Cond) ∈ xall := List.mem_filter.mpr ⟨List.mem_of_getElem? (i := 828) (by decide +kernel), by decide +kernel⟩
theorem wm_829 : (.methodLink xR_MD 99 xy_MD_down : Cond) ∈ xall := List.mem_filter.mpr ⟨List.mem_of_getElem? (i := 829) (by decide +kernel), by decide +kernel⟩
theorem wm_830 : (.static xy_MD_down : Cond) ∈ xall := List.mem_filter.mpr ⟨List.mem_of_getElem? (i := 830) (by decide +kernel), by decide +kernel⟩
theorem wm_831 : (.code xy_MD_down prog_9_method_6_code 6 (some .long) : Cond) ∈ xall := List.mem_filter.mpr ⟨List.mem_of_getElem? (i := 831) (by decide +kernel), by decide +kernel⟩
theorem wm_836 : (.methodLink xR_MD 112 xy_MD_millionths : Cond) ∈ xall := List.mem_filter.mpr ⟨List.mem_of_getElem? (i := 836) (by decide +kernel), by decide +kernel⟩
theorem wm_837 : (.static xy_MD_millionths : Cond) ∈ xall := List.mem_filter.mpr ⟨List.mem_of_getElem? (i := 837) (by decide +kernel), by decide +kernel⟩
theorem wm_838 : (.code xy_MD_millionths prog_9_method_16_code 6 (some .long) : Cond) ∈ xall := List.mem_filter.mpr ⟨List.mem_of_getElem? (i := 838) (by decide +kernel), by decide +kernel⟩
theorem wm_839 : (.constantLong xR_MD 110 1000000 : Cond) ∈ xall := List.mem_filter.mpr ⟨List.mem_of_getElem? (i := 839) (by decide +kernel), by decide +kernel⟩
theorem wm_844 : (.methodLink xR_MD 119 xy_MD_missed : Cond) ∈ xall := List.mem_filter.mpr ⟨List.mem_of_getElem? (i := 844) (by decide +kernel), by decide +kernel⟩
theorem wm_846 : (.instanceMethod xy_MD_missed : Cond) ∈ xall := List.mem_filter.mpr ⟨List.mem_of_getElem? (i := 846) (by decide +kernel), by decide +kernel⟩
theorem wm_847 : (.code xy_MD_missed prog_9_method_19_code 3 (some .int) : Cond) ∈ xall := List.mem_filter.mpr ⟨List.mem_of_getElem? (i := 847) (by decide +kernel), by decide +kernel⟩
theorem wm_848 : (.methodLink xR_MD 115 xy_MD_placeOf : Cond) ∈ xall := List.mem_filter.mpr ⟨List.mem_of_getElem? (i := 848) (by decide +kernel), by decide +kernel⟩
theorem wm_850 : (.instanceMethod xy_MD_placeOf : Cond) ∈ xall := List.mem_filter.mpr ⟨List.mem_of_getElem? (i := 850) (by decide +kernel), by decide +kernel⟩
theorem wm_851 : (.code xy_MD_placeOf prog_9_method_18_code 7 (some .int) : Cond) ∈ xall := List.mem_filter.mpr ⟨List.mem_of_getElem? (i := 851) (by decide +kernel), by decide +kernel⟩
theorem wm_856 : (.constant xR_MD 123 100000 : Cond) ∈ xall := List.mem_filter.mpr ⟨List.mem_of_getElem? (i := 856) (by decide +kernel), by decide +kernel⟩
theorem wm_857 : (.methodLink xR_MD 124 xy_MD_flat : Cond) ∈ xall := List.mem_filter.mpr ⟨List.mem_of_getElem? (i := 857) (by decide +kernel), by decide +kernel⟩
theorem wm_859 : (.instanceMethod xy_MD_flat : Cond) ∈ xall := List.mem_filter.mpr ⟨List.mem_of_getElem? (i := 859) (by decide +kernel), by decide +kernel⟩
theorem wm_860 : (.code xy_MD_flat prog_9_method_21_code 6 (some .long) : Cond) ∈ xall := List.mem_filter.mpr ⟨List.mem_of_getElem? (i := 860) (by decide +kernel), by decide +kernel⟩
theorem wm_877 : (.constant xR_MD 134 (-100000) : Cond) ∈ xall := List.mem_filter.mpr ⟨List.mem_of_getElem? (i := 877) (by decide +kernel), by decide +kernel⟩
theorem wm_882 : (.methodLink xR_MD 135 xy_MD_shared : Cond) ∈ xall := List.mem_filter.mpr ⟨List.mem_of_getElem? (i := 882) (by decide +kernel), by decide +kernel⟩
theorem wm_884 : (.instanceMethod xy_MD_shared : Cond) ∈ xall := List.mem_filter.mpr ⟨List.mem_of_getElem? (i := 884) (by decide +kernel), by decide +kernel⟩
theorem wm_885 : (.code xy_MD_shared prog_9_method_27_code 9 (some .int) : Cond) ∈ xall := List.mem_filter.mpr ⟨List.mem_of_getElem? (i := 885) (by decide +kernel), by decide +kernel⟩
theorem wm_894 : (.methodLink xR_MD 142 xy_MD_signsOf : Cond) ∈ xall := List.mem_filter.mpr ⟨List.mem_of_getElem? (i := 894) (by decide +kernel), by decide +kernel⟩
theorem wm_895 : (.static xy_MD_signsOf : Cond) ∈ xall := List.mem_filter.mpr ⟨List.mem_of_getElem? (i := 895) (by decide +kernel), by decide +kernel⟩
theorem wm_896 : (.code xy_MD_signsOf prog_9_method_30_code 3 (some .int) : Cond) ∈ xall := List.mem_filter.mpr ⟨List.mem_of_getElem? (i := 896) (by decide +kernel), by decide +kernel⟩
theorem wm_897 : (.methodLink xR_MD 145 xy_MD_isPlain : Cond) ∈ xall := List.mem_filter.mpr ⟨List.mem_of_getElem? (i := 897) (by decide +kernel), by decide +kernel⟩
theorem wm_898 : (.static xy_MD_isPlain : Cond) ∈ xall := List.mem_filter.mpr ⟨List.mem_of_getElem? (i := 898) (by decide +kernel), by decide +kernel⟩
theorem wm_899 : (.code xy_MD_isPlain prog_9_method_31_code 4 (some .boolean) : Cond) ∈ xall := List.mem_filter.mpr ⟨List.mem_of_getElem? (i := 899) (by decide +kernel), by decide +kernel⟩
theorem wm_900 : (.methodLink xR_MD 148 xy_MD_push : Cond) ∈ xall := List.mem_filter.mpr ⟨List.mem_of_getElem? (i := 900) (by decide +kernel), by decide +kernel⟩
theorem wm_902 : (.instanceMethod xy_MD_push : Cond) ∈ xall := List.mem_filter.mpr ⟨List.mem_of_getElem? (i := 902) (by decide +kernel), by decide +kernel⟩
theorem wm_903 : (.code xy_MD_push prog_9_method_32_code 4 none : Cond) ∈ xall := List.mem_filter.mpr ⟨List.mem_of_getElem? (i := 903) (by decide +kernel), by decide +kernel⟩
theorem wm_908 : (.methodLink xR_MD 161 xy_MD_readsRow : Cond) ∈ xall := List.mem_filter.mpr ⟨List.mem_of_getElem? (i := 908) (by decide +kernel), by decide +kernel⟩
theorem wm_910 : (.instanceMethod xy_MD_readsRow : Cond) ∈ xall := List.mem_filter.mpr ⟨List.mem_of_getElem? (i := 910) (by decide +kernel), by decide +kernel⟩
theorem wm_911 : (.code xy_MD_readsRow prog_9_method_35_code 7 (some .boolean) : Cond) ∈ xall := List.mem_filter.mpr ⟨List.mem_of_getElem? (i := 911) (by decide +kernel), by decide +kernel⟩
theorem wm_912 : (.methodLink xR_MD 158 xy_MD_reads : Cond) ∈ xall := List.mem_filter.mpr ⟨List.mem_of_getElem? (i := 912) (by decide +kernel), by decide +kernel⟩
theorem wm_914 : (.instanceMethod xy_MD_reads : Cond) ∈ xall := List.mem_filter.mpr ⟨List.mem_of_getElem? (i := 914) (by decide +kernel), by decide +kernel⟩
theorem wm_915 : (.code xy_MD_reads prog_9_method_34_code 5 (some .boolean) : Cond) ∈ xall := List.mem_filter.mpr ⟨List.mem_of_getElem? (i := 915) (by decide +kernel), by decide +kernel⟩
