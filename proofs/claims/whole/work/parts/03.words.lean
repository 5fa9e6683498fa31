theorem wm_0 : (.selects xR_SM xy_SM_clear xy_SM_clear : Cond) ∈ xall := List.mem_filter.mpr ⟨List.mem_of_getElem? (i := 0) (by decide +kernel), by decide +kernel⟩
theorem wm_1 : (.selects xR_SM xy_SM_add xy_SM_add : Cond) ∈ xall := List.mem_filter.mpr ⟨List.mem_of_getElem? (i := 1) (by decide +kernel), by decide +kernel⟩
theorem wm_2 : (.selects xR_SU xy_SU_takeParts xy_SU_takeParts : Cond) ∈ xall := List.mem_filter.mpr ⟨List.mem_of_getElem? (i := 2) (by decide +kernel), by decide +kernel⟩
theorem wm_3 : (.selects xR_SU xy_SU_takeMisses xy_SU_takeMisses : Cond) ∈ xall := List.mem_filter.mpr ⟨List.mem_of_getElem? (i := 3) (by decide +kernel), by decide +kernel⟩
theorem wm_4 : (.selects xR_SR xy_SR_observeRows xy_SR_observeRows : Cond) ∈ xall := List.mem_filter.mpr ⟨List.mem_of_getElem? (i := 4) (by decide +kernel), by decide +kernel⟩
theorem wm_5 : (.selects xR_PA xy_PA_nextNumber xy_PA_nextNumber : Cond) ∈ xall := List.mem_filter.mpr ⟨List.mem_of_getElem? (i := 5) (by decide +kernel), by decide +kernel⟩
theorem wm_6 : (.selects xR_PA xy_PA_skips xy_PA_skips : Cond) ∈ xall := List.mem_filter.mpr ⟨List.mem_of_getElem? (i := 6) (by decide +kernel), by decide +kernel⟩
theorem wm_7 : (.selects xR_SR xy_SR_observeNumbers xy_SR_observeNumbers : Cond) ∈ xall := List.mem_filter.mpr ⟨List.mem_of_getElem? (i := 7) (by decide +kernel), by decide +kernel⟩
theorem wm_9 : (.selects xR_SR xy_SR_leaveOutWorst xy_SR_leaveOutWorst : Cond) ∈ xall := List.mem_filter.mpr ⟨List.mem_of_getElem? (i := 9) (by decide +kernel), by decide +kernel⟩
theorem wm_10 : (.selects xR_SU xy_SU_squareOf xy_SU_squareOf : Cond) ∈ xall := List.mem_filter.mpr ⟨List.mem_of_getElem? (i := 10) (by decide +kernel), by decide +kernel⟩
theorem wm_11 : (.selects xR_LE xy_LE_sharedOver xy_LE_sharedOver : Cond) ∈ xall := List.mem_filter.mpr ⟨List.mem_of_getElem? (i := 11) (by decide +kernel), by decide +kernel⟩
theorem wm_12 : (.selects xR_LE xy_LE_lengthOf xy_LE_lengthOf : Cond) ∈ xall := List.mem_filter.mpr ⟨List.mem_of_getElem? (i := 12) (by decide +kernel), by decide +kernel⟩
theorem wm_26 : (.initialized xR_SR : Cond) ∈ xall := List.mem_filter.mpr ⟨List.mem_of_getElem? (i := 26) (by decide +kernel), by decide +kernel⟩
theorem wm_27 : (.initialized xR_SP : Cond) ∈ xall := List.mem_filter.mpr ⟨List.mem_of_getElem? (i := 27) (by decide +kernel), by decide +kernel⟩
theorem wm_28 : (.initialized "java/lang/Math" : Cond) ∈ xall := List.mem_filter.mpr ⟨List.mem_of_getElem? (i := 28) (by decide +kernel), by decide +kernel⟩
theorem wm_29 : (.initialized xR_OB : Cond) ∈ xall := List.mem_filter.mpr ⟨List.mem_of_getElem? (i := 29) (by decide +kernel), by decide +kernel⟩
theorem wm_30 : (.initialized xR_SU : Cond) ∈ xall := List.mem_filter.mpr ⟨List.mem_of_getElem? (i := 30) (by decide +kernel), by decide +kernel⟩
theorem wm_31 : (.initialized xR_SM : Cond) ∈ xall := List.mem_filter.mpr ⟨List.mem_of_getElem? (i := 31) (by decide +kernel), by decide +kernel⟩
theorem wm_32 : (.initialized xR_LE : Cond) ∈ xall := List.mem_filter.mpr ⟨List.mem_of_getElem? (i := 32) (by decide +kernel), by decide +kernel⟩
theorem wm_33 : (.initialized xR_PA : Cond) ∈ xall := List.mem_filter.mpr ⟨List.mem_of_getElem? (i := 33) (by decide +kernel), by decide +kernel⟩
theorem wm_47 : (.instanceMethod objectInit : Cond) ∈ xall := List.mem_filter.mpr ⟨List.mem_of_getElem? (i := 47) (by decide +kernel), by decide +kernel⟩
theorem wm_48 : (.code objectInit ⟨#[0xb1]⟩ 1 none : Cond) ∈ xall := List.mem_filter.mpr ⟨List.mem_of_getElem? (i := 48) (by decide +kernel), by decide +kernel⟩
theorem wm_54 : (.methodLink xR_SP 1 objectInit : Cond) ∈ xall := List.mem_filter.mpr ⟨List.mem_of_getElem? (i := 54) (by decide +kernel), by decide +kernel⟩
theorem wm_55 : (.methodLink xR_SP 7 Lib.Math.max.name : Cond) ∈ xall := List.mem_filter.mpr ⟨List.mem_of_getElem? (i := 55) (by decide +kernel), by decide +kernel⟩
theorem wm_56 : (.static Lib.Math.max.name : Cond) ∈ xall := List.mem_filter.mpr ⟨List.mem_of_getElem? (i := 56) (by decide +kernel), by decide +kernel⟩
theorem wm_57 : (.code Lib.Math.max.name Lib.Math.max.code 2 (some .int) : Cond) ∈ xall := List.mem_filter.mpr ⟨List.mem_of_getElem? (i := 57) (by decide +kernel), by decide +kernel⟩
theorem wm_58 : (.fieldLink xR_SP 13 "StationRounds$Spots" "first" "[I" : Cond) ∈ xall := List.mem_filter.mpr ⟨List.mem_of_getElem? (i := 58) (by decide +kernel), by decide +kernel⟩
theorem wm_59 : (.fieldLink xR_OB 41 "StationRounds$Spots" "first" "[I" : Cond) ∈ xall := List.mem_filter.mpr ⟨List.mem_of_getElem? (i := 59) (by decide +kernel), by decide +kernel⟩
theorem wm_60 : (.fieldLink xR_SR 157 "StationRounds$Spots" "first" "[I" : Cond) ∈ xall := List.mem_filter.mpr ⟨List.mem_of_getElem? (i := 60) (by decide +kernel), by decide +kernel⟩
theorem wm_61 : (.fieldLink xR_SP 19 "StationRounds$Spots" "second" "[I" : Cond) ∈ xall := List.mem_filter.mpr ⟨List.mem_of_getElem? (i := 61) (by decide +kernel), by decide +kernel⟩
theorem wm_62 : (.fieldLink xR_OB 46 "StationRounds$Spots" "second" "[I" : Cond) ∈ xall := List.mem_filter.mpr ⟨List.mem_of_getElem? (i := 62) (by decide +kernel), by decide +kernel⟩
theorem wm_63 : (.fieldLink xR_SR 160 "StationRounds$Spots" "second" "[I" : Cond) ∈ xall := List.mem_filter.mpr ⟨List.mem_of_getElem? (i := 63) (by decide +kernel), by decide +kernel⟩
theorem wm_64 : (.fieldLink xR_SP 22 "StationRounds$Spots" "third" "[I" : Cond) ∈ xall := List.mem_filter.mpr ⟨List.mem_of_getElem? (i := 64) (by decide +kernel), by decide +kernel⟩
theorem wm_65 : (.fieldLink xR_OB 49 "StationRounds$Spots" "third" "[I" : Cond) ∈ xall := List.mem_filter.mpr ⟨List.mem_of_getElem? (i := 65) (by decide +kernel), by decide +kernel⟩
theorem wm_66 : (.fieldLink xR_SR 163 "StationRounds$Spots" "third" "[I" : Cond) ∈ xall := List.mem_filter.mpr ⟨List.mem_of_getElem? (i := 66) (by decide +kernel), by decide +kernel⟩
theorem wm_67 : (.fieldLink xR_SP 25 "StationRounds$Spots" "count" "I" : Cond) ∈ xall := List.mem_filter.mpr ⟨List.mem_of_getElem? (i := 67) (by decide +kernel), by decide +kernel⟩
theorem wm_68 : (.fieldLink xR_SR 213 "StationRounds$Spots" "count" "I" : Cond) ∈ xall := List.mem_filter.mpr ⟨List.mem_of_getElem? (i := 68) (by decide +kernel), by decide +kernel⟩
theorem wm_78 : (.arrayClass .int : Cond) ∈ xall := List.mem_filter.mpr ⟨List.mem_of_getElem? (i := 78) (by decide +kernel), by decide +kernel⟩
theorem wm_84 : (.methodLink xR_OB 3 objectInit : Cond) ∈ xall := List.mem_filter.mpr ⟨List.mem_of_getElem? (i := 84) (by decide +kernel), by decide +kernel⟩
theorem wm_85 : (.fieldLink xR_OB 9 "StationRounds$Observations" "x" "[I" : Cond) ∈ xall := List.mem_filter.mpr ⟨List.mem_of_getElem? (i := 85) (by decide +kernel), by decide +kernel⟩
theorem wm_86 : (.fieldLink xR_SM 59 "StationRounds$Observations" "x" "[I" : Cond) ∈ xall := List.mem_filter.mpr ⟨List.mem_of_getElem? (i := 86) (by decide +kernel), by decide +kernel⟩
theorem wm_87 : (.fieldLink xR_SU 95 "StationRounds$Observations" "x" "[I" : Cond) ∈ xall := List.mem_filter.mpr ⟨List.mem_of_getElem? (i := 87) (by decide +kernel), by decide +kernel⟩
theorem wm_88 : (.fieldLink xR_OB 15 "StationRounds$Observations" "y" "[I" : Cond) ∈ xall := List.mem_filter.mpr ⟨List.mem_of_getElem? (i := 88) (by decide +kernel), by decide +kernel⟩
theorem wm_89 : (.fieldLink xR_SM 61 "StationRounds$Observations" "y" "[I" : Cond) ∈ xall := List.mem_filter.mpr ⟨List.mem_of_getElem? (i := 89) (by decide +kernel), by decide +kernel⟩
theorem wm_90 : (.fieldLink xR_SU 106 "StationRounds$Observations" "y" "[I" : Cond) ∈ xall := List.mem_filter.mpr ⟨List.mem_of_getElem? (i := 90) (by decide +kernel), by decide +kernel⟩
theorem wm_91 : (.fieldLink xR_OB 18 "StationRounds$Observations" "z" "[I" : Cond) ∈ xall := List.mem_filter.mpr ⟨List.mem_of_getElem? (i := 91) (by decide +kernel), by decide +kernel⟩
theorem wm_92 : (.fieldLink xR_SM 63 "StationRounds$Observations" "z" "[I" : Cond) ∈ xall := List.mem_filter.mpr ⟨List.mem_of_getElem? (i := 92) (by decide +kernel), by decide +kernel⟩
theorem wm_93 : (.fieldLink xR_SU 108 "StationRounds$Observations" "z" "[I" : Cond) ∈ xall := List.mem_filter.mpr ⟨List.mem_of_getElem? (i := 93) (by decide +kernel), by decide +kernel⟩
theorem wm_94 : (.fieldLink xR_OB 21 "StationRounds$Observations" "u" "[I" : Cond) ∈ xall := List.mem_filter.mpr ⟨List.mem_of_getElem? (i := 94) (by decide +kernel), by decide +kernel⟩
theorem wm_95 : (.fieldLink xR_SM 54 "StationRounds$Observations" "u" "[I" : Cond) ∈ xall := List.mem_filter.mpr ⟨List.mem_of_getElem? (i := 95) (by decide +kernel), by decide +kernel⟩
theorem wm_96 : (.fieldLink xR_SU 98 "StationRounds$Observations" "u" "[I" : Cond) ∈ xall := List.mem_filter.mpr ⟨List.mem_of_getElem? (i := 96) (by decide +kernel), by decide +kernel⟩
theorem wm_97 : (.fieldLink xR_OB 24 "StationRounds$Observations" "v" "[I" : Cond) ∈ xall := List.mem_filter.mpr ⟨List.mem_of_getElem? (i := 97) (by decide +kernel), by decide +kernel⟩
theorem wm_98 : (.fieldLink xR_SM 57 "StationRounds$Observations" "v" "[I" : Cond) ∈ xall := List.mem_filter.mpr ⟨List.mem_of_getElem? (i := 98) (by decide +kernel), by decide +kernel⟩
theorem wm_99 : (.fieldLink xR_SU 100 "StationRounds$Observations" "v" "[I" : Cond) ∈ xall := List.mem_filter.mpr ⟨List.mem_of_getElem? (i := 99) (by decide +kernel), by decide +kernel⟩
theorem wm_100 : (.fieldLink xR_OB 27 "StationRounds$Observations" "w" "[I" : Cond) ∈ xall := List.mem_filter.mpr ⟨List.mem_of_getElem? (i := 100) (by decide +kernel), by decide +kernel⟩
theorem wm_101 : (.fieldLink xR_OB 30 "StationRounds$Observations" "prism" "[I" : Cond) ∈ xall := List.mem_filter.mpr ⟨List.mem_of_getElem? (i := 101) (by decide +kernel), by decide +kernel⟩
theorem wm_102 : (.fieldLink xR_SR 95 "StationRounds$Observations" "prism" "[I" : Cond) ∈ xall := List.mem_filter.mpr ⟨List.mem_of_getElem? (i := 102) (by decide +kernel), by decide +kernel⟩
theorem wm_103 : (.fieldLink xR_OB 33 "StationRounds$Observations" "used" "[Z" : Cond) ∈ xall := List.mem_filter.mpr ⟨List.mem_of_getElem? (i := 103) (by decide +kernel), by decide +kernel⟩
theorem wm_104 : (.fieldLink xR_SM 18 "StationRounds$Observations" "used" "[Z" : Cond) ∈ xall := List.mem_filter.mpr ⟨List.mem_of_getElem? (i := 104) (by decide +kernel), by decide +kernel⟩
theorem wm_105 : (.fieldLink xR_SR 99 "StationRounds$Observations" "used" "[Z" : Cond) ∈ xall := List.mem_filter.mpr ⟨List.mem_of_getElem? (i := 105) (by decide +kernel), by decide +kernel⟩
theorem wm_106 : (.fieldLink xR_SU 111 "StationRounds$Observations" "used" "[Z" : Cond) ∈ xall := List.mem_filter.mpr ⟨List.mem_of_getElem? (i := 106) (by decide +kernel), by decide +kernel⟩
theorem wm_107 : (.fieldLink xR_OB 37 "StationRounds$Observations" "count" "I" : Cond) ∈ xall := List.mem_filter.mpr ⟨List.mem_of_getElem? (i := 107) (by decide +kernel), by decide +kernel⟩
theorem wm_108 : (.fieldLink xR_SM 12 "StationRounds$Observations" "count" "I" : Cond) ∈ xall := List.mem_filter.mpr ⟨List.mem_of_getElem? (i := 108) (by decide +kernel), by decide +kernel⟩
theorem wm_109 : (.fieldLink xR_SU 88 "StationRounds$Observations" "count" "I" : Cond) ∈ xall := List.mem_filter.mpr ⟨List.mem_of_getElem? (i := 109) (by decide +kernel), by decide +kernel⟩
theorem wm_110 : (.fieldLink xR_SR 209 "StationRounds$Observations" "count" "I" : Cond) ∈ xall := List.mem_filter.mpr ⟨List.mem_of_getElem? (i := 110) (by decide +kernel), by decide +kernel⟩
theorem wm_130 : (.arrayClass .boolean : Cond) ∈ xall := List.mem_filter.mpr ⟨List.mem_of_getElem? (i := 130) (by decide +kernel), by decide +kernel⟩
theorem wm_142 : (.methodLink xR_SM 1 objectInit : Cond) ∈ xall := List.mem_filter.mpr ⟨List.mem_of_getElem? (i := 142) (by decide +kernel), by decide +kernel⟩
theorem wm_143 : (.fieldLink xR_SM 26 "StationRounds$Sums" "n" "J" : Cond) ∈ xall := List.mem_filter.mpr ⟨List.mem_of_getElem? (i := 143) (by decide +kernel), by decide +kernel⟩
theorem wm_144 : (.fieldLink xR_SU 59 "StationRounds$Sums" "n" "J" : Cond) ∈ xall := List.mem_filter.mpr ⟨List.mem_of_getElem? (i := 144) (by decide +kernel), by decide +kernel⟩
theorem wm_145 : (.fieldLink xR_SM 30 "StationRounds$Sums" "x" "J" : Cond) ∈ xall := List.mem_filter.mpr ⟨List.mem_of_getElem? (i := 145) (by decide +kernel), by decide +kernel⟩
theorem wm_146 : (.fieldLink xR_SU 66 "StationRounds$Sums" "x" "J" : Cond) ∈ xall := List.mem_filter.mpr ⟨List.mem_of_getElem? (i := 146) (by decide +kernel), by decide +kernel⟩
theorem wm_147 : (.fieldLink xR_SM 33 "StationRounds$Sums" "y" "J" : Cond) ∈ xall := List.mem_filter.mpr ⟨List.mem_of_getElem? (i := 147) (by decide +kernel), by decide +kernel⟩
theorem wm_148 : (.fieldLink xR_SU 75 "StationRounds$Sums" "y" "J" : Cond) ∈ xall := List.mem_filter.mpr ⟨List.mem_of_getElem? (i := 148) (by decide +kernel), by decide +kernel⟩
theorem wm_149 : (.fieldLink xR_SM 36 "StationRounds$Sums" "u" "J" : Cond) ∈ xall := List.mem_filter.mpr ⟨List.mem_of_getElem? (i := 149) (by decide +kernel), by decide +kernel⟩
theorem wm_150 : (.fieldLink xR_SU 69 "StationRounds$Sums" "u" "J" : Cond) ∈ xall := List.mem_filter.mpr ⟨List.mem_of_getElem? (i := 150) (by decide +kernel), by decide +kernel⟩
theorem wm_151 : (.fieldLink xR_SM 39 "StationRounds$Sums" "v" "J" : Cond) ∈ xall := List.mem_filter.mpr ⟨List.mem_of_getElem? (i := 151) (by decide +kernel), by decide +kernel⟩
theorem wm_152 : (.fieldLink xR_SU 72 "StationRounds$Sums" "v" "J" : Cond) ∈ xall := List.mem_filter.mpr ⟨List.mem_of_getElem? (i := 152) (by decide +kernel), by decide +kernel⟩
theorem wm_153 : (.fieldLink xR_SM 42 "StationRounds$Sums" "squares" "J" : Cond) ∈ xall := List.mem_filter.mpr ⟨List.mem_of_getElem? (i := 153) (by decide +kernel), by decide +kernel⟩
theorem wm_154 : (.fieldLink xR_SM 45 "StationRounds$Sums" "dots" "J" : Cond) ∈ xall := List.mem_filter.mpr ⟨List.mem_of_getElem? (i := 154) (by decide +kernel), by decide +kernel⟩
theorem wm_155 : (.fieldLink xR_SM 48 "StationRounds$Sums" "crosses" "J" : Cond) ∈ xall := List.mem_filter.mpr ⟨List.mem_of_getElem? (i := 155) (by decide +kernel), by decide +kernel⟩
theorem wm_156 : (.fieldLink xR_SM 51 "StationRounds$Sums" "rises" "J" : Cond) ∈ xall := List.mem_filter.mpr ⟨List.mem_of_getElem? (i := 156) (by decide +kernel), by decide +kernel⟩
theorem wm_157 : (.fieldLink xR_SU 78 "StationRounds$Sums" "rises" "J" : Cond) ∈ xall := List.mem_filter.mpr ⟨List.mem_of_getElem? (i := 157) (by decide +kernel), by decide +kernel⟩
theorem wm_179 : (.fieldLink xR_SU 12 "StationRounds$SetUp" "sums" "LStationRounds$Sums;" : Cond) ∈ xall := List.mem_filter.mpr ⟨List.mem_of_getElem? (i := 179) (by decide +kernel), by decide +kernel⟩
theorem wm_180 : (.fieldLink xR_SU 18 "StationRounds$SetUp" "part" "[J" : Cond) ∈ xall := List.mem_filter.mpr ⟨List.mem_of_getElem? (i := 180) (by decide +kernel), by decide +kernel⟩
theorem wm_181 : (.fieldLink xR_SU 24 "StationRounds$SetUp" "miss" "[[I" : Cond) ∈ xall := List.mem_filter.mpr ⟨List.mem_of_getElem? (i := 181) (by decide +kernel), by decide +kernel⟩
theorem wm_182 : (.fieldLink xR_SR 136 "StationRounds$SetUp" "miss" "[[I" : Cond) ∈ xall := List.mem_filter.mpr ⟨List.mem_of_getElem? (i := 182) (by decide +kernel), by decide +kernel⟩
theorem wm_183 : (.fieldLink xR_SU 27 "StationRounds$SetUp" "used" "[Z" : Cond) ∈ xall := List.mem_filter.mpr ⟨List.mem_of_getElem? (i := 183) (by decide +kernel), by decide +kernel⟩
theorem wm_184 : (.fieldLink xR_SU 63 "StationRounds$SetUp" "divisor" "J" : Cond) ∈ xall := List.mem_filter.mpr ⟨List.mem_of_getElem? (i := 184) (by decide +kernel), by decide +kernel⟩
theorem wm_185 : (.fieldLink xR_SU 85 "StationRounds$SetUp" "height" "I" : Cond) ∈ xall := List.mem_filter.mpr ⟨List.mem_of_getElem? (i := 185) (by decide +kernel), by decide +kernel⟩
theorem wm_186 : (.fieldLink xR_SU 31 "StationRounds$SetUp" "count" "I" : Cond) ∈ xall := List.mem_filter.mpr ⟨List.mem_of_getElem? (i := 186) (by decide +kernel), by decide +kernel⟩
theorem wm_187 : (.fieldLink xR_SU 49 "StationRounds$SetUp" "made" "Z" : Cond) ∈ xall := List.mem_filter.mpr ⟨List.mem_of_getElem? (i := 187) (by decide +kernel), by decide +kernel⟩
theorem wm_188 : (.fieldLink xR_SR 116 "StationRounds$SetUp" "made" "Z" : Cond) ∈ xall := List.mem_filter.mpr ⟨List.mem_of_getElem? (i := 188) (by decide +kernel), by decide +kernel⟩
theorem wm_212 : (.methodLink xR_LE 3 objectInit : Cond) ∈ xall := List.mem_filter.mpr ⟨List.mem_of_getElem? (i := 212) (by decide +kernel), by decide +kernel⟩
theorem wm_213 : (.fieldLink xR_LE 9 "StationRounds$Levels" "difference" "[I" : Cond) ∈ xall := List.mem_filter.mpr ⟨List.mem_of_getElem? (i := 213) (by decide +kernel), by decide +kernel⟩
theorem wm_214 : (.fieldLink xR_LE 15 "StationRounds$Levels" "length" "[I" : Cond) ∈ xall := List.mem_filter.mpr ⟨List.mem_of_getElem? (i := 214) (by decide +kernel), by decide +kernel⟩
theorem wm_215 : (.fieldLink xR_LE 18 "StationRounds$Levels" "count" "I" : Cond) ∈ xall := List.mem_filter.mpr ⟨List.mem_of_getElem? (i := 215) (by decide +kernel), by decide +kernel⟩
theorem wm_216 : (.fieldLink xR_SR 191 "StationRounds$Levels" "count" "I" : Cond) ∈ xall := List.mem_filter.mpr ⟨List.mem_of_getElem? (i := 216) (by decide +kernel), by decide +kernel⟩
theorem wm_229 : (.methodLink xR_PA 3 objectInit : Cond) ∈ xall := List.mem_filter.mpr ⟨List.mem_of_getElem? (i := 229) (by decide +kernel), by decide +kernel⟩
theorem wm_230 : (.fieldLink xR_PA 9 "StationRounds$Pad" "sign" "[C" : Cond) ∈ xall := List.mem_filter.mpr ⟨List.mem_of_getElem? (i := 230) (by decide +kernel), by decide +kernel⟩
theorem wm_231 : (.fieldLink xR_PA 15 "StationRounds$Pad" "numbers" "[I" : Cond) ∈ xall := List.mem_filter.mpr ⟨List.mem_of_getElem? (i := 231) (by decide +kernel), by decide +kernel⟩
theorem wm_232 : (.fieldLink xR_SR 229 "StationRounds$Pad" "numbers" "[I" : Cond) ∈ xall := List.mem_filter.mpr ⟨List.mem_of_getElem? (i := 232) (by decide +kernel), by decide +kernel⟩
theorem wm_233 : (.fieldLink xR_PA 27 "StationRounds$Pad" "count" "I" : Cond) ∈ xall := List.mem_filter.mpr ⟨List.mem_of_getElem? (i := 233) (by decide +kernel), by decide +kernel⟩
theorem wm_234 : (.fieldLink xR_SR 195 "StationRounds$Pad" "count" "I" : Cond) ∈ xall := List.mem_filter.mpr ⟨List.mem_of_getElem? (i := 234) (by decide +kernel), by decide +kernel⟩
theorem wm_235 : (.fieldLink xR_PA 31 "StationRounds$Pad" "at" "I" : Cond) ∈ xall := List.mem_filter.mpr ⟨List.mem_of_getElem? (i := 235) (by decide +kernel), by decide +kernel⟩
theorem wm_245 : (.arrayClass .char : Cond) ∈ xall := List.mem_filter.mpr ⟨List.mem_of_getElem? (i := 245) (by decide +kernel), by decide +kernel⟩
theorem wm_246 : (.fieldLink xR_SR 14 "StationRounds" "marks" "LStationRounds$Spots;" : Cond) ∈ xall := List.mem_filter.mpr ⟨List.mem_of_getElem? (i := 246) (by decide +kernel), by decide +kernel⟩
theorem wm_247 : (.fieldLink xR_SR 18 "StationRounds" "points" "LStationRounds$Spots;" : Cond) ∈ xall := List.mem_filter.mpr ⟨List.mem_of_getElem? (i := 247) (by decide +kernel), by decide +kernel⟩
theorem wm_248 : (.fieldLink xR_SR 24 "StationRounds" "observations" "LStationRounds$Observations;" : Cond) ∈ xall := List.mem_filter.mpr ⟨List.mem_of_getElem? (i := 248) (by decide +kernel), by decide +kernel⟩
theorem wm_249 : (.fieldLink xR_SR 31 "StationRounds" "station" "LStationRounds$SetUp;" : Cond) ∈ xall := List.mem_filter.mpr ⟨List.mem_of_getElem? (i := 249) (by decide +kernel), by decide +kernel⟩
theorem wm_250 : (.fieldLink xR_SR 38 "StationRounds" "levels" "LStationRounds$Levels;" : Cond) ∈ xall := List.mem_filter.mpr ⟨List.mem_of_getElem? (i := 250) (by decide +kernel), by decide +kernel⟩
theorem wm_251 : (.fieldLink xR_SR 45 "StationRounds" "pad" "LStationRounds$Pad;" : Cond) ∈ xall := List.mem_filter.mpr ⟨List.mem_of_getElem? (i := 251) (by decide +kernel), by decide +kernel⟩
theorem wm_269 : (.methodLink xR_SR 103 xy_SU_makeBy : Cond) ∈ xall := List.mem_filter.mpr ⟨List.mem_of_getElem? (i := 269) (by decide +kernel), by decide +kernel⟩
theorem wm_270 : (.instanceMethod xy_SU_makeBy : Cond) ∈ xall := List.mem_filter.mpr ⟨List.mem_of_getElem? (i := 270) (by decide +kernel), by decide +kernel⟩
theorem wm_271 : (.selects xR_SU xy_SU_makeBy xy_SU_makeBy : Cond) ∈ xall := List.mem_filter.mpr ⟨List.mem_of_getElem? (i := 271) (by decide +kernel), by decide +kernel⟩
theorem wm_272 : (.code xy_SU_makeBy prog_5_method_4_code 2 (some .boolean) : Cond) ∈ xall := List.mem_filter.mpr ⟨List.mem_of_getElem? (i := 272) (by decide +kernel), by decide +kernel⟩
theorem wm_273 : (.methodLink xR_SU 35 xy_SM_addUp : Cond) ∈ xall := List.mem_filter.mpr ⟨List.mem_of_getElem? (i := 273) (by decide +kernel), by decide +kernel⟩
theorem wm_274 : (.instanceMethod xy_SM_addUp : Cond) ∈ xall := List.mem_filter.mpr ⟨List.mem_of_getElem? (i := 274) (by decide +kernel), by decide +kernel⟩
theorem wm_275 : (.selects xR_SM xy_SM_addUp xy_SM_addUp : Cond) ∈ xall := List.mem_filter.mpr ⟨List.mem_of_getElem? (i := 275) (by decide +kernel), by decide +kernel⟩
theorem wm_276 : (.code xy_SM_addUp prog_7_method_2_code 3 none : Cond) ∈ xall := List.mem_filter.mpr ⟨List.mem_of_getElem? (i := 276) (by decide +kernel), by decide +kernel⟩
theorem wm_277 : (.methodLink xR_SM 7 xy_SM_clear : Cond) ∈ xall := List.mem_filter.mpr ⟨List.mem_of_getElem? (i := 277) (by decide +kernel), by decide +kernel⟩
theorem wm_279 : (.instanceMethod xy_SM_clear : Cond) ∈ xall := List.mem_filter.mpr ⟨List.mem_of_getElem? (i := 279) (by decide +kernel), by decide +kernel⟩
theorem wm_280 : (.code xy_SM_clear prog_7_method_3_code 1 none : Cond) ∈ xall := List.mem_filter.mpr ⟨List.mem_of_getElem? (i := 280) (by decide +kernel), by decide +kernel⟩
theorem wm_281 : (.methodLink xR_SM 22 xy_SM_add : Cond) ∈ xall := List.mem_filter.mpr ⟨List.mem_of_getElem? (i := 281) (by decide +kernel), by decide +kernel⟩
theorem wm_283 : (.instanceMethod xy_SM_add : Cond) ∈ xall := List.mem_filter.mpr ⟨List.mem_of_getElem? (i := 283) (by decide +kernel), by decide +kernel⟩
theorem wm_284 : (.code xy_SM_add prog_7_method_4_code 7 none : Cond) ∈ xall := List.mem_filter.mpr ⟨List.mem_of_getElem? (i := 284) (by decide +kernel), by decide +kernel⟩
theorem wm_285 : (.methodLink xR_SM 66 xy_OB_upLessPrism : Cond) ∈ xall := List.mem_filter.mpr ⟨List.mem_of_getElem? (i := 285) (by decide +kernel), by decide +kernel⟩
theorem wm_286 : (.instanceMethod xy_OB_upLessPrism : Cond) ∈ xall := List.mem_filter.mpr ⟨List.mem_of_getElem? (i := 286) (by decide +kernel), by decide +kernel⟩
theorem wm_287 : (.selects xR_OB xy_OB_upLessPrism xy_OB_upLessPrism : Cond) ∈ xall := List.mem_filter.mpr ⟨List.mem_of_getElem? (i := 287) (by decide +kernel), by decide +kernel⟩
theorem wm_288 : (.code xy_OB_upLessPrism prog_3_method_6_code 2 (some .int) : Cond) ∈ xall := List.mem_filter.mpr ⟨List.mem_of_getElem? (i := 288) (by decide +kernel), by decide +kernel⟩
theorem wm_289 : (.methodLink xR_SU 39 xy_SM_spread : Cond) ∈ xall := List.mem_filter.mpr ⟨List.mem_of_getElem? (i := 289) (by decide +kernel), by decide +kernel⟩
theorem wm_290 : (.instanceMethod xy_SM_spread : Cond) ∈ xall := List.mem_filter.mpr ⟨List.mem_of_getElem? (i := 290) (by decide +kernel), by decide +kernel⟩
theorem wm_291 : (.selects xR_SM xy_SM_spread xy_SM_spread : Cond) ∈ xall := List.mem_filter.mpr ⟨List.mem_of_getElem? (i := 291) (by decide +kernel), by decide +kernel⟩
theorem wm_292 : (.code xy_SM_spread prog_7_method_5_code 1 (some .long) : Cond) ∈ xall := List.mem_filter.mpr ⟨List.mem_of_getElem? (i := 292) (by decide +kernel), by decide +kernel⟩
theorem wm_293 : (.methodLink xR_SU 43 xy_SU_takeParts : Cond) ∈ xall := List.mem_filter.mpr ⟨List.mem_of_getElem? (i := 293) (by decide +kernel), by decide +kernel⟩
theorem wm_295 : (.instanceMethod xy_SU_takeParts : Cond) ∈ xall := List.mem_filter.mpr ⟨List.mem_of_getElem? (i := 295) (by decide +kernel), by decide +kernel⟩
theorem wm_296 : (.code xy_SU_takeParts prog_5_method_5_code 7 none : Cond) ∈ xall := List.mem_filter.mpr ⟨List.mem_of_getElem? (i := 296) (by decide +kernel), by decide +kernel⟩
theorem wm_297 : (.methodLink xR_SU 53 xy_SM_cosine : Cond) ∈ xall := List.mem_filter.mpr ⟨List.mem_of_getElem? (i := 297) (by decide +kernel), by decide +kernel⟩
theorem wm_298 : (.instanceMethod xy_SM_cosine : Cond) ∈ xall := List.mem_filter.mpr ⟨List.mem_of_getElem? (i := 298) (by decide +kernel), by decide +kernel⟩
theorem wm_299 : (.selects xR_SM xy_SM_cosine xy_SM_cosine : Cond) ∈ xall := List.mem_filter.mpr ⟨List.mem_of_getElem? (i := 299) (by decide +kernel), by decide +kernel⟩
theorem wm_300 : (.code xy_SM_cosine prog_7_method_6_code 1 (some .long) : Cond) ∈ xall := List.mem_filter.mpr ⟨List.mem_of_getElem? (i := 300) (by decide +kernel), by decide +kernel⟩
theorem wm_301 : (.methodLink xR_SU 56 xy_SM_sine : Cond) ∈ xall := List.mem_filter.mpr ⟨List.mem_of_getElem? (i := 301) (by decide +kernel), by decide +kernel⟩
theorem wm_302 : (.instanceMethod xy_SM_sine : Cond) ∈ xall := List.mem_filter.mpr ⟨List.mem_of_getElem? (i := 302) (by decide +kernel), by decide +kernel⟩
theorem wm_303 : (.selects xR_SM xy_SM_sine xy_SM_sine : Cond) ∈ xall := List.mem_filter.mpr ⟨List.mem_of_getElem? (i := 303) (by decide +kernel), by decide +kernel⟩
theorem wm_304 : (.code xy_SM_sine prog_7_method_7_code 1 (some .long) : Cond) ∈ xall := List.mem_filter.mpr ⟨List.mem_of_getElem? (i := 304) (by decide +kernel), by decide +kernel⟩
theorem wm_306 : (.static xy_SR_dividedDown : Cond) ∈ xall := List.mem_filter.mpr ⟨List.mem_of_getElem? (i := 306) (by decide +kernel), by decide +kernel⟩
theorem wm_307 : (.code xy_SR_dividedDown prog_1_method_25_code 4 (some .long) : Cond) ∈ xall := List.mem_filter.mpr ⟨List.mem_of_getElem? (i := 307) (by decide +kernel), by decide +kernel⟩
theorem wm_308 : (.methodLink xR_SR 239 xy_JM_floorDiv : Cond) ∈ xall := List.mem_filter.mpr ⟨List.mem_of_getElem? (i := 308) (by decide +kernel), by decide +kernel⟩
theorem wm_309 : (.static xy_JM_floorDiv : Cond) ∈ xall := List.mem_filter.mpr ⟨List.mem_of_getElem? (i := 309) (by decide +kernel), by decide +kernel⟩
theorem wm_310 : (.code xy_JM_floorDiv prog_14_method_49_code 6 (some .long) : Cond) ∈ xall := List.mem_filter.mpr ⟨List.mem_of_getElem? (i := 310) (by decide +kernel), by decide +kernel⟩
theorem wm_311 : (.methodLink xR_SU 46 xy_SU_takeMisses : Cond) ∈ xall := List.mem_filter.mpr ⟨List.mem_of_getElem? (i := 311) (by decide +kernel), by decide +kernel⟩
theorem wm_313 : (.instanceMethod xy_SU_takeMisses : Cond) ∈ xall := List.mem_filter.mpr ⟨List.mem_of_getElem? (i := 313) (by decide +kernel), by decide +kernel⟩
theorem wm_314 : (.code xy_SU_takeMisses prog_5_method_6_code 4 none : Cond) ∈ xall := List.mem_filter.mpr ⟨List.mem_of_getElem? (i := 314) (by decide +kernel), by decide +kernel⟩
theorem wm_315 : (.methodLink xR_SU 91 xy_OB_upLessPrism : Cond) ∈ xall := List.mem_filter.mpr ⟨List.mem_of_getElem? (i := 315) (by decide +kernel), by decide +kernel⟩
theorem wm_316 : (.methodLink xR_SU 102 xy_SU_placeAlong : Cond) ∈ xall := List.mem_filter.mpr ⟨List.mem_of_getElem? (i := 316) (by decide +kernel), by decide +kernel⟩
theorem wm_317 : (.instanceMethod xy_SU_placeAlong : Cond) ∈ xall := List.mem_filter.mpr ⟨List.mem_of_getElem? (i := 317) (by decide +kernel), by decide +kernel⟩
theorem wm_318 : (.selects xR_SU xy_SU_placeAlong xy_SU_placeAlong : Cond) ∈ xall := List.mem_filter.mpr ⟨List.mem_of_getElem? (i := 318) (by decide +kernel), by decide +kernel⟩
theorem wm_319 : (.code xy_SU_placeAlong prog_5_method_7_code 5 (some .int) : Cond) ∈ xall := List.mem_filter.mpr ⟨List.mem_of_getElem? (i := 319) (by decide +kernel), by decide +kernel⟩
theorem wm_320 : (.methodLink xR_SR 107 xy_OB_countUsed : Cond) ∈ xall := List.mem_filter.mpr ⟨List.mem_of_getElem? (i := 320) (by decide +kernel), by decide +kernel⟩
theorem wm_321 : (.instanceMethod xy_OB_countUsed : Cond) ∈ xall := List.mem_filter.mpr ⟨List.mem_of_getElem? (i := 321) (by decide +kernel), by decide +kernel⟩
theorem wm_322 : (.selects xR_OB xy_OB_countUsed xy_OB_countUsed : Cond) ∈ xall := List.mem_filter.mpr ⟨List.mem_of_getElem? (i := 322) (by decide +kernel), by decide +kernel⟩
theorem wm_323 : (.code xy_OB_countUsed prog_3_method_5_code 3 (some .int) : Cond) ∈ xall := List.mem_filter.mpr ⟨List.mem_of_getElem? (i := 323) (by decide +kernel), by decide +kernel⟩
theorem wm_332 : (.methodLink xR_SR 210 xy_SR_observeRows : Cond) ∈ xall := List.mem_filter.mpr ⟨List.mem_of_getElem? (i := 332) (by decide +kernel), by decide +kernel⟩
theorem wm_334 : (.instanceMethod xy_SR_observeRows : Cond) ∈ xall := List.mem_filter.mpr ⟨List.mem_of_getElem? (i := 334) (by decide +kernel), by decide +kernel⟩
theorem wm_335 : (.code xy_SR_observeRows prog_1_method_20_code 2 (some .int) : Cond) ∈ xall := List.mem_filter.mpr ⟨List.mem_of_getElem? (i := 335) (by decide +kernel), by decide +kernel⟩
theorem wm_336 : (.methodLink xR_SR 220 xy_PA_rewind : Cond) ∈ xall := List.mem_filter.mpr ⟨List.mem_of_getElem? (i := 336) (by decide +kernel), by decide +kernel⟩
theorem wm_337 : (.instanceMethod xy_PA_rewind : Cond) ∈ xall := List.mem_filter.mpr ⟨List.mem_of_getElem? (i := 337) (by decide +kernel), by decide +kernel⟩
theorem wm_338 : (.selects xR_PA xy_PA_rewind xy_PA_rewind : Cond) ∈ xall := List.mem_filter.mpr ⟨List.mem_of_getElem? (i := 338) (by decide +kernel), by decide +kernel⟩
theorem wm_339 : (.code xy_PA_rewind prog_4_method_7_code 1 none : Cond) ∈ xall := List.mem_filter.mpr ⟨List.mem_of_getElem? (i := 339) (by decide +kernel), by decide +kernel⟩
theorem wm_340 : (.methodLink xR_SR 223 xy_PA_isAtEnd : Cond) ∈ xall := List.mem_filter.mpr ⟨List.mem_of_getElem? (i := 340) (by decide +kernel), by decide +kernel⟩
theorem wm_341 : (.instanceMethod xy_PA_isAtEnd : Cond) ∈ xall := List.mem_filter.mpr ⟨List.mem_of_getElem? (i := 341) (by decide +kernel), by decide +kernel⟩
theorem wm_342 : (.selects xR_PA xy_PA_isAtEnd xy_PA_isAtEnd : Cond) ∈ xall := List.mem_filter.mpr ⟨List.mem_of_getElem? (i := 342) (by decide +kernel), by decide +kernel⟩
theorem wm_343 : (.code xy_PA_isAtEnd prog_4_method_8_code 1 (some .boolean) : Cond) ∈ xall := List.mem_filter.mpr ⟨List.mem_of_getElem? (i := 343) (by decide +kernel), by decide +kernel⟩
theorem wm_344 : (.methodLink xR_SR 226 xy_PA_nextRow : Cond) ∈ xall := List.mem_filter.mpr ⟨List.mem_of_getElem? (i := 344) (by decide +kernel), by decide +kernel⟩
theorem wm_345 : (.instanceMethod xy_PA_nextRow : Cond) ∈ xall := List.mem_filter.mpr ⟨List.mem_of_getElem? (i := 345) (by decide +kernel), by decide +kernel⟩
theorem wm_346 : (.selects xR_PA xy_PA_nextRow xy_PA_nextRow : Cond) ∈ xall := List.mem_filter.mpr ⟨List.mem_of_getElem? (i := 346) (by decide +kernel), by decide +kernel⟩
theorem wm_347 : (.code xy_PA_nextRow prog_4_method_9_code 3 (some .boolean) : Cond) ∈ xall := List.mem_filter.mpr ⟨List.mem_of_getElem? (i := 347) (by decide +kernel), by decide +kernel⟩
theorem wm_348 : (.methodLink xR_PA 34 xy_PA_nextNumber : Cond) ∈ xall := List.mem_filter.mpr ⟨List.mem_of_getElem? (i := 348) (by decide +kernel), by decide +kernel⟩
theorem wm_350 : (.instanceMethod xy_PA_nextNumber : Cond) ∈ xall := List.mem_filter.mpr ⟨List.mem_of_getElem? (i := 350) (by decide +kernel), by decide +kernel⟩
theorem wm_351 : (.code xy_PA_nextNumber prog_4_method_10_code 5 (some .boolean) : Cond) ∈ xall := List.mem_filter.mpr ⟨List.mem_of_getElem? (i := 351) (by decide +kernel), by decide +kernel⟩
theorem wm_352 : (.methodLink xR_PA 38 xy_PA_skips : Cond) ∈ xall := List.mem_filter.mpr ⟨List.mem_of_getElem? (i := 352) (by decide +kernel), by decide +kernel⟩
theorem wm_354 : (.instanceMethod xy_PA_skips : Cond) ∈ xall := List.mem_filter.mpr ⟨List.mem_of_getElem? (i := 354) (by decide +kernel), by decide +kernel⟩
theorem wm_355 : (.code xy_PA_skips prog_4_method_11_code 2 (some .boolean) : Cond) ∈ xall := List.mem_filter.mpr ⟨List.mem_of_getElem? (i := 355) (by decide +kernel), by decide +kernel⟩
theorem wm_356 : (.methodLink xR_PA 23 xy_PA_isDigit : Cond) ∈ xall := List.mem_filter.mpr ⟨List.mem_of_getElem? (i := 356) (by decide +kernel), by decide +kernel⟩
theorem wm_357 : (.static xy_PA_isDigit : Cond) ∈ xall := List.mem_filter.mpr ⟨List.mem_of_getElem? (i := 357) (by decide +kernel), by decide +kernel⟩
theorem wm_358 : (.code xy_PA_isDigit prog_4_method_5_code 1 (some .boolean) : Cond) ∈ xall := List.mem_filter.mpr ⟨List.mem_of_getElem? (i := 358) (by decide +kernel), by decide +kernel⟩
theorem wm_359 : (.methodLink xR_SR 232 xy_SR_observeNumbers : Cond) ∈ xall := List.mem_filter.mpr ⟨List.mem_of_getElem? (i := 359) (by decide +kernel), by decide +kernel⟩
theorem wm_361 : (.instanceMethod xy_SR_observeNumbers : Cond) ∈ xall := List.mem_filter.mpr ⟨List.mem_of_getElem? (i := 361) (by decide +kernel), by decide +kernel⟩
theorem wm_362 : (.code xy_SR_observeNumbers prog_1_method_21_code 6 (some .boolean) : Cond) ∈ xall := List.mem_filter.mpr ⟨List.mem_of_getElem? (i := 362) (by decide +kernel), by decide +kernel⟩
theorem wm_363 : (.methodLink xR_SR 73 xy_SP_has : Cond) ∈ xall := List.mem_filter.mpr ⟨List.mem_of_getElem? (i := 363) (by decide +kernel), by decide +kernel⟩
theorem wm_364 : (.instanceMethod xy_SP_has : Cond) ∈ xall := List.mem_filter.mpr ⟨List.mem_of_getElem? (i := 364) (by decide +kernel), by decide +kernel⟩
theorem wm_365 : (.selects xR_SP xy_SP_has xy_SP_has : Cond) ∈ xall := List.mem_filter.mpr ⟨List.mem_of_getElem? (i := 365) (by decide +kernel), by decide +kernel⟩
theorem wm_366 : (.code xy_SP_has prog_6_method_2_code 2 (some .boolean) : Cond) ∈ xall := List.mem_filter.mpr ⟨List.mem_of_getElem? (i := 366) (by decide +kernel), by decide +kernel⟩
theorem wm_367 : (.methodLink xR_SR 82 xy_OB_isFull : Cond) ∈ xall := List.mem_filter.mpr ⟨List.mem_of_getElem? (i := 367) (by decide +kernel), by decide +kernel⟩
theorem wm_368 : (.instanceMethod xy_OB_isFull : Cond) ∈ xall := List.mem_filter.mpr ⟨List.mem_of_getElem? (i := 368) (by decide +kernel), by decide +kernel⟩
theorem wm_369 : (.selects xR_OB xy_OB_isFull xy_OB_isFull : Cond) ∈ xall := List.mem_filter.mpr ⟨List.mem_of_getElem? (i := 369) (by decide +kernel), by decide +kernel⟩
theorem wm_370 : (.code xy_OB_isFull prog_3_method_3_code 1 (some .boolean) : Cond) ∈ xall := List.mem_filter.mpr ⟨List.mem_of_getElem? (i := 370) (by decide +kernel), by decide +kernel⟩
theorem wm_371 : (.methodLink xR_SR 60 xy_SR_areNear : Cond) ∈ xall := List.mem_filter.mpr ⟨List.mem_of_getElem? (i := 371) (by decide +kernel), by decide +kernel⟩
theorem wm_372 : (.static xy_SR_areNear : Cond) ∈ xall := List.mem_filter.mpr ⟨List.mem_of_getElem? (i := 372) (by decide +kernel), by decide +kernel⟩
theorem wm_373 : (.code xy_SR_areNear prog_1_method_23_code 3 (some .boolean) : Cond) ∈ xall := List.mem_filter.mpr ⟨List.mem_of_getElem? (i := 373) (by decide +kernel), by decide +kernel⟩
theorem wm_374 : (.methodLink xR_SR 236 xy_SR_isNear : Cond) ∈ xall := List.mem_filter.mpr ⟨List.mem_of_getElem? (i := 374) (by decide +kernel), by decide +kernel⟩
theorem wm_375 : (.static xy_SR_isNear : Cond) ∈ xall := List.mem_filter.mpr ⟨List.mem_of_getElem? (i := 375) (by decide +kernel), by decide +kernel⟩
theorem wm_376 : (.code xy_SR_isNear prog_1_method_24_code 1 (some .boolean) : Cond) ∈ xall := List.mem_filter.mpr ⟨List.mem_of_getElem? (i := 376) (by decide +kernel), by decide +kernel⟩
theorem wm_377 : (.methodLink xR_SR 87 xy_OB_add : Cond) ∈ xall := List.mem_filter.mpr ⟨List.mem_of_getElem? (i := 377) (by decide +kernel), by decide +kernel⟩
theorem wm_378 : (.instanceMethod xy_OB_add : Cond) ∈ xall := List.mem_filter.mpr ⟨List.mem_of_getElem? (i := 378) (by decide +kernel), by decide +kernel⟩
theorem wm_379 : (.selects xR_OB xy_OB_add xy_OB_add : Cond) ∈ xall := List.mem_filter.mpr ⟨List.mem_of_getElem? (i := 379) (by decide +kernel), by decide +kernel⟩
theorem wm_380 : (.code xy_OB_add prog_3_method_4_code 6 (some .int) : Cond) ∈ xall := List.mem_filter.mpr ⟨List.mem_of_getElem? (i := 380) (by decide +kernel), by decide +kernel⟩
theorem wm_390 : (.methodLink xR_SR 49 xy_SP_isFull : Cond) ∈ xall := List.mem_filter.mpr ⟨List.mem_of_getElem? (i := 390) (by decide +kernel), by decide +kernel⟩
theorem wm_391 : (.instanceMethod xy_SP_isFull : Cond) ∈ xall := List.mem_filter.mpr ⟨List.mem_of_getElem? (i := 391) (by decide +kernel), by decide +kernel⟩
theorem wm_392 : (.selects xR_SP xy_SP_isFull xy_SP_isFull : Cond) ∈ xall := List.mem_filter.mpr ⟨List.mem_of_getElem? (i := 392) (by decide +kernel), by decide +kernel⟩
theorem wm_393 : (.code xy_SP_isFull prog_6_method_3_code 1 (some .boolean) : Cond) ∈ xall := List.mem_filter.mpr ⟨List.mem_of_getElem? (i := 393) (by decide +kernel), by decide +kernel⟩
theorem wm_478 : (.methodLink xR_SR 69 xy_SP_add : Cond) ∈ xall := List.mem_filter.mpr ⟨List.mem_of_getElem? (i := 478) (by decide +kernel), by decide +kernel⟩
theorem wm_479 : (.instanceMethod xy_SP_add : Cond) ∈ xall := List.mem_filter.mpr ⟨List.mem_of_getElem? (i := 479) (by decide +kernel), by decide +kernel⟩
theorem wm_480 : (.selects xR_SP xy_SP_add xy_SP_add : Cond) ∈ xall := List.mem_filter.mpr ⟨List.mem_of_getElem? (i := 480) (by decide +kernel), by decide +kernel⟩
theorem wm_481 : (.code xy_SP_add prog_6_method_4_code 4 (some .int) : Cond) ∈ xall := List.mem_filter.mpr ⟨List.mem_of_getElem? (i := 481) (by decide +kernel), by decide +kernel⟩
theorem wm_515 : (.methodLink xR_SR 90 xy_OB_has : Cond) ∈ xall := List.mem_filter.mpr ⟨List.mem_of_getElem? (i := 515) (by decide +kernel), by decide +kernel⟩
theorem wm_516 : (.instanceMethod xy_OB_has : Cond) ∈ xall := List.mem_filter.mpr ⟨List.mem_of_getElem? (i := 516) (by decide +kernel), by decide +kernel⟩
theorem wm_517 : (.selects xR_OB xy_OB_has xy_OB_has : Cond) ∈ xall := List.mem_filter.mpr ⟨List.mem_of_getElem? (i := 517) (by decide +kernel), by decide +kernel⟩
theorem wm_518 : (.code xy_OB_has prog_3_method_2_code 2 (some .boolean) : Cond) ∈ xall := List.mem_filter.mpr ⟨List.mem_of_getElem? (i := 518) (by decide +kernel), by decide +kernel⟩
theorem wm_535 : (.methodLink xR_SR 111 xy_SU_hasPart : Cond) ∈ xall := List.mem_filter.mpr ⟨List.mem_of_getElem? (i := 535) (by decide +kernel), by decide +kernel⟩
theorem wm_536 : (.instanceMethod xy_SU_hasPart : Cond) ∈ xall := List.mem_filter.mpr ⟨List.mem_of_getElem? (i := 536) (by decide +kernel), by decide +kernel⟩
theorem wm_537 : (.selects xR_SU xy_SU_hasPart xy_SU_hasPart : Cond) ∈ xall := List.mem_filter.mpr ⟨List.mem_of_getElem? (i := 537) (by decide +kernel), by decide +kernel⟩
theorem wm_538 : (.code xy_SU_hasPart prog_5_method_2_code 2 (some .boolean) : Cond) ∈ xall := List.mem_filter.mpr ⟨List.mem_of_getElem? (i := 538) (by decide +kernel), by decide +kernel⟩
theorem wm_541 : (.methodLink xR_SR 122 xy_SU_millionthsOf : Cond) ∈ xall := List.mem_filter.mpr ⟨List.mem_of_getElem? (i := 541) (by decide +kernel), by decide +kernel⟩
theorem wm_542 : (.instanceMethod xy_SU_millionthsOf : Cond) ∈ xall := List.mem_filter.mpr ⟨List.mem_of_getElem? (i := 542) (by decide +kernel), by decide +kernel⟩
theorem wm_543 : (.selects xR_SU xy_SU_millionthsOf xy_SU_millionthsOf : Cond) ∈ xall := List.mem_filter.mpr ⟨List.mem_of_getElem? (i := 543) (by decide +kernel), by decide +kernel⟩
theorem wm_544 : (.code xy_SU_millionthsOf prog_5_method_8_code 6 (some .long) : Cond) ∈ xall := List.mem_filter.mpr ⟨List.mem_of_getElem? (i := 544) (by decide +kernel), by decide +kernel⟩
theorem wm_545 : (.constantLong xR_SU 112 1000000 : Cond) ∈ xall := List.mem_filter.mpr ⟨List.mem_of_getElem? (i := 545) (by decide +kernel), by decide +kernel⟩
theorem wm_553 : (.methodLink xR_SR 126 xy_SR_isAxis : Cond) ∈ xall := List.mem_filter.mpr ⟨List.mem_of_getElem? (i := 553) (by decide +kernel), by decide +kernel⟩
theorem wm_554 : (.static xy_SR_isAxis : Cond) ∈ xall := List.mem_filter.mpr ⟨List.mem_of_getElem? (i := 554) (by decide +kernel), by decide +kernel⟩
theorem wm_555 : (.code xy_SR_isAxis prog_1_method_22_code 1 (some .boolean) : Cond) ∈ xall := List.mem_filter.mpr ⟨List.mem_of_getElem? (i := 555) (by decide +kernel), by decide +kernel⟩
theorem wm_557 : (.methodLink xR_SR 131 xy_SU_knows : Cond) ∈ xall := List.mem_filter.mpr ⟨List.mem_of_getElem? (i := 557) (by decide +kernel), by decide +kernel⟩
theorem wm_558 : (.instanceMethod xy_SU_knows : Cond) ∈ xall := List.mem_filter.mpr ⟨List.mem_of_getElem? (i := 558) (by decide +kernel), by decide +kernel⟩
theorem wm_559 : (.selects xR_SU xy_SU_knows xy_SU_knows : Cond) ∈ xall := List.mem_filter.mpr ⟨List.mem_of_getElem? (i := 559) (by decide +kernel), by decide +kernel⟩
theorem wm_560 : (.code xy_SU_knows prog_5_method_3_code 2 (some .boolean) : Cond) ∈ xall := List.mem_filter.mpr ⟨List.mem_of_getElem? (i := 560) (by decide +kernel), by decide +kernel⟩
theorem wm_569 : (.constant xR_SR 140 100000 : Cond) ∈ xall := List.mem_filter.mpr ⟨List.mem_of_getElem? (i := 569) (by decide +kernel), by decide +kernel⟩
theorem wm_571 : (.methodLink xR_SR 143 xy_SR_leaveOutWorst : Cond) ∈ xall := List.mem_filter.mpr ⟨List.mem_of_getElem? (i := 571) (by decide +kernel), by decide +kernel⟩
theorem wm_573 : (.instanceMethod xy_SR_leaveOutWorst : Cond) ∈ xall := List.mem_filter.mpr ⟨List.mem_of_getElem? (i := 573) (by decide +kernel), by decide +kernel⟩
theorem wm_574 : (.code xy_SR_leaveOutWorst prog_1_method_19_code 4 (some .boolean) : Cond) ∈ xall := List.mem_filter.mpr ⟨List.mem_of_getElem? (i := 574) (by decide +kernel), by decide +kernel⟩
theorem wm_575 : (.methodLink xR_SR 216 xy_SU_worstAbove : Cond) ∈ xall := List.mem_filter.mpr ⟨List.mem_of_getElem? (i := 575) (by decide +kernel), by decide +kernel⟩
theorem wm_576 : (.instanceMethod xy_SU_worstAbove : Cond) ∈ xall := List.mem_filter.mpr ⟨List.mem_of_getElem? (i := 576) (by decide +kernel), by decide +kernel⟩
theorem wm_577 : (.selects xR_SU xy_SU_worstAbove xy_SU_worstAbove : Cond) ∈ xall := List.mem_filter.mpr ⟨List.mem_of_getElem? (i := 577) (by decide +kernel), by decide +kernel⟩
theorem wm_578 : (.code xy_SU_worstAbove prog_5_method_9_code 9 (some .int) : Cond) ∈ xall := List.mem_filter.mpr ⟨List.mem_of_getElem? (i := 578) (by decide +kernel), by decide +kernel⟩
theorem wm_579 : (.methodLink xR_SU 114 xy_SU_squareOf : Cond) ∈ xall := List.mem_filter.mpr ⟨List.mem_of_getElem? (i := 579) (by decide +kernel), by decide +kernel⟩
theorem wm_581 : (.instanceMethod xy_SU_squareOf : Cond) ∈ xall := List.mem_filter.mpr ⟨List.mem_of_getElem? (i := 581) (by decide +kernel), by decide +kernel⟩
theorem wm_582 : (.code xy_SU_squareOf prog_5_method_11_code 5 (some .long) : Cond) ∈ xall := List.mem_filter.mpr ⟨List.mem_of_getElem? (i := 582) (by decide +kernel), by decide +kernel⟩
theorem wm_590 : (.methodLink xR_SR 147 xy_SU_sumOfSquares : Cond) ∈ xall := List.mem_filter.mpr ⟨List.mem_of_getElem? (i := 590) (by decide +kernel), by decide +kernel⟩
theorem wm_591 : (.instanceMethod xy_SU_sumOfSquares : Cond) ∈ xall := List.mem_filter.mpr ⟨List.mem_of_getElem? (i := 591) (by decide +kernel), by decide +kernel⟩
theorem wm_592 : (.selects xR_SU xy_SU_sumOfSquares xy_SU_sumOfSquares : Cond) ∈ xall := List.mem_filter.mpr ⟨List.mem_of_getElem? (i := 592) (by decide +kernel), by decide +kernel⟩
theorem wm_593 : (.code xy_SU_sumOfSquares prog_5_method_10_code 4 (some .long) : Cond) ∈ xall := List.mem_filter.mpr ⟨List.mem_of_getElem? (i := 593) (by decide +kernel), by decide +kernel⟩
theorem wm_611 : (.methodLink xR_SR 166 xy_SU_placeAlong : Cond) ∈ xall := List.mem_filter.mpr ⟨List.mem_of_getElem? (i := 611) (by decide +kernel), by decide +kernel⟩
theorem wm_619 : (.methodLink xR_SR 170 xy_LE_isFull : Cond) ∈ xall := List.mem_filter.mpr ⟨List.mem_of_getElem? (i := 619) (by decide +kernel), by decide +kernel⟩
theorem wm_620 : (.instanceMethod xy_LE_isFull : Cond) ∈ xall := List.mem_filter.mpr ⟨List.mem_of_getElem? (i := 620) (by decide +kernel), by decide +kernel⟩
theorem wm_621 : (.selects xR_LE xy_LE_isFull xy_LE_isFull : Cond) ∈ xall := List.mem_filter.mpr ⟨List.mem_of_getElem? (i := 621) (by decide +kernel), by decide +kernel⟩
theorem wm_622 : (.code xy_LE_isFull prog_2_method_3_code 1 (some .boolean) : Cond) ∈ xall := List.mem_filter.mpr ⟨List.mem_of_getElem? (i := 622) (by decide +kernel), by decide +kernel⟩
theorem wm_624 : (.constant xR_SR 173 (-100000) : Cond) ∈ xall := List.mem_filter.mpr ⟨List.mem_of_getElem? (i := 624) (by decide +kernel), by decide +kernel⟩
theorem wm_627 : (.methodLink xR_SR 178 xy_LE_add : Cond) ∈ xall := List.mem_filter.mpr ⟨List.mem_of_getElem? (i := 627) (by decide +kernel), by decide +kernel⟩
theorem wm_628 : (.instanceMethod xy_LE_add : Cond) ∈ xall := List.mem_filter.mpr ⟨List.mem_of_getElem? (i := 628) (by decide +kernel), by decide +kernel⟩
theorem wm_629 : (.selects xR_LE xy_LE_add xy_LE_add : Cond) ∈ xall := List.mem_filter.mpr ⟨List.mem_of_getElem? (i := 629) (by decide +kernel), by decide +kernel⟩
theorem wm_630 : (.code xy_LE_add prog_2_method_4_code 3 (some .int) : Cond) ∈ xall := List.mem_filter.mpr ⟨List.mem_of_getElem? (i := 630) (by decide +kernel), by decide +kernel⟩
theorem wm_638 : (.methodLink xR_SR 181 xy_LE_sumOfDifferences : Cond) ∈ xall := List.mem_filter.mpr ⟨List.mem_of_getElem? (i := 638) (by decide +kernel), by decide +kernel⟩
theorem wm_639 : (.instanceMethod xy_LE_sumOfDifferences : Cond) ∈ xall := List.mem_filter.mpr ⟨List.mem_of_getElem? (i := 639) (by decide +kernel), by decide +kernel⟩
theorem wm_640 : (.selects xR_LE xy_LE_sumOfDifferences xy_LE_sumOfDifferences : Cond) ∈ xall := List.mem_filter.mpr ⟨List.mem_of_getElem? (i := 640) (by decide +kernel), by decide +kernel⟩
theorem wm_641 : (.code xy_LE_sumOfDifferences prog_2_method_5_code 3 (some .int) : Cond) ∈ xall := List.mem_filter.mpr ⟨List.mem_of_getElem? (i := 641) (by decide +kernel), by decide +kernel⟩
theorem wm_642 : (.methodLink xR_SR 184 xy_LE_has : Cond) ∈ xall := List.mem_filter.mpr ⟨List.mem_of_getElem? (i := 642) (by decide +kernel), by decide +kernel⟩
theorem wm_643 : (.instanceMethod xy_LE_has : Cond) ∈ xall := List.mem_filter.mpr ⟨List.mem_of_getElem? (i := 643) (by decide +kernel), by decide +kernel⟩
theorem wm_644 : (.selects xR_LE xy_LE_has xy_LE_has : Cond) ∈ xall := List.mem_filter.mpr ⟨List.mem_of_getElem? (i := 644) (by decide +kernel), by decide +kernel⟩
theorem wm_645 : (.code xy_LE_has prog_2_method_2_code 2 (some .boolean) : Cond) ∈ xall := List.mem_filter.mpr ⟨List.mem_of_getElem? (i := 645) (by decide +kernel), by decide +kernel⟩
theorem wm_647 : (.methodLink xR_SR 187 xy_LE_closedDifference : Cond) ∈ xall := List.mem_filter.mpr ⟨List.mem_of_getElem? (i := 647) (by decide +kernel), by decide +kernel⟩
theorem wm_648 : (.instanceMethod xy_LE_closedDifference : Cond) ∈ xall := List.mem_filter.mpr ⟨List.mem_of_getElem? (i := 648) (by decide +kernel), by decide +kernel⟩
theorem wm_649 : (.selects xR_LE xy_LE_closedDifference xy_LE_closedDifference : Cond) ∈ xall := List.mem_filter.mpr ⟨List.mem_of_getElem? (i := 649) (by decide +kernel), by decide +kernel⟩
theorem wm_650 : (.code xy_LE_closedDifference prog_2_method_6_code 4 (some .int) : Cond) ∈ xall := List.mem_filter.mpr ⟨List.mem_of_getElem? (i := 650) (by decide +kernel), by decide +kernel⟩
theorem wm_651 : (.methodLink xR_LE 22 xy_LE_sharedOver : Cond) ∈ xall := List.mem_filter.mpr ⟨List.mem_of_getElem? (i := 651) (by decide +kernel), by decide +kernel⟩
theorem wm_653 : (.instanceMethod xy_LE_sharedOver : Cond) ∈ xall := List.mem_filter.mpr ⟨List.mem_of_getElem? (i := 653) (by decide +kernel), by decide +kernel⟩
theorem wm_654 : (.code xy_LE_sharedOver prog_2_method_7_code 2 (some .long) : Cond) ∈ xall := List.mem_filter.mpr ⟨List.mem_of_getElem? (i := 654) (by decide +kernel), by decide +kernel⟩
theorem wm_655 : (.methodLink xR_LE 26 xy_LE_sumOfDifferences : Cond) ∈ xall := List.mem_filter.mpr ⟨List.mem_of_getElem? (i := 655) (by decide +kernel), by decide +kernel⟩
theorem wm_656 : (.methodLink xR_LE 30 xy_LE_lengthOf : Cond) ∈ xall := List.mem_filter.mpr ⟨List.mem_of_getElem? (i := 656) (by decide +kernel), by decide +kernel⟩
theorem wm_658 : (.instanceMethod xy_LE_lengthOf : Cond) ∈ xall := List.mem_filter.mpr ⟨List.mem_of_getElem? (i := 658) (by decide +kernel), by decide +kernel⟩
theorem wm_659 : (.code xy_LE_lengthOf prog_2_method_8_code 5 (some .long) : Cond) ∈ xall := List.mem_filter.mpr ⟨List.mem_of_getElem? (i := 659) (by decide +kernel), by decide +kernel⟩
theorem wm_668 : (.methodLink xR_SR 196 xy_PA_signsIn : Cond) ∈ xall := List.mem_filter.mpr ⟨List.mem_of_getElem? (i := 668) (by decide +kernel), by decide +kernel⟩
theorem wm_669 : (.static xy_PA_signsIn : Cond) ∈ xall := List.mem_filter.mpr ⟨List.mem_of_getElem? (i := 669) (by decide +kernel), by decide +kernel⟩
theorem wm_670 : (.code xy_PA_signsIn prog_4_method_3_code 3 (some .int) : Cond) ∈ xall := List.mem_filter.mpr ⟨List.mem_of_getElem? (i := 670) (by decide +kernel), by decide +kernel⟩
theorem wm_671 : (.methodLink xR_PA 19 xy_PA_signOf : Cond) ∈ xall := List.mem_filter.mpr ⟨List.mem_of_getElem? (i := 671) (by decide +kernel), by decide +kernel⟩
theorem wm_672 : (.static xy_PA_signOf : Cond) ∈ xall := List.mem_filter.mpr ⟨List.mem_of_getElem? (i := 672) (by decide +kernel), by decide +kernel⟩
theorem wm_673 : (.code xy_PA_signOf prog_4_method_2_code 2 (some .char) : Cond) ∈ xall := List.mem_filter.mpr ⟨List.mem_of_getElem? (i := 673) (by decide +kernel), by decide +kernel⟩
theorem wm_675 : (.methodLink xR_SR 201 xy_PA_isGood : Cond) ∈ xall := List.mem_filter.mpr ⟨List.mem_of_getElem? (i := 675) (by decide +kernel), by decide +kernel⟩
theorem wm_676 : (.static xy_PA_isGood : Cond) ∈ xall := List.mem_filter.mpr ⟨List.mem_of_getElem? (i := 676) (by decide +kernel), by decide +kernel⟩
theorem wm_677 : (.code xy_PA_isGood prog_4_method_4_code 3 (some .boolean) : Cond) ∈ xall := List.mem_filter.mpr ⟨List.mem_of_getElem? (i := 677) (by decide +kernel), by decide +kernel⟩
theorem wm_679 : (.methodLink xR_SR 206 xy_PA_addSignsOf : Cond) ∈ xall := List.mem_filter.mpr ⟨List.mem_of_getElem? (i := 679) (by decide +kernel), by decide +kernel⟩
theorem wm_680 : (.instanceMethod xy_PA_addSignsOf : Cond) ∈ xall := List.mem_filter.mpr ⟨List.mem_of_getElem? (i := 680) (by decide +kernel), by decide +kernel⟩
theorem wm_681 : (.selects xR_PA xy_PA_addSignsOf xy_PA_addSignsOf : Cond) ∈ xall := List.mem_filter.mpr ⟨List.mem_of_getElem? (i := 681) (by decide +kernel), by decide +kernel⟩
theorem wm_682 : (.code xy_PA_addSignsOf prog_4_method_6_code 4 none : Cond) ∈ xall := List.mem_filter.mpr ⟨List.mem_of_getElem? (i := 682) (by decide +kernel), by decide +kernel⟩
