theorem d_LA_law_0 : decode code 0 = .ok (.new 8, 3) := by decide +kernel
theorem d_LA_law_3 : decode code 3 = .ok (.dup, 1) := by decide +kernel
theorem d_LA_law_4 : decode code 4 = .ok (.invokespecial 64, 3) := by decide +kernel
theorem d_LA_law_7 : decode code 7 = .ok (.astore_n 1, 1) := by decide +kernel
theorem d_LA_law_8 : decode code 8 = .ok (.new 65, 3) := by decide +kernel
theorem d_LA_law_11 : decode code 11 = .ok (.dup, 1) := by decide +kernel
theorem d_LA_law_12 : decode code 12 = .ok (.invokespecial 67, 3) := by decide +kernel
theorem d_LA_law_15 : decode code 15 = .ok (.astore_n 2, 1) := by decide +kernel
theorem d_LA_law_16 : decode code 16 = .ok (.iconst 1, 1) := by decide +kernel
theorem d_LA_law_17 : decode code 17 = .ok (.newarray .long, 2) := by decide +kernel
theorem d_LA_law_19 : decode code 19 = .ok (.astore_n 3, 1) := by decide +kernel
theorem d_LA_law_20 : decode code 20 = .ok (.iconst 0, 1) := by decide +kernel
theorem d_LA_law_21 : decode code 21 = .ok (.istore 4, 2) := by decide +kernel
theorem d_LA_law_23 : decode code 23 = .ok (.iload 4, 2) := by decide +kernel
theorem d_LA_law_25 : decode code 25 = .ok (.aload_n 0, 1) := by decide +kernel
theorem d_LA_law_26 : decode code 26 = .ok (.arraylength, 1) := by decide +kernel
theorem d_LA_law_27 : decode code 27 = .ok (.iconst 5, 1) := by decide +kernel
theorem d_LA_law_28 : decode code 28 = .ok (.isub, 1) := by decide +kernel
theorem d_LA_law_29 : decode code 29 = .ok (.if_icmp .gt 1085, 3) := by decide +kernel
theorem d_LA_law_32 : decode code 32 = .ok (.aload_n 0, 1) := by decide +kernel
theorem d_LA_law_33 : decode code 33 = .ok (.iload 4, 2) := by decide +kernel
theorem d_LA_law_35 : decode code 35 = .ok (.iaload, 1) := by decide +kernel
theorem d_LA_law_36 : decode code 36 = .ok (.bipush 31, 2) := by decide +kernel
theorem d_LA_law_38 : decode code 38 = .ok (.iand, 1) := by decide +kernel
theorem d_LA_law_39 : decode code 39 = .ok (.tableswitch 1069 0 16 #[81, 161, 253, 321, 412, 425, 480, 548, 604, 647, 727, 795, 863, 919, 932, 1000, 1013], 81) := by decide +kernel
theorem d_LA_law_120 : decode code 120 = .ok (.aload_n 1, 1) := by decide +kernel
theorem d_LA_law_121 : decode code 121 = .ok (.aload_n 0, 1) := by decide +kernel
theorem d_LA_law_122 : decode code 122 = .ok (.iload 4, 2) := by decide +kernel
theorem d_LA_law_124 : decode code 124 = .ok (.iconst 1, 1) := by decide +kernel
theorem d_LA_law_125 : decode code 125 = .ok (.iadd, 1) := by decide +kernel
theorem d_LA_law_126 : decode code 126 = .ok (.iaload, 1) := by decide +kernel
theorem d_LA_law_127 : decode code 127 = .ok (.aload_n 0, 1) := by decide +kernel
theorem d_LA_law_128 : decode code 128 = .ok (.iload 4, 2) := by decide +kernel
theorem d_LA_law_130 : decode code 130 = .ok (.iconst 2, 1) := by decide +kernel
theorem d_LA_law_131 : decode code 131 = .ok (.iadd, 1) := by decide +kernel
theorem d_LA_law_132 : decode code 132 = .ok (.iaload, 1) := by decide +kernel
theorem d_LA_law_133 : decode code 133 = .ok (.aload_n 0, 1) := by decide +kernel
theorem d_LA_law_134 : decode code 134 = .ok (.iload 4, 2) := by decide +kernel
theorem d_LA_law_136 : decode code 136 = .ok (.iconst 3, 1) := by decide +kernel
theorem d_LA_law_137 : decode code 137 = .ok (.iadd, 1) := by decide +kernel
theorem d_LA_law_138 : decode code 138 = .ok (.iaload, 1) := by decide +kernel
theorem d_LA_law_139 : decode code 139 = .ok (.aload_n 3, 1) := by decide +kernel
theorem d_LA_law_140 : decode code 140 = .ok (.invokestatic 68, 3) := by decide +kernel
theorem d_LA_law_143 : decode code 143 = .ok (.istore 5, 2) := by decide +kernel
theorem d_LA_law_145 : decode code 145 = .ok (.aload_n 2, 1) := by decide +kernel
theorem d_LA_law_146 : decode code 146 = .ok (.aload_n 0, 1) := by decide +kernel
theorem d_LA_law_147 : decode code 147 = .ok (.iload 4, 2) := by decide +kernel
theorem d_LA_law_149 : decode code 149 = .ok (.iconst 1, 1) := by decide +kernel
theorem d_LA_law_150 : decode code 150 = .ok (.iadd, 1) := by decide +kernel
theorem d_LA_law_151 : decode code 151 = .ok (.iaload, 1) := by decide +kernel
theorem d_LA_law_152 : decode code 152 = .ok (.aload_n 0, 1) := by decide +kernel
theorem d_LA_law_153 : decode code 153 = .ok (.iload 4, 2) := by decide +kernel
theorem d_LA_law_155 : decode code 155 = .ok (.iconst 2, 1) := by decide +kernel
theorem d_LA_law_156 : decode code 156 = .ok (.iadd, 1) := by decide +kernel
theorem d_LA_law_157 : decode code 157 = .ok (.iaload, 1) := by decide +kernel
theorem d_LA_law_158 : decode code 158 = .ok (.aload_n 0, 1) := by decide +kernel
theorem d_LA_law_159 : decode code 159 = .ok (.iload 4, 2) := by decide +kernel
theorem d_LA_law_161 : decode code 161 = .ok (.iconst 3, 1) := by decide +kernel
theorem d_LA_law_162 : decode code 162 = .ok (.iadd, 1) := by decide +kernel
theorem d_LA_law_163 : decode code 163 = .ok (.iaload, 1) := by decide +kernel
