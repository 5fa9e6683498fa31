theorem d_SM_init_0 : decode prog_7_method_1_code 0 = .ok (.aload_n 0, 1) := by decide +kernel
theorem d_SM_init_1 : decode prog_7_method_1_code 1 = .ok (.invokespecial 1, 3) := by decide +kernel
theorem d_SM_init_4 : decode prog_7_method_1_code 4 = .ok (.return_, 1) := by decide +kernel
theorem d_SM_clear_0 : decode prog_7_method_3_code 0 = .ok (.aload_n 0, 1) := by decide +kernel
theorem d_SM_clear_1 : decode prog_7_method_3_code 1 = .ok (.lconst 0, 1) := by decide +kernel
theorem d_SM_clear_2 : decode prog_7_method_3_code 2 = .ok (.putfield 26, 3) := by decide +kernel
theorem d_SM_clear_5 : decode prog_7_method_3_code 5 = .ok (.aload_n 0, 1) := by decide +kernel
theorem d_SM_clear_6 : decode prog_7_method_3_code 6 = .ok (.lconst 0, 1) := by decide +kernel
theorem d_SM_clear_7 : decode prog_7_method_3_code 7 = .ok (.putfield 30, 3) := by decide +kernel
theorem d_SM_clear_10 : decode prog_7_method_3_code 10 = .ok (.aload_n 0, 1) := by decide +kernel
theorem d_SM_clear_11 : decode prog_7_method_3_code 11 = .ok (.lconst 0, 1) := by decide +kernel
theorem d_SM_clear_12 : decode prog_7_method_3_code 12 = .ok (.putfield 33, 3) := by decide +kernel
theorem d_SM_clear_15 : decode prog_7_method_3_code 15 = .ok (.aload_n 0, 1) := by decide +kernel
theorem d_SM_clear_16 : decode prog_7_method_3_code 16 = .ok (.lconst 0, 1) := by decide +kernel
theorem d_SM_clear_17 : decode prog_7_method_3_code 17 = .ok (.putfield 36, 3) := by decide +kernel
theorem d_SM_clear_20 : decode prog_7_method_3_code 20 = .ok (.aload_n 0, 1) := by decide +kernel
theorem d_SM_clear_21 : decode prog_7_method_3_code 21 = .ok (.lconst 0, 1) := by decide +kernel
theorem d_SM_clear_22 : decode prog_7_method_3_code 22 = .ok (.putfield 39, 3) := by decide +kernel
theorem d_SM_clear_25 : decode prog_7_method_3_code 25 = .ok (.aload_n 0, 1) := by decide +kernel
theorem d_SM_clear_26 : decode prog_7_method_3_code 26 = .ok (.lconst 0, 1) := by decide +kernel
theorem d_SM_clear_27 : decode prog_7_method_3_code 27 = .ok (.putfield 42, 3) := by decide +kernel
theorem d_SM_clear_30 : decode prog_7_method_3_code 30 = .ok (.aload_n 0, 1) := by decide +kernel
theorem d_SM_clear_31 : decode prog_7_method_3_code 31 = .ok (.lconst 0, 1) := by decide +kernel
theorem d_SM_clear_32 : decode prog_7_method_3_code 32 = .ok (.putfield 45, 3) := by decide +kernel
theorem d_SM_clear_35 : decode prog_7_method_3_code 35 = .ok (.aload_n 0, 1) := by decide +kernel
theorem d_SM_clear_36 : decode prog_7_method_3_code 36 = .ok (.lconst 0, 1) := by decide +kernel
theorem d_SM_clear_37 : decode prog_7_method_3_code 37 = .ok (.putfield 48, 3) := by decide +kernel
theorem d_SM_clear_40 : decode prog_7_method_3_code 40 = .ok (.aload_n 0, 1) := by decide +kernel
theorem d_SM_clear_41 : decode prog_7_method_3_code 41 = .ok (.lconst 0, 1) := by decide +kernel
theorem d_SM_clear_42 : decode prog_7_method_3_code 42 = .ok (.putfield 51, 3) := by decide +kernel
theorem d_SM_clear_45 : decode prog_7_method_3_code 45 = .ok (.return_, 1) := by decide +kernel
theorem d_SM_add_0 : decode prog_7_method_4_code 0 = .ok (.aload_n 1, 1) := by decide +kernel
theorem d_SM_add_1 : decode prog_7_method_4_code 1 = .ok (.getfield 54, 3) := by decide +kernel
theorem d_SM_add_4 : decode prog_7_method_4_code 4 = .ok (.iload_n 2, 1) := by decide +kernel
theorem d_SM_add_5 : decode prog_7_method_4_code 5 = .ok (.iaload, 1) := by decide +kernel
theorem d_SM_add_6 : decode prog_7_method_4_code 6 = .ok (.i2l, 1) := by decide +kernel
theorem d_SM_add_7 : decode prog_7_method_4_code 7 = .ok (.lstore_n 3, 1) := by decide +kernel
theorem d_SM_add_8 : decode prog_7_method_4_code 8 = .ok (.aload_n 1, 1) := by decide +kernel
theorem d_SM_add_9 : decode prog_7_method_4_code 9 = .ok (.getfield 57, 3) := by decide +kernel
theorem d_SM_add_12 : decode prog_7_method_4_code 12 = .ok (.iload_n 2, 1) := by decide +kernel
theorem d_SM_add_13 : decode prog_7_method_4_code 13 = .ok (.iaload, 1) := by decide +kernel
theorem d_SM_add_14 : decode prog_7_method_4_code 14 = .ok (.i2l, 1) := by decide +kernel
theorem d_SM_add_15 : decode prog_7_method_4_code 15 = .ok (.lstore 5, 2) := by decide +kernel
theorem d_SM_add_17 : decode prog_7_method_4_code 17 = .ok (.aload_n 0, 1) := by decide +kernel
theorem d_SM_add_18 : decode prog_7_method_4_code 18 = .ok (.dup, 1) := by decide +kernel
theorem d_SM_add_19 : decode prog_7_method_4_code 19 = .ok (.getfield 26, 3) := by decide +kernel
theorem d_SM_add_22 : decode prog_7_method_4_code 22 = .ok (.lconst 1, 1) := by decide +kernel
theorem d_SM_add_23 : decode prog_7_method_4_code 23 = .ok (.ladd, 1) := by decide +kernel
theorem d_SM_add_24 : decode prog_7_method_4_code 24 = .ok (.putfield 26, 3) := by decide +kernel
theorem d_SM_add_27 : decode prog_7_method_4_code 27 = .ok (.aload_n 0, 1) := by decide +kernel
theorem d_SM_add_28 : decode prog_7_method_4_code 28 = .ok (.dup, 1) := by decide +kernel
theorem d_SM_add_29 : decode prog_7_method_4_code 29 = .ok (.getfield 30, 3) := by decide +kernel
theorem d_SM_add_32 : decode prog_7_method_4_code 32 = .ok (.aload_n 1, 1) := by decide +kernel
theorem d_SM_add_33 : decode prog_7_method_4_code 33 = .ok (.getfield 59, 3) := by decide +kernel
theorem d_SM_add_36 : decode prog_7_method_4_code 36 = .ok (.iload_n 2, 1) := by decide +kernel
theorem d_SM_add_37 : decode prog_7_method_4_code 37 = .ok (.iaload, 1) := by decide +kernel
theorem d_SM_add_38 : decode prog_7_method_4_code 38 = .ok (.i2l, 1) := by decide +kernel
theorem d_SM_add_39 : decode prog_7_method_4_code 39 = .ok (.ladd, 1) := by decide +kernel
theorem d_SM_add_40 : decode prog_7_method_4_code 40 = .ok (.putfield 30, 3) := by decide +kernel
theorem d_SM_add_43 : decode prog_7_method_4_code 43 = .ok (.aload_n 0, 1) := by decide +kernel
theorem d_SM_add_44 : decode prog_7_method_4_code 44 = .ok (.dup, 1) := by decide +kernel
theorem d_SM_add_45 : decode prog_7_method_4_code 45 = .ok (.getfield 33, 3) := by decide +kernel
theorem d_SM_add_48 : decode prog_7_method_4_code 48 = .ok (.aload_n 1, 1) := by decide +kernel
theorem d_SM_add_49 : decode prog_7_method_4_code 49 = .ok (.getfield 61, 3) := by decide +kernel
theorem d_SM_add_52 : decode prog_7_method_4_code 52 = .ok (.iload_n 2, 1) := by decide +kernel
theorem d_SM_add_53 : decode prog_7_method_4_code 53 = .ok (.iaload, 1) := by decide +kernel
theorem d_SM_add_54 : decode prog_7_method_4_code 54 = .ok (.i2l, 1) := by decide +kernel
theorem d_SM_add_55 : decode prog_7_method_4_code 55 = .ok (.ladd, 1) := by decide +kernel
theorem d_SM_add_56 : decode prog_7_method_4_code 56 = .ok (.putfield 33, 3) := by decide +kernel
theorem d_SM_add_59 : decode prog_7_method_4_code 59 = .ok (.aload_n 0, 1) := by decide +kernel
theorem d_SM_add_60 : decode prog_7_method_4_code 60 = .ok (.dup, 1) := by decide +kernel
theorem d_SM_add_61 : decode prog_7_method_4_code 61 = .ok (.getfield 36, 3) := by decide +kernel
theorem d_SM_add_64 : decode prog_7_method_4_code 64 = .ok (.lload_n 3, 1) := by decide +kernel
theorem d_SM_add_65 : decode prog_7_method_4_code 65 = .ok (.ladd, 1) := by decide +kernel
theorem d_SM_add_66 : decode prog_7_method_4_code 66 = .ok (.putfield 36, 3) := by decide +kernel
theorem d_SM_add_69 : decode prog_7_method_4_code 69 = .ok (.aload_n 0, 1) := by decide +kernel
theorem d_SM_add_70 : decode prog_7_method_4_code 70 = .ok (.dup, 1) := by decide +kernel
theorem d_SM_add_71 : decode prog_7_method_4_code 71 = .ok (.getfield 39, 3) := by decide +kernel
theorem d_SM_add_74 : decode prog_7_method_4_code 74 = .ok (.lload 5, 2) := by decide +kernel
theorem d_SM_add_76 : decode prog_7_method_4_code 76 = .ok (.ladd, 1) := by decide +kernel
theorem d_SM_add_77 : decode prog_7_method_4_code 77 = .ok (.putfield 39, 3) := by decide +kernel
theorem d_SM_add_80 : decode prog_7_method_4_code 80 = .ok (.aload_n 0, 1) := by decide +kernel
theorem d_SM_add_81 : decode prog_7_method_4_code 81 = .ok (.dup, 1) := by decide +kernel
theorem d_SM_add_82 : decode prog_7_method_4_code 82 = .ok (.getfield 42, 3) := by decide +kernel
theorem d_SM_add_85 : decode prog_7_method_4_code 85 = .ok (.lload_n 3, 1) := by decide +kernel
theorem d_SM_add_86 : decode prog_7_method_4_code 86 = .ok (.lload_n 3, 1) := by decide +kernel
theorem d_SM_add_87 : decode prog_7_method_4_code 87 = .ok (.lmul, 1) := by decide +kernel
theorem d_SM_add_88 : decode prog_7_method_4_code 88 = .ok (.lload 5, 2) := by decide +kernel
theorem d_SM_add_90 : decode prog_7_method_4_code 90 = .ok (.lload 5, 2) := by decide +kernel
theorem d_SM_add_92 : decode prog_7_method_4_code 92 = .ok (.lmul, 1) := by decide +kernel
theorem d_SM_add_93 : decode prog_7_method_4_code 93 = .ok (.ladd, 1) := by decide +kernel
theorem d_SM_add_94 : decode prog_7_method_4_code 94 = .ok (.ladd, 1) := by decide +kernel
theorem d_SM_add_95 : decode prog_7_method_4_code 95 = .ok (.putfield 42, 3) := by decide +kernel
theorem d_SM_add_98 : decode prog_7_method_4_code 98 = .ok (.aload_n 0, 1) := by decide +kernel
theorem d_SM_add_99 : decode prog_7_method_4_code 99 = .ok (.dup, 1) := by decide +kernel
theorem d_SM_add_100 : decode prog_7_method_4_code 100 = .ok (.getfield 45, 3) := by decide +kernel
theorem d_SM_add_103 : decode prog_7_method_4_code 103 = .ok (.lload_n 3, 1) := by decide +kernel
theorem d_SM_add_104 : decode prog_7_method_4_code 104 = .ok (.aload_n 1, 1) := by decide +kernel
theorem d_SM_add_105 : decode prog_7_method_4_code 105 = .ok (.getfield 59, 3) := by decide +kernel
theorem d_SM_add_108 : decode prog_7_method_4_code 108 = .ok (.iload_n 2, 1) := by decide +kernel
theorem d_SM_add_109 : decode prog_7_method_4_code 109 = .ok (.iaload, 1) := by decide +kernel
theorem d_SM_add_110 : decode prog_7_method_4_code 110 = .ok (.i2l, 1) := by decide +kernel
theorem d_SM_add_111 : decode prog_7_method_4_code 111 = .ok (.lmul, 1) := by decide +kernel
theorem d_SM_add_112 : decode prog_7_method_4_code 112 = .ok (.lload 5, 2) := by decide +kernel
theorem d_SM_add_114 : decode prog_7_method_4_code 114 = .ok (.aload_n 1, 1) := by decide +kernel
theorem d_SM_add_115 : decode prog_7_method_4_code 115 = .ok (.getfield 61, 3) := by decide +kernel
theorem d_SM_add_118 : decode prog_7_method_4_code 118 = .ok (.iload_n 2, 1) := by decide +kernel
theorem d_SM_add_119 : decode prog_7_method_4_code 119 = .ok (.iaload, 1) := by decide +kernel
theorem d_SM_add_120 : decode prog_7_method_4_code 120 = .ok (.i2l, 1) := by decide +kernel
theorem d_SM_add_121 : decode prog_7_method_4_code 121 = .ok (.lmul, 1) := by decide +kernel
theorem d_SM_add_122 : decode prog_7_method_4_code 122 = .ok (.ladd, 1) := by decide +kernel
theorem d_SM_add_123 : decode prog_7_method_4_code 123 = .ok (.ladd, 1) := by decide +kernel
theorem d_SM_add_124 : decode prog_7_method_4_code 124 = .ok (.putfield 45, 3) := by decide +kernel
theorem d_SM_add_127 : decode prog_7_method_4_code 127 = .ok (.aload_n 0, 1) := by decide +kernel
theorem d_SM_add_128 : decode prog_7_method_4_code 128 = .ok (.dup, 1) := by decide +kernel
theorem d_SM_add_129 : decode prog_7_method_4_code 129 = .ok (.getfield 48, 3) := by decide +kernel
theorem d_SM_add_132 : decode prog_7_method_4_code 132 = .ok (.lload_n 3, 1) := by decide +kernel
theorem d_SM_add_133 : decode prog_7_method_4_code 133 = .ok (.aload_n 1, 1) := by decide +kernel
theorem d_SM_add_134 : decode prog_7_method_4_code 134 = .ok (.getfield 61, 3) := by decide +kernel
theorem d_SM_add_137 : decode prog_7_method_4_code 137 = .ok (.iload_n 2, 1) := by decide +kernel
theorem d_SM_add_138 : decode prog_7_method_4_code 138 = .ok (.iaload, 1) := by decide +kernel
theorem d_SM_add_139 : decode prog_7_method_4_code 139 = .ok (.i2l, 1) := by decide +kernel
theorem d_SM_add_140 : decode prog_7_method_4_code 140 = .ok (.lmul, 1) := by decide +kernel
theorem d_SM_add_141 : decode prog_7_method_4_code 141 = .ok (.lload 5, 2) := by decide +kernel
theorem d_SM_add_143 : decode prog_7_method_4_code 143 = .ok (.aload_n 1, 1) := by decide +kernel
theorem d_SM_add_144 : decode prog_7_method_4_code 144 = .ok (.getfield 59, 3) := by decide +kernel
theorem d_SM_add_147 : decode prog_7_method_4_code 147 = .ok (.iload_n 2, 1) := by decide +kernel
theorem d_SM_add_148 : decode prog_7_method_4_code 148 = .ok (.iaload, 1) := by decide +kernel
theorem d_SM_add_149 : decode prog_7_method_4_code 149 = .ok (.i2l, 1) := by decide +kernel
theorem d_SM_add_150 : decode prog_7_method_4_code 150 = .ok (.lmul, 1) := by decide +kernel
theorem d_SM_add_151 : decode prog_7_method_4_code 151 = .ok (.lsub, 1) := by decide +kernel
theorem d_SM_add_152 : decode prog_7_method_4_code 152 = .ok (.ladd, 1) := by decide +kernel
theorem d_SM_add_153 : decode prog_7_method_4_code 153 = .ok (.putfield 48, 3) := by decide +kernel
theorem d_SM_add_156 : decode prog_7_method_4_code 156 = .ok (.aload_n 0, 1) := by decide +kernel
theorem d_SM_add_157 : decode prog_7_method_4_code 157 = .ok (.dup, 1) := by decide +kernel
theorem d_SM_add_158 : decode prog_7_method_4_code 158 = .ok (.getfield 51, 3) := by decide +kernel
theorem d_SM_add_161 : decode prog_7_method_4_code 161 = .ok (.aload_n 1, 1) := by decide +kernel
theorem d_SM_add_162 : decode prog_7_method_4_code 162 = .ok (.getfield 63, 3) := by decide +kernel
theorem d_SM_add_165 : decode prog_7_method_4_code 165 = .ok (.iload_n 2, 1) := by decide +kernel
theorem d_SM_add_166 : decode prog_7_method_4_code 166 = .ok (.iaload, 1) := by decide +kernel
theorem d_SM_add_167 : decode prog_7_method_4_code 167 = .ok (.aload_n 1, 1) := by decide +kernel
theorem d_SM_add_168 : decode prog_7_method_4_code 168 = .ok (.iload_n 2, 1) := by decide +kernel
theorem d_SM_add_169 : decode prog_7_method_4_code 169 = .ok (.invokevirtual 66, 3) := by decide +kernel
theorem d_SM_add_172 : decode prog_7_method_4_code 172 = .ok (.isub, 1) := by decide +kernel
theorem d_SM_add_173 : decode prog_7_method_4_code 173 = .ok (.i2l, 1) := by decide +kernel
theorem d_SM_add_174 : decode prog_7_method_4_code 174 = .ok (.ladd, 1) := by decide +kernel
theorem d_SM_add_175 : decode prog_7_method_4_code 175 = .ok (.putfield 51, 3) := by decide +kernel
theorem d_SM_add_178 : decode prog_7_method_4_code 178 = .ok (.return_, 1) := by decide +kernel
theorem d_SM_addUp_0 : decode prog_7_method_2_code 0 = .ok (.aload_n 0, 1) := by decide +kernel
theorem d_SM_addUp_1 : decode prog_7_method_2_code 1 = .ok (.invokevirtual 7, 3) := by decide +kernel
theorem d_SM_addUp_4 : decode prog_7_method_2_code 4 = .ok (.iconst 0, 1) := by decide +kernel
theorem d_SM_addUp_5 : decode prog_7_method_2_code 5 = .ok (.istore_n 2, 1) := by decide +kernel
theorem d_SM_addUp_6 : decode prog_7_method_2_code 6 = .ok (.iload_n 2, 1) := by decide +kernel
theorem d_SM_addUp_7 : decode prog_7_method_2_code 7 = .ok (.aload_n 1, 1) := by decide +kernel
theorem d_SM_addUp_8 : decode prog_7_method_2_code 8 = .ok (.getfield 12, 3) := by decide +kernel
theorem d_SM_addUp_11 : decode prog_7_method_2_code 11 = .ok (.if_icmp .ge 24, 3) := by decide +kernel
theorem d_SM_addUp_14 : decode prog_7_method_2_code 14 = .ok (.aload_n 1, 1) := by decide +kernel
theorem d_SM_addUp_15 : decode prog_7_method_2_code 15 = .ok (.getfield 18, 3) := by decide +kernel
theorem d_SM_addUp_18 : decode prog_7_method_2_code 18 = .ok (.iload_n 2, 1) := by decide +kernel
theorem d_SM_addUp_19 : decode prog_7_method_2_code 19 = .ok (.baload, 1) := by decide +kernel
theorem d_SM_addUp_20 : decode prog_7_method_2_code 20 = .ok (.ifCond .eq 9, 3) := by decide +kernel
theorem d_SM_addUp_23 : decode prog_7_method_2_code 23 = .ok (.aload_n 0, 1) := by decide +kernel
theorem d_SM_addUp_24 : decode prog_7_method_2_code 24 = .ok (.aload_n 1, 1) := by decide +kernel
theorem d_SM_addUp_25 : decode prog_7_method_2_code 25 = .ok (.iload_n 2, 1) := by decide +kernel
theorem d_SM_addUp_26 : decode prog_7_method_2_code 26 = .ok (.invokevirtual 22, 3) := by decide +kernel
theorem d_SM_addUp_29 : decode prog_7_method_2_code 29 = .ok (.iinc 2 1, 3) := by decide +kernel
theorem d_SM_addUp_32 : decode prog_7_method_2_code 32 = .ok (.goto (-26), 3) := by decide +kernel
theorem d_SM_addUp_35 : decode prog_7_method_2_code 35 = .ok (.return_, 1) := by decide +kernel
theorem d_SM_spread_0 : decode prog_7_method_5_code 0 = .ok (.aload_n 0, 1) := by decide +kernel
theorem d_SM_spread_1 : decode prog_7_method_5_code 1 = .ok (.getfield 26, 3) := by decide +kernel
theorem d_SM_spread_4 : decode prog_7_method_5_code 4 = .ok (.aload_n 0, 1) := by decide +kernel
theorem d_SM_spread_5 : decode prog_7_method_5_code 5 = .ok (.getfield 42, 3) := by decide +kernel
theorem d_SM_spread_8 : decode prog_7_method_5_code 8 = .ok (.lmul, 1) := by decide +kernel
theorem d_SM_spread_9 : decode prog_7_method_5_code 9 = .ok (.aload_n 0, 1) := by decide +kernel
theorem d_SM_spread_10 : decode prog_7_method_5_code 10 = .ok (.getfield 36, 3) := by decide +kernel
theorem d_SM_spread_13 : decode prog_7_method_5_code 13 = .ok (.aload_n 0, 1) := by decide +kernel
theorem d_SM_spread_14 : decode prog_7_method_5_code 14 = .ok (.getfield 36, 3) := by decide +kernel
theorem d_SM_spread_17 : decode prog_7_method_5_code 17 = .ok (.lmul, 1) := by decide +kernel
theorem d_SM_spread_18 : decode prog_7_method_5_code 18 = .ok (.lsub, 1) := by decide +kernel
theorem d_SM_spread_19 : decode prog_7_method_5_code 19 = .ok (.aload_n 0, 1) := by decide +kernel
theorem d_SM_spread_20 : decode prog_7_method_5_code 20 = .ok (.getfield 39, 3) := by decide +kernel
theorem d_SM_spread_23 : decode prog_7_method_5_code 23 = .ok (.aload_n 0, 1) := by decide +kernel
theorem d_SM_spread_24 : decode prog_7_method_5_code 24 = .ok (.getfield 39, 3) := by decide +kernel
theorem d_SM_spread_27 : decode prog_7_method_5_code 27 = .ok (.lmul, 1) := by decide +kernel
theorem d_SM_spread_28 : decode prog_7_method_5_code 28 = .ok (.lsub, 1) := by decide +kernel
theorem d_SM_spread_29 : decode prog_7_method_5_code 29 = .ok (.lreturn, 1) := by decide +kernel
theorem d_SM_cosine_0 : decode prog_7_method_6_code 0 = .ok (.aload_n 0, 1) := by decide +kernel
theorem d_SM_cosine_1 : decode prog_7_method_6_code 1 = .ok (.getfield 26, 3) := by decide +kernel
theorem d_SM_cosine_4 : decode prog_7_method_6_code 4 = .ok (.aload_n 0, 1) := by decide +kernel
theorem d_SM_cosine_5 : decode prog_7_method_6_code 5 = .ok (.getfield 45, 3) := by decide +kernel
theorem d_SM_cosine_8 : decode prog_7_method_6_code 8 = .ok (.lmul, 1) := by decide +kernel
theorem d_SM_cosine_9 : decode prog_7_method_6_code 9 = .ok (.aload_n 0, 1) := by decide +kernel
theorem d_SM_cosine_10 : decode prog_7_method_6_code 10 = .ok (.getfield 36, 3) := by decide +kernel
theorem d_SM_cosine_13 : decode prog_7_method_6_code 13 = .ok (.aload_n 0, 1) := by decide +kernel
theorem d_SM_cosine_14 : decode prog_7_method_6_code 14 = .ok (.getfield 30, 3) := by decide +kernel
theorem d_SM_cosine_17 : decode prog_7_method_6_code 17 = .ok (.lmul, 1) := by decide +kernel
theorem d_SM_cosine_18 : decode prog_7_method_6_code 18 = .ok (.lsub, 1) := by decide +kernel
theorem d_SM_cosine_19 : decode prog_7_method_6_code 19 = .ok (.aload_n 0, 1) := by decide +kernel
theorem d_SM_cosine_20 : decode prog_7_method_6_code 20 = .ok (.getfield 39, 3) := by decide +kernel
theorem d_SM_cosine_23 : decode prog_7_method_6_code 23 = .ok (.aload_n 0, 1) := by decide +kernel
theorem d_SM_cosine_24 : decode prog_7_method_6_code 24 = .ok (.getfield 33, 3) := by decide +kernel
theorem d_SM_cosine_27 : decode prog_7_method_6_code 27 = .ok (.lmul, 1) := by decide +kernel
theorem d_SM_cosine_28 : decode prog_7_method_6_code 28 = .ok (.lsub, 1) := by decide +kernel
theorem d_SM_cosine_29 : decode prog_7_method_6_code 29 = .ok (.lreturn, 1) := by decide +kernel
theorem d_SM_sine_0 : decode prog_7_method_7_code 0 = .ok (.aload_n 0, 1) := by decide +kernel
theorem d_SM_sine_1 : decode prog_7_method_7_code 1 = .ok (.getfield 26, 3) := by decide +kernel
theorem d_SM_sine_4 : decode prog_7_method_7_code 4 = .ok (.aload_n 0, 1) := by decide +kernel
theorem d_SM_sine_5 : decode prog_7_method_7_code 5 = .ok (.getfield 48, 3) := by decide +kernel
theorem d_SM_sine_8 : decode prog_7_method_7_code 8 = .ok (.lmul, 1) := by decide +kernel
theorem d_SM_sine_9 : decode prog_7_method_7_code 9 = .ok (.aload_n 0, 1) := by decide +kernel
theorem d_SM_sine_10 : decode prog_7_method_7_code 10 = .ok (.getfield 36, 3) := by decide +kernel
theorem d_SM_sine_13 : decode prog_7_method_7_code 13 = .ok (.aload_n 0, 1) := by decide +kernel
theorem d_SM_sine_14 : decode prog_7_method_7_code 14 = .ok (.getfield 33, 3) := by decide +kernel
theorem d_SM_sine_17 : decode prog_7_method_7_code 17 = .ok (.lmul, 1) := by decide +kernel
theorem d_SM_sine_18 : decode prog_7_method_7_code 18 = .ok (.lsub, 1) := by decide +kernel
theorem d_SM_sine_19 : decode prog_7_method_7_code 19 = .ok (.aload_n 0, 1) := by decide +kernel
theorem d_SM_sine_20 : decode prog_7_method_7_code 20 = .ok (.getfield 39, 3) := by decide +kernel
theorem d_SM_sine_23 : decode prog_7_method_7_code 23 = .ok (.aload_n 0, 1) := by decide +kernel
theorem d_SM_sine_24 : decode prog_7_method_7_code 24 = .ok (.getfield 30, 3) := by decide +kernel
theorem d_SM_sine_27 : decode prog_7_method_7_code 27 = .ok (.lmul, 1) := by decide +kernel
theorem d_SM_sine_28 : decode prog_7_method_7_code 28 = .ok (.ladd, 1) := by decide +kernel
theorem d_SM_sine_29 : decode prog_7_method_7_code 29 = .ok (.lreturn, 1) := by decide +kernel
set_option maxHeartbeats 4000000 in
set_option maxRecDepth 100000 in
/-- Sums() -/
theorem c_SM_init (l : Launch) (dC : Nat → ClassId) (dI : Nat → Nat → Nat) (sz : Nat) (h0 : Nat) (s1 : Int64) (s2 : Int64) (s3 : Int64) (s4 : Int64) (s5 : Int64) (s6 : Int64) (s7 : Int64) (s8 : Int64) (s9 : Int64)  : Met l xy_SM_init xw_SM_init ({ frames := 1, cells := 0, slots := 0, locals := 12 }) (xp_w [.ref h0] sz (dC, dI) xCl [(h0, .inr (3, [.long s1, .long s2, .long s3, .long s4, .long s5, .long s6, .long s7, .long s8, .long s9]))] []) (va_Qv (fun (_ : Unit) => True) (fun _ t => xb_w (dC, dI) xCl [(h0, .inr (3, [.long s1, .long s2, .long s3, .long s4, .long s5, .long s6, .long s7, .long s8, .long s9]))] [] (va_A [(h0, .inr (3, [.long s1, .long s2, .long s3, .long s4, .long s5, .long s6, .long s7, .long s8, .long s9]))] sz) t) (va_A [(h0, .inr (3, [.long s1, .long s2, .long s3, .long s4, .long s5, .long s6, .long s7, .long s8, .long s9]))] sz)) 0 0 (va_A [(h0, .inr (3, [.long s1, .long s2, .long s3, .long s4, .long s5, .long s6, .long s7, .long s8, .long s9]))] sz) := by
  refine Met.ofW (cc := prog_7_method_1_code) (maxL := 1) (ret := none) (by decide) rfl ?_
  intro p e s m args below meth c s₁ B hml hv
  obtain ⟨rfl, hsz, hz, hP, hK, hD0⟩ := hv
  have hx := B.exec
  have hb := B.bytes
  have hr := B.returns
  have hts := atoms_spec (ws := xw_SM_init) B.pre
  have hown : s.vm.findClass xR_SM = some m.cls := findClass_of_methodNamed B.named
  have hlocks := B.notSynchronized
  have hin : meth.name = "<init>" := (name_of_methodNamed B.named B.method).1
  subst hsz
  have hD := hD0.self (sz := s.heap.size)
  generalize hAe : va_A [(h0, .inr (3, [.long s1, .long s2, .long s3, .long s4, .long s5, .long s6, .long s7, .long s8, .long s9]))] s.heap.size = A at hD ⊢
  have hA : ∀ q : Nat, s.heap.size ≤ q → A q := fun q h => by rw [← hAe]; exact Or.inr h
  have hS : va_S A s.heap s.heap [] := va_S.rf
  have hP : va_P (dC, dI) xCl [(h0, .inr (3, [.long s1, .long s2, .long s3, .long s4, .long s5, .long s6, .long s7, .long s8, .long s9]))] s.heap := hP
  have hl := lv_entry ([.ref h0]) (n := 1) (Nat.le_of_ble_eq_true rfl)
  rw [lg_entry_eq]
  generalize (lg_sl ([.ref h0]) ++ List.replicate (1 - (lg_sl ([.ref h0])).length) Slot.unset).toArray = ls at hl ⊢
  have hl : lv_has ls 1 [(0, .ref h0)] := hl
  refine lv_aload_n hx hb d_SM_init_0 rfl (lv_at hl 0 rfl) ?_
  refine W.objInit hx hb hown (hts _ (List.mem_cons_of_mem _ wm_142)) (hts _ (List.mem_cons_of_mem _ wm_47)) (hts _ (List.mem_cons_of_mem _ wm_48)) rfl (by rw [hml]; exact hl.1) rfl d_SM_init_1 (Nat.le_of_ble_eq_true rfl) (Nat.le_of_ble_eq_true rfl) ?_
  refine W.eq (g2 := F0 m 4 ls []) rfl ?_
  have hP9 := hP.sub (ws' := [(h0, .inr (3, [.long s1, .long s2, .long s3, .long s4, .long s5, .long s6, .long s7, .long s8, .long s9]))]) [0] rfl
  have hD9 := hD.sub (ws' := [(h0, .inr (3, [.long s1, .long s2, .long s3, .long s4, .long s5, .long s6, .long s7, .long s8, .long s9]))]) [0] (by decide) rfl
  have hK9 := hK.sub (tys' := []) [] rfl
  exact W.vret hx hb hr (fun t ht hW => ⟨⟨(), rfl, trivial, ⟨by rw [ht]; exact hP9, va_K.moved hW.alike hK9, by exact hD9⟩⟩, hS.F ht⟩) hS.2.2 d_SM_init_4 hlocks
set_option maxHeartbeats 4000000 in
set_option maxRecDepth 100000 in
/-- Sums.clear -/
theorem c_SM_clear (l : Launch) (dC : Nat → ClassId) (dI : Nat → Nat → Nat) (sz : Nat) (h0 : Nat) (s1 : Int64) (s2 : Int64) (s3 : Int64) (s4 : Int64) (s5 : Int64) (s6 : Int64) (s7 : Int64) (s8 : Int64) (s9 : Int64)  : Met l xy_SM_clear xw_SM_clear ({ frames := 0, cells := 0, slots := 0, locals := 0 }) (xp_w [.ref h0] sz (dC, dI) xCl [(h0, .inr (3, [.long s1, .long s2, .long s3, .long s4, .long s5, .long s6, .long s7, .long s8, .long s9]))] []) (va_Qv (fun (_ : Unit) => True) (fun _ t => xb_w (dC, dI) xCl [(h0, .inr (3, [.long 0, .long 0, .long 0, .long 0, .long 0, .long 0, .long 0, .long 0, .long 0]))] [] (va_A [(h0, .inr (3, [.long s1, .long s2, .long s3, .long s4, .long s5, .long s6, .long s7, .long s8, .long s9]))] sz) t) (va_A [(h0, .inr (3, [.long s1, .long s2, .long s3, .long s4, .long s5, .long s6, .long s7, .long s8, .long s9]))] sz)) 0 0 (va_A [(h0, .inr (3, [.long s1, .long s2, .long s3, .long s4, .long s5, .long s6, .long s7, .long s8, .long s9]))] sz) := by
  refine Met.ofW (cc := prog_7_method_3_code) (maxL := 1) (ret := none) (by decide) rfl ?_
  intro p e s m args below meth c s₁ B hml hv
  obtain ⟨rfl, hsz, hz, hP, hK, hD0⟩ := hv
  have hx := B.exec
  have hb := B.bytes
  have hr := B.returns
  have hts := atoms_spec (ws := xw_SM_clear) B.pre
  have hown : s.vm.findClass xR_SM = some m.cls := findClass_of_methodNamed B.named
  have hlocks := B.notSynchronized
  subst hsz
  have hD := hD0.self (sz := s.heap.size)
  generalize hAe : va_A [(h0, .inr (3, [.long s1, .long s2, .long s3, .long s4, .long s5, .long s6, .long s7, .long s8, .long s9]))] s.heap.size = A at hD ⊢
  have hA : ∀ q : Nat, s.heap.size ≤ q → A q := fun q h => by rw [← hAe]; exact Or.inr h
  have hS : va_S A s.heap s.heap [] := va_S.rf
  have hP : va_P (dC, dI) xCl [(h0, .inr (3, [.long s1, .long s2, .long s3, .long s4, .long s5, .long s6, .long s7, .long s8, .long s9]))] s.heap := hP
  have hl := lv_entry ([.ref h0]) (n := 1) (Nat.le_of_ble_eq_true rfl)
  rw [lg_entry_eq]
  generalize (lg_sl ([.ref h0]) ++ List.replicate (1 - (lg_sl ([.ref h0])).length) Slot.unset).toArray = ls at hl ⊢
  have hl : lv_has ls 1 [(0, .ref h0)] := hl
  refine lv_aload_n hx hb d_SM_clear_0 rfl (lv_at hl 0 rfl) ?_
  refine lv_lconst (v := 0) hx hb d_SM_clear_1 (by decide) ?_
  refine va_put (D := (dC, dI)) (ci := 3) (v := .long 0) (ty := .long) (C := xR_SM) (T := xT_SM) (N := 9) hx hb hts (fun w h => List.mem_cons_of_mem _ (iw_SM w h)) xt_SM xt_SM_ok xn_SM_nm hown hK hP hD hS 0 rfl rfl 0 (by decide) (hts _ (List.mem_cons_of_mem _ wm_143)) (fun _ h9 => h9) rfl (by decide +kernel) rfl rfl (Nat.le_of_ble_eq_true rfl) d_SM_clear_2 (fun H locs hP hD hS => ?_)
  have hP : va_P (dC, dI) xCl [(h0, .inr (3, [.long 0, .long s2, .long s3, .long s4, .long s5, .long s6, .long s7, .long s8, .long s9]))] H := hP
  have hD : va_D A [(h0, .inr (3, [.long 0, .long s2, .long s3, .long s4, .long s5, .long s6, .long s7, .long s8, .long s9]))] := hD
  refine lv_aload_n hx hb d_SM_clear_5 rfl (lv_at hl 0 rfl) ?_
  refine lv_lconst (v := 0) hx hb d_SM_clear_6 (by decide) ?_
  refine va_put (D := (dC, dI)) (ci := 3) (v := .long 0) (ty := .long) (C := xR_SM) (T := xT_SM) (N := 9) hx hb hts (fun w h => List.mem_cons_of_mem _ (iw_SM w h)) xt_SM xt_SM_ok xn_SM_nm hown hK hP hD hS 0 rfl rfl 1 (by decide) (hts _ (List.mem_cons_of_mem _ wm_145)) (fun _ h9 => h9) rfl (by decide +kernel) rfl rfl (Nat.le_of_ble_eq_true rfl) d_SM_clear_7 (fun H locs hP hD hS => ?_)
  have hP : va_P (dC, dI) xCl [(h0, .inr (3, [.long 0, .long 0, .long s3, .long s4, .long s5, .long s6, .long s7, .long s8, .long s9]))] H := hP
  have hD : va_D A [(h0, .inr (3, [.long 0, .long 0, .long s3, .long s4, .long s5, .long s6, .long s7, .long s8, .long s9]))] := hD
  refine lv_aload_n hx hb d_SM_clear_10 rfl (lv_at hl 0 rfl) ?_
  refine lv_lconst (v := 0) hx hb d_SM_clear_11 (by decide) ?_
  refine va_put (D := (dC, dI)) (ci := 3) (v := .long 0) (ty := .long) (C := xR_SM) (T := xT_SM) (N := 9) hx hb hts (fun w h => List.mem_cons_of_mem _ (iw_SM w h)) xt_SM xt_SM_ok xn_SM_nm hown hK hP hD hS 0 rfl rfl 2 (by decide) (hts _ (List.mem_cons_of_mem _ wm_147)) (fun _ h9 => h9) rfl (by decide +kernel) rfl rfl (Nat.le_of_ble_eq_true rfl) d_SM_clear_12 (fun H locs hP hD hS => ?_)
  have hP : va_P (dC, dI) xCl [(h0, .inr (3, [.long 0, .long 0, .long 0, .long s4, .long s5, .long s6, .long s7, .long s8, .long s9]))] H := hP
  have hD : va_D A [(h0, .inr (3, [.long 0, .long 0, .long 0, .long s4, .long s5, .long s6, .long s7, .long s8, .long s9]))] := hD
  refine lv_aload_n hx hb d_SM_clear_15 rfl (lv_at hl 0 rfl) ?_
  refine lv_lconst (v := 0) hx hb d_SM_clear_16 (by decide) ?_
  refine va_put (D := (dC, dI)) (ci := 3) (v := .long 0) (ty := .long) (C := xR_SM) (T := xT_SM) (N := 9) hx hb hts (fun w h => List.mem_cons_of_mem _ (iw_SM w h)) xt_SM xt_SM_ok xn_SM_nm hown hK hP hD hS 0 rfl rfl 3 (by decide) (hts _ (List.mem_cons_of_mem _ wm_149)) (fun _ h9 => h9) rfl (by decide +kernel) rfl rfl (Nat.le_of_ble_eq_true rfl) d_SM_clear_17 (fun H locs hP hD hS => ?_)
  have hP : va_P (dC, dI) xCl [(h0, .inr (3, [.long 0, .long 0, .long 0, .long 0, .long s5, .long s6, .long s7, .long s8, .long s9]))] H := hP
  have hD : va_D A [(h0, .inr (3, [.long 0, .long 0, .long 0, .long 0, .long s5, .long s6, .long s7, .long s8, .long s9]))] := hD
  refine lv_aload_n hx hb d_SM_clear_20 rfl (lv_at hl 0 rfl) ?_
  refine lv_lconst (v := 0) hx hb d_SM_clear_21 (by decide) ?_
  refine va_put (D := (dC, dI)) (ci := 3) (v := .long 0) (ty := .long) (C := xR_SM) (T := xT_SM) (N := 9) hx hb hts (fun w h => List.mem_cons_of_mem _ (iw_SM w h)) xt_SM xt_SM_ok xn_SM_nm hown hK hP hD hS 0 rfl rfl 4 (by decide) (hts _ (List.mem_cons_of_mem _ wm_151)) (fun _ h9 => h9) rfl (by decide +kernel) rfl rfl (Nat.le_of_ble_eq_true rfl) d_SM_clear_22 (fun H locs hP hD hS => ?_)
  have hP : va_P (dC, dI) xCl [(h0, .inr (3, [.long 0, .long 0, .long 0, .long 0, .long 0, .long s6, .long s7, .long s8, .long s9]))] H := hP
  have hD : va_D A [(h0, .inr (3, [.long 0, .long 0, .long 0, .long 0, .long 0, .long s6, .long s7, .long s8, .long s9]))] := hD
  refine lv_aload_n hx hb d_SM_clear_25 rfl (lv_at hl 0 rfl) ?_
  refine lv_lconst (v := 0) hx hb d_SM_clear_26 (by decide) ?_
  refine va_put (D := (dC, dI)) (ci := 3) (v := .long 0) (ty := .long) (C := xR_SM) (T := xT_SM) (N := 9) hx hb hts (fun w h => List.mem_cons_of_mem _ (iw_SM w h)) xt_SM xt_SM_ok xn_SM_nm hown hK hP hD hS 0 rfl rfl 5 (by decide) (hts _ (List.mem_cons_of_mem _ wm_153)) (fun _ h9 => h9) rfl (by decide +kernel) rfl rfl (Nat.le_of_ble_eq_true rfl) d_SM_clear_27 (fun H locs hP hD hS => ?_)
  have hP : va_P (dC, dI) xCl [(h0, .inr (3, [.long 0, .long 0, .long 0, .long 0, .long 0, .long 0, .long s7, .long s8, .long s9]))] H := hP
  have hD : va_D A [(h0, .inr (3, [.long 0, .long 0, .long 0, .long 0, .long 0, .long 0, .long s7, .long s8, .long s9]))] := hD
  refine lv_aload_n hx hb d_SM_clear_30 rfl (lv_at hl 0 rfl) ?_
  refine lv_lconst (v := 0) hx hb d_SM_clear_31 (by decide) ?_
  refine va_put (D := (dC, dI)) (ci := 3) (v := .long 0) (ty := .long) (C := xR_SM) (T := xT_SM) (N := 9) hx hb hts (fun w h => List.mem_cons_of_mem _ (iw_SM w h)) xt_SM xt_SM_ok xn_SM_nm hown hK hP hD hS 0 rfl rfl 6 (by decide) (hts _ (List.mem_cons_of_mem _ wm_154)) (fun _ h9 => h9) rfl (by decide +kernel) rfl rfl (Nat.le_of_ble_eq_true rfl) d_SM_clear_32 (fun H locs hP hD hS => ?_)
  have hP : va_P (dC, dI) xCl [(h0, .inr (3, [.long 0, .long 0, .long 0, .long 0, .long 0, .long 0, .long 0, .long s8, .long s9]))] H := hP
  have hD : va_D A [(h0, .inr (3, [.long 0, .long 0, .long 0, .long 0, .long 0, .long 0, .long 0, .long s8, .long s9]))] := hD
  refine lv_aload_n hx hb d_SM_clear_35 rfl (lv_at hl 0 rfl) ?_
  refine lv_lconst (v := 0) hx hb d_SM_clear_36 (by decide) ?_
  refine va_put (D := (dC, dI)) (ci := 3) (v := .long 0) (ty := .long) (C := xR_SM) (T := xT_SM) (N := 9) hx hb hts (fun w h => List.mem_cons_of_mem _ (iw_SM w h)) xt_SM xt_SM_ok xn_SM_nm hown hK hP hD hS 0 rfl rfl 7 (by decide) (hts _ (List.mem_cons_of_mem _ wm_155)) (fun _ h9 => h9) rfl (by decide +kernel) rfl rfl (Nat.le_of_ble_eq_true rfl) d_SM_clear_37 (fun H locs hP hD hS => ?_)
  have hP : va_P (dC, dI) xCl [(h0, .inr (3, [.long 0, .long 0, .long 0, .long 0, .long 0, .long 0, .long 0, .long 0, .long s9]))] H := hP
  have hD : va_D A [(h0, .inr (3, [.long 0, .long 0, .long 0, .long 0, .long 0, .long 0, .long 0, .long 0, .long s9]))] := hD
  refine lv_aload_n hx hb d_SM_clear_40 rfl (lv_at hl 0 rfl) ?_
  refine lv_lconst (v := 0) hx hb d_SM_clear_41 (by decide) ?_
  refine va_put (D := (dC, dI)) (ci := 3) (v := .long 0) (ty := .long) (C := xR_SM) (T := xT_SM) (N := 9) hx hb hts (fun w h => List.mem_cons_of_mem _ (iw_SM w h)) xt_SM xt_SM_ok xn_SM_nm hown hK hP hD hS 0 rfl rfl 8 (by decide) (hts _ (List.mem_cons_of_mem _ wm_156)) (fun _ h9 => h9) rfl (by decide +kernel) rfl rfl (Nat.le_of_ble_eq_true rfl) d_SM_clear_42 (fun H locs hP hD hS => ?_)
  have hP : va_P (dC, dI) xCl [(h0, .inr (3, [.long 0, .long 0, .long 0, .long 0, .long 0, .long 0, .long 0, .long 0, .long 0]))] H := hP
  have hD : va_D A [(h0, .inr (3, [.long 0, .long 0, .long 0, .long 0, .long 0, .long 0, .long 0, .long 0, .long 0]))] := hD
  have hP9 := hP.sub (ws' := [(h0, .inr (3, [.long 0, .long 0, .long 0, .long 0, .long 0, .long 0, .long 0, .long 0, .long 0]))]) [0] rfl
  have hD9 := hD.sub (ws' := [(h0, .inr (3, [.long 0, .long 0, .long 0, .long 0, .long 0, .long 0, .long 0, .long 0, .long 0]))]) [0] (by decide) rfl
  have hK9 := hK.sub (tys' := []) [] rfl
  exact W.vret hx hb hr (fun t ht hW => ⟨⟨(), rfl, trivial, ⟨by rw [ht]; exact hP9, va_K.moved hW.alike hK9, by exact hD9⟩⟩, hS.F ht⟩) hS.2.2 d_SM_clear_45 hlocks
set_option maxHeartbeats 4000000 in
set_option maxRecDepth 100000 in
/-- Sums.add -/
theorem c_SM_add (l : Launch) (dC : Nat → ClassId) (dI : Nat → Nat → Nat) (sz : Nat) (h0 : Nat) (s1 : Int64) (s2 : Int64) (s3 : Int64) (s4 : Int64) (s5 : Int64) (s6 : Int64) (s7 : Int64) (s8 : Int64) (s9 : Int64) (h1 : Nat) (qx : Nat) (qy : Nat) (qz : Nat) (qu : Nat) (qv : Nat) (qw : Nat) (qp : Nat) (qe : Nat) (no : Nat) (cx : ClassId) (cy : ClassId) (cz : ClassId) (cu : ClassId) (cv : ClassId) (cw : ClassId) (cp : ClassId) (fx : Nat → Int32) (fy : Nat → Int32) (fz : Nat → Int32) (fu : Nat → Int32) (fv : Nat → Int32) (fw : Nat → Int32) (fp : Nat → Int32) (k : Nat) (hk : k < 20) : Met l xy_SM_add xw_SM_add ({ frames := 1, cells := 0, slots := 0, locals := 21 }) (xp_w [.ref h0, .ref h1, .int (nI k)] sz (dC, dI) xCl [(h0, .inr (3, [.long s1, .long s2, .long s3, .long s4, .long s5, .long s6, .long s7, .long s8, .long s9])), (h1, .inr (2, [.ref qx, .ref qy, .ref qz, .ref qu, .ref qv, .ref qw, .ref qp, .ref qe, .int (nI no)])), (qx, .inl (cx, 20, .inl fx)), (qy, .inl (cy, 20, .inl fy)), (qz, .inl (cz, 20, .inl fz)), (qu, .inl (cu, 20, .inl fu)), (qv, .inl (cv, 20, .inl fv)), (qw, .inl (cw, 20, .inl fw)), (qp, .inl (cp, 20, .inl fp))] [(cx, .int), (cy, .int), (cz, .int), (cu, .int), (cv, .int), (cw, .int), (cp, .int)]) (va_Qv (fun (_ : Unit) => True) (fun _ t => xb_w (dC, dI) xCl [(h0, .inr (3, [.long (s1 + 1), .long (s2 + ((fx k).toInt64)), .long (s3 + ((fy k).toInt64)), .long (s4 + ((fu k).toInt64)), .long (s5 + ((fv k).toInt64)), .long (s6 + (((fu k).toInt64 * (fu k).toInt64) + ((fv k).toInt64 * (fv k).toInt64))), .long (s7 + (((fu k).toInt64 * (fx k).toInt64) + ((fv k).toInt64 * (fy k).toInt64))), .long (s8 + (((fu k).toInt64 * (fy k).toInt64) - ((fv k).toInt64 * (fx k).toInt64))), .long (s9 + ((fz k - (fw k - fp k)).toInt64))])), (h1, .inr (2, [.ref qx, .ref qy, .ref qz, .ref qu, .ref qv, .ref qw, .ref qp, .ref qe, .int (nI no)])), (qx, .inl (cx, 20, .inl fx)), (qy, .inl (cy, 20, .inl fy)), (qz, .inl (cz, 20, .inl fz)), (qu, .inl (cu, 20, .inl fu)), (qv, .inl (cv, 20, .inl fv)), (qw, .inl (cw, 20, .inl fw)), (qp, .inl (cp, 20, .inl fp))] [(cx, .int), (cy, .int), (cz, .int), (cu, .int), (cv, .int), (cw, .int), (cp, .int)] (va_A [(h0, .inr (3, [.long s1, .long s2, .long s3, .long s4, .long s5, .long s6, .long s7, .long s8, .long s9])), (h1, .inr (2, [.ref qx, .ref qy, .ref qz, .ref qu, .ref qv, .ref qw, .ref qp, .ref qe, .int (nI no)])), (qx, .inl (cx, 20, .inl fx)), (qy, .inl (cy, 20, .inl fy)), (qz, .inl (cz, 20, .inl fz)), (qu, .inl (cu, 20, .inl fu)), (qv, .inl (cv, 20, .inl fv)), (qw, .inl (cw, 20, .inl fw)), (qp, .inl (cp, 20, .inl fp))] sz) t) (va_A [(h0, .inr (3, [.long s1, .long s2, .long s3, .long s4, .long s5, .long s6, .long s7, .long s8, .long s9])), (h1, .inr (2, [.ref qx, .ref qy, .ref qz, .ref qu, .ref qv, .ref qw, .ref qp, .ref qe, .int (nI no)])), (qx, .inl (cx, 20, .inl fx)), (qy, .inl (cy, 20, .inl fy)), (qz, .inl (cz, 20, .inl fz)), (qu, .inl (cu, 20, .inl fu)), (qv, .inl (cv, 20, .inl fv)), (qw, .inl (cw, 20, .inl fw)), (qp, .inl (cp, 20, .inl fp))] sz)) 0 0 (va_A [(h0, .inr (3, [.long s1, .long s2, .long s3, .long s4, .long s5, .long s6, .long s7, .long s8, .long s9])), (h1, .inr (2, [.ref qx, .ref qy, .ref qz, .ref qu, .ref qv, .ref qw, .ref qp, .ref qe, .int (nI no)])), (qx, .inl (cx, 20, .inl fx)), (qy, .inl (cy, 20, .inl fy)), (qz, .inl (cz, 20, .inl fz)), (qu, .inl (cu, 20, .inl fu)), (qv, .inl (cv, 20, .inl fv)), (qw, .inl (cw, 20, .inl fw)), (qp, .inl (cp, 20, .inl fp))] sz) := by
  refine Met.ofW (cc := prog_7_method_4_code) (maxL := 7) (ret := none) (by decide) rfl ?_
  intro p e s m args below meth c s₁ B hml hv
  obtain ⟨rfl, hsz, hz, hP, hK, hD0⟩ := hv
  have hx := B.exec
  have hb := B.bytes
  have hr := B.returns
  have hts := atoms_spec (ws := xw_SM_add) B.pre
  have hown : s.vm.findClass xR_SM = some m.cls := findClass_of_methodNamed B.named
  have hlocks := B.notSynchronized
  subst hsz
  have hD := hD0.self (sz := s.heap.size)
  generalize hAe : va_A [(h0, .inr (3, [.long s1, .long s2, .long s3, .long s4, .long s5, .long s6, .long s7, .long s8, .long s9])), (h1, .inr (2, [.ref qx, .ref qy, .ref qz, .ref qu, .ref qv, .ref qw, .ref qp, .ref qe, .int (nI no)])), (qx, .inl (cx, 20, .inl fx)), (qy, .inl (cy, 20, .inl fy)), (qz, .inl (cz, 20, .inl fz)), (qu, .inl (cu, 20, .inl fu)), (qv, .inl (cv, 20, .inl fv)), (qw, .inl (cw, 20, .inl fw)), (qp, .inl (cp, 20, .inl fp))] s.heap.size = A at hD ⊢
  have hA : ∀ q : Nat, s.heap.size ≤ q → A q := fun q h => by rw [← hAe]; exact Or.inr h
  have hS : va_S A s.heap s.heap [] := va_S.rf
  have hP : va_P (dC, dI) xCl [(h0, .inr (3, [.long s1, .long s2, .long s3, .long s4, .long s5, .long s6, .long s7, .long s8, .long s9])), (h1, .inr (2, [.ref qx, .ref qy, .ref qz, .ref qu, .ref qv, .ref qw, .ref qp, .ref qe, .int (nI no)])), (qx, .inl (cx, 20, .inl fx)), (qy, .inl (cy, 20, .inl fy)), (qz, .inl (cz, 20, .inl fz)), (qu, .inl (cu, 20, .inl fu)), (qv, .inl (cv, 20, .inl fv)), (qw, .inl (cw, 20, .inl fw)), (qp, .inl (cp, 20, .inl fp))] s.heap := hP
  have hl := lv_entry ([.ref h0, .ref h1, .int (nI k)]) (n := 7) (Nat.le_of_ble_eq_true rfl)
  rw [lg_entry_eq]
  generalize (lg_sl ([.ref h0, .ref h1, .int (nI k)]) ++ List.replicate (7 - (lg_sl ([.ref h0, .ref h1, .int (nI k)])).length) Slot.unset).toArray = ls at hl ⊢
  have hl : lv_has ls 7 [(0, .ref h0), (1, .ref h1), (2, .int (nI k))] := hl
  refine lv_aload_n hx hb d_SM_add_0 rfl (lv_at hl 1 rfl) ?_
  refine va_get (D := (dC, dI)) (ci := 2) (v := .ref qu) (C := xR_OB) (T := xT_OB) (N := 9) hx hb hts (fun w h => List.mem_cons_of_mem _ (iw_OB w h)) hown hK hP 1 rfl rfl 3 (by decide) (hts _ (List.mem_cons_of_mem _ wm_95)) (fun _ h9 => h9) rfl d_SM_add_1 ?_
  refine lv_iload_n hx hb d_SM_add_4 rfl (lv_at hl 2 rfl) ?_
  refine xa_iald hx hb hK hP 5 3 rfl rfl k rfl (by omega) (by decide) d_SM_add_5 ?_
  refine lv_i2l (v := (fu k).toInt64) hx hb d_SM_add_6 rfl ?_
  refine lv_lstore_n (lv' := [(3, .long ((fu k).toInt64)), (0, .ref h0), (1, .ref h1), (2, .int (nI k))]) hx hb d_SM_add_7 rfl hl (by decide) rfl (fun ls hl => ?_)
  refine lv_aload_n hx hb d_SM_add_8 rfl (lv_at hl 2 rfl) ?_
  refine va_get (D := (dC, dI)) (ci := 2) (v := .ref qv) (C := xR_OB) (T := xT_OB) (N := 9) hx hb hts (fun w h => List.mem_cons_of_mem _ (iw_OB w h)) hown hK hP 1 rfl rfl 4 (by decide) (hts _ (List.mem_cons_of_mem _ wm_98)) (fun _ h9 => h9) rfl d_SM_add_9 ?_
  refine lv_iload_n hx hb d_SM_add_12 rfl (lv_at hl 3 rfl) ?_
  refine xa_iald hx hb hK hP 6 4 rfl rfl k rfl (by omega) (by decide) d_SM_add_13 ?_
  refine lv_i2l (v := (fv k).toInt64) hx hb d_SM_add_14 rfl ?_
  refine lv_lstore (lv' := [(5, .long ((fv k).toInt64)), (3, .long ((fu k).toInt64)), (0, .ref h0), (1, .ref h1), (2, .int (nI k))]) hx hb d_SM_add_15 hl (by decide) rfl (fun ls hl => ?_)
  refine lv_aload_n hx hb d_SM_add_17 rfl (lv_at hl 2 rfl) ?_
  refine lv_dup hx hb d_SM_add_18 rfl ?_
  refine va_get (D := (dC, dI)) (ci := 3) (v := .long s1) (C := xR_SM) (T := xT_SM) (N := 9) hx hb hts (fun w h => List.mem_cons_of_mem _ (iw_SM w h)) hown hK hP 0 rfl rfl 0 (by decide) (hts _ (List.mem_cons_of_mem _ wm_143)) (fun _ h9 => h9) rfl d_SM_add_19 ?_
  refine lv_lconst (v := 1) hx hb d_SM_add_22 (by decide) ?_
  refine lv_ladd hx hb d_SM_add_23 ?_
  refine va_put (D := (dC, dI)) (ci := 3) (v := .long (s1 + 1)) (ty := .long) (C := xR_SM) (T := xT_SM) (N := 9) hx hb hts (fun w h => List.mem_cons_of_mem _ (iw_SM w h)) xt_SM xt_SM_ok xn_SM_nm hown hK hP hD hS 0 rfl rfl 0 (by decide) (hts _ (List.mem_cons_of_mem _ wm_143)) (fun _ h9 => h9) rfl (by decide +kernel) rfl rfl (Nat.le_of_ble_eq_true rfl) d_SM_add_24 (fun H locs hP hD hS => ?_)
  have hP : va_P (dC, dI) xCl [(h0, .inr (3, [.long (s1 + 1), .long s2, .long s3, .long s4, .long s5, .long s6, .long s7, .long s8, .long s9])), (h1, .inr (2, [.ref qx, .ref qy, .ref qz, .ref qu, .ref qv, .ref qw, .ref qp, .ref qe, .int (nI no)])), (qx, .inl (cx, 20, .inl fx)), (qy, .inl (cy, 20, .inl fy)), (qz, .inl (cz, 20, .inl fz)), (qu, .inl (cu, 20, .inl fu)), (qv, .inl (cv, 20, .inl fv)), (qw, .inl (cw, 20, .inl fw)), (qp, .inl (cp, 20, .inl fp))] H := hP
  have hD : va_D A [(h0, .inr (3, [.long (s1 + 1), .long s2, .long s3, .long s4, .long s5, .long s6, .long s7, .long s8, .long s9])), (h1, .inr (2, [.ref qx, .ref qy, .ref qz, .ref qu, .ref qv, .ref qw, .ref qp, .ref qe, .int (nI no)])), (qx, .inl (cx, 20, .inl fx)), (qy, .inl (cy, 20, .inl fy)), (qz, .inl (cz, 20, .inl fz)), (qu, .inl (cu, 20, .inl fu)), (qv, .inl (cv, 20, .inl fv)), (qw, .inl (cw, 20, .inl fw)), (qp, .inl (cp, 20, .inl fp))] := hD
  refine lv_aload_n hx hb d_SM_add_27 rfl (lv_at hl 2 rfl) ?_
  refine lv_dup hx hb d_SM_add_28 rfl ?_
  refine va_get (D := (dC, dI)) (ci := 3) (v := .long s2) (C := xR_SM) (T := xT_SM) (N := 9) hx hb hts (fun w h => List.mem_cons_of_mem _ (iw_SM w h)) hown hK hP 0 rfl rfl 1 (by decide) (hts _ (List.mem_cons_of_mem _ wm_145)) (fun _ h9 => h9) rfl d_SM_add_29 ?_
  refine lv_aload_n hx hb d_SM_add_32 rfl (lv_at hl 3 rfl) ?_
  refine va_get (D := (dC, dI)) (ci := 2) (v := .ref qx) (C := xR_OB) (T := xT_OB) (N := 9) hx hb hts (fun w h => List.mem_cons_of_mem _ (iw_OB w h)) hown hK hP 1 rfl rfl 0 (by decide) (hts _ (List.mem_cons_of_mem _ wm_86)) (fun _ h9 => h9) rfl d_SM_add_33 ?_
  refine lv_iload_n hx hb d_SM_add_36 rfl (lv_at hl 4 rfl) ?_
  refine xa_iald hx hb hK hP 2 0 rfl rfl k rfl (by omega) (by decide) d_SM_add_37 ?_
  refine lv_i2l (v := (fx k).toInt64) hx hb d_SM_add_38 rfl ?_
  refine lv_ladd hx hb d_SM_add_39 ?_
  refine va_put (D := (dC, dI)) (ci := 3) (v := .long (s2 + ((fx k).toInt64))) (ty := .long) (C := xR_SM) (T := xT_SM) (N := 9) hx hb hts (fun w h => List.mem_cons_of_mem _ (iw_SM w h)) xt_SM xt_SM_ok xn_SM_nm hown hK hP hD hS 0 rfl rfl 1 (by decide) (hts _ (List.mem_cons_of_mem _ wm_145)) (fun _ h9 => h9) rfl (by decide +kernel) rfl rfl (Nat.le_of_ble_eq_true rfl) d_SM_add_40 (fun H locs hP hD hS => ?_)
  have hP : va_P (dC, dI) xCl [(h0, .inr (3, [.long (s1 + 1), .long (s2 + ((fx k).toInt64)), .long s3, .long s4, .long s5, .long s6, .long s7, .long s8, .long s9])), (h1, .inr (2, [.ref qx, .ref qy, .ref qz, .ref qu, .ref qv, .ref qw, .ref qp, .ref qe, .int (nI no)])), (qx, .inl (cx, 20, .inl fx)), (qy, .inl (cy, 20, .inl fy)), (qz, .inl (cz, 20, .inl fz)), (qu, .inl (cu, 20, .inl fu)), (qv, .inl (cv, 20, .inl fv)), (qw, .inl (cw, 20, .inl fw)), (qp, .inl (cp, 20, .inl fp))] H := hP
  have hD : va_D A [(h0, .inr (3, [.long (s1 + 1), .long (s2 + ((fx k).toInt64)), .long s3, .long s4, .long s5, .long s6, .long s7, .long s8, .long s9])), (h1, .inr (2, [.ref qx, .ref qy, .ref qz, .ref qu, .ref qv, .ref qw, .ref qp, .ref qe, .int (nI no)])), (qx, .inl (cx, 20, .inl fx)), (qy, .inl (cy, 20, .inl fy)), (qz, .inl (cz, 20, .inl fz)), (qu, .inl (cu, 20, .inl fu)), (qv, .inl (cv, 20, .inl fv)), (qw, .inl (cw, 20, .inl fw)), (qp, .inl (cp, 20, .inl fp))] := hD
  refine lv_aload_n hx hb d_SM_add_43 rfl (lv_at hl 2 rfl) ?_
  refine lv_dup hx hb d_SM_add_44 rfl ?_
  refine va_get (D := (dC, dI)) (ci := 3) (v := .long s3) (C := xR_SM) (T := xT_SM) (N := 9) hx hb hts (fun w h => List.mem_cons_of_mem _ (iw_SM w h)) hown hK hP 0 rfl rfl 2 (by decide) (hts _ (List.mem_cons_of_mem _ wm_147)) (fun _ h9 => h9) rfl d_SM_add_45 ?_
  refine lv_aload_n hx hb d_SM_add_48 rfl (lv_at hl 3 rfl) ?_
  refine va_get (D := (dC, dI)) (ci := 2) (v := .ref qy) (C := xR_OB) (T := xT_OB) (N := 9) hx hb hts (fun w h => List.mem_cons_of_mem _ (iw_OB w h)) hown hK hP 1 rfl rfl 1 (by decide) (hts _ (List.mem_cons_of_mem _ wm_89)) (fun _ h9 => h9) rfl d_SM_add_49 ?_
  refine lv_iload_n hx hb d_SM_add_52 rfl (lv_at hl 4 rfl) ?_
  refine xa_iald hx hb hK hP 3 1 rfl rfl k rfl (by omega) (by decide) d_SM_add_53 ?_
  refine lv_i2l (v := (fy k).toInt64) hx hb d_SM_add_54 rfl ?_
  refine lv_ladd hx hb d_SM_add_55 ?_
  refine va_put (D := (dC, dI)) (ci := 3) (v := .long (s3 + ((fy k).toInt64))) (ty := .long) (C := xR_SM) (T := xT_SM) (N := 9) hx hb hts (fun w h => List.mem_cons_of_mem _ (iw_SM w h)) xt_SM xt_SM_ok xn_SM_nm hown hK hP hD hS 0 rfl rfl 2 (by decide) (hts _ (List.mem_cons_of_mem _ wm_147)) (fun _ h9 => h9) rfl (by decide +kernel) rfl rfl (Nat.le_of_ble_eq_true rfl) d_SM_add_56 (fun H locs hP hD hS => ?_)
  have hP : va_P (dC, dI) xCl [(h0, .inr (3, [.long (s1 + 1), .long (s2 + ((fx k).toInt64)), .long (s3 + ((fy k).toInt64)), .long s4, .long s5, .long s6, .long s7, .long s8, .long s9])), (h1, .inr (2, [.ref qx, .ref qy, .ref qz, .ref qu, .ref qv, .ref qw, .ref qp, .ref qe, .int (nI no)])), (qx, .inl (cx, 20, .inl fx)), (qy, .inl (cy, 20, .inl fy)), (qz, .inl (cz, 20, .inl fz)), (qu, .inl (cu, 20, .inl fu)), (qv, .inl (cv, 20, .inl fv)), (qw, .inl (cw, 20, .inl fw)), (qp, .inl (cp, 20, .inl fp))] H := hP
  have hD : va_D A [(h0, .inr (3, [.long (s1 + 1), .long (s2 + ((fx k).toInt64)), .long (s3 + ((fy k).toInt64)), .long s4, .long s5, .long s6, .long s7, .long s8, .long s9])), (h1, .inr (2, [.ref qx, .ref qy, .ref qz, .ref qu, .ref qv, .ref qw, .ref qp, .ref qe, .int (nI no)])), (qx, .inl (cx, 20, .inl fx)), (qy, .inl (cy, 20, .inl fy)), (qz, .inl (cz, 20, .inl fz)), (qu, .inl (cu, 20, .inl fu)), (qv, .inl (cv, 20, .inl fv)), (qw, .inl (cw, 20, .inl fw)), (qp, .inl (cp, 20, .inl fp))] := hD
  refine lv_aload_n hx hb d_SM_add_59 rfl (lv_at hl 2 rfl) ?_
  refine lv_dup hx hb d_SM_add_60 rfl ?_
  refine va_get (D := (dC, dI)) (ci := 3) (v := .long s4) (C := xR_SM) (T := xT_SM) (N := 9) hx hb hts (fun w h => List.mem_cons_of_mem _ (iw_SM w h)) hown hK hP 0 rfl rfl 3 (by decide) (hts _ (List.mem_cons_of_mem _ wm_149)) (fun _ h9 => h9) rfl d_SM_add_61 ?_
  refine lv_lload_n hx hb d_SM_add_64 rfl (lv_at hl 1 rfl) ?_
  refine lv_ladd hx hb d_SM_add_65 ?_
  refine va_put (D := (dC, dI)) (ci := 3) (v := .long (s4 + ((fu k).toInt64))) (ty := .long) (C := xR_SM) (T := xT_SM) (N := 9) hx hb hts (fun w h => List.mem_cons_of_mem _ (iw_SM w h)) xt_SM xt_SM_ok xn_SM_nm hown hK hP hD hS 0 rfl rfl 3 (by decide) (hts _ (List.mem_cons_of_mem _ wm_149)) (fun _ h9 => h9) rfl (by decide +kernel) rfl rfl (Nat.le_of_ble_eq_true rfl) d_SM_add_66 (fun H locs hP hD hS => ?_)
  have hP : va_P (dC, dI) xCl [(h0, .inr (3, [.long (s1 + 1), .long (s2 + ((fx k).toInt64)), .long (s3 + ((fy k).toInt64)), .long (s4 + ((fu k).toInt64)), .long s5, .long s6, .long s7, .long s8, .long s9])), (h1, .inr (2, [.ref qx, .ref qy, .ref qz, .ref qu, .ref qv, .ref qw, .ref qp, .ref qe, .int (nI no)])), (qx, .inl (cx, 20, .inl fx)), (qy, .inl (cy, 20, .inl fy)), (qz, .inl (cz, 20, .inl fz)), (qu, .inl (cu, 20, .inl fu)), (qv, .inl (cv, 20, .inl fv)), (qw, .inl (cw, 20, .inl fw)), (qp, .inl (cp, 20, .inl fp))] H := hP
  have hD : va_D A [(h0, .inr (3, [.long (s1 + 1), .long (s2 + ((fx k).toInt64)), .long (s3 + ((fy k).toInt64)), .long (s4 + ((fu k).toInt64)), .long s5, .long s6, .long s7, .long s8, .long s9])), (h1, .inr (2, [.ref qx, .ref qy, .ref qz, .ref qu, .ref qv, .ref qw, .ref qp, .ref qe, .int (nI no)])), (qx, .inl (cx, 20, .inl fx)), (qy, .inl (cy, 20, .inl fy)), (qz, .inl (cz, 20, .inl fz)), (qu, .inl (cu, 20, .inl fu)), (qv, .inl (cv, 20, .inl fv)), (qw, .inl (cw, 20, .inl fw)), (qp, .inl (cp, 20, .inl fp))] := hD
  refine lv_aload_n hx hb d_SM_add_69 rfl (lv_at hl 2 rfl) ?_
  refine lv_dup hx hb d_SM_add_70 rfl ?_
  refine va_get (D := (dC, dI)) (ci := 3) (v := .long s5) (C := xR_SM) (T := xT_SM) (N := 9) hx hb hts (fun w h => List.mem_cons_of_mem _ (iw_SM w h)) hown hK hP 0 rfl rfl 4 (by decide) (hts _ (List.mem_cons_of_mem _ wm_151)) (fun _ h9 => h9) rfl d_SM_add_71 ?_
  refine lv_lload hx hb d_SM_add_74 (lv_at hl 0 rfl) ?_
  refine lv_ladd hx hb d_SM_add_76 ?_
  refine va_put (D := (dC, dI)) (ci := 3) (v := .long (s5 + ((fv k).toInt64))) (ty := .long) (C := xR_SM) (T := xT_SM) (N := 9) hx hb hts (fun w h => List.mem_cons_of_mem _ (iw_SM w h)) xt_SM xt_SM_ok xn_SM_nm hown hK hP hD hS 0 rfl rfl 4 (by decide) (hts _ (List.mem_cons_of_mem _ wm_151)) (fun _ h9 => h9) rfl (by decide +kernel) rfl rfl (Nat.le_of_ble_eq_true rfl) d_SM_add_77 (fun H locs hP hD hS => ?_)
  have hP : va_P (dC, dI) xCl [(h0, .inr (3, [.long (s1 + 1), .long (s2 + ((fx k).toInt64)), .long (s3 + ((fy k).toInt64)), .long (s4 + ((fu k).toInt64)), .long (s5 + ((fv k).toInt64)), .long s6, .long s7, .long s8, .long s9])), (h1, .inr (2, [.ref qx, .ref qy, .ref qz, .ref qu, .ref qv, .ref qw, .ref qp, .ref qe, .int (nI no)])), (qx, .inl (cx, 20, .inl fx)), (qy, .inl (cy, 20, .inl fy)), (qz, .inl (cz, 20, .inl fz)), (qu, .inl (cu, 20, .inl fu)), (qv, .inl (cv, 20, .inl fv)), (qw, .inl (cw, 20, .inl fw)), (qp, .inl (cp, 20, .inl fp))] H := hP
  have hD : va_D A [(h0, .inr (3, [.long (s1 + 1), .long (s2 + ((fx k).toInt64)), .long (s3 + ((fy k).toInt64)), .long (s4 + ((fu k).toInt64)), .long (s5 + ((fv k).toInt64)), .long s6, .long s7, .long s8, .long s9])), (h1, .inr (2, [.ref qx, .ref qy, .ref qz, .ref qu, .ref qv, .ref qw, .ref qp, .ref qe, .int (nI no)])), (qx, .inl (cx, 20, .inl fx)), (qy, .inl (cy, 20, .inl fy)), (qz, .inl (cz, 20, .inl fz)), (qu, .inl (cu, 20, .inl fu)), (qv, .inl (cv, 20, .inl fv)), (qw, .inl (cw, 20, .inl fw)), (qp, .inl (cp, 20, .inl fp))] := hD
  refine lv_aload_n hx hb d_SM_add_80 rfl (lv_at hl 2 rfl) ?_
  refine lv_dup hx hb d_SM_add_81 rfl ?_
  refine va_get (D := (dC, dI)) (ci := 3) (v := .long s6) (C := xR_SM) (T := xT_SM) (N := 9) hx hb hts (fun w h => List.mem_cons_of_mem _ (iw_SM w h)) hown hK hP 0 rfl rfl 5 (by decide) (hts _ (List.mem_cons_of_mem _ wm_153)) (fun _ h9 => h9) rfl d_SM_add_82 ?_
  refine lv_lload_n hx hb d_SM_add_85 rfl (lv_at hl 1 rfl) ?_
  refine lv_lload_n hx hb d_SM_add_86 rfl (lv_at hl 1 rfl) ?_
  refine lv_lmul hx hb d_SM_add_87 ?_
  refine lv_lload hx hb d_SM_add_88 (lv_at hl 0 rfl) ?_
  refine lv_lload hx hb d_SM_add_90 (lv_at hl 0 rfl) ?_
  refine lv_lmul hx hb d_SM_add_92 ?_
  refine lv_ladd hx hb d_SM_add_93 ?_
  refine lv_ladd hx hb d_SM_add_94 ?_
  refine va_put (D := (dC, dI)) (ci := 3) (v := .long (s6 + ((((fu k).toInt64) * ((fu k).toInt64)) + (((fv k).toInt64) * ((fv k).toInt64))))) (ty := .long) (C := xR_SM) (T := xT_SM) (N := 9) hx hb hts (fun w h => List.mem_cons_of_mem _ (iw_SM w h)) xt_SM xt_SM_ok xn_SM_nm hown hK hP hD hS 0 rfl rfl 5 (by decide) (hts _ (List.mem_cons_of_mem _ wm_153)) (fun _ h9 => h9) rfl (by decide +kernel) rfl rfl (Nat.le_of_ble_eq_true rfl) d_SM_add_95 (fun H locs hP hD hS => ?_)
  have hP : va_P (dC, dI) xCl [(h0, .inr (3, [.long (s1 + 1), .long (s2 + ((fx k).toInt64)), .long (s3 + ((fy k).toInt64)), .long (s4 + ((fu k).toInt64)), .long (s5 + ((fv k).toInt64)), .long (s6 + ((((fu k).toInt64) * ((fu k).toInt64)) + (((fv k).toInt64) * ((fv k).toInt64)))), .long s7, .long s8, .long s9])), (h1, .inr (2, [.ref qx, .ref qy, .ref qz, .ref qu, .ref qv, .ref qw, .ref qp, .ref qe, .int (nI no)])), (qx, .inl (cx, 20, .inl fx)), (qy, .inl (cy, 20, .inl fy)), (qz, .inl (cz, 20, .inl fz)), (qu, .inl (cu, 20, .inl fu)), (qv, .inl (cv, 20, .inl fv)), (qw, .inl (cw, 20, .inl fw)), (qp, .inl (cp, 20, .inl fp))] H := hP
  have hD : va_D A [(h0, .inr (3, [.long (s1 + 1), .long (s2 + ((fx k).toInt64)), .long (s3 + ((fy k).toInt64)), .long (s4 + ((fu k).toInt64)), .long (s5 + ((fv k).toInt64)), .long (s6 + ((((fu k).toInt64) * ((fu k).toInt64)) + (((fv k).toInt64) * ((fv k).toInt64)))), .long s7, .long s8, .long s9])), (h1, .inr (2, [.ref qx, .ref qy, .ref qz, .ref qu, .ref qv, .ref qw, .ref qp, .ref qe, .int (nI no)])), (qx, .inl (cx, 20, .inl fx)), (qy, .inl (cy, 20, .inl fy)), (qz, .inl (cz, 20, .inl fz)), (qu, .inl (cu, 20, .inl fu)), (qv, .inl (cv, 20, .inl fv)), (qw, .inl (cw, 20, .inl fw)), (qp, .inl (cp, 20, .inl fp))] := hD
  refine lv_aload_n hx hb d_SM_add_98 rfl (lv_at hl 2 rfl) ?_
  refine lv_dup hx hb d_SM_add_99 rfl ?_
  refine va_get (D := (dC, dI)) (ci := 3) (v := .long s7) (C := xR_SM) (T := xT_SM) (N := 9) hx hb hts (fun w h => List.mem_cons_of_mem _ (iw_SM w h)) hown hK hP 0 rfl rfl 6 (by decide) (hts _ (List.mem_cons_of_mem _ wm_154)) (fun _ h9 => h9) rfl d_SM_add_100 ?_
  refine lv_lload_n hx hb d_SM_add_103 rfl (lv_at hl 1 rfl) ?_
  refine lv_aload_n hx hb d_SM_add_104 rfl (lv_at hl 3 rfl) ?_
  refine va_get (D := (dC, dI)) (ci := 2) (v := .ref qx) (C := xR_OB) (T := xT_OB) (N := 9) hx hb hts (fun w h => List.mem_cons_of_mem _ (iw_OB w h)) hown hK hP 1 rfl rfl 0 (by decide) (hts _ (List.mem_cons_of_mem _ wm_86)) (fun _ h9 => h9) rfl d_SM_add_105 ?_
  refine lv_iload_n hx hb d_SM_add_108 rfl (lv_at hl 4 rfl) ?_
  refine xa_iald hx hb hK hP 2 0 rfl rfl k rfl (by omega) (by decide) d_SM_add_109 ?_
  refine lv_i2l (v := (fx k).toInt64) hx hb d_SM_add_110 rfl ?_
  refine lv_lmul hx hb d_SM_add_111 ?_
  refine lv_lload hx hb d_SM_add_112 (lv_at hl 0 rfl) ?_
  refine lv_aload_n hx hb d_SM_add_114 rfl (lv_at hl 3 rfl) ?_
  refine va_get (D := (dC, dI)) (ci := 2) (v := .ref qy) (C := xR_OB) (T := xT_OB) (N := 9) hx hb hts (fun w h => List.mem_cons_of_mem _ (iw_OB w h)) hown hK hP 1 rfl rfl 1 (by decide) (hts _ (List.mem_cons_of_mem _ wm_89)) (fun _ h9 => h9) rfl d_SM_add_115 ?_
  refine lv_iload_n hx hb d_SM_add_118 rfl (lv_at hl 4 rfl) ?_
  refine xa_iald hx hb hK hP 3 1 rfl rfl k rfl (by omega) (by decide) d_SM_add_119 ?_
  refine lv_i2l (v := (fy k).toInt64) hx hb d_SM_add_120 rfl ?_
  refine lv_lmul hx hb d_SM_add_121 ?_
  refine lv_ladd hx hb d_SM_add_122 ?_
  refine lv_ladd hx hb d_SM_add_123 ?_
  refine va_put (D := (dC, dI)) (ci := 3) (v := .long (s7 + ((((fu k).toInt64) * ((fx k).toInt64)) + (((fv k).toInt64) * ((fy k).toInt64))))) (ty := .long) (C := xR_SM) (T := xT_SM) (N := 9) hx hb hts (fun w h => List.mem_cons_of_mem _ (iw_SM w h)) xt_SM xt_SM_ok xn_SM_nm hown hK hP hD hS 0 rfl rfl 6 (by decide) (hts _ (List.mem_cons_of_mem _ wm_154)) (fun _ h9 => h9) rfl (by decide +kernel) rfl rfl (Nat.le_of_ble_eq_true rfl) d_SM_add_124 (fun H locs hP hD hS => ?_)
  have hP : va_P (dC, dI) xCl [(h0, .inr (3, [.long (s1 + 1), .long (s2 + ((fx k).toInt64)), .long (s3 + ((fy k).toInt64)), .long (s4 + ((fu k).toInt64)), .long (s5 + ((fv k).toInt64)), .long (s6 + ((((fu k).toInt64) * ((fu k).toInt64)) + (((fv k).toInt64) * ((fv k).toInt64)))), .long (s7 + ((((fu k).toInt64) * ((fx k).toInt64)) + (((fv k).toInt64) * ((fy k).toInt64)))), .long s8, .long s9])), (h1, .inr (2, [.ref qx, .ref qy, .ref qz, .ref qu, .ref qv, .ref qw, .ref qp, .ref qe, .int (nI no)])), (qx, .inl (cx, 20, .inl fx)), (qy, .inl (cy, 20, .inl fy)), (qz, .inl (cz, 20, .inl fz)), (qu, .inl (cu, 20, .inl fu)), (qv, .inl (cv, 20, .inl fv)), (qw, .inl (cw, 20, .inl fw)), (qp, .inl (cp, 20, .inl fp))] H := hP
  have hD : va_D A [(h0, .inr (3, [.long (s1 + 1), .long (s2 + ((fx k).toInt64)), .long (s3 + ((fy k).toInt64)), .long (s4 + ((fu k).toInt64)), .long (s5 + ((fv k).toInt64)), .long (s6 + ((((fu k).toInt64) * ((fu k).toInt64)) + (((fv k).toInt64) * ((fv k).toInt64)))), .long (s7 + ((((fu k).toInt64) * ((fx k).toInt64)) + (((fv k).toInt64) * ((fy k).toInt64)))), .long s8, .long s9])), (h1, .inr (2, [.ref qx, .ref qy, .ref qz, .ref qu, .ref qv, .ref qw, .ref qp, .ref qe, .int (nI no)])), (qx, .inl (cx, 20, .inl fx)), (qy, .inl (cy, 20, .inl fy)), (qz, .inl (cz, 20, .inl fz)), (qu, .inl (cu, 20, .inl fu)), (qv, .inl (cv, 20, .inl fv)), (qw, .inl (cw, 20, .inl fw)), (qp, .inl (cp, 20, .inl fp))] := hD
  refine lv_aload_n hx hb d_SM_add_127 rfl (lv_at hl 2 rfl) ?_
  refine lv_dup hx hb d_SM_add_128 rfl ?_
  refine va_get (D := (dC, dI)) (ci := 3) (v := .long s8) (C := xR_SM) (T := xT_SM) (N := 9) hx hb hts (fun w h => List.mem_cons_of_mem _ (iw_SM w h)) hown hK hP 0 rfl rfl 7 (by decide) (hts _ (List.mem_cons_of_mem _ wm_155)) (fun _ h9 => h9) rfl d_SM_add_129 ?_
  refine lv_lload_n hx hb d_SM_add_132 rfl (lv_at hl 1 rfl) ?_
  refine lv_aload_n hx hb d_SM_add_133 rfl (lv_at hl 3 rfl) ?_
  refine va_get (D := (dC, dI)) (ci := 2) (v := .ref qy) (C := xR_OB) (T := xT_OB) (N := 9) hx hb hts (fun w h => List.mem_cons_of_mem _ (iw_OB w h)) hown hK hP 1 rfl rfl 1 (by decide) (hts _ (List.mem_cons_of_mem _ wm_89)) (fun _ h9 => h9) rfl d_SM_add_134 ?_
  refine lv_iload_n hx hb d_SM_add_137 rfl (lv_at hl 4 rfl) ?_
  refine xa_iald hx hb hK hP 3 1 rfl rfl k rfl (by omega) (by decide) d_SM_add_138 ?_
  refine lv_i2l (v := (fy k).toInt64) hx hb d_SM_add_139 rfl ?_
  refine lv_lmul hx hb d_SM_add_140 ?_
  refine lv_lload hx hb d_SM_add_141 (lv_at hl 0 rfl) ?_
  refine lv_aload_n hx hb d_SM_add_143 rfl (lv_at hl 3 rfl) ?_
  refine va_get (D := (dC, dI)) (ci := 2) (v := .ref qx) (C := xR_OB) (T := xT_OB) (N := 9) hx hb hts (fun w h => List.mem_cons_of_mem _ (iw_OB w h)) hown hK hP 1 rfl rfl 0 (by decide) (hts _ (List.mem_cons_of_mem _ wm_86)) (fun _ h9 => h9) rfl d_SM_add_144 ?_
  refine lv_iload_n hx hb d_SM_add_147 rfl (lv_at hl 4 rfl) ?_
  refine xa_iald hx hb hK hP 2 0 rfl rfl k rfl (by omega) (by decide) d_SM_add_148 ?_
  refine lv_i2l (v := (fx k).toInt64) hx hb d_SM_add_149 rfl ?_
  refine lv_lmul hx hb d_SM_add_150 ?_
  refine lv_lsub hx hb d_SM_add_151 ?_
  refine lv_ladd hx hb d_SM_add_152 ?_
  refine va_put (D := (dC, dI)) (ci := 3) (v := .long (s8 + ((((fu k).toInt64) * ((fy k).toInt64)) - (((fv k).toInt64) * ((fx k).toInt64))))) (ty := .long) (C := xR_SM) (T := xT_SM) (N := 9) hx hb hts (fun w h => List.mem_cons_of_mem _ (iw_SM w h)) xt_SM xt_SM_ok xn_SM_nm hown hK hP hD hS 0 rfl rfl 7 (by decide) (hts _ (List.mem_cons_of_mem _ wm_155)) (fun _ h9 => h9) rfl (by decide +kernel) rfl rfl (Nat.le_of_ble_eq_true rfl) d_SM_add_153 (fun H locs hP hD hS => ?_)
  have hP : va_P (dC, dI) xCl [(h0, .inr (3, [.long (s1 + 1), .long (s2 + ((fx k).toInt64)), .long (s3 + ((fy k).toInt64)), .long (s4 + ((fu k).toInt64)), .long (s5 + ((fv k).toInt64)), .long (s6 + ((((fu k).toInt64) * ((fu k).toInt64)) + (((fv k).toInt64) * ((fv k).toInt64)))), .long (s7 + ((((fu k).toInt64) * ((fx k).toInt64)) + (((fv k).toInt64) * ((fy k).toInt64)))), .long (s8 + ((((fu k).toInt64) * ((fy k).toInt64)) - (((fv k).toInt64) * ((fx k).toInt64)))), .long s9])), (h1, .inr (2, [.ref qx, .ref qy, .ref qz, .ref qu, .ref qv, .ref qw, .ref qp, .ref qe, .int (nI no)])), (qx, .inl (cx, 20, .inl fx)), (qy, .inl (cy, 20, .inl fy)), (qz, .inl (cz, 20, .inl fz)), (qu, .inl (cu, 20, .inl fu)), (qv, .inl (cv, 20, .inl fv)), (qw, .inl (cw, 20, .inl fw)), (qp, .inl (cp, 20, .inl fp))] H := hP
  have hD : va_D A [(h0, .inr (3, [.long (s1 + 1), .long (s2 + ((fx k).toInt64)), .long (s3 + ((fy k).toInt64)), .long (s4 + ((fu k).toInt64)), .long (s5 + ((fv k).toInt64)), .long (s6 + ((((fu k).toInt64) * ((fu k).toInt64)) + (((fv k).toInt64) * ((fv k).toInt64)))), .long (s7 + ((((fu k).toInt64) * ((fx k).toInt64)) + (((fv k).toInt64) * ((fy k).toInt64)))), .long (s8 + ((((fu k).toInt64) * ((fy k).toInt64)) - (((fv k).toInt64) * ((fx k).toInt64)))), .long s9])), (h1, .inr (2, [.ref qx, .ref qy, .ref qz, .ref qu, .ref qv, .ref qw, .ref qp, .ref qe, .int (nI no)])), (qx, .inl (cx, 20, .inl fx)), (qy, .inl (cy, 20, .inl fy)), (qz, .inl (cz, 20, .inl fz)), (qu, .inl (cu, 20, .inl fu)), (qv, .inl (cv, 20, .inl fv)), (qw, .inl (cw, 20, .inl fw)), (qp, .inl (cp, 20, .inl fp))] := hD
  refine lv_aload_n hx hb d_SM_add_156 rfl (lv_at hl 2 rfl) ?_
  refine lv_dup hx hb d_SM_add_157 rfl ?_
  refine va_get (D := (dC, dI)) (ci := 3) (v := .long s9) (C := xR_SM) (T := xT_SM) (N := 9) hx hb hts (fun w h => List.mem_cons_of_mem _ (iw_SM w h)) hown hK hP 0 rfl rfl 8 (by decide) (hts _ (List.mem_cons_of_mem _ wm_156)) (fun _ h9 => h9) rfl d_SM_add_158 ?_
  refine lv_aload_n hx hb d_SM_add_161 rfl (lv_at hl 3 rfl) ?_
  refine va_get (D := (dC, dI)) (ci := 2) (v := .ref qz) (C := xR_OB) (T := xT_OB) (N := 9) hx hb hts (fun w h => List.mem_cons_of_mem _ (iw_OB w h)) hown hK hP 1 rfl rfl 2 (by decide) (hts _ (List.mem_cons_of_mem _ wm_92)) (fun _ h9 => h9) rfl d_SM_add_162 ?_
  refine lv_iload_n hx hb d_SM_add_165 rfl (lv_at hl 4 rfl) ?_
  refine xa_iald hx hb hK hP 4 2 rfl rfl k rfl (by omega) (by decide) d_SM_add_166 ?_
  refine lv_aload_n hx hb d_SM_add_167 rfl (lv_at hl 3 rfl) ?_
  refine lv_iload_n hx hb d_SM_add_168 rfl (lv_at hl 4 rfl) ?_
  refine xr_calli (va_runV (As := [.int (nI k)]) (rest := [.int (fz k), .long s9, .ref h0]) ⟨hx, hb, hml, hown, hts⟩ (c_OB_upLessPrism l dC dI h1 qx qy qz qu qv qw qp qe no cw cp fw fp k (by first | assumption | omega | decide)) (cwV 1 hts (xgV wm_285 wm_286 wm_287 wm_29 wm_288) rfl rfl rfl (by decide +kernel) ⟨Nat.le_of_ble_eq_true rfl, Nat.le_of_ble_eq_true rfl⟩) ⟨xp_blind, va_recv hK hP (ci := 2) (q0 := 1) rfl rfl, fun U hU hW => ⟨rfl, hz.warm hW, by rw [hU]; exact hP.sub [1, 7, 8] rfl, va_K.moved hW.alike (hK.sub [5, 6] rfl)⟩⟩ rfl rfl hl.1 rfl (lv_room (Nat.le_of_ble_eq_true rfl)) d_SM_add_169 ⟨Nat.le_of_ble_eq_true rfl, Nat.le_of_ble_eq_true rfl⟩) (fun r_1 h_2 => ?_)
  subst h_2
  refine lv_isub hx hb d_SM_add_172 ?_
  refine lv_i2l (v := ((fz k) - (fw k - fp k)).toInt64) hx hb d_SM_add_173 rfl ?_
  refine lv_ladd hx hb d_SM_add_174 ?_
  refine va_put (D := (dC, dI)) (ci := 3) (v := .long (s9 + (((fz k) - (fw k - fp k)).toInt64))) (ty := .long) (C := xR_SM) (T := xT_SM) (N := 9) hx hb hts (fun w h => List.mem_cons_of_mem _ (iw_SM w h)) xt_SM xt_SM_ok xn_SM_nm hown hK hP hD hS 0 rfl rfl 8 (by decide) (hts _ (List.mem_cons_of_mem _ wm_156)) (fun _ h9 => h9) rfl (by decide +kernel) rfl rfl (Nat.le_of_ble_eq_true rfl) d_SM_add_175 (fun H locs hP hD hS => ?_)
  have hP : va_P (dC, dI) xCl [(h0, .inr (3, [.long (s1 + 1), .long (s2 + ((fx k).toInt64)), .long (s3 + ((fy k).toInt64)), .long (s4 + ((fu k).toInt64)), .long (s5 + ((fv k).toInt64)), .long (s6 + ((((fu k).toInt64) * ((fu k).toInt64)) + (((fv k).toInt64) * ((fv k).toInt64)))), .long (s7 + ((((fu k).toInt64) * ((fx k).toInt64)) + (((fv k).toInt64) * ((fy k).toInt64)))), .long (s8 + ((((fu k).toInt64) * ((fy k).toInt64)) - (((fv k).toInt64) * ((fx k).toInt64)))), .long (s9 + (((fz k) - (fw k - fp k)).toInt64))])), (h1, .inr (2, [.ref qx, .ref qy, .ref qz, .ref qu, .ref qv, .ref qw, .ref qp, .ref qe, .int (nI no)])), (qx, .inl (cx, 20, .inl fx)), (qy, .inl (cy, 20, .inl fy)), (qz, .inl (cz, 20, .inl fz)), (qu, .inl (cu, 20, .inl fu)), (qv, .inl (cv, 20, .inl fv)), (qw, .inl (cw, 20, .inl fw)), (qp, .inl (cp, 20, .inl fp))] H := hP
  have hD : va_D A [(h0, .inr (3, [.long (s1 + 1), .long (s2 + ((fx k).toInt64)), .long (s3 + ((fy k).toInt64)), .long (s4 + ((fu k).toInt64)), .long (s5 + ((fv k).toInt64)), .long (s6 + ((((fu k).toInt64) * ((fu k).toInt64)) + (((fv k).toInt64) * ((fv k).toInt64)))), .long (s7 + ((((fu k).toInt64) * ((fx k).toInt64)) + (((fv k).toInt64) * ((fy k).toInt64)))), .long (s8 + ((((fu k).toInt64) * ((fy k).toInt64)) - (((fv k).toInt64) * ((fx k).toInt64)))), .long (s9 + (((fz k) - (fw k - fp k)).toInt64))])), (h1, .inr (2, [.ref qx, .ref qy, .ref qz, .ref qu, .ref qv, .ref qw, .ref qp, .ref qe, .int (nI no)])), (qx, .inl (cx, 20, .inl fx)), (qy, .inl (cy, 20, .inl fy)), (qz, .inl (cz, 20, .inl fz)), (qu, .inl (cu, 20, .inl fu)), (qv, .inl (cv, 20, .inl fv)), (qw, .inl (cw, 20, .inl fw)), (qp, .inl (cp, 20, .inl fp))] := hD
  have hP9 := hP.sub (ws' := [(h0, .inr (3, [.long (s1 + 1), .long (s2 + ((fx k).toInt64)), .long (s3 + ((fy k).toInt64)), .long (s4 + ((fu k).toInt64)), .long (s5 + ((fv k).toInt64)), .long (s6 + ((((fu k).toInt64) * ((fu k).toInt64)) + (((fv k).toInt64) * ((fv k).toInt64)))), .long (s7 + ((((fu k).toInt64) * ((fx k).toInt64)) + (((fv k).toInt64) * ((fy k).toInt64)))), .long (s8 + ((((fu k).toInt64) * ((fy k).toInt64)) - (((fv k).toInt64) * ((fx k).toInt64)))), .long (s9 + (((fz k) - (fw k - fp k)).toInt64))])), (h1, .inr (2, [.ref qx, .ref qy, .ref qz, .ref qu, .ref qv, .ref qw, .ref qp, .ref qe, .int (nI no)])), (qx, .inl (cx, 20, .inl fx)), (qy, .inl (cy, 20, .inl fy)), (qz, .inl (cz, 20, .inl fz)), (qu, .inl (cu, 20, .inl fu)), (qv, .inl (cv, 20, .inl fv)), (qw, .inl (cw, 20, .inl fw)), (qp, .inl (cp, 20, .inl fp))]) [0, 1, 2, 3, 4, 5, 6, 7, 8] rfl
  have hD9 := hD.sub (ws' := [(h0, .inr (3, [.long (s1 + 1), .long (s2 + ((fx k).toInt64)), .long (s3 + ((fy k).toInt64)), .long (s4 + ((fu k).toInt64)), .long (s5 + ((fv k).toInt64)), .long (s6 + ((((fu k).toInt64) * ((fu k).toInt64)) + (((fv k).toInt64) * ((fv k).toInt64)))), .long (s7 + ((((fu k).toInt64) * ((fx k).toInt64)) + (((fv k).toInt64) * ((fy k).toInt64)))), .long (s8 + ((((fu k).toInt64) * ((fy k).toInt64)) - (((fv k).toInt64) * ((fx k).toInt64)))), .long (s9 + (((fz k) - (fw k - fp k)).toInt64))])), (h1, .inr (2, [.ref qx, .ref qy, .ref qz, .ref qu, .ref qv, .ref qw, .ref qp, .ref qe, .int (nI no)])), (qx, .inl (cx, 20, .inl fx)), (qy, .inl (cy, 20, .inl fy)), (qz, .inl (cz, 20, .inl fz)), (qu, .inl (cu, 20, .inl fu)), (qv, .inl (cv, 20, .inl fv)), (qw, .inl (cw, 20, .inl fw)), (qp, .inl (cp, 20, .inl fp))]) [0, 1, 2, 3, 4, 5, 6, 7, 8] (by decide) rfl
  have hK9 := hK.sub (tys' := [(cx, .int), (cy, .int), (cz, .int), (cu, .int), (cv, .int), (cw, .int), (cp, .int)]) [0, 1, 2, 3, 4, 5, 6] rfl
  exact W.vret hx hb hr (fun t ht hW => ⟨⟨(), rfl, trivial, ⟨by rw [ht]; exact hP9, va_K.moved hW.alike hK9, by exact hD9⟩⟩, hS.F ht⟩) hS.2.2 d_SM_add_178 hlocks
set_option maxHeartbeats 4000000 in
set_option maxRecDepth 100000 in
/-- Sums.addUp -/
theorem c_SM_addUp (l : Launch) (dC : Nat → ClassId) (dI : Nat → Nat → Nat) (sz : Nat) (h0 : Nat) (s1 : Int64) (s2 : Int64) (s3 : Int64) (s4 : Int64) (s5 : Int64) (s6 : Int64) (s7 : Int64) (s8 : Int64) (s9 : Int64) (h1 : Nat) (qx : Nat) (qy : Nat) (qz : Nat) (qu : Nat) (qv : Nat) (qw : Nat) (qp : Nat) (qe : Nat) (no : Nat) (cx : ClassId) (cy : ClassId) (cz : ClassId) (cu : ClassId) (cv : ClassId) (cw : ClassId) (cp : ClassId) (ce : ClassId) (fx : Nat → Int32) (fy : Nat → Int32) (fz : Nat → Int32) (fu : Nat → Int32) (fv : Nat → Int32) (fw : Nat → Int32) (fp : Nat → Int32) (fe : Nat → Int32) (hc : no ≤ 20) : Met l xy_SM_addUp xw_SM_addUp ({ frames := 2, cells := 0, slots := 0, locals := 47 }) (xp_w [.ref h0, .ref h1] sz (dC, dI) xCl [(h0, .inr (3, [.long s1, .long s2, .long s3, .long s4, .long s5, .long s6, .long s7, .long s8, .long s9])), (h1, .inr (2, [.ref qx, .ref qy, .ref qz, .ref qu, .ref qv, .ref qw, .ref qp, .ref qe, .int (nI no)])), (qx, .inl (cx, 20, .inl fx)), (qy, .inl (cy, 20, .inl fy)), (qz, .inl (cz, 20, .inl fz)), (qu, .inl (cu, 20, .inl fu)), (qv, .inl (cv, 20, .inl fv)), (qw, .inl (cw, 20, .inl fw)), (qp, .inl (cp, 20, .inl fp)), (qe, .inl (ce, 20, .inl fe))] [(cx, .int), (cy, .int), (cz, .int), (cu, .int), (cv, .int), (cw, .int), (cp, .int), (ce, .boolean)]) (va_Qv (fun (_ : Unit) => True) (fun _ t => xb_w (dC, dI) xCl [(h0, .inr (3, [.long (sr_sm fe (fun _ => 1) no), .long (sr_sm fe (sr_g2 fx) no), .long (sr_sm fe (sr_g3 fy) no), .long (sr_sm fe (sr_g4 fu) no), .long (sr_sm fe (sr_g5 fv) no), .long (sr_sm fe (sr_g6 fu fv) no), .long (sr_sm fe (sr_g7 fx fy fu fv) no), .long (sr_sm fe (sr_g8 fx fy fu fv) no), .long (sr_sm fe (sr_g9 fz fw fp) no)])), (h1, .inr (2, [.ref qx, .ref qy, .ref qz, .ref qu, .ref qv, .ref qw, .ref qp, .ref qe, .int (nI no)])), (qx, .inl (cx, 20, .inl fx)), (qy, .inl (cy, 20, .inl fy)), (qz, .inl (cz, 20, .inl fz)), (qu, .inl (cu, 20, .inl fu)), (qv, .inl (cv, 20, .inl fv)), (qw, .inl (cw, 20, .inl fw)), (qp, .inl (cp, 20, .inl fp)), (qe, .inl (ce, 20, .inl fe))] [(cx, .int), (cy, .int), (cz, .int), (cu, .int), (cv, .int), (cw, .int), (cp, .int), (ce, .boolean)] (va_A [(h0, .inr (3, [.long s1, .long s2, .long s3, .long s4, .long s5, .long s6, .long s7, .long s8, .long s9])), (h1, .inr (2, [.ref qx, .ref qy, .ref qz, .ref qu, .ref qv, .ref qw, .ref qp, .ref qe, .int (nI no)])), (qx, .inl (cx, 20, .inl fx)), (qy, .inl (cy, 20, .inl fy)), (qz, .inl (cz, 20, .inl fz)), (qu, .inl (cu, 20, .inl fu)), (qv, .inl (cv, 20, .inl fv)), (qw, .inl (cw, 20, .inl fw)), (qp, .inl (cp, 20, .inl fp)), (qe, .inl (ce, 20, .inl fe))] sz) t) (va_A [(h0, .inr (3, [.long s1, .long s2, .long s3, .long s4, .long s5, .long s6, .long s7, .long s8, .long s9])), (h1, .inr (2, [.ref qx, .ref qy, .ref qz, .ref qu, .ref qv, .ref qw, .ref qp, .ref qe, .int (nI no)])), (qx, .inl (cx, 20, .inl fx)), (qy, .inl (cy, 20, .inl fy)), (qz, .inl (cz, 20, .inl fz)), (qu, .inl (cu, 20, .inl fu)), (qv, .inl (cv, 20, .inl fv)), (qw, .inl (cw, 20, .inl fw)), (qp, .inl (cp, 20, .inl fp)), (qe, .inl (ce, 20, .inl fe))] sz)) 0 0 (va_A [(h0, .inr (3, [.long s1, .long s2, .long s3, .long s4, .long s5, .long s6, .long s7, .long s8, .long s9])), (h1, .inr (2, [.ref qx, .ref qy, .ref qz, .ref qu, .ref qv, .ref qw, .ref qp, .ref qe, .int (nI no)])), (qx, .inl (cx, 20, .inl fx)), (qy, .inl (cy, 20, .inl fy)), (qz, .inl (cz, 20, .inl fz)), (qu, .inl (cu, 20, .inl fu)), (qv, .inl (cv, 20, .inl fv)), (qw, .inl (cw, 20, .inl fw)), (qp, .inl (cp, 20, .inl fp)), (qe, .inl (ce, 20, .inl fe))] sz) := by
  refine Met.ofW (cc := prog_7_method_2_code) (maxL := 3) (ret := none) (by decide) rfl ?_
  intro p e s m args below meth c s₁ B hml hv
  obtain ⟨rfl, hsz, hz, hP, hK, hD0⟩ := hv
  have hx := B.exec
  have hb := B.bytes
  have hr := B.returns
  have hts := atoms_spec (ws := xw_SM_addUp) B.pre
  have hown : s.vm.findClass xR_SM = some m.cls := findClass_of_methodNamed B.named
  have hlocks := B.notSynchronized
  subst hsz
  have hD := hD0.self (sz := s.heap.size)
  generalize hAe : va_A [(h0, .inr (3, [.long s1, .long s2, .long s3, .long s4, .long s5, .long s6, .long s7, .long s8, .long s9])), (h1, .inr (2, [.ref qx, .ref qy, .ref qz, .ref qu, .ref qv, .ref qw, .ref qp, .ref qe, .int (nI no)])), (qx, .inl (cx, 20, .inl fx)), (qy, .inl (cy, 20, .inl fy)), (qz, .inl (cz, 20, .inl fz)), (qu, .inl (cu, 20, .inl fu)), (qv, .inl (cv, 20, .inl fv)), (qw, .inl (cw, 20, .inl fw)), (qp, .inl (cp, 20, .inl fp)), (qe, .inl (ce, 20, .inl fe))] s.heap.size = A at hD ⊢
  have hA : ∀ q : Nat, s.heap.size ≤ q → A q := fun q h => by rw [← hAe]; exact Or.inr h
  have hS : va_S A s.heap s.heap [] := va_S.rf
  have hP : va_P (dC, dI) xCl [(h0, .inr (3, [.long s1, .long s2, .long s3, .long s4, .long s5, .long s6, .long s7, .long s8, .long s9])), (h1, .inr (2, [.ref qx, .ref qy, .ref qz, .ref qu, .ref qv, .ref qw, .ref qp, .ref qe, .int (nI no)])), (qx, .inl (cx, 20, .inl fx)), (qy, .inl (cy, 20, .inl fy)), (qz, .inl (cz, 20, .inl fz)), (qu, .inl (cu, 20, .inl fu)), (qv, .inl (cv, 20, .inl fv)), (qw, .inl (cw, 20, .inl fw)), (qp, .inl (cp, 20, .inl fp)), (qe, .inl (ce, 20, .inl fe))] s.heap := hP
  have hl := lv_entry ([.ref h0, .ref h1]) (n := 3) (Nat.le_of_ble_eq_true rfl)
  rw [lg_entry_eq]
  generalize (lg_sl ([.ref h0, .ref h1]) ++ List.replicate (3 - (lg_sl ([.ref h0, .ref h1])).length) Slot.unset).toArray = ls at hl ⊢
  have hl : lv_has ls 3 [(0, .ref h0), (1, .ref h1)] := hl
  refine lv_aload_n hx hb d_SM_addUp_0 rfl (lv_at hl 0 rfl) ?_
  have hPc := hP.sub (ws' := [(h0, .inr (3, [.long s1, .long s2, .long s3, .long s4, .long s5, .long s6, .long s7, .long s8, .long s9]))]) [0] rfl
  have hDc := hD.sub (ws' := [(h0, .inr (3, [.long s1, .long s2, .long s3, .long s4, .long s5, .long s6, .long s7, .long s8, .long s9]))]) [0] (by decide) rfl
  have hKc := hK.sub (tys' := []) [] rfl
  have hFc := va_free (wc := [(h0, .inr (3, [.long s1, .long s2, .long s3, .long s4, .long s5, .long s6, .long s7, .long s8, .long s9]))]) hD hS hA [0] rfl
  refine va_callv (va_runV (As := []) (rest := []) ⟨hx, hb, hml, hown, hts⟩ (c_SM_clear l dC dI s.heap.size h0 s1 s2 s3 s4 s5 s6 s7 s8 s9) (cwV 0 hts (xgV wm_277 wm_279 wm_0 wm_31 wm_280) rfl rfl rfl (by decide +kernel) ⟨Nat.le_of_ble_eq_true rfl, Nat.le_of_ble_eq_true rfl⟩) ⟨xw_blind, va_recv hKc hPc (ci := 3) (q0 := 0) rfl rfl, fun U hU hW => ⟨rfl, by rw [hU], hz.warm hW, by rw [hU]; exact hPc, va_K.moved hW.alike hKc, hDc.weaken (fun _ _ _ _ => trivial)⟩⟩ rfl rfl hl.1 rfl (lv_room (Nat.le_of_ble_eq_true rfl)) d_SM_addUp_1 ⟨Nat.le_of_ble_eq_true rfl, Nat.le_of_ble_eq_true rfl⟩) hS (fun q _ h => hFc q h) hFc (fun _ t H1 locs ht hvm hw_2 hB hz1 hk1 hS => ?_)
  obtain ⟨hP1, hK1, hD1⟩ := hB
  rw [ht] at hP1
  have hK1 := va_K.moved hvm.symm hK1
  obtain ⟨hP, hD⟩ := va_join (wr := [(h1, .inr (2, [.ref qx, .ref qy, .ref qz, .ref qu, .ref qv, .ref qw, .ref qp, .ref qe, .int (nI no)])), (qx, .inl (cx, 20, .inl fx)), (qy, .inl (cy, 20, .inl fy)), (qz, .inl (cz, 20, .inl fz)), (qu, .inl (cu, 20, .inl fu)), (qv, .inl (cv, 20, .inl fv)), (qw, .inl (cw, 20, .inl fw)), (qp, .inl (cp, 20, .inl fp)), (qe, .inl (ce, 20, .inl fe))]) (w1 := [(h0, .inr (3, [.long 0, .long 0, .long 0, .long 0, .long 0, .long 0, .long 0, .long 0, .long 0]))]) hP hD [0] [1, 2, 3, 4, 5, 6, 7, 8, 9] rfl rfl (by decide) (by decide) hk1 hFc hP1 hD1
  generalize H1 = H at hP hS ⊢
  have hP : va_P (dC, dI) xCl [(h1, .inr (2, [.ref qx, .ref qy, .ref qz, .ref qu, .ref qv, .ref qw, .ref qp, .ref qe, .int (nI no)])), (qx, .inl (cx, 20, .inl fx)), (qy, .inl (cy, 20, .inl fy)), (qz, .inl (cz, 20, .inl fz)), (qu, .inl (cu, 20, .inl fu)), (qv, .inl (cv, 20, .inl fv)), (qw, .inl (cw, 20, .inl fw)), (qp, .inl (cp, 20, .inl fp)), (qe, .inl (ce, 20, .inl fe)), (h0, .inr (3, [.long 0, .long 0, .long 0, .long 0, .long 0, .long 0, .long 0, .long 0, .long 0]))] H := hP
  have hD : va_D A [(h1, .inr (2, [.ref qx, .ref qy, .ref qz, .ref qu, .ref qv, .ref qw, .ref qp, .ref qe, .int (nI no)])), (qx, .inl (cx, 20, .inl fx)), (qy, .inl (cy, 20, .inl fy)), (qz, .inl (cz, 20, .inl fz)), (qu, .inl (cu, 20, .inl fu)), (qv, .inl (cv, 20, .inl fv)), (qw, .inl (cw, 20, .inl fw)), (qp, .inl (cp, 20, .inl fp)), (qe, .inl (ce, 20, .inl fe)), (h0, .inr (3, [.long 0, .long 0, .long 0, .long 0, .long 0, .long 0, .long 0, .long 0, .long 0]))] := hD
  refine lv_iconst (v := 0) hx hb d_SM_addUp_4 (by decide) ?_
  refine lv_istore_n (lv' := [(2, .int 0), (0, .ref h0), (1, .ref h1)]) hx hb d_SM_addUp_5 rfl hl (by decide) rfl (fun ls hl => ?_)
  have lp6 : ∀ (fuel : Nat) (i : Nat) (y1 : Int64) (y2 : Int64) (y3 : Int64) (y4 : Int64) (y5 : Int64) (y6 : Int64) (y7 : Int64) (y8 : Int64) (y9 : Int64), no - i < fuel → i ≤ no → y1 = sr_sm fe (fun _ => 1) i → y2 = sr_sm fe (sr_g2 fx) i → y3 = sr_sm fe (sr_g3 fy) i → y4 = sr_sm fe (sr_g4 fu) i → y5 = sr_sm fe (sr_g5 fv) i → y6 = sr_sm fe (sr_g6 fu fv) i → y7 = sr_sm fe (sr_g7 fx fy fu fv) i → y8 = sr_sm fe (sr_g8 fx fy fu fv) i → y9 = sr_sm fe (sr_g9 fz fw fp) i → ∀ (H : Heap) (locs : List Loc), va_P (dC, dI) xCl [(h0, .inr (3, [.long y1, .long y2, .long y3, .long y4, .long y5, .long y6, .long y7, .long y8, .long y9])), (h1, .inr (2, [.ref qx, .ref qy, .ref qz, .ref qu, .ref qv, .ref qw, .ref qp, .ref qe, .int (nI no)])), (qx, .inl (cx, 20, .inl fx)), (qy, .inl (cy, 20, .inl fy)), (qz, .inl (cz, 20, .inl fz)), (qu, .inl (cu, 20, .inl fu)), (qv, .inl (cv, 20, .inl fv)), (qw, .inl (cw, 20, .inl fw)), (qp, .inl (cp, 20, .inl fp)), (qe, .inl (ce, 20, .inl fe))] H → va_D A [(h0, .inr (3, [.long y1, .long y2, .long y3, .long y4, .long y5, .long y6, .long y7, .long y8, .long y9])), (h1, .inr (2, [.ref qx, .ref qy, .ref qz, .ref qu, .ref qv, .ref qw, .ref qp, .ref qe, .int (nI no)])), (qx, .inl (cx, 20, .inl fx)), (qy, .inl (cy, 20, .inl fy)), (qz, .inl (cz, 20, .inl fz)), (qu, .inl (cu, 20, .inl fu)), (qv, .inl (cv, 20, .inl fv)), (qw, .inl (cw, 20, .inl fw)), (qp, .inl (cp, 20, .inl fp)), (qe, .inl (ce, 20, .inl fe))] → va_S A s.heap H locs → ∀ (ls : Array Slot), lv_has ls 3 [(0, .ref h0), (1, .ref h1), (2, .int (nI i))] → W p l e (headSpec xw_SM_addUp ({ frames := 2, cells := 0, slots := 0, locals := 47 })).room s m ([.ref h0, .ref h1] : List Value).toArray below meth c H locs 0 0 (MQ below (va_Qv (fun (_ : Unit) => True) (fun _ t => xb_w (dC, dI) xCl [(h0, .inr (3, [.long (sr_sm fe (fun _ => 1) no), .long (sr_sm fe (sr_g2 fx) no), .long (sr_sm fe (sr_g3 fy) no), .long (sr_sm fe (sr_g4 fu) no), .long (sr_sm fe (sr_g5 fv) no), .long (sr_sm fe (sr_g6 fu fv) no), .long (sr_sm fe (sr_g7 fx fy fu fv) no), .long (sr_sm fe (sr_g8 fx fy fu fv) no), .long (sr_sm fe (sr_g9 fz fw fp) no)])), (h1, .inr (2, [.ref qx, .ref qy, .ref qz, .ref qu, .ref qv, .ref qw, .ref qp, .ref qe, .int (nI no)])), (qx, .inl (cx, 20, .inl fx)), (qy, .inl (cy, 20, .inl fy)), (qz, .inl (cz, 20, .inl fz)), (qu, .inl (cu, 20, .inl fu)), (qv, .inl (cv, 20, .inl fv)), (qw, .inl (cw, 20, .inl fw)), (qp, .inl (cp, 20, .inl fp)), (qe, .inl (ce, 20, .inl fe))] [(cx, .int), (cy, .int), (cz, .int), (cu, .int), (cv, .int), (cw, .int), (cp, .int), (ce, .boolean)] A t) A) ([.ref h0, .ref h1] : List Value).toArray s 0 0 A) (F0 m 6 ls []) := by
    intro fuel
    induction fuel with
    | zero => intro i y1 y2 y3 y4 y5 y6 y7 y8 y9 hfu; exact absurd hfu (Nat.not_lt_zero _)
    | succ fuel ih =>
      intro i y1 y2 y3 y4 y5 y6 y7 y8 y9 hfu hi hy1 hy2 hy3 hy4 hy5 hy6 hy7 hy8 hy9 H locs hP hD hS ls hl
      subst hy1
      subst hy2
      subst hy3
      subst hy4
      subst hy5
      subst hy6
      subst hy7
      subst hy8
      subst hy9
      refine lv_iload_n hx hb d_SM_addUp_6 rfl (lv_at hl 2 rfl) ?_
      refine lv_aload_n hx hb d_SM_addUp_7 rfl (lv_at hl 1 rfl) ?_
      refine va_get (D := (dC, dI)) (ci := 2) (v := .int (nI no)) (C := xR_OB) (T := xT_OB) (N := 9) hx hb hts (fun w h => List.mem_cons_of_mem _ (iw_OB w h)) hown hK hP 1 rfl rfl 8 (by decide) (hts _ (List.mem_cons_of_mem _ wm_108)) (fun _ h9 => h9) rfl d_SM_addUp_8 ?_
      refine lv_icmp_ge (tgt := 35) hx hb d_SM_addUp_11 (by decide) (fun c_3 => ?_) (fun c_3 => ?_)
      · have n_4 := xn_le (a := no) (b := i) c_3 rfl rfl (by omega) (by omega)
        have e9 : i = no := by omega
        rw [e9] at hP hD
        have hP9 := hP.sub (ws' := [(h0, .inr (3, [.long (sr_sm fe (fun _ => 1) no), .long (sr_sm fe (sr_g2 fx) no), .long (sr_sm fe (sr_g3 fy) no), .long (sr_sm fe (sr_g4 fu) no), .long (sr_sm fe (sr_g5 fv) no), .long (sr_sm fe (sr_g6 fu fv) no), .long (sr_sm fe (sr_g7 fx fy fu fv) no), .long (sr_sm fe (sr_g8 fx fy fu fv) no), .long (sr_sm fe (sr_g9 fz fw fp) no)])), (h1, .inr (2, [.ref qx, .ref qy, .ref qz, .ref qu, .ref qv, .ref qw, .ref qp, .ref qe, .int (nI no)])), (qx, .inl (cx, 20, .inl fx)), (qy, .inl (cy, 20, .inl fy)), (qz, .inl (cz, 20, .inl fz)), (qu, .inl (cu, 20, .inl fu)), (qv, .inl (cv, 20, .inl fv)), (qw, .inl (cw, 20, .inl fw)), (qp, .inl (cp, 20, .inl fp)), (qe, .inl (ce, 20, .inl fe))]) [0, 1, 2, 3, 4, 5, 6, 7, 8, 9] rfl
        have hD9 := hD.sub (ws' := [(h0, .inr (3, [.long (sr_sm fe (fun _ => 1) no), .long (sr_sm fe (sr_g2 fx) no), .long (sr_sm fe (sr_g3 fy) no), .long (sr_sm fe (sr_g4 fu) no), .long (sr_sm fe (sr_g5 fv) no), .long (sr_sm fe (sr_g6 fu fv) no), .long (sr_sm fe (sr_g7 fx fy fu fv) no), .long (sr_sm fe (sr_g8 fx fy fu fv) no), .long (sr_sm fe (sr_g9 fz fw fp) no)])), (h1, .inr (2, [.ref qx, .ref qy, .ref qz, .ref qu, .ref qv, .ref qw, .ref qp, .ref qe, .int (nI no)])), (qx, .inl (cx, 20, .inl fx)), (qy, .inl (cy, 20, .inl fy)), (qz, .inl (cz, 20, .inl fz)), (qu, .inl (cu, 20, .inl fu)), (qv, .inl (cv, 20, .inl fv)), (qw, .inl (cw, 20, .inl fw)), (qp, .inl (cp, 20, .inl fp)), (qe, .inl (ce, 20, .inl fe))]) [0, 1, 2, 3, 4, 5, 6, 7, 8, 9] (by decide) rfl
        have hK9 := hK.sub (tys' := [(cx, .int), (cy, .int), (cz, .int), (cu, .int), (cv, .int), (cw, .int), (cp, .int), (ce, .boolean)]) [0, 1, 2, 3, 4, 5, 6, 7] rfl
        exact W.vret hx hb hr (fun t ht hW => ⟨⟨(), rfl, trivial, ⟨by rw [ht]; exact hP9, va_K.moved hW.alike hK9, by exact hD9⟩⟩, hS.F ht⟩) hS.2.2 d_SM_addUp_35 hlocks
      · have n_5 := xn_nle (a := no) (b := i) c_3 rfl rfl (by omega) (by omega)
        refine lv_aload_n hx hb d_SM_addUp_14 rfl (lv_at hl 1 rfl) ?_
        refine va_get (D := (dC, dI)) (ci := 2) (v := .ref qe) (C := xR_OB) (T := xT_OB) (N := 9) hx hb hts (fun w h => List.mem_cons_of_mem _ (iw_OB w h)) hown hK hP 1 rfl rfl 7 (by decide) (hts _ (List.mem_cons_of_mem _ wm_104)) (fun _ h9 => h9) rfl d_SM_addUp_15 ?_
        refine lv_iload_n hx hb d_SM_addUp_18 rfl (lv_at hl 2 rfl) ?_
        refine xa_zald hx hb hK hP 9 7 rfl rfl i rfl (by omega) (by decide) d_SM_addUp_19 ?_
        refine lv_if_eq (tgt := 29) hx hb d_SM_addUp_20 (by decide) (fun c_6 => ?_) (fun c_6 => ?_)
        · refine lv_iinc (v := nI (i + 1)) (lv' := [(2, .int (nI (i + 1))), (0, .ref h0), (1, .ref h1)]) hx hb d_SM_addUp_29 hl (k := 2) rfl (nI_1 _) (by decide) rfl (fun ls hl => ?_)
          refine lv_goto (tgt := 6) hx hb d_SM_addUp_32 (by decide) ?_
          exact ih  (i + 1) (sr_sm fe (fun _ => 1) i) (sr_sm fe (sr_g2 fx) i) (sr_sm fe (sr_g3 fy) i) (sr_sm fe (sr_g4 fu) i) (sr_sm fe (sr_g5 fv) i) (sr_sm fe (sr_g6 fu fv) i) (sr_sm fe (sr_g7 fx fy fu fv) i) (sr_sm fe (sr_g8 fx fy fu fv) i) (sr_sm fe (sr_g9 fz fw fp) i) (by omega) (by omega) ((sr_sm_f c_6).symm) ((sr_sm_f c_6).symm) ((sr_sm_f c_6).symm) ((sr_sm_f c_6).symm) ((sr_sm_f c_6).symm) ((sr_sm_f c_6).symm) ((sr_sm_f c_6).symm) ((sr_sm_f c_6).symm) ((sr_sm_f c_6).symm) _ _ (hP.sub [0, 1, 2, 3, 4, 5, 6, 7, 8, 9] rfl) (hD.sub [0, 1, 2, 3, 4, 5, 6, 7, 8, 9] (by decide) rfl) hS ls (lv_sub hl [1, 2, 0] rfl)
        · refine lv_aload_n hx hb d_SM_addUp_23 rfl (lv_at hl 0 rfl) ?_
          refine lv_aload_n hx hb d_SM_addUp_24 rfl (lv_at hl 1 rfl) ?_
          refine lv_iload_n hx hb d_SM_addUp_25 rfl (lv_at hl 2 rfl) ?_
          have hPc := hP.sub (ws' := [(h0, .inr (3, [.long (sr_sm fe (fun _ => 1) i), .long (sr_sm fe (sr_g2 fx) i), .long (sr_sm fe (sr_g3 fy) i), .long (sr_sm fe (sr_g4 fu) i), .long (sr_sm fe (sr_g5 fv) i), .long (sr_sm fe (sr_g6 fu fv) i), .long (sr_sm fe (sr_g7 fx fy fu fv) i), .long (sr_sm fe (sr_g8 fx fy fu fv) i), .long (sr_sm fe (sr_g9 fz fw fp) i)])), (h1, .inr (2, [.ref qx, .ref qy, .ref qz, .ref qu, .ref qv, .ref qw, .ref qp, .ref qe, .int (nI no)])), (qx, .inl (cx, 20, .inl fx)), (qy, .inl (cy, 20, .inl fy)), (qz, .inl (cz, 20, .inl fz)), (qu, .inl (cu, 20, .inl fu)), (qv, .inl (cv, 20, .inl fv)), (qw, .inl (cw, 20, .inl fw)), (qp, .inl (cp, 20, .inl fp))]) [0, 1, 2, 3, 4, 5, 6, 7, 8] rfl
          have hDc := hD.sub (ws' := [(h0, .inr (3, [.long (sr_sm fe (fun _ => 1) i), .long (sr_sm fe (sr_g2 fx) i), .long (sr_sm fe (sr_g3 fy) i), .long (sr_sm fe (sr_g4 fu) i), .long (sr_sm fe (sr_g5 fv) i), .long (sr_sm fe (sr_g6 fu fv) i), .long (sr_sm fe (sr_g7 fx fy fu fv) i), .long (sr_sm fe (sr_g8 fx fy fu fv) i), .long (sr_sm fe (sr_g9 fz fw fp) i)])), (h1, .inr (2, [.ref qx, .ref qy, .ref qz, .ref qu, .ref qv, .ref qw, .ref qp, .ref qe, .int (nI no)])), (qx, .inl (cx, 20, .inl fx)), (qy, .inl (cy, 20, .inl fy)), (qz, .inl (cz, 20, .inl fz)), (qu, .inl (cu, 20, .inl fu)), (qv, .inl (cv, 20, .inl fv)), (qw, .inl (cw, 20, .inl fw)), (qp, .inl (cp, 20, .inl fp))]) [0, 1, 2, 3, 4, 5, 6, 7, 8] (by decide) rfl
          have hKc := hK.sub (tys' := [(cx, .int), (cy, .int), (cz, .int), (cu, .int), (cv, .int), (cw, .int), (cp, .int)]) [0, 1, 2, 3, 4, 5, 6] rfl
          have hFc := va_free (wc := [(h0, .inr (3, [.long (sr_sm fe (fun _ => 1) i), .long (sr_sm fe (sr_g2 fx) i), .long (sr_sm fe (sr_g3 fy) i), .long (sr_sm fe (sr_g4 fu) i), .long (sr_sm fe (sr_g5 fv) i), .long (sr_sm fe (sr_g6 fu fv) i), .long (sr_sm fe (sr_g7 fx fy fu fv) i), .long (sr_sm fe (sr_g8 fx fy fu fv) i), .long (sr_sm fe (sr_g9 fz fw fp) i)])), (h1, .inr (2, [.ref qx, .ref qy, .ref qz, .ref qu, .ref qv, .ref qw, .ref qp, .ref qe, .int (nI no)])), (qx, .inl (cx, 20, .inl fx)), (qy, .inl (cy, 20, .inl fy)), (qz, .inl (cz, 20, .inl fz)), (qu, .inl (cu, 20, .inl fu)), (qv, .inl (cv, 20, .inl fv)), (qw, .inl (cw, 20, .inl fw)), (qp, .inl (cp, 20, .inl fp))]) hD hS hA [0, 1, 2, 3, 4, 5, 6, 7, 8] rfl
          refine va_callv (va_runV (As := [.ref h1, .int (nI i)]) (rest := []) ⟨hx, hb, hml, hown, hts⟩ (c_SM_add l dC dI H.size h0 (sr_sm fe (fun _ => 1) i) (sr_sm fe (sr_g2 fx) i) (sr_sm fe (sr_g3 fy) i) (sr_sm fe (sr_g4 fu) i) (sr_sm fe (sr_g5 fv) i) (sr_sm fe (sr_g6 fu fv) i) (sr_sm fe (sr_g7 fx fy fu fv) i) (sr_sm fe (sr_g8 fx fy fu fv) i) (sr_sm fe (sr_g9 fz fw fp) i) h1 qx qy qz qu qv qw qp qe no cx cy cz cu cv cw cp fx fy fz fu fv fw fp i (by first | assumption | omega | decide)) (cwV 2 hts (xgV wm_281 wm_283 wm_1 wm_31 wm_284) rfl rfl rfl (by decide +kernel) ⟨Nat.le_of_ble_eq_true rfl, Nat.le_of_ble_eq_true rfl⟩) ⟨xw_blind, va_recv hKc hPc (ci := 3) (q0 := 0) rfl rfl, fun U hU hW => ⟨rfl, by rw [hU], hz.warm hW, by rw [hU]; exact hPc, va_K.moved hW.alike hKc, hDc.weaken (fun _ _ _ _ => trivial)⟩⟩ rfl rfl hl.1 rfl (lv_room (Nat.le_of_ble_eq_true rfl)) d_SM_addUp_26 ⟨Nat.le_of_ble_eq_true rfl, Nat.le_of_ble_eq_true rfl⟩) hS (fun q _ h => hFc q h) hFc (fun _ t H1 locs ht hvm hw_8 hB hz1 hk1 hS => ?_)
          obtain ⟨hP1, hK1, hD1⟩ := hB
          rw [ht] at hP1
          have hK1 := va_K.moved hvm.symm hK1
          obtain ⟨hP, hD⟩ := va_join (wr := [(qe, .inl (ce, 20, .inl fe))]) (w1 := [(h0, .inr (3, [.long ((sr_sm fe (fun _ => 1) i) + 1), .long ((sr_sm fe (sr_g2 fx) i) + ((fx i).toInt64)), .long ((sr_sm fe (sr_g3 fy) i) + ((fy i).toInt64)), .long ((sr_sm fe (sr_g4 fu) i) + ((fu i).toInt64)), .long ((sr_sm fe (sr_g5 fv) i) + ((fv i).toInt64)), .long ((sr_sm fe (sr_g6 fu fv) i) + (((fu i).toInt64 * (fu i).toInt64) + ((fv i).toInt64 * (fv i).toInt64))), .long ((sr_sm fe (sr_g7 fx fy fu fv) i) + (((fu i).toInt64 * (fx i).toInt64) + ((fv i).toInt64 * (fy i).toInt64))), .long ((sr_sm fe (sr_g8 fx fy fu fv) i) + (((fu i).toInt64 * (fy i).toInt64) - ((fv i).toInt64 * (fx i).toInt64))), .long ((sr_sm fe (sr_g9 fz fw fp) i) + ((fz i - (fw i - fp i)).toInt64))])), (h1, .inr (2, [.ref qx, .ref qy, .ref qz, .ref qu, .ref qv, .ref qw, .ref qp, .ref qe, .int (nI no)])), (qx, .inl (cx, 20, .inl fx)), (qy, .inl (cy, 20, .inl fy)), (qz, .inl (cz, 20, .inl fz)), (qu, .inl (cu, 20, .inl fu)), (qv, .inl (cv, 20, .inl fv)), (qw, .inl (cw, 20, .inl fw)), (qp, .inl (cp, 20, .inl fp))]) hP hD [0, 1, 2, 3, 4, 5, 6, 7, 8] [9] rfl rfl (by decide) (by decide) hk1 hFc hP1 hD1
          generalize H1 = H at hP hS ⊢
          have hP : va_P (dC, dI) xCl [(qe, .inl (ce, 20, .inl fe)), (h0, .inr (3, [.long ((sr_sm fe (fun _ => 1) i) + 1), .long ((sr_sm fe (sr_g2 fx) i) + ((fx i).toInt64)), .long ((sr_sm fe (sr_g3 fy) i) + ((fy i).toInt64)), .long ((sr_sm fe (sr_g4 fu) i) + ((fu i).toInt64)), .long ((sr_sm fe (sr_g5 fv) i) + ((fv i).toInt64)), .long ((sr_sm fe (sr_g6 fu fv) i) + (((fu i).toInt64 * (fu i).toInt64) + ((fv i).toInt64 * (fv i).toInt64))), .long ((sr_sm fe (sr_g7 fx fy fu fv) i) + (((fu i).toInt64 * (fx i).toInt64) + ((fv i).toInt64 * (fy i).toInt64))), .long ((sr_sm fe (sr_g8 fx fy fu fv) i) + (((fu i).toInt64 * (fy i).toInt64) - ((fv i).toInt64 * (fx i).toInt64))), .long ((sr_sm fe (sr_g9 fz fw fp) i) + ((fz i - (fw i - fp i)).toInt64))])), (h1, .inr (2, [.ref qx, .ref qy, .ref qz, .ref qu, .ref qv, .ref qw, .ref qp, .ref qe, .int (nI no)])), (qx, .inl (cx, 20, .inl fx)), (qy, .inl (cy, 20, .inl fy)), (qz, .inl (cz, 20, .inl fz)), (qu, .inl (cu, 20, .inl fu)), (qv, .inl (cv, 20, .inl fv)), (qw, .inl (cw, 20, .inl fw)), (qp, .inl (cp, 20, .inl fp))] H := hP
          have hD : va_D A [(qe, .inl (ce, 20, .inl fe)), (h0, .inr (3, [.long ((sr_sm fe (fun _ => 1) i) + 1), .long ((sr_sm fe (sr_g2 fx) i) + ((fx i).toInt64)), .long ((sr_sm fe (sr_g3 fy) i) + ((fy i).toInt64)), .long ((sr_sm fe (sr_g4 fu) i) + ((fu i).toInt64)), .long ((sr_sm fe (sr_g5 fv) i) + ((fv i).toInt64)), .long ((sr_sm fe (sr_g6 fu fv) i) + (((fu i).toInt64 * (fu i).toInt64) + ((fv i).toInt64 * (fv i).toInt64))), .long ((sr_sm fe (sr_g7 fx fy fu fv) i) + (((fu i).toInt64 * (fx i).toInt64) + ((fv i).toInt64 * (fy i).toInt64))), .long ((sr_sm fe (sr_g8 fx fy fu fv) i) + (((fu i).toInt64 * (fy i).toInt64) - ((fv i).toInt64 * (fx i).toInt64))), .long ((sr_sm fe (sr_g9 fz fw fp) i) + ((fz i - (fw i - fp i)).toInt64))])), (h1, .inr (2, [.ref qx, .ref qy, .ref qz, .ref qu, .ref qv, .ref qw, .ref qp, .ref qe, .int (nI no)])), (qx, .inl (cx, 20, .inl fx)), (qy, .inl (cy, 20, .inl fy)), (qz, .inl (cz, 20, .inl fz)), (qu, .inl (cu, 20, .inl fu)), (qv, .inl (cv, 20, .inl fv)), (qw, .inl (cw, 20, .inl fw)), (qp, .inl (cp, 20, .inl fp))] := hD
          refine lv_iinc (v := nI (i + 1)) (lv' := [(2, .int (nI (i + 1))), (0, .ref h0), (1, .ref h1)]) hx hb d_SM_addUp_29 hl (k := 2) rfl (nI_1 _) (by decide) rfl (fun ls hl => ?_)
          refine lv_goto (tgt := 6) hx hb d_SM_addUp_32 (by decide) ?_
          exact ih  (i + 1) ((sr_sm fe (fun _ => 1) i) + 1) ((sr_sm fe (sr_g2 fx) i) + ((fx i).toInt64)) ((sr_sm fe (sr_g3 fy) i) + ((fy i).toInt64)) ((sr_sm fe (sr_g4 fu) i) + ((fu i).toInt64)) ((sr_sm fe (sr_g5 fv) i) + ((fv i).toInt64)) ((sr_sm fe (sr_g6 fu fv) i) + (((fu i).toInt64 * (fu i).toInt64) + ((fv i).toInt64 * (fv i).toInt64))) ((sr_sm fe (sr_g7 fx fy fu fv) i) + (((fu i).toInt64 * (fx i).toInt64) + ((fv i).toInt64 * (fy i).toInt64))) ((sr_sm fe (sr_g8 fx fy fu fv) i) + (((fu i).toInt64 * (fy i).toInt64) - ((fv i).toInt64 * (fx i).toInt64))) ((sr_sm fe (sr_g9 fz fw fp) i) + ((fz i - (fw i - fp i)).toInt64)) (by omega) (by omega) ((sr_sm_t c_6).symm) ((sr_sm_t c_6).symm) ((sr_sm_t c_6).symm) ((sr_sm_t c_6).symm) ((sr_sm_t c_6).symm) ((sr_sm_t c_6).symm) ((sr_sm_t c_6).symm) ((sr_sm_t c_6).symm) ((sr_sm_t c_6).symm) _ _ (hP.sub [1, 2, 3, 4, 5, 6, 7, 8, 9, 0] rfl) (hD.sub [1, 2, 3, 4, 5, 6, 7, 8, 9, 0] (by decide) rfl) hS ls (lv_sub hl [1, 2, 0] rfl)
  exact lp6 (no - 0 + 1) 0 0 0 0 0 0 0 0 0 0 (by omega) (Nat.zero_le _) rfl rfl rfl rfl rfl rfl rfl rfl rfl _ _ (hP.sub [9, 0, 1, 2, 3, 4, 5, 6, 7, 8] rfl) (hD.sub [9, 0, 1, 2, 3, 4, 5, 6, 7, 8] (by decide) rfl) hS ls (lv_sub hl [1, 2, 0] rfl)
set_option maxHeartbeats 4000000 in
set_option maxRecDepth 100000 in
/-- Sums.spread -/
theorem c_SM_spread (l : Launch) (dC : Nat → ClassId) (dI : Nat → Nat → Nat) (h0 : Nat) (s1 : Int64) (s2 : Int64) (s3 : Int64) (s4 : Int64) (s5 : Int64) (s6 : Int64) (s7 : Int64) (s8 : Int64) (s9 : Int64)  : Met l xy_SM_spread xw_SM_spread ({ frames := 0, cells := 0, slots := 0, locals := 0 }) (xp_r [.ref h0] (dC, dI) xCl [(h0, .inr (3, [.long s1, .long s2, .long s3, .long s4, .long s5, .long s6, .long s7, .long s8, .long s9]))] []) (xr_l (fun r => r = sr_spread s1 s4 s5 s6)) 0 0 (fun _ => False) := by
  refine Met.ofW (cc := prog_7_method_5_code) (maxL := 1) (ret := (some .long)) (by decide) rfl ?_
  intro p e s m args below meth c s₁ B hml hv
  obtain ⟨rfl, hz, hP, hK⟩ := hv
  have hx := B.exec
  have hb := B.bytes
  have hr := B.returns
  have hts := atoms_spec (ws := xw_SM_spread) B.pre
  have hown : s.vm.findClass xR_SM = some m.cls := findClass_of_methodNamed B.named
  have hlocks := B.notSynchronized
  have hP : va_P (dC, dI) xCl [(h0, .inr (3, [.long s1, .long s2, .long s3, .long s4, .long s5, .long s6, .long s7, .long s8, .long s9]))] s.heap := hP
  have hl := lv_entry ([.ref h0]) (n := 1) (Nat.le_of_ble_eq_true rfl)
  rw [lg_entry_eq]
  generalize (lg_sl ([.ref h0]) ++ List.replicate (1 - (lg_sl ([.ref h0])).length) Slot.unset).toArray = ls at hl ⊢
  have hl : lv_has ls 1 [(0, .ref h0)] := hl
  refine lv_aload_n hx hb d_SM_spread_0 rfl (lv_at hl 0 rfl) ?_
  refine va_get (D := (dC, dI)) (ci := 3) (v := .long s1) (C := xR_SM) (T := xT_SM) (N := 9) hx hb hts (fun w h => List.mem_cons_of_mem _ (iw_SM w h)) hown hK hP 0 rfl rfl 0 (by decide) (hts _ (List.mem_cons_of_mem _ wm_143)) (fun _ h9 => h9) rfl d_SM_spread_1 ?_
  refine lv_aload_n hx hb d_SM_spread_4 rfl (lv_at hl 0 rfl) ?_
  refine va_get (D := (dC, dI)) (ci := 3) (v := .long s6) (C := xR_SM) (T := xT_SM) (N := 9) hx hb hts (fun w h => List.mem_cons_of_mem _ (iw_SM w h)) hown hK hP 0 rfl rfl 5 (by decide) (hts _ (List.mem_cons_of_mem _ wm_153)) (fun _ h9 => h9) rfl d_SM_spread_5 ?_
  refine lv_lmul hx hb d_SM_spread_8 ?_
  refine lv_aload_n hx hb d_SM_spread_9 rfl (lv_at hl 0 rfl) ?_
  refine va_get (D := (dC, dI)) (ci := 3) (v := .long s4) (C := xR_SM) (T := xT_SM) (N := 9) hx hb hts (fun w h => List.mem_cons_of_mem _ (iw_SM w h)) hown hK hP 0 rfl rfl 3 (by decide) (hts _ (List.mem_cons_of_mem _ wm_149)) (fun _ h9 => h9) rfl d_SM_spread_10 ?_
  refine lv_aload_n hx hb d_SM_spread_13 rfl (lv_at hl 0 rfl) ?_
  refine va_get (D := (dC, dI)) (ci := 3) (v := .long s4) (C := xR_SM) (T := xT_SM) (N := 9) hx hb hts (fun w h => List.mem_cons_of_mem _ (iw_SM w h)) hown hK hP 0 rfl rfl 3 (by decide) (hts _ (List.mem_cons_of_mem _ wm_149)) (fun _ h9 => h9) rfl d_SM_spread_14 ?_
  refine lv_lmul hx hb d_SM_spread_17 ?_
  refine lv_lsub hx hb d_SM_spread_18 ?_
  refine lv_aload_n hx hb d_SM_spread_19 rfl (lv_at hl 0 rfl) ?_
  refine va_get (D := (dC, dI)) (ci := 3) (v := .long s5) (C := xR_SM) (T := xT_SM) (N := 9) hx hb hts (fun w h => List.mem_cons_of_mem _ (iw_SM w h)) hown hK hP 0 rfl rfl 4 (by decide) (hts _ (List.mem_cons_of_mem _ wm_151)) (fun _ h9 => h9) rfl d_SM_spread_20 ?_
  refine lv_aload_n hx hb d_SM_spread_23 rfl (lv_at hl 0 rfl) ?_
  refine va_get (D := (dC, dI)) (ci := 3) (v := .long s5) (C := xR_SM) (T := xT_SM) (N := 9) hx hb hts (fun w h => List.mem_cons_of_mem _ (iw_SM w h)) hown hK hP 0 rfl rfl 4 (by decide) (hts _ (List.mem_cons_of_mem _ wm_151)) (fun _ h9 => h9) rfl d_SM_spread_24 ?_
  refine lv_lmul hx hb d_SM_spread_27 ?_
  refine lv_lsub hx hb d_SM_spread_28 ?_
  exact xr_lret (v := ((s1 * s6) - (s4 * s4)) - (s5 * s5)) hx hb hr (by exact rfl) d_SM_spread_29 hlocks
set_option maxHeartbeats 4000000 in
set_option maxRecDepth 100000 in
/-- Sums.cosine -/
theorem c_SM_cosine (l : Launch) (dC : Nat → ClassId) (dI : Nat → Nat → Nat) (h0 : Nat) (s1 : Int64) (s2 : Int64) (s3 : Int64) (s4 : Int64) (s5 : Int64) (s6 : Int64) (s7 : Int64) (s8 : Int64) (s9 : Int64)  : Met l xy_SM_cosine xw_SM_cosine ({ frames := 0, cells := 0, slots := 0, locals := 0 }) (xp_r [.ref h0] (dC, dI) xCl [(h0, .inr (3, [.long s1, .long s2, .long s3, .long s4, .long s5, .long s6, .long s7, .long s8, .long s9]))] []) (xr_l (fun r => r = sr_cosine s1 s2 s3 s4 s5 s7)) 0 0 (fun _ => False) := by
  refine Met.ofW (cc := prog_7_method_6_code) (maxL := 1) (ret := (some .long)) (by decide) rfl ?_
  intro p e s m args below meth c s₁ B hml hv
  obtain ⟨rfl, hz, hP, hK⟩ := hv
  have hx := B.exec
  have hb := B.bytes
  have hr := B.returns
  have hts := atoms_spec (ws := xw_SM_cosine) B.pre
  have hown : s.vm.findClass xR_SM = some m.cls := findClass_of_methodNamed B.named
  have hlocks := B.notSynchronized
  have hP : va_P (dC, dI) xCl [(h0, .inr (3, [.long s1, .long s2, .long s3, .long s4, .long s5, .long s6, .long s7, .long s8, .long s9]))] s.heap := hP
  have hl := lv_entry ([.ref h0]) (n := 1) (Nat.le_of_ble_eq_true rfl)
  rw [lg_entry_eq]
  generalize (lg_sl ([.ref h0]) ++ List.replicate (1 - (lg_sl ([.ref h0])).length) Slot.unset).toArray = ls at hl ⊢
  have hl : lv_has ls 1 [(0, .ref h0)] := hl
  refine lv_aload_n hx hb d_SM_cosine_0 rfl (lv_at hl 0 rfl) ?_
  refine va_get (D := (dC, dI)) (ci := 3) (v := .long s1) (C := xR_SM) (T := xT_SM) (N := 9) hx hb hts (fun w h => List.mem_cons_of_mem _ (iw_SM w h)) hown hK hP 0 rfl rfl 0 (by decide) (hts _ (List.mem_cons_of_mem _ wm_143)) (fun _ h9 => h9) rfl d_SM_cosine_1 ?_
  refine lv_aload_n hx hb d_SM_cosine_4 rfl (lv_at hl 0 rfl) ?_
  refine va_get (D := (dC, dI)) (ci := 3) (v := .long s7) (C := xR_SM) (T := xT_SM) (N := 9) hx hb hts (fun w h => List.mem_cons_of_mem _ (iw_SM w h)) hown hK hP 0 rfl rfl 6 (by decide) (hts _ (List.mem_cons_of_mem _ wm_154)) (fun _ h9 => h9) rfl d_SM_cosine_5 ?_
  refine lv_lmul hx hb d_SM_cosine_8 ?_
  refine lv_aload_n hx hb d_SM_cosine_9 rfl (lv_at hl 0 rfl) ?_
  refine va_get (D := (dC, dI)) (ci := 3) (v := .long s4) (C := xR_SM) (T := xT_SM) (N := 9) hx hb hts (fun w h => List.mem_cons_of_mem _ (iw_SM w h)) hown hK hP 0 rfl rfl 3 (by decide) (hts _ (List.mem_cons_of_mem _ wm_149)) (fun _ h9 => h9) rfl d_SM_cosine_10 ?_
  refine lv_aload_n hx hb d_SM_cosine_13 rfl (lv_at hl 0 rfl) ?_
  refine va_get (D := (dC, dI)) (ci := 3) (v := .long s2) (C := xR_SM) (T := xT_SM) (N := 9) hx hb hts (fun w h => List.mem_cons_of_mem _ (iw_SM w h)) hown hK hP 0 rfl rfl 1 (by decide) (hts _ (List.mem_cons_of_mem _ wm_145)) (fun _ h9 => h9) rfl d_SM_cosine_14 ?_
  refine lv_lmul hx hb d_SM_cosine_17 ?_
  refine lv_lsub hx hb d_SM_cosine_18 ?_
  refine lv_aload_n hx hb d_SM_cosine_19 rfl (lv_at hl 0 rfl) ?_
  refine va_get (D := (dC, dI)) (ci := 3) (v := .long s5) (C := xR_SM) (T := xT_SM) (N := 9) hx hb hts (fun w h => List.mem_cons_of_mem _ (iw_SM w h)) hown hK hP 0 rfl rfl 4 (by decide) (hts _ (List.mem_cons_of_mem _ wm_151)) (fun _ h9 => h9) rfl d_SM_cosine_20 ?_
  refine lv_aload_n hx hb d_SM_cosine_23 rfl (lv_at hl 0 rfl) ?_
  refine va_get (D := (dC, dI)) (ci := 3) (v := .long s3) (C := xR_SM) (T := xT_SM) (N := 9) hx hb hts (fun w h => List.mem_cons_of_mem _ (iw_SM w h)) hown hK hP 0 rfl rfl 2 (by decide) (hts _ (List.mem_cons_of_mem _ wm_147)) (fun _ h9 => h9) rfl d_SM_cosine_24 ?_
  refine lv_lmul hx hb d_SM_cosine_27 ?_
  refine lv_lsub hx hb d_SM_cosine_28 ?_
  exact xr_lret (v := ((s1 * s7) - (s4 * s2)) - (s5 * s3)) hx hb hr (by exact rfl) d_SM_cosine_29 hlocks
set_option maxHeartbeats 4000000 in
set_option maxRecDepth 100000 in
/-- Sums.sine -/
theorem c_SM_sine (l : Launch) (dC : Nat → ClassId) (dI : Nat → Nat → Nat) (h0 : Nat) (s1 : Int64) (s2 : Int64) (s3 : Int64) (s4 : Int64) (s5 : Int64) (s6 : Int64) (s7 : Int64) (s8 : Int64) (s9 : Int64)  : Met l xy_SM_sine xw_SM_sine ({ frames := 0, cells := 0, slots := 0, locals := 0 }) (xp_r [.ref h0] (dC, dI) xCl [(h0, .inr (3, [.long s1, .long s2, .long s3, .long s4, .long s5, .long s6, .long s7, .long s8, .long s9]))] []) (xr_l (fun r => r = sr_sine s1 s2 s3 s4 s5 s8)) 0 0 (fun _ => False) := by
  refine Met.ofW (cc := prog_7_method_7_code) (maxL := 1) (ret := (some .long)) (by decide) rfl ?_
  intro p e s m args below meth c s₁ B hml hv
  obtain ⟨rfl, hz, hP, hK⟩ := hv
  have hx := B.exec
  have hb := B.bytes
  have hr := B.returns
  have hts := atoms_spec (ws := xw_SM_sine) B.pre
  have hown : s.vm.findClass xR_SM = some m.cls := findClass_of_methodNamed B.named
  have hlocks := B.notSynchronized
  have hP : va_P (dC, dI) xCl [(h0, .inr (3, [.long s1, .long s2, .long s3, .long s4, .long s5, .long s6, .long s7, .long s8, .long s9]))] s.heap := hP
  have hl := lv_entry ([.ref h0]) (n := 1) (Nat.le_of_ble_eq_true rfl)
  rw [lg_entry_eq]
  generalize (lg_sl ([.ref h0]) ++ List.replicate (1 - (lg_sl ([.ref h0])).length) Slot.unset).toArray = ls at hl ⊢
  have hl : lv_has ls 1 [(0, .ref h0)] := hl
  refine lv_aload_n hx hb d_SM_sine_0 rfl (lv_at hl 0 rfl) ?_
  refine va_get (D := (dC, dI)) (ci := 3) (v := .long s1) (C := xR_SM) (T := xT_SM) (N := 9) hx hb hts (fun w h => List.mem_cons_of_mem _ (iw_SM w h)) hown hK hP 0 rfl rfl 0 (by decide) (hts _ (List.mem_cons_of_mem _ wm_143)) (fun _ h9 => h9) rfl d_SM_sine_1 ?_
  refine lv_aload_n hx hb d_SM_sine_4 rfl (lv_at hl 0 rfl) ?_
  refine va_get (D := (dC, dI)) (ci := 3) (v := .long s8) (C := xR_SM) (T := xT_SM) (N := 9) hx hb hts (fun w h => List.mem_cons_of_mem _ (iw_SM w h)) hown hK hP 0 rfl rfl 7 (by decide) (hts _ (List.mem_cons_of_mem _ wm_155)) (fun _ h9 => h9) rfl d_SM_sine_5 ?_
  refine lv_lmul hx hb d_SM_sine_8 ?_
  refine lv_aload_n hx hb d_SM_sine_9 rfl (lv_at hl 0 rfl) ?_
  refine va_get (D := (dC, dI)) (ci := 3) (v := .long s4) (C := xR_SM) (T := xT_SM) (N := 9) hx hb hts (fun w h => List.mem_cons_of_mem _ (iw_SM w h)) hown hK hP 0 rfl rfl 3 (by decide) (hts _ (List.mem_cons_of_mem _ wm_149)) (fun _ h9 => h9) rfl d_SM_sine_10 ?_
  refine lv_aload_n hx hb d_SM_sine_13 rfl (lv_at hl 0 rfl) ?_
  refine va_get (D := (dC, dI)) (ci := 3) (v := .long s3) (C := xR_SM) (T := xT_SM) (N := 9) hx hb hts (fun w h => List.mem_cons_of_mem _ (iw_SM w h)) hown hK hP 0 rfl rfl 2 (by decide) (hts _ (List.mem_cons_of_mem _ wm_147)) (fun _ h9 => h9) rfl d_SM_sine_14 ?_
  refine lv_lmul hx hb d_SM_sine_17 ?_
  refine lv_lsub hx hb d_SM_sine_18 ?_
  refine lv_aload_n hx hb d_SM_sine_19 rfl (lv_at hl 0 rfl) ?_
  refine va_get (D := (dC, dI)) (ci := 3) (v := .long s5) (C := xR_SM) (T := xT_SM) (N := 9) hx hb hts (fun w h => List.mem_cons_of_mem _ (iw_SM w h)) hown hK hP 0 rfl rfl 4 (by decide) (hts _ (List.mem_cons_of_mem _ wm_151)) (fun _ h9 => h9) rfl d_SM_sine_20 ?_
  refine lv_aload_n hx hb d_SM_sine_23 rfl (lv_at hl 0 rfl) ?_
  refine va_get (D := (dC, dI)) (ci := 3) (v := .long s2) (C := xR_SM) (T := xT_SM) (N := 9) hx hb hts (fun w h => List.mem_cons_of_mem _ (iw_SM w h)) hown hK hP 0 rfl rfl 1 (by decide) (hts _ (List.mem_cons_of_mem _ wm_145)) (fun _ h9 => h9) rfl d_SM_sine_24 ?_
  refine lv_lmul hx hb d_SM_sine_27 ?_
  refine lv_ladd hx hb d_SM_sine_28 ?_
  exact xr_lret (v := ((s1 * s8) - (s4 * s3)) + (s5 * s2)) hx hb hr (by exact rfl) d_SM_sine_29 hlocks
