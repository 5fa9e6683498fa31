theorem d_SU_hasPart_0 : decode prog_5_method_2_code 0 = .ok (.iload_n 1, 1) := by decide +kernel
theorem d_SU_hasPart_1 : decode prog_5_method_2_code 1 = .ok (.ifCond .lt 12, 3) := by decide +kernel
theorem d_SU_hasPart_4 : decode prog_5_method_2_code 4 = .ok (.iload_n 1, 1) := by decide +kernel
theorem d_SU_hasPart_5 : decode prog_5_method_2_code 5 = .ok (.iconst 4, 1) := by decide +kernel
theorem d_SU_hasPart_6 : decode prog_5_method_2_code 6 = .ok (.if_icmp .ge 7, 3) := by decide +kernel
theorem d_SU_hasPart_9 : decode prog_5_method_2_code 9 = .ok (.iconst 1, 1) := by decide +kernel
theorem d_SU_hasPart_10 : decode prog_5_method_2_code 10 = .ok (.goto 4, 3) := by decide +kernel
theorem d_SU_hasPart_13 : decode prog_5_method_2_code 13 = .ok (.iconst 0, 1) := by decide +kernel
theorem d_SU_hasPart_14 : decode prog_5_method_2_code 14 = .ok (.ireturn, 1) := by decide +kernel
theorem d_SU_knows_0 : decode prog_5_method_3_code 0 = .ok (.iload_n 1, 1) := by decide +kernel
theorem d_SU_knows_1 : decode prog_5_method_3_code 1 = .ok (.ifCond .lt 15, 3) := by decide +kernel
theorem d_SU_knows_4 : decode prog_5_method_3_code 4 = .ok (.iload_n 1, 1) := by decide +kernel
theorem d_SU_knows_5 : decode prog_5_method_3_code 5 = .ok (.aload_n 0, 1) := by decide +kernel
theorem d_SU_knows_6 : decode prog_5_method_3_code 6 = .ok (.getfield 31, 3) := by decide +kernel
theorem d_SU_knows_9 : decode prog_5_method_3_code 9 = .ok (.if_icmp .ge 7, 3) := by decide +kernel
theorem d_SU_knows_12 : decode prog_5_method_3_code 12 = .ok (.iconst 1, 1) := by decide +kernel
theorem d_SU_knows_13 : decode prog_5_method_3_code 13 = .ok (.goto 4, 3) := by decide +kernel
theorem d_SU_knows_16 : decode prog_5_method_3_code 16 = .ok (.iconst 0, 1) := by decide +kernel
theorem d_SU_knows_17 : decode prog_5_method_3_code 17 = .ok (.ireturn, 1) := by decide +kernel
theorem d_SU_takeParts_0 : decode prog_5_method_5_code 0 = .ok (.aload_n 0, 1) := by decide +kernel
theorem d_SU_takeParts_1 : decode prog_5_method_5_code 1 = .ok (.getfield 12, 3) := by decide +kernel
theorem d_SU_takeParts_4 : decode prog_5_method_5_code 4 = .ok (.invokevirtual 39, 3) := by decide +kernel
theorem d_SU_takeParts_7 : decode prog_5_method_5_code 7 = .ok (.lstore_n 1, 1) := by decide +kernel
theorem d_SU_takeParts_8 : decode prog_5_method_5_code 8 = .ok (.aload_n 0, 1) := by decide +kernel
theorem d_SU_takeParts_9 : decode prog_5_method_5_code 9 = .ok (.getfield 12, 3) := by decide +kernel
theorem d_SU_takeParts_12 : decode prog_5_method_5_code 12 = .ok (.invokevirtual 53, 3) := by decide +kernel
theorem d_SU_takeParts_15 : decode prog_5_method_5_code 15 = .ok (.lstore_n 3, 1) := by decide +kernel
theorem d_SU_takeParts_16 : decode prog_5_method_5_code 16 = .ok (.aload_n 0, 1) := by decide +kernel
theorem d_SU_takeParts_17 : decode prog_5_method_5_code 17 = .ok (.getfield 12, 3) := by decide +kernel
theorem d_SU_takeParts_20 : decode prog_5_method_5_code 20 = .ok (.invokevirtual 56, 3) := by decide +kernel
theorem d_SU_takeParts_23 : decode prog_5_method_5_code 23 = .ok (.lstore 5, 2) := by decide +kernel
theorem d_SU_takeParts_25 : decode prog_5_method_5_code 25 = .ok (.aload_n 0, 1) := by decide +kernel
theorem d_SU_takeParts_26 : decode prog_5_method_5_code 26 = .ok (.aload_n 0, 1) := by decide +kernel
theorem d_SU_takeParts_27 : decode prog_5_method_5_code 27 = .ok (.getfield 12, 3) := by decide +kernel
theorem d_SU_takeParts_30 : decode prog_5_method_5_code 30 = .ok (.getfield 59, 3) := by decide +kernel
theorem d_SU_takeParts_33 : decode prog_5_method_5_code 33 = .ok (.lload_n 1, 1) := by decide +kernel
theorem d_SU_takeParts_34 : decode prog_5_method_5_code 34 = .ok (.lmul, 1) := by decide +kernel
theorem d_SU_takeParts_35 : decode prog_5_method_5_code 35 = .ok (.putfield 63, 3) := by decide +kernel
theorem d_SU_takeParts_38 : decode prog_5_method_5_code 38 = .ok (.aload_n 0, 1) := by decide +kernel
theorem d_SU_takeParts_39 : decode prog_5_method_5_code 39 = .ok (.getfield 18, 3) := by decide +kernel
theorem d_SU_takeParts_42 : decode prog_5_method_5_code 42 = .ok (.iconst 0, 1) := by decide +kernel
theorem d_SU_takeParts_43 : decode prog_5_method_5_code 43 = .ok (.aload_n 0, 1) := by decide +kernel
theorem d_SU_takeParts_44 : decode prog_5_method_5_code 44 = .ok (.getfield 12, 3) := by decide +kernel
theorem d_SU_takeParts_47 : decode prog_5_method_5_code 47 = .ok (.getfield 59, 3) := by decide +kernel
theorem d_SU_takeParts_50 : decode prog_5_method_5_code 50 = .ok (.lload_n 3, 1) := by decide +kernel
theorem d_SU_takeParts_51 : decode prog_5_method_5_code 51 = .ok (.lmul, 1) := by decide +kernel
theorem d_SU_takeParts_52 : decode prog_5_method_5_code 52 = .ok (.lastore, 1) := by decide +kernel
theorem d_SU_takeParts_53 : decode prog_5_method_5_code 53 = .ok (.aload_n 0, 1) := by decide +kernel
theorem d_SU_takeParts_54 : decode prog_5_method_5_code 54 = .ok (.getfield 18, 3) := by decide +kernel
theorem d_SU_takeParts_57 : decode prog_5_method_5_code 57 = .ok (.iconst 1, 1) := by decide +kernel
theorem d_SU_takeParts_58 : decode prog_5_method_5_code 58 = .ok (.aload_n 0, 1) := by decide +kernel
theorem d_SU_takeParts_59 : decode prog_5_method_5_code 59 = .ok (.getfield 12, 3) := by decide +kernel
theorem d_SU_takeParts_62 : decode prog_5_method_5_code 62 = .ok (.getfield 59, 3) := by decide +kernel
theorem d_SU_takeParts_65 : decode prog_5_method_5_code 65 = .ok (.lload 5, 2) := by decide +kernel
theorem d_SU_takeParts_67 : decode prog_5_method_5_code 67 = .ok (.lmul, 1) := by decide +kernel
theorem d_SU_takeParts_68 : decode prog_5_method_5_code 68 = .ok (.lastore, 1) := by decide +kernel
theorem d_SU_takeParts_69 : decode prog_5_method_5_code 69 = .ok (.aload_n 0, 1) := by decide +kernel
theorem d_SU_takeParts_70 : decode prog_5_method_5_code 70 = .ok (.getfield 18, 3) := by decide +kernel
theorem d_SU_takeParts_73 : decode prog_5_method_5_code 73 = .ok (.iconst 2, 1) := by decide +kernel
theorem d_SU_takeParts_74 : decode prog_5_method_5_code 74 = .ok (.aload_n 0, 1) := by decide +kernel
theorem d_SU_takeParts_75 : decode prog_5_method_5_code 75 = .ok (.getfield 12, 3) := by decide +kernel
theorem d_SU_takeParts_78 : decode prog_5_method_5_code 78 = .ok (.getfield 66, 3) := by decide +kernel
theorem d_SU_takeParts_81 : decode prog_5_method_5_code 81 = .ok (.lload_n 1, 1) := by decide +kernel
theorem d_SU_takeParts_82 : decode prog_5_method_5_code 82 = .ok (.lmul, 1) := by decide +kernel
theorem d_SU_takeParts_83 : decode prog_5_method_5_code 83 = .ok (.lload_n 3, 1) := by decide +kernel
theorem d_SU_takeParts_84 : decode prog_5_method_5_code 84 = .ok (.aload_n 0, 1) := by decide +kernel
theorem d_SU_takeParts_85 : decode prog_5_method_5_code 85 = .ok (.getfield 12, 3) := by decide +kernel
theorem d_SU_takeParts_88 : decode prog_5_method_5_code 88 = .ok (.getfield 69, 3) := by decide +kernel
theorem d_SU_takeParts_91 : decode prog_5_method_5_code 91 = .ok (.lmul, 1) := by decide +kernel
theorem d_SU_takeParts_92 : decode prog_5_method_5_code 92 = .ok (.lsub, 1) := by decide +kernel
theorem d_SU_takeParts_93 : decode prog_5_method_5_code 93 = .ok (.lload 5, 2) := by decide +kernel
theorem d_SU_takeParts_95 : decode prog_5_method_5_code 95 = .ok (.aload_n 0, 1) := by decide +kernel
theorem d_SU_takeParts_96 : decode prog_5_method_5_code 96 = .ok (.getfield 12, 3) := by decide +kernel
theorem d_SU_takeParts_99 : decode prog_5_method_5_code 99 = .ok (.getfield 72, 3) := by decide +kernel
theorem d_SU_takeParts_102 : decode prog_5_method_5_code 102 = .ok (.lmul, 1) := by decide +kernel
theorem d_SU_takeParts_103 : decode prog_5_method_5_code 103 = .ok (.ladd, 1) := by decide +kernel
theorem d_SU_takeParts_104 : decode prog_5_method_5_code 104 = .ok (.lastore, 1) := by decide +kernel
theorem d_SU_takeParts_105 : decode prog_5_method_5_code 105 = .ok (.aload_n 0, 1) := by decide +kernel
theorem d_SU_takeParts_106 : decode prog_5_method_5_code 106 = .ok (.getfield 18, 3) := by decide +kernel
theorem d_SU_takeParts_109 : decode prog_5_method_5_code 109 = .ok (.iconst 3, 1) := by decide +kernel
theorem d_SU_takeParts_110 : decode prog_5_method_5_code 110 = .ok (.aload_n 0, 1) := by decide +kernel
theorem d_SU_takeParts_111 : decode prog_5_method_5_code 111 = .ok (.getfield 12, 3) := by decide +kernel
theorem d_SU_takeParts_114 : decode prog_5_method_5_code 114 = .ok (.getfield 75, 3) := by decide +kernel
theorem d_SU_takeParts_117 : decode prog_5_method_5_code 117 = .ok (.lload_n 1, 1) := by decide +kernel
theorem d_SU_takeParts_118 : decode prog_5_method_5_code 118 = .ok (.lmul, 1) := by decide +kernel
theorem d_SU_takeParts_119 : decode prog_5_method_5_code 119 = .ok (.lload 5, 2) := by decide +kernel
theorem d_SU_takeParts_121 : decode prog_5_method_5_code 121 = .ok (.aload_n 0, 1) := by decide +kernel
theorem d_SU_takeParts_122 : decode prog_5_method_5_code 122 = .ok (.getfield 12, 3) := by decide +kernel
theorem d_SU_takeParts_125 : decode prog_5_method_5_code 125 = .ok (.getfield 69, 3) := by decide +kernel
theorem d_SU_takeParts_128 : decode prog_5_method_5_code 128 = .ok (.lmul, 1) := by decide +kernel
theorem d_SU_takeParts_129 : decode prog_5_method_5_code 129 = .ok (.lsub, 1) := by decide +kernel
theorem d_SU_takeParts_130 : decode prog_5_method_5_code 130 = .ok (.lload_n 3, 1) := by decide +kernel
theorem d_SU_takeParts_131 : decode prog_5_method_5_code 131 = .ok (.aload_n 0, 1) := by decide +kernel
theorem d_SU_takeParts_132 : decode prog_5_method_5_code 132 = .ok (.getfield 12, 3) := by decide +kernel
theorem d_SU_takeParts_135 : decode prog_5_method_5_code 135 = .ok (.getfield 72, 3) := by decide +kernel
theorem d_SU_takeParts_138 : decode prog_5_method_5_code 138 = .ok (.lmul, 1) := by decide +kernel
theorem d_SU_takeParts_139 : decode prog_5_method_5_code 139 = .ok (.lsub, 1) := by decide +kernel
theorem d_SU_takeParts_140 : decode prog_5_method_5_code 140 = .ok (.lastore, 1) := by decide +kernel
theorem d_SU_takeParts_141 : decode prog_5_method_5_code 141 = .ok (.aload_n 0, 1) := by decide +kernel
theorem d_SU_takeParts_142 : decode prog_5_method_5_code 142 = .ok (.aload_n 0, 1) := by decide +kernel
theorem d_SU_takeParts_143 : decode prog_5_method_5_code 143 = .ok (.getfield 12, 3) := by decide +kernel
theorem d_SU_takeParts_146 : decode prog_5_method_5_code 146 = .ok (.getfield 78, 3) := by decide +kernel
theorem d_SU_takeParts_149 : decode prog_5_method_5_code 149 = .ok (.aload_n 0, 1) := by decide +kernel
theorem d_SU_takeParts_150 : decode prog_5_method_5_code 150 = .ok (.getfield 12, 3) := by decide +kernel
theorem d_SU_takeParts_153 : decode prog_5_method_5_code 153 = .ok (.getfield 59, 3) := by decide +kernel
theorem d_SU_takeParts_156 : decode prog_5_method_5_code 156 = .ok (.invokestatic 81, 3) := by decide +kernel
theorem d_SU_takeParts_159 : decode prog_5_method_5_code 159 = .ok (.l2i, 1) := by decide +kernel
theorem d_SU_takeParts_160 : decode prog_5_method_5_code 160 = .ok (.putfield 85, 3) := by decide +kernel
theorem d_SU_takeParts_163 : decode prog_5_method_5_code 163 = .ok (.return_, 1) := by decide +kernel
theorem d_SU_placeAlong_0 : decode prog_5_method_7_code 0 = .ok (.iload_n 1, 1) := by decide +kernel
theorem d_SU_placeAlong_1 : decode prog_5_method_7_code 1 = .ok (.lookupswitch 97 #[(0, 27), (1, 62)], 27) := by decide +kernel
theorem d_SU_placeAlong_28 : decode prog_5_method_7_code 28 = .ok (.aload_n 0, 1) := by decide +kernel
theorem d_SU_placeAlong_29 : decode prog_5_method_7_code 29 = .ok (.getfield 18, 3) := by decide +kernel
theorem d_SU_placeAlong_32 : decode prog_5_method_7_code 32 = .ok (.iconst 0, 1) := by decide +kernel
theorem d_SU_placeAlong_33 : decode prog_5_method_7_code 33 = .ok (.laload, 1) := by decide +kernel
theorem d_SU_placeAlong_34 : decode prog_5_method_7_code 34 = .ok (.iload_n 2, 1) := by decide +kernel
theorem d_SU_placeAlong_35 : decode prog_5_method_7_code 35 = .ok (.i2l, 1) := by decide +kernel
theorem d_SU_placeAlong_36 : decode prog_5_method_7_code 36 = .ok (.lmul, 1) := by decide +kernel
theorem d_SU_placeAlong_37 : decode prog_5_method_7_code 37 = .ok (.aload_n 0, 1) := by decide +kernel
theorem d_SU_placeAlong_38 : decode prog_5_method_7_code 38 = .ok (.getfield 18, 3) := by decide +kernel
theorem d_SU_placeAlong_41 : decode prog_5_method_7_code 41 = .ok (.iconst 1, 1) := by decide +kernel
theorem d_SU_placeAlong_42 : decode prog_5_method_7_code 42 = .ok (.laload, 1) := by decide +kernel
theorem d_SU_placeAlong_43 : decode prog_5_method_7_code 43 = .ok (.iload_n 3, 1) := by decide +kernel
theorem d_SU_placeAlong_44 : decode prog_5_method_7_code 44 = .ok (.i2l, 1) := by decide +kernel
theorem d_SU_placeAlong_45 : decode prog_5_method_7_code 45 = .ok (.lmul, 1) := by decide +kernel
theorem d_SU_placeAlong_46 : decode prog_5_method_7_code 46 = .ok (.lsub, 1) := by decide +kernel
theorem d_SU_placeAlong_47 : decode prog_5_method_7_code 47 = .ok (.aload_n 0, 1) := by decide +kernel
theorem d_SU_placeAlong_48 : decode prog_5_method_7_code 48 = .ok (.getfield 18, 3) := by decide +kernel
theorem d_SU_placeAlong_51 : decode prog_5_method_7_code 51 = .ok (.iconst 2, 1) := by decide +kernel
theorem d_SU_placeAlong_52 : decode prog_5_method_7_code 52 = .ok (.laload, 1) := by decide +kernel
theorem d_SU_placeAlong_53 : decode prog_5_method_7_code 53 = .ok (.ladd, 1) := by decide +kernel
theorem d_SU_placeAlong_54 : decode prog_5_method_7_code 54 = .ok (.aload_n 0, 1) := by decide +kernel
theorem d_SU_placeAlong_55 : decode prog_5_method_7_code 55 = .ok (.getfield 63, 3) := by decide +kernel
theorem d_SU_placeAlong_58 : decode prog_5_method_7_code 58 = .ok (.invokestatic 81, 3) := by decide +kernel
theorem d_SU_placeAlong_61 : decode prog_5_method_7_code 61 = .ok (.l2i, 1) := by decide +kernel
theorem d_SU_placeAlong_62 : decode prog_5_method_7_code 62 = .ok (.ireturn, 1) := by decide +kernel
theorem d_SU_placeAlong_63 : decode prog_5_method_7_code 63 = .ok (.aload_n 0, 1) := by decide +kernel
theorem d_SU_placeAlong_64 : decode prog_5_method_7_code 64 = .ok (.getfield 18, 3) := by decide +kernel
theorem d_SU_placeAlong_67 : decode prog_5_method_7_code 67 = .ok (.iconst 1, 1) := by decide +kernel
theorem d_SU_placeAlong_68 : decode prog_5_method_7_code 68 = .ok (.laload, 1) := by decide +kernel
theorem d_SU_placeAlong_69 : decode prog_5_method_7_code 69 = .ok (.iload_n 2, 1) := by decide +kernel
theorem d_SU_placeAlong_70 : decode prog_5_method_7_code 70 = .ok (.i2l, 1) := by decide +kernel
theorem d_SU_placeAlong_71 : decode prog_5_method_7_code 71 = .ok (.lmul, 1) := by decide +kernel
theorem d_SU_placeAlong_72 : decode prog_5_method_7_code 72 = .ok (.aload_n 0, 1) := by decide +kernel
theorem d_SU_placeAlong_73 : decode prog_5_method_7_code 73 = .ok (.getfield 18, 3) := by decide +kernel
theorem d_SU_placeAlong_76 : decode prog_5_method_7_code 76 = .ok (.iconst 0, 1) := by decide +kernel
theorem d_SU_placeAlong_77 : decode prog_5_method_7_code 77 = .ok (.laload, 1) := by decide +kernel
theorem d_SU_placeAlong_78 : decode prog_5_method_7_code 78 = .ok (.iload_n 3, 1) := by decide +kernel
theorem d_SU_placeAlong_79 : decode prog_5_method_7_code 79 = .ok (.i2l, 1) := by decide +kernel
theorem d_SU_placeAlong_80 : decode prog_5_method_7_code 80 = .ok (.lmul, 1) := by decide +kernel
theorem d_SU_placeAlong_81 : decode prog_5_method_7_code 81 = .ok (.ladd, 1) := by decide +kernel
theorem d_SU_placeAlong_82 : decode prog_5_method_7_code 82 = .ok (.aload_n 0, 1) := by decide +kernel
theorem d_SU_placeAlong_83 : decode prog_5_method_7_code 83 = .ok (.getfield 18, 3) := by decide +kernel
theorem d_SU_placeAlong_86 : decode prog_5_method_7_code 86 = .ok (.iconst 3, 1) := by decide +kernel
theorem d_SU_placeAlong_87 : decode prog_5_method_7_code 87 = .ok (.laload, 1) := by decide +kernel
theorem d_SU_placeAlong_88 : decode prog_5_method_7_code 88 = .ok (.ladd, 1) := by decide +kernel
theorem d_SU_placeAlong_89 : decode prog_5_method_7_code 89 = .ok (.aload_n 0, 1) := by decide +kernel
theorem d_SU_placeAlong_90 : decode prog_5_method_7_code 90 = .ok (.getfield 63, 3) := by decide +kernel
theorem d_SU_placeAlong_93 : decode prog_5_method_7_code 93 = .ok (.invokestatic 81, 3) := by decide +kernel
theorem d_SU_placeAlong_96 : decode prog_5_method_7_code 96 = .ok (.l2i, 1) := by decide +kernel
theorem d_SU_placeAlong_97 : decode prog_5_method_7_code 97 = .ok (.ireturn, 1) := by decide +kernel
theorem d_SU_placeAlong_98 : decode prog_5_method_7_code 98 = .ok (.iload 4, 2) := by decide +kernel
theorem d_SU_placeAlong_100 : decode prog_5_method_7_code 100 = .ok (.aload_n 0, 1) := by decide +kernel
theorem d_SU_placeAlong_101 : decode prog_5_method_7_code 101 = .ok (.getfield 85, 3) := by decide +kernel
theorem d_SU_placeAlong_104 : decode prog_5_method_7_code 104 = .ok (.iadd, 1) := by decide +kernel
theorem d_SU_placeAlong_105 : decode prog_5_method_7_code 105 = .ok (.ireturn, 1) := by decide +kernel
theorem d_SU_millionthsOf_0 : decode prog_5_method_8_code 0 = .ok (.aload_n 0, 1) := by decide +kernel
theorem d_SU_millionthsOf_1 : decode prog_5_method_8_code 1 = .ok (.getfield 18, 3) := by decide +kernel
theorem d_SU_millionthsOf_4 : decode prog_5_method_8_code 4 = .ok (.iload_n 1, 1) := by decide +kernel
theorem d_SU_millionthsOf_5 : decode prog_5_method_8_code 5 = .ok (.laload, 1) := by decide +kernel
theorem d_SU_millionthsOf_6 : decode prog_5_method_8_code 6 = .ok (.aload_n 0, 1) := by decide +kernel
theorem d_SU_millionthsOf_7 : decode prog_5_method_8_code 7 = .ok (.getfield 63, 3) := by decide +kernel
theorem d_SU_millionthsOf_10 : decode prog_5_method_8_code 10 = .ok (.invokestatic 81, 3) := by decide +kernel
theorem d_SU_millionthsOf_13 : decode prog_5_method_8_code 13 = .ok (.lstore_n 2, 1) := by decide +kernel
theorem d_SU_millionthsOf_14 : decode prog_5_method_8_code 14 = .ok (.aload_n 0, 1) := by decide +kernel
theorem d_SU_millionthsOf_15 : decode prog_5_method_8_code 15 = .ok (.getfield 18, 3) := by decide +kernel
theorem d_SU_millionthsOf_18 : decode prog_5_method_8_code 18 = .ok (.iload_n 1, 1) := by decide +kernel
theorem d_SU_millionthsOf_19 : decode prog_5_method_8_code 19 = .ok (.laload, 1) := by decide +kernel
theorem d_SU_millionthsOf_20 : decode prog_5_method_8_code 20 = .ok (.lload_n 2, 1) := by decide +kernel
theorem d_SU_millionthsOf_21 : decode prog_5_method_8_code 21 = .ok (.aload_n 0, 1) := by decide +kernel
theorem d_SU_millionthsOf_22 : decode prog_5_method_8_code 22 = .ok (.getfield 63, 3) := by decide +kernel
theorem d_SU_millionthsOf_25 : decode prog_5_method_8_code 25 = .ok (.lmul, 1) := by decide +kernel
theorem d_SU_millionthsOf_26 : decode prog_5_method_8_code 26 = .ok (.lsub, 1) := by decide +kernel
theorem d_SU_millionthsOf_27 : decode prog_5_method_8_code 27 = .ok (.lstore 4, 2) := by decide +kernel
theorem d_SU_millionthsOf_29 : decode prog_5_method_8_code 29 = .ok (.lload_n 2, 1) := by decide +kernel
theorem d_SU_millionthsOf_30 : decode prog_5_method_8_code 30 = .ok (.ldc2_w 112, 3) := by decide +kernel
theorem d_SU_millionthsOf_33 : decode prog_5_method_8_code 33 = .ok (.lmul, 1) := by decide +kernel
theorem d_SU_millionthsOf_34 : decode prog_5_method_8_code 34 = .ok (.lload 4, 2) := by decide +kernel
theorem d_SU_millionthsOf_36 : decode prog_5_method_8_code 36 = .ok (.ldc2_w 112, 3) := by decide +kernel
theorem d_SU_millionthsOf_39 : decode prog_5_method_8_code 39 = .ok (.lmul, 1) := by decide +kernel
theorem d_SU_millionthsOf_40 : decode prog_5_method_8_code 40 = .ok (.aload_n 0, 1) := by decide +kernel
theorem d_SU_millionthsOf_41 : decode prog_5_method_8_code 41 = .ok (.getfield 63, 3) := by decide +kernel
theorem d_SU_millionthsOf_44 : decode prog_5_method_8_code 44 = .ok (.invokestatic 81, 3) := by decide +kernel
theorem d_SU_millionthsOf_47 : decode prog_5_method_8_code 47 = .ok (.ladd, 1) := by decide +kernel
theorem d_SU_millionthsOf_48 : decode prog_5_method_8_code 48 = .ok (.lreturn, 1) := by decide +kernel
theorem d_SU_squareOf_0 : decode prog_5_method_11_code 0 = .ok (.aload_n 0, 1) := by decide +kernel
theorem d_SU_squareOf_1 : decode prog_5_method_11_code 1 = .ok (.getfield 24, 3) := by decide +kernel
theorem d_SU_squareOf_4 : decode prog_5_method_11_code 4 = .ok (.iload_n 1, 1) := by decide +kernel
theorem d_SU_squareOf_5 : decode prog_5_method_11_code 5 = .ok (.aaload, 1) := by decide +kernel
theorem d_SU_squareOf_6 : decode prog_5_method_11_code 6 = .ok (.iload_n 2, 1) := by decide +kernel
theorem d_SU_squareOf_7 : decode prog_5_method_11_code 7 = .ok (.iaload, 1) := by decide +kernel
theorem d_SU_squareOf_8 : decode prog_5_method_11_code 8 = .ok (.i2l, 1) := by decide +kernel
theorem d_SU_squareOf_9 : decode prog_5_method_11_code 9 = .ok (.lstore_n 3, 1) := by decide +kernel
theorem d_SU_squareOf_10 : decode prog_5_method_11_code 10 = .ok (.lload_n 3, 1) := by decide +kernel
theorem d_SU_squareOf_11 : decode prog_5_method_11_code 11 = .ok (.lload_n 3, 1) := by decide +kernel
theorem d_SU_squareOf_12 : decode prog_5_method_11_code 12 = .ok (.lmul, 1) := by decide +kernel
theorem d_SU_squareOf_13 : decode prog_5_method_11_code 13 = .ok (.lreturn, 1) := by decide +kernel
theorem d_SU_takeMisses_0 : decode prog_5_method_6_code 0 = .ok (.aload_n 0, 1) := by decide +kernel
theorem d_SU_takeMisses_1 : decode prog_5_method_6_code 1 = .ok (.aload_n 1, 1) := by decide +kernel
theorem d_SU_takeMisses_2 : decode prog_5_method_6_code 2 = .ok (.getfield 88, 3) := by decide +kernel
theorem d_SU_takeMisses_5 : decode prog_5_method_6_code 5 = .ok (.putfield 31, 3) := by decide +kernel
theorem d_SU_takeMisses_8 : decode prog_5_method_6_code 8 = .ok (.iconst 0, 1) := by decide +kernel
theorem d_SU_takeMisses_9 : decode prog_5_method_6_code 9 = .ok (.istore_n 2, 1) := by decide +kernel
theorem d_SU_takeMisses_10 : decode prog_5_method_6_code 10 = .ok (.iload_n 2, 1) := by decide +kernel
theorem d_SU_takeMisses_11 : decode prog_5_method_6_code 11 = .ok (.aload_n 0, 1) := by decide +kernel
theorem d_SU_takeMisses_12 : decode prog_5_method_6_code 12 = .ok (.getfield 31, 3) := by decide +kernel
theorem d_SU_takeMisses_15 : decode prog_5_method_6_code 15 = .ok (.if_icmp .ge 126, 3) := by decide +kernel
theorem d_SU_takeMisses_18 : decode prog_5_method_6_code 18 = .ok (.aload_n 1, 1) := by decide +kernel
theorem d_SU_takeMisses_19 : decode prog_5_method_6_code 19 = .ok (.iload_n 2, 1) := by decide +kernel
theorem d_SU_takeMisses_20 : decode prog_5_method_6_code 20 = .ok (.invokevirtual 91, 3) := by decide +kernel
theorem d_SU_takeMisses_23 : decode prog_5_method_6_code 23 = .ok (.istore_n 3, 1) := by decide +kernel
theorem d_SU_takeMisses_24 : decode prog_5_method_6_code 24 = .ok (.aload_n 0, 1) := by decide +kernel
theorem d_SU_takeMisses_25 : decode prog_5_method_6_code 25 = .ok (.getfield 24, 3) := by decide +kernel
theorem d_SU_takeMisses_28 : decode prog_5_method_6_code 28 = .ok (.iconst 0, 1) := by decide +kernel
theorem d_SU_takeMisses_29 : decode prog_5_method_6_code 29 = .ok (.aaload, 1) := by decide +kernel
theorem d_SU_takeMisses_30 : decode prog_5_method_6_code 30 = .ok (.iload_n 2, 1) := by decide +kernel
theorem d_SU_takeMisses_31 : decode prog_5_method_6_code 31 = .ok (.aload_n 1, 1) := by decide +kernel
theorem d_SU_takeMisses_32 : decode prog_5_method_6_code 32 = .ok (.getfield 95, 3) := by decide +kernel
theorem d_SU_takeMisses_35 : decode prog_5_method_6_code 35 = .ok (.iload_n 2, 1) := by decide +kernel
theorem d_SU_takeMisses_36 : decode prog_5_method_6_code 36 = .ok (.iaload, 1) := by decide +kernel
theorem d_SU_takeMisses_37 : decode prog_5_method_6_code 37 = .ok (.aload_n 0, 1) := by decide +kernel
theorem d_SU_takeMisses_38 : decode prog_5_method_6_code 38 = .ok (.iconst 0, 1) := by decide +kernel
theorem d_SU_takeMisses_39 : decode prog_5_method_6_code 39 = .ok (.aload_n 1, 1) := by decide +kernel
theorem d_SU_takeMisses_40 : decode prog_5_method_6_code 40 = .ok (.getfield 98, 3) := by decide +kernel
theorem d_SU_takeMisses_43 : decode prog_5_method_6_code 43 = .ok (.iload_n 2, 1) := by decide +kernel
theorem d_SU_takeMisses_44 : decode prog_5_method_6_code 44 = .ok (.iaload, 1) := by decide +kernel
theorem d_SU_takeMisses_45 : decode prog_5_method_6_code 45 = .ok (.aload_n 1, 1) := by decide +kernel
theorem d_SU_takeMisses_46 : decode prog_5_method_6_code 46 = .ok (.getfield 100, 3) := by decide +kernel
theorem d_SU_takeMisses_49 : decode prog_5_method_6_code 49 = .ok (.iload_n 2, 1) := by decide +kernel
theorem d_SU_takeMisses_50 : decode prog_5_method_6_code 50 = .ok (.iaload, 1) := by decide +kernel
theorem d_SU_takeMisses_51 : decode prog_5_method_6_code 51 = .ok (.iload_n 3, 1) := by decide +kernel
theorem d_SU_takeMisses_52 : decode prog_5_method_6_code 52 = .ok (.invokevirtual 102, 3) := by decide +kernel
theorem d_SU_takeMisses_55 : decode prog_5_method_6_code 55 = .ok (.isub, 1) := by decide +kernel
theorem d_SU_takeMisses_56 : decode prog_5_method_6_code 56 = .ok (.iastore, 1) := by decide +kernel
theorem d_SU_takeMisses_57 : decode prog_5_method_6_code 57 = .ok (.aload_n 0, 1) := by decide +kernel
theorem d_SU_takeMisses_58 : decode prog_5_method_6_code 58 = .ok (.getfield 24, 3) := by decide +kernel
theorem d_SU_takeMisses_61 : decode prog_5_method_6_code 61 = .ok (.iconst 1, 1) := by decide +kernel
theorem d_SU_takeMisses_62 : decode prog_5_method_6_code 62 = .ok (.aaload, 1) := by decide +kernel
theorem d_SU_takeMisses_63 : decode prog_5_method_6_code 63 = .ok (.iload_n 2, 1) := by decide +kernel
theorem d_SU_takeMisses_64 : decode prog_5_method_6_code 64 = .ok (.aload_n 1, 1) := by decide +kernel
theorem d_SU_takeMisses_65 : decode prog_5_method_6_code 65 = .ok (.getfield 106, 3) := by decide +kernel
theorem d_SU_takeMisses_68 : decode prog_5_method_6_code 68 = .ok (.iload_n 2, 1) := by decide +kernel
theorem d_SU_takeMisses_69 : decode prog_5_method_6_code 69 = .ok (.iaload, 1) := by decide +kernel
theorem d_SU_takeMisses_70 : decode prog_5_method_6_code 70 = .ok (.aload_n 0, 1) := by decide +kernel
theorem d_SU_takeMisses_71 : decode prog_5_method_6_code 71 = .ok (.iconst 1, 1) := by decide +kernel
theorem d_SU_takeMisses_72 : decode prog_5_method_6_code 72 = .ok (.aload_n 1, 1) := by decide +kernel
theorem d_SU_takeMisses_73 : decode prog_5_method_6_code 73 = .ok (.getfield 98, 3) := by decide +kernel
theorem d_SU_takeMisses_76 : decode prog_5_method_6_code 76 = .ok (.iload_n 2, 1) := by decide +kernel
theorem d_SU_takeMisses_77 : decode prog_5_method_6_code 77 = .ok (.iaload, 1) := by decide +kernel
theorem d_SU_takeMisses_78 : decode prog_5_method_6_code 78 = .ok (.aload_n 1, 1) := by decide +kernel
theorem d_SU_takeMisses_79 : decode prog_5_method_6_code 79 = .ok (.getfield 100, 3) := by decide +kernel
theorem d_SU_takeMisses_82 : decode prog_5_method_6_code 82 = .ok (.iload_n 2, 1) := by decide +kernel
theorem d_SU_takeMisses_83 : decode prog_5_method_6_code 83 = .ok (.iaload, 1) := by decide +kernel
theorem d_SU_takeMisses_84 : decode prog_5_method_6_code 84 = .ok (.iload_n 3, 1) := by decide +kernel
theorem d_SU_takeMisses_85 : decode prog_5_method_6_code 85 = .ok (.invokevirtual 102, 3) := by decide +kernel
theorem d_SU_takeMisses_88 : decode prog_5_method_6_code 88 = .ok (.isub, 1) := by decide +kernel
theorem d_SU_takeMisses_89 : decode prog_5_method_6_code 89 = .ok (.iastore, 1) := by decide +kernel
theorem d_SU_takeMisses_90 : decode prog_5_method_6_code 90 = .ok (.aload_n 0, 1) := by decide +kernel
theorem d_SU_takeMisses_91 : decode prog_5_method_6_code 91 = .ok (.getfield 24, 3) := by decide +kernel
theorem d_SU_takeMisses_94 : decode prog_5_method_6_code 94 = .ok (.iconst 2, 1) := by decide +kernel
theorem d_SU_takeMisses_95 : decode prog_5_method_6_code 95 = .ok (.aaload, 1) := by decide +kernel
theorem d_SU_takeMisses_96 : decode prog_5_method_6_code 96 = .ok (.iload_n 2, 1) := by decide +kernel
theorem d_SU_takeMisses_97 : decode prog_5_method_6_code 97 = .ok (.aload_n 1, 1) := by decide +kernel
theorem d_SU_takeMisses_98 : decode prog_5_method_6_code 98 = .ok (.getfield 108, 3) := by decide +kernel
theorem d_SU_takeMisses_101 : decode prog_5_method_6_code 101 = .ok (.iload_n 2, 1) := by decide +kernel
theorem d_SU_takeMisses_102 : decode prog_5_method_6_code 102 = .ok (.iaload, 1) := by decide +kernel
theorem d_SU_takeMisses_103 : decode prog_5_method_6_code 103 = .ok (.aload_n 0, 1) := by decide +kernel
theorem d_SU_takeMisses_104 : decode prog_5_method_6_code 104 = .ok (.iconst 2, 1) := by decide +kernel
theorem d_SU_takeMisses_105 : decode prog_5_method_6_code 105 = .ok (.aload_n 1, 1) := by decide +kernel
theorem d_SU_takeMisses_106 : decode prog_5_method_6_code 106 = .ok (.getfield 98, 3) := by decide +kernel
theorem d_SU_takeMisses_109 : decode prog_5_method_6_code 109 = .ok (.iload_n 2, 1) := by decide +kernel
theorem d_SU_takeMisses_110 : decode prog_5_method_6_code 110 = .ok (.iaload, 1) := by decide +kernel
theorem d_SU_takeMisses_111 : decode prog_5_method_6_code 111 = .ok (.aload_n 1, 1) := by decide +kernel
theorem d_SU_takeMisses_112 : decode prog_5_method_6_code 112 = .ok (.getfield 100, 3) := by decide +kernel
theorem d_SU_takeMisses_115 : decode prog_5_method_6_code 115 = .ok (.iload_n 2, 1) := by decide +kernel
theorem d_SU_takeMisses_116 : decode prog_5_method_6_code 116 = .ok (.iaload, 1) := by decide +kernel
theorem d_SU_takeMisses_117 : decode prog_5_method_6_code 117 = .ok (.iload_n 3, 1) := by decide +kernel
theorem d_SU_takeMisses_118 : decode prog_5_method_6_code 118 = .ok (.invokevirtual 102, 3) := by decide +kernel
theorem d_SU_takeMisses_121 : decode prog_5_method_6_code 121 = .ok (.isub, 1) := by decide +kernel
theorem d_SU_takeMisses_122 : decode prog_5_method_6_code 122 = .ok (.iastore, 1) := by decide +kernel
theorem d_SU_takeMisses_123 : decode prog_5_method_6_code 123 = .ok (.aload_n 0, 1) := by decide +kernel
theorem d_SU_takeMisses_124 : decode prog_5_method_6_code 124 = .ok (.getfield 27, 3) := by decide +kernel
theorem d_SU_takeMisses_127 : decode prog_5_method_6_code 127 = .ok (.iload_n 2, 1) := by decide +kernel
theorem d_SU_takeMisses_128 : decode prog_5_method_6_code 128 = .ok (.aload_n 1, 1) := by decide +kernel
theorem d_SU_takeMisses_129 : decode prog_5_method_6_code 129 = .ok (.getfield 111, 3) := by decide +kernel
theorem d_SU_takeMisses_132 : decode prog_5_method_6_code 132 = .ok (.iload_n 2, 1) := by decide +kernel
theorem d_SU_takeMisses_133 : decode prog_5_method_6_code 133 = .ok (.baload, 1) := by decide +kernel
theorem d_SU_takeMisses_134 : decode prog_5_method_6_code 134 = .ok (.bastore, 1) := by decide +kernel
theorem d_SU_takeMisses_135 : decode prog_5_method_6_code 135 = .ok (.iinc 2 1, 3) := by decide +kernel
theorem d_SU_takeMisses_138 : decode prog_5_method_6_code 138 = .ok (.goto (-128), 3) := by decide +kernel
theorem d_SU_takeMisses_141 : decode prog_5_method_6_code 141 = .ok (.return_, 1) := by decide +kernel
theorem d_SU_worstAbove_0 : decode prog_5_method_9_code 0 = .ok (.lload_n 1, 1) := by decide +kernel
theorem d_SU_worstAbove_1 : decode prog_5_method_9_code 1 = .ok (.lstore_n 3, 1) := by decide +kernel
theorem d_SU_worstAbove_2 : decode prog_5_method_9_code 2 = .ok (.iconst (-1), 1) := by decide +kernel
theorem d_SU_worstAbove_3 : decode prog_5_method_9_code 3 = .ok (.istore 5, 2) := by decide +kernel
theorem d_SU_worstAbove_5 : decode prog_5_method_9_code 5 = .ok (.iconst 0, 1) := by decide +kernel
theorem d_SU_worstAbove_6 : decode prog_5_method_9_code 6 = .ok (.istore 6, 2) := by decide +kernel
theorem d_SU_worstAbove_8 : decode prog_5_method_9_code 8 = .ok (.iload 6, 2) := by decide +kernel
theorem d_SU_worstAbove_10 : decode prog_5_method_9_code 10 = .ok (.aload_n 0, 1) := by decide +kernel
theorem d_SU_worstAbove_11 : decode prog_5_method_9_code 11 = .ok (.getfield 31, 3) := by decide +kernel
theorem d_SU_worstAbove_14 : decode prog_5_method_9_code 14 = .ok (.if_icmp .ge 50, 3) := by decide +kernel
theorem d_SU_worstAbove_17 : decode prog_5_method_9_code 17 = .ok (.aload_n 0, 1) := by decide +kernel
theorem d_SU_worstAbove_18 : decode prog_5_method_9_code 18 = .ok (.iconst 0, 1) := by decide +kernel
theorem d_SU_worstAbove_19 : decode prog_5_method_9_code 19 = .ok (.iload 6, 2) := by decide +kernel
theorem d_SU_worstAbove_21 : decode prog_5_method_9_code 21 = .ok (.invokevirtual 114, 3) := by decide +kernel
theorem d_SU_worstAbove_24 : decode prog_5_method_9_code 24 = .ok (.aload_n 0, 1) := by decide +kernel
theorem d_SU_worstAbove_25 : decode prog_5_method_9_code 25 = .ok (.iconst 1, 1) := by decide +kernel
theorem d_SU_worstAbove_26 : decode prog_5_method_9_code 26 = .ok (.iload 6, 2) := by decide +kernel
theorem d_SU_worstAbove_28 : decode prog_5_method_9_code 28 = .ok (.invokevirtual 114, 3) := by decide +kernel
theorem d_SU_worstAbove_31 : decode prog_5_method_9_code 31 = .ok (.ladd, 1) := by decide +kernel
theorem d_SU_worstAbove_32 : decode prog_5_method_9_code 32 = .ok (.lstore 7, 2) := by decide +kernel
theorem d_SU_worstAbove_34 : decode prog_5_method_9_code 34 = .ok (.aload_n 0, 1) := by decide +kernel
theorem d_SU_worstAbove_35 : decode prog_5_method_9_code 35 = .ok (.getfield 27, 3) := by decide +kernel
theorem d_SU_worstAbove_38 : decode prog_5_method_9_code 38 = .ok (.iload 6, 2) := by decide +kernel
theorem d_SU_worstAbove_40 : decode prog_5_method_9_code 40 = .ok (.baload, 1) := by decide +kernel
theorem d_SU_worstAbove_41 : decode prog_5_method_9_code 41 = .ok (.ifCond .eq 17, 3) := by decide +kernel
theorem d_SU_worstAbove_44 : decode prog_5_method_9_code 44 = .ok (.lload 7, 2) := by decide +kernel
theorem d_SU_worstAbove_46 : decode prog_5_method_9_code 46 = .ok (.lload_n 3, 1) := by decide +kernel
theorem d_SU_worstAbove_47 : decode prog_5_method_9_code 47 = .ok (.lcmp, 1) := by decide +kernel
theorem d_SU_worstAbove_48 : decode prog_5_method_9_code 48 = .ok (.ifCond .le 10, 3) := by decide +kernel
theorem d_SU_worstAbove_51 : decode prog_5_method_9_code 51 = .ok (.lload 7, 2) := by decide +kernel
theorem d_SU_worstAbove_53 : decode prog_5_method_9_code 53 = .ok (.lstore_n 3, 1) := by decide +kernel
theorem d_SU_worstAbove_54 : decode prog_5_method_9_code 54 = .ok (.iload 6, 2) := by decide +kernel
theorem d_SU_worstAbove_56 : decode prog_5_method_9_code 56 = .ok (.istore 5, 2) := by decide +kernel
theorem d_SU_worstAbove_58 : decode prog_5_method_9_code 58 = .ok (.iinc 6 1, 3) := by decide +kernel
theorem d_SU_worstAbove_61 : decode prog_5_method_9_code 61 = .ok (.goto (-53), 3) := by decide +kernel
theorem d_SU_worstAbove_64 : decode prog_5_method_9_code 64 = .ok (.iload 5, 2) := by decide +kernel
theorem d_SU_worstAbove_66 : decode prog_5_method_9_code 66 = .ok (.ireturn, 1) := by decide +kernel
theorem d_SU_sumOfSquares_0 : decode prog_5_method_10_code 0 = .ok (.lconst 0, 1) := by decide +kernel
theorem d_SU_sumOfSquares_1 : decode prog_5_method_10_code 1 = .ok (.lstore_n 1, 1) := by decide +kernel
theorem d_SU_sumOfSquares_2 : decode prog_5_method_10_code 2 = .ok (.iconst 0, 1) := by decide +kernel
theorem d_SU_sumOfSquares_3 : decode prog_5_method_10_code 3 = .ok (.istore_n 3, 1) := by decide +kernel
theorem d_SU_sumOfSquares_4 : decode prog_5_method_10_code 4 = .ok (.iload_n 3, 1) := by decide +kernel
theorem d_SU_sumOfSquares_5 : decode prog_5_method_10_code 5 = .ok (.aload_n 0, 1) := by decide +kernel
theorem d_SU_sumOfSquares_6 : decode prog_5_method_10_code 6 = .ok (.getfield 31, 3) := by decide +kernel
theorem d_SU_sumOfSquares_9 : decode prog_5_method_10_code 9 = .ok (.if_icmp .ge 41, 3) := by decide +kernel
theorem d_SU_sumOfSquares_12 : decode prog_5_method_10_code 12 = .ok (.aload_n 0, 1) := by decide +kernel
theorem d_SU_sumOfSquares_13 : decode prog_5_method_10_code 13 = .ok (.getfield 27, 3) := by decide +kernel
theorem d_SU_sumOfSquares_16 : decode prog_5_method_10_code 16 = .ok (.iload_n 3, 1) := by decide +kernel
theorem d_SU_sumOfSquares_17 : decode prog_5_method_10_code 17 = .ok (.baload, 1) := by decide +kernel
theorem d_SU_sumOfSquares_18 : decode prog_5_method_10_code 18 = .ok (.ifCond .eq 26, 3) := by decide +kernel
theorem d_SU_sumOfSquares_21 : decode prog_5_method_10_code 21 = .ok (.lload_n 1, 1) := by decide +kernel
theorem d_SU_sumOfSquares_22 : decode prog_5_method_10_code 22 = .ok (.aload_n 0, 1) := by decide +kernel
theorem d_SU_sumOfSquares_23 : decode prog_5_method_10_code 23 = .ok (.iconst 0, 1) := by decide +kernel
theorem d_SU_sumOfSquares_24 : decode prog_5_method_10_code 24 = .ok (.iload_n 3, 1) := by decide +kernel
theorem d_SU_sumOfSquares_25 : decode prog_5_method_10_code 25 = .ok (.invokevirtual 114, 3) := by decide +kernel
theorem d_SU_sumOfSquares_28 : decode prog_5_method_10_code 28 = .ok (.aload_n 0, 1) := by decide +kernel
theorem d_SU_sumOfSquares_29 : decode prog_5_method_10_code 29 = .ok (.iconst 1, 1) := by decide +kernel
theorem d_SU_sumOfSquares_30 : decode prog_5_method_10_code 30 = .ok (.iload_n 3, 1) := by decide +kernel
theorem d_SU_sumOfSquares_31 : decode prog_5_method_10_code 31 = .ok (.invokevirtual 114, 3) := by decide +kernel
theorem d_SU_sumOfSquares_34 : decode prog_5_method_10_code 34 = .ok (.ladd, 1) := by decide +kernel
theorem d_SU_sumOfSquares_35 : decode prog_5_method_10_code 35 = .ok (.aload_n 0, 1) := by decide +kernel
theorem d_SU_sumOfSquares_36 : decode prog_5_method_10_code 36 = .ok (.iconst 2, 1) := by decide +kernel
theorem d_SU_sumOfSquares_37 : decode prog_5_method_10_code 37 = .ok (.iload_n 3, 1) := by decide +kernel
theorem d_SU_sumOfSquares_38 : decode prog_5_method_10_code 38 = .ok (.invokevirtual 114, 3) := by decide +kernel
theorem d_SU_sumOfSquares_41 : decode prog_5_method_10_code 41 = .ok (.ladd, 1) := by decide +kernel
theorem d_SU_sumOfSquares_42 : decode prog_5_method_10_code 42 = .ok (.ladd, 1) := by decide +kernel
theorem d_SU_sumOfSquares_43 : decode prog_5_method_10_code 43 = .ok (.lstore_n 1, 1) := by decide +kernel
theorem d_SU_sumOfSquares_44 : decode prog_5_method_10_code 44 = .ok (.iinc 3 1, 3) := by decide +kernel
theorem d_SU_sumOfSquares_47 : decode prog_5_method_10_code 47 = .ok (.goto (-43), 3) := by decide +kernel
theorem d_SU_sumOfSquares_50 : decode prog_5_method_10_code 50 = .ok (.lload_n 1, 1) := by decide +kernel
theorem d_SU_sumOfSquares_51 : decode prog_5_method_10_code 51 = .ok (.lreturn, 1) := by decide +kernel
theorem d_SU_makeBy_0 : decode prog_5_method_4_code 0 = .ok (.aload_n 0, 1) := by decide +kernel
theorem d_SU_makeBy_1 : decode prog_5_method_4_code 1 = .ok (.getfield 12, 3) := by decide +kernel
theorem d_SU_makeBy_4 : decode prog_5_method_4_code 4 = .ok (.aload_n 1, 1) := by decide +kernel
theorem d_SU_makeBy_5 : decode prog_5_method_4_code 5 = .ok (.invokevirtual 35, 3) := by decide +kernel
theorem d_SU_makeBy_8 : decode prog_5_method_4_code 8 = .ok (.aload_n 0, 1) := by decide +kernel
theorem d_SU_makeBy_9 : decode prog_5_method_4_code 9 = .ok (.getfield 12, 3) := by decide +kernel
theorem d_SU_makeBy_12 : decode prog_5_method_4_code 12 = .ok (.invokevirtual 39, 3) := by decide +kernel
theorem d_SU_makeBy_15 : decode prog_5_method_4_code 15 = .ok (.lconst 0, 1) := by decide +kernel
theorem d_SU_makeBy_16 : decode prog_5_method_4_code 16 = .ok (.lcmp, 1) := by decide +kernel
theorem d_SU_makeBy_17 : decode prog_5_method_4_code 17 = .ok (.ifCond .gt 5, 3) := by decide +kernel
theorem d_SU_makeBy_20 : decode prog_5_method_4_code 20 = .ok (.iconst 0, 1) := by decide +kernel
theorem d_SU_makeBy_21 : decode prog_5_method_4_code 21 = .ok (.ireturn, 1) := by decide +kernel
theorem d_SU_makeBy_22 : decode prog_5_method_4_code 22 = .ok (.aload_n 0, 1) := by decide +kernel
theorem d_SU_makeBy_23 : decode prog_5_method_4_code 23 = .ok (.invokevirtual 43, 3) := by decide +kernel
theorem d_SU_makeBy_26 : decode prog_5_method_4_code 26 = .ok (.aload_n 0, 1) := by decide +kernel
theorem d_SU_makeBy_27 : decode prog_5_method_4_code 27 = .ok (.aload_n 1, 1) := by decide +kernel
theorem d_SU_makeBy_28 : decode prog_5_method_4_code 28 = .ok (.invokevirtual 46, 3) := by decide +kernel
theorem d_SU_makeBy_31 : decode prog_5_method_4_code 31 = .ok (.aload_n 0, 1) := by decide +kernel
theorem d_SU_makeBy_32 : decode prog_5_method_4_code 32 = .ok (.iconst 1, 1) := by decide +kernel
theorem d_SU_makeBy_33 : decode prog_5_method_4_code 33 = .ok (.putfield 49, 3) := by decide +kernel
theorem d_SU_makeBy_36 : decode prog_5_method_4_code 36 = .ok (.iconst 1, 1) := by decide +kernel
theorem d_SU_makeBy_37 : decode prog_5_method_4_code 37 = .ok (.ireturn, 1) := by decide +kernel
set_option maxHeartbeats 4000000 in
set_option maxRecDepth 100000 in
/-- SetUp.hasPart -/
theorem c_SU_hasPart (l : Launch) (dC : Nat → ClassId) (dI : Nat → Nat → Nat) (h0 : Nat) (su : Nat) (sp : Nat) (sm : Nat) (se : Nat) (dv : Int64) (ht : Int32) (sc : Nat) (md : Int32) (a : Int32)  : Met l xy_SU_hasPart xw_SU_hasPart ({ frames := 0, cells := 0, slots := 0, locals := 0 }) (xp_r [.ref h0, .int a] (dC, dI) xCl [(h0, .inr (4, [.ref su, .ref sp, .ref sm, .ref se, .long dv, .int ht, .int (nI sc), .int md]))] []) (xr_i (fun r => r = bI (xin a 4))) 0 0 (fun _ => False) := by
  refine Met.ofW (cc := prog_5_method_2_code) (maxL := 2) (ret := (some .boolean)) (by decide) rfl ?_
  intro p e s m args below meth c s₁ B hml hv
  obtain ⟨rfl, hz, hP, hK⟩ := hv
  have hx := B.exec
  have hb := B.bytes
  have hr := B.returns
  have hts := atoms_spec (ws := xw_SU_hasPart) B.pre
  have hown : s.vm.findClass xR_SU = some m.cls := findClass_of_methodNamed B.named
  have hlocks := B.notSynchronized
  have hP : va_P (dC, dI) xCl [(h0, .inr (4, [.ref su, .ref sp, .ref sm, .ref se, .long dv, .int ht, .int (nI sc), .int md]))] s.heap := hP
  have hl := lv_entry ([.ref h0, .int a]) (n := 2) (Nat.le_of_ble_eq_true rfl)
  rw [lg_entry_eq]
  generalize (lg_sl ([.ref h0, .int a]) ++ List.replicate (2 - (lg_sl ([.ref h0, .int a])).length) Slot.unset).toArray = ls at hl ⊢
  have hl : lv_has ls 2 [(0, .ref h0), (1, .int a)] := hl
  refine lv_iload_n hx hb d_SU_hasPart_0 rfl (lv_at hl 1 rfl) ?_
  refine lv_if_lt (tgt := 13) hx hb d_SU_hasPart_1 (by decide) (fun c_1 => ?_) (fun c_1 => ?_)
  · refine lv_iconst (v := 0) hx hb d_SU_hasPart_13 (by decide) ?_
    exact xr_zret (v := 0) (ty := .boolean) hx hb hr (by exact rfl) (by exact bI_n (xn_notin0 c_1)) d_SU_hasPart_14 hlocks
  · refine lv_iload_n hx hb d_SU_hasPart_4 rfl (lv_at hl 1 rfl) ?_
    refine lv_iconst (v := 4) hx hb d_SU_hasPart_5 (by decide) ?_
    refine lv_icmp_ge (tgt := 13) hx hb d_SU_hasPart_6 (by decide) (fun c_2 => ?_) (fun c_2 => ?_)
    · refine lv_iconst (v := 0) hx hb d_SU_hasPart_13 (by decide) ?_
      exact xr_zret (v := 0) (ty := .boolean) hx hb hr (by exact rfl) (by exact bI_n (xn_notin1 c_2 (by decide))) d_SU_hasPart_14 hlocks
    · refine lv_iconst (v := 1) hx hb d_SU_hasPart_9 (by decide) ?_
      refine lv_goto (tgt := 14) hx hb d_SU_hasPart_10 (by decide) ?_
      exact xr_zret (v := 1) (ty := .boolean) hx hb hr (by exact rfl) (by exact bI_p (xn_in c_1 (Int32.not_le.mp c_2) (by decide))) d_SU_hasPart_14 hlocks
set_option maxHeartbeats 4000000 in
set_option maxRecDepth 100000 in
/-- SetUp.knows -/
theorem c_SU_knows (l : Launch) (dC : Nat → ClassId) (dI : Nat → Nat → Nat) (h0 : Nat) (su : Nat) (sp : Nat) (sm : Nat) (se : Nat) (dv : Int64) (ht : Int32) (sc : Nat) (md : Int32) (a : Int32) (hc : sc < 2 ^ 31) : Met l xy_SU_knows xw_SU_knows ({ frames := 0, cells := 0, slots := 0, locals := 0 }) (xp_r [.ref h0, .int a] (dC, dI) xCl [(h0, .inr (4, [.ref su, .ref sp, .ref sm, .ref se, .long dv, .int ht, .int (nI sc), .int md]))] []) (xr_i (fun r => r = bI (xin a sc))) 0 0 (fun _ => False) := by
  refine Met.ofW (cc := prog_5_method_3_code) (maxL := 2) (ret := (some .boolean)) (by decide) rfl ?_
  intro p e s m args below meth c s₁ B hml hv
  obtain ⟨rfl, hz, hP, hK⟩ := hv
  have hx := B.exec
  have hb := B.bytes
  have hr := B.returns
  have hts := atoms_spec (ws := xw_SU_knows) B.pre
  have hown : s.vm.findClass xR_SU = some m.cls := findClass_of_methodNamed B.named
  have hlocks := B.notSynchronized
  have hP : va_P (dC, dI) xCl [(h0, .inr (4, [.ref su, .ref sp, .ref sm, .ref se, .long dv, .int ht, .int (nI sc), .int md]))] s.heap := hP
  have hl := lv_entry ([.ref h0, .int a]) (n := 2) (Nat.le_of_ble_eq_true rfl)
  rw [lg_entry_eq]
  generalize (lg_sl ([.ref h0, .int a]) ++ List.replicate (2 - (lg_sl ([.ref h0, .int a])).length) Slot.unset).toArray = ls at hl ⊢
  have hl : lv_has ls 2 [(0, .ref h0), (1, .int a)] := hl
  refine lv_iload_n hx hb d_SU_knows_0 rfl (lv_at hl 1 rfl) ?_
  refine lv_if_lt (tgt := 16) hx hb d_SU_knows_1 (by decide) (fun c_1 => ?_) (fun c_1 => ?_)
  · refine lv_iconst (v := 0) hx hb d_SU_knows_16 (by decide) ?_
    exact xr_zret (v := 0) (ty := .boolean) hx hb hr (by exact rfl) (by exact bI_n (xn_notin0 c_1)) d_SU_knows_17 hlocks
  · refine lv_iload_n hx hb d_SU_knows_4 rfl (lv_at hl 1 rfl) ?_
    refine lv_aload_n hx hb d_SU_knows_5 rfl (lv_at hl 0 rfl) ?_
    refine va_get (D := (dC, dI)) (ci := 4) (v := .int (nI sc)) (C := xR_SU) (T := xT_SU) (N := 8) hx hb hts (fun w h => List.mem_cons_of_mem _ (iw_SU w h)) hown hK hP 0 rfl rfl 6 (by decide) (hts _ (List.mem_cons_of_mem _ wm_186)) (fun _ h9 => h9) rfl d_SU_knows_6 ?_
    refine lv_icmp_ge (tgt := 16) hx hb d_SU_knows_9 (by decide) (fun c_2 => ?_) (fun c_2 => ?_)
    · refine lv_iconst (v := 0) hx hb d_SU_knows_16 (by decide) ?_
      exact xr_zret (v := 0) (ty := .boolean) hx hb hr (by exact rfl) (by exact bI_n (xn_notin1 c_2 hc)) d_SU_knows_17 hlocks
    · refine lv_iconst (v := 1) hx hb d_SU_knows_12 (by decide) ?_
      refine lv_goto (tgt := 17) hx hb d_SU_knows_13 (by decide) ?_
      exact xr_zret (v := 1) (ty := .boolean) hx hb hr (by exact rfl) (by exact bI_p (xn_in c_1 (Int32.not_le.mp c_2) hc)) d_SU_knows_17 hlocks
set_option maxHeartbeats 4000000 in
set_option maxRecDepth 100000 in
/-- SetUp.takeParts -/
theorem c_SU_takeParts (l : Launch) (dC : Nat → ClassId) (dI : Nat → Nat → Nat) (sz : Nat) (h0 : Nat) (su : Nat) (sp : Nat) (sm : Nat) (se : Nat) (dv : Int64) (ht : Int32) (sc : Nat) (md : Int32) (ca : ClassId) (fa : Nat → Int64) (s1 : Int64) (s2 : Int64) (s3 : Int64) (s4 : Int64) (s5 : Int64) (s6 : Int64) (s7 : Int64) (s8 : Int64) (s9 : Int64)  : Met l xy_SU_takeParts xw_SU_takeParts ({ frames := 2, cells := 0, slots := 0, locals := 48 }) (xp_w [.ref h0] sz (dC, dI) xCl [(h0, .inr (4, [.ref su, .ref sp, .ref sm, .ref se, .long dv, .int ht, .int (nI sc), .int md])), (sp, .inl (ca, 4, .inr (.inl fa))), (su, .inr (3, [.long s1, .long s2, .long s3, .long s4, .long s5, .long s6, .long s7, .long s8, .long s9]))] [(ca, .long)]) (va_Qv (fun (_ : Unit) => True) (fun _ t => xb_w (dC, dI) xCl [(h0, .inr (4, [.ref su, .ref sp, .ref sm, .ref se, .long (sr_dv s1 s4 s5 s6), .int (sr_ht s1 s9), .int (nI sc), .int md])), (sp, .inl (ca, 4, .inr (.inl (sr_pt s1 s2 s3 s4 s5 s6 s7 s8 fa)))), (su, .inr (3, [.long s1, .long s2, .long s3, .long s4, .long s5, .long s6, .long s7, .long s8, .long s9]))] [(ca, .long)] (va_A [(h0, .inr (4, [.ref su, .ref sp, .ref sm, .ref se, .long dv, .int ht, .int (nI sc), .int md])), (sp, .inl (ca, 4, .inr (.inl fa))), (su, .inr (3, [.long s1, .long s2, .long s3, .long s4, .long s5, .long s6, .long s7, .long s8, .long s9]))] sz) t) (va_A [(h0, .inr (4, [.ref su, .ref sp, .ref sm, .ref se, .long dv, .int ht, .int (nI sc), .int md])), (sp, .inl (ca, 4, .inr (.inl fa))), (su, .inr (3, [.long s1, .long s2, .long s3, .long s4, .long s5, .long s6, .long s7, .long s8, .long s9]))] sz)) 0 0 (va_A [(h0, .inr (4, [.ref su, .ref sp, .ref sm, .ref se, .long dv, .int ht, .int (nI sc), .int md])), (sp, .inl (ca, 4, .inr (.inl fa))), (su, .inr (3, [.long s1, .long s2, .long s3, .long s4, .long s5, .long s6, .long s7, .long s8, .long s9]))] sz) := by
  refine Met.ofW (cc := prog_5_method_5_code) (maxL := 7) (ret := none) (by decide) rfl ?_
  intro p e s m args below meth c s₁ B hml hv
  obtain ⟨rfl, hsz, hz, hP, hK, hD0⟩ := hv
  have hx := B.exec
  have hb := B.bytes
  have hr := B.returns
  have hts := atoms_spec (ws := xw_SU_takeParts) B.pre
  have hown : s.vm.findClass xR_SU = some m.cls := findClass_of_methodNamed B.named
  have hlocks := B.notSynchronized
  subst hsz
  have hD := hD0.self (sz := s.heap.size)
  generalize hAe : va_A [(h0, .inr (4, [.ref su, .ref sp, .ref sm, .ref se, .long dv, .int ht, .int (nI sc), .int md])), (sp, .inl (ca, 4, .inr (.inl fa))), (su, .inr (3, [.long s1, .long s2, .long s3, .long s4, .long s5, .long s6, .long s7, .long s8, .long s9]))] s.heap.size = A at hD ⊢
  have hA : ∀ q : Nat, s.heap.size ≤ q → A q := fun q h => by rw [← hAe]; exact Or.inr h
  have hS : va_S A s.heap s.heap [] := va_S.rf
  have hP : va_P (dC, dI) xCl [(h0, .inr (4, [.ref su, .ref sp, .ref sm, .ref se, .long dv, .int ht, .int (nI sc), .int md])), (sp, .inl (ca, 4, .inr (.inl fa))), (su, .inr (3, [.long s1, .long s2, .long s3, .long s4, .long s5, .long s6, .long s7, .long s8, .long s9]))] s.heap := hP
  have hl := lv_entry ([.ref h0]) (n := 7) (Nat.le_of_ble_eq_true rfl)
  rw [lg_entry_eq]
  generalize (lg_sl ([.ref h0]) ++ List.replicate (7 - (lg_sl ([.ref h0])).length) Slot.unset).toArray = ls at hl ⊢
  have hl : lv_has ls 7 [(0, .ref h0)] := hl
  refine lv_aload_n hx hb d_SU_takeParts_0 rfl (lv_at hl 0 rfl) ?_
  refine va_get (D := (dC, dI)) (ci := 4) (v := .ref su) (C := xR_SU) (T := xT_SU) (N := 8) hx hb hts (fun w h => List.mem_cons_of_mem _ (iw_SU w h)) hown hK hP 0 rfl rfl 0 (by decide) (hts _ (List.mem_cons_of_mem _ wm_179)) (fun _ h9 => h9) rfl d_SU_takeParts_1 ?_
  refine xr_calll (va_runV (As := []) (rest := []) ⟨hx, hb, hml, hown, hts⟩ (c_SM_spread l dC dI su s1 s2 s3 s4 s5 s6 s7 s8 s9) (cwV 0 hts (xgV wm_289 wm_290 wm_291 wm_31 wm_292) rfl rfl rfl (by decide +kernel) ⟨Nat.le_of_ble_eq_true rfl, Nat.le_of_ble_eq_true rfl⟩) ⟨xp_blind, va_recv hK hP (ci := 3) (q0 := 2) rfl rfl, fun U hU hW => ⟨rfl, hz.warm hW, by rw [hU]; exact hP.sub [2] rfl, va_K.moved hW.alike (hK.sub [] rfl)⟩⟩ rfl rfl hl.1 rfl (lv_room (Nat.le_of_ble_eq_true rfl)) d_SU_takeParts_4 ⟨Nat.le_of_ble_eq_true rfl, Nat.le_of_ble_eq_true rfl⟩) (fun r_1 h_2 => ?_)
  subst h_2
  refine lv_lstore_n (lv' := [(1, .long (sr_spread s1 s4 s5 s6)), (0, .ref h0)]) hx hb d_SU_takeParts_7 rfl hl (by decide) rfl (fun ls hl => ?_)
  refine lv_aload_n hx hb d_SU_takeParts_8 rfl (lv_at hl 1 rfl) ?_
  refine va_get (D := (dC, dI)) (ci := 4) (v := .ref su) (C := xR_SU) (T := xT_SU) (N := 8) hx hb hts (fun w h => List.mem_cons_of_mem _ (iw_SU w h)) hown hK hP 0 rfl rfl 0 (by decide) (hts _ (List.mem_cons_of_mem _ wm_179)) (fun _ h9 => h9) rfl d_SU_takeParts_9 ?_
  refine xr_calll (va_runV (As := []) (rest := []) ⟨hx, hb, hml, hown, hts⟩ (c_SM_cosine l dC dI su s1 s2 s3 s4 s5 s6 s7 s8 s9) (cwV 0 hts (xgV wm_297 wm_298 wm_299 wm_31 wm_300) rfl rfl rfl (by decide +kernel) ⟨Nat.le_of_ble_eq_true rfl, Nat.le_of_ble_eq_true rfl⟩) ⟨xp_blind, va_recv hK hP (ci := 3) (q0 := 2) rfl rfl, fun U hU hW => ⟨rfl, hz.warm hW, by rw [hU]; exact hP.sub [2] rfl, va_K.moved hW.alike (hK.sub [] rfl)⟩⟩ rfl rfl hl.1 rfl (lv_room (Nat.le_of_ble_eq_true rfl)) d_SU_takeParts_12 ⟨Nat.le_of_ble_eq_true rfl, Nat.le_of_ble_eq_true rfl⟩) (fun r_3 h_4 => ?_)
  subst h_4
  refine lv_lstore_n (lv' := [(3, .long (sr_cosine s1 s2 s3 s4 s5 s7)), (1, .long (sr_spread s1 s4 s5 s6)), (0, .ref h0)]) hx hb d_SU_takeParts_15 rfl hl (by decide) rfl (fun ls hl => ?_)
  refine lv_aload_n hx hb d_SU_takeParts_16 rfl (lv_at hl 2 rfl) ?_
  refine va_get (D := (dC, dI)) (ci := 4) (v := .ref su) (C := xR_SU) (T := xT_SU) (N := 8) hx hb hts (fun w h => List.mem_cons_of_mem _ (iw_SU w h)) hown hK hP 0 rfl rfl 0 (by decide) (hts _ (List.mem_cons_of_mem _ wm_179)) (fun _ h9 => h9) rfl d_SU_takeParts_17 ?_
  refine xr_calll (va_runV (As := []) (rest := []) ⟨hx, hb, hml, hown, hts⟩ (c_SM_sine l dC dI su s1 s2 s3 s4 s5 s6 s7 s8 s9) (cwV 0 hts (xgV wm_301 wm_302 wm_303 wm_31 wm_304) rfl rfl rfl (by decide +kernel) ⟨Nat.le_of_ble_eq_true rfl, Nat.le_of_ble_eq_true rfl⟩) ⟨xp_blind, va_recv hK hP (ci := 3) (q0 := 2) rfl rfl, fun U hU hW => ⟨rfl, hz.warm hW, by rw [hU]; exact hP.sub [2] rfl, va_K.moved hW.alike (hK.sub [] rfl)⟩⟩ rfl rfl hl.1 rfl (lv_room (Nat.le_of_ble_eq_true rfl)) d_SU_takeParts_20 ⟨Nat.le_of_ble_eq_true rfl, Nat.le_of_ble_eq_true rfl⟩) (fun r_5 h_6 => ?_)
  subst h_6
  refine lv_lstore (lv' := [(5, .long (sr_sine s1 s2 s3 s4 s5 s8)), (3, .long (sr_cosine s1 s2 s3 s4 s5 s7)), (1, .long (sr_spread s1 s4 s5 s6)), (0, .ref h0)]) hx hb d_SU_takeParts_23 hl (by decide) rfl (fun ls hl => ?_)
  refine lv_aload_n hx hb d_SU_takeParts_25 rfl (lv_at hl 3 rfl) ?_
  refine lv_aload_n hx hb d_SU_takeParts_26 rfl (lv_at hl 3 rfl) ?_
  refine va_get (D := (dC, dI)) (ci := 4) (v := .ref su) (C := xR_SU) (T := xT_SU) (N := 8) hx hb hts (fun w h => List.mem_cons_of_mem _ (iw_SU w h)) hown hK hP 0 rfl rfl 0 (by decide) (hts _ (List.mem_cons_of_mem _ wm_179)) (fun _ h9 => h9) rfl d_SU_takeParts_27 ?_
  refine va_get (D := (dC, dI)) (ci := 3) (v := .long s1) (C := xR_SM) (T := xT_SM) (N := 9) hx hb hts (fun w h => List.mem_cons_of_mem _ (iw_SM w h)) hown hK hP 2 rfl rfl 0 (by decide) (hts _ (List.mem_cons_of_mem _ wm_144)) (fun _ h9 => h9) rfl d_SU_takeParts_30 ?_
  refine lv_lload_n hx hb d_SU_takeParts_33 rfl (lv_at hl 2 rfl) ?_
  refine lv_lmul hx hb d_SU_takeParts_34 ?_
  refine va_put (D := (dC, dI)) (ci := 4) (v := .long (s1 * (sr_spread s1 s4 s5 s6))) (ty := .long) (C := xR_SU) (T := xT_SU) (N := 8) hx hb hts (fun w h => List.mem_cons_of_mem _ (iw_SU w h)) xt_SU xt_SU_ok xn_SU_nm hown hK hP hD hS 0 rfl rfl 4 (by decide) (hts _ (List.mem_cons_of_mem _ wm_184)) (fun _ h9 => h9) rfl (by decide +kernel) rfl rfl (Nat.le_of_ble_eq_true rfl) d_SU_takeParts_35 (fun H locs hP hD hS => ?_)
  have hP : va_P (dC, dI) xCl [(h0, .inr (4, [.ref su, .ref sp, .ref sm, .ref se, .long (s1 * (sr_spread s1 s4 s5 s6)), .int ht, .int (nI sc), .int md])), (sp, .inl (ca, 4, .inr (.inl fa))), (su, .inr (3, [.long s1, .long s2, .long s3, .long s4, .long s5, .long s6, .long s7, .long s8, .long s9]))] H := hP
  have hD : va_D A [(h0, .inr (4, [.ref su, .ref sp, .ref sm, .ref se, .long (s1 * (sr_spread s1 s4 s5 s6)), .int ht, .int (nI sc), .int md])), (sp, .inl (ca, 4, .inr (.inl fa))), (su, .inr (3, [.long s1, .long s2, .long s3, .long s4, .long s5, .long s6, .long s7, .long s8, .long s9]))] := hD
  refine lv_aload_n hx hb d_SU_takeParts_38 rfl (lv_at hl 3 rfl) ?_
  refine va_get (D := (dC, dI)) (ci := 4) (v := .ref sp) (C := xR_SU) (T := xT_SU) (N := 8) hx hb hts (fun w h => List.mem_cons_of_mem _ (iw_SU w h)) hown hK hP 0 rfl rfl 1 (by decide) (hts _ (List.mem_cons_of_mem _ wm_180)) (fun _ h9 => h9) rfl d_SU_takeParts_39 ?_
  refine lv_iconst (v := 0) hx hb d_SU_takeParts_42 (by decide) ?_
  refine lv_aload_n hx hb d_SU_takeParts_43 rfl (lv_at hl 3 rfl) ?_
  refine va_get (D := (dC, dI)) (ci := 4) (v := .ref su) (C := xR_SU) (T := xT_SU) (N := 8) hx hb hts (fun w h => List.mem_cons_of_mem _ (iw_SU w h)) hown hK hP 0 rfl rfl 0 (by decide) (hts _ (List.mem_cons_of_mem _ wm_179)) (fun _ h9 => h9) rfl d_SU_takeParts_44 ?_
  refine va_get (D := (dC, dI)) (ci := 3) (v := .long s1) (C := xR_SM) (T := xT_SM) (N := 9) hx hb hts (fun w h => List.mem_cons_of_mem _ (iw_SM w h)) hown hK hP 2 rfl rfl 0 (by decide) (hts _ (List.mem_cons_of_mem _ wm_144)) (fun _ h9 => h9) rfl d_SU_takeParts_47 ?_
  refine lv_lload_n hx hb d_SU_takeParts_50 rfl (lv_at hl 1 rfl) ?_
  refine lv_lmul hx hb d_SU_takeParts_51 ?_
  refine xa_last hx hb hK hP hD hS 1 0 rfl rfl 0 (by decide) (by decide) (by decide) d_SU_takeParts_52 (fun H locs hP hD hS => ?_)
  have hP : va_P (dC, dI) xCl [(h0, .inr (4, [.ref su, .ref sp, .ref sm, .ref se, .long (s1 * (sr_spread s1 s4 s5 s6)), .int ht, .int (nI sc), .int md])), (sp, .inl (ca, 4, .inr (.inl (vp_updL fa 0 (s1 * (sr_cosine s1 s2 s3 s4 s5 s7)))))), (su, .inr (3, [.long s1, .long s2, .long s3, .long s4, .long s5, .long s6, .long s7, .long s8, .long s9]))] H := hP
  have hD : va_D A [(h0, .inr (4, [.ref su, .ref sp, .ref sm, .ref se, .long (s1 * (sr_spread s1 s4 s5 s6)), .int ht, .int (nI sc), .int md])), (sp, .inl (ca, 4, .inr (.inl (vp_updL fa 0 (s1 * (sr_cosine s1 s2 s3 s4 s5 s7)))))), (su, .inr (3, [.long s1, .long s2, .long s3, .long s4, .long s5, .long s6, .long s7, .long s8, .long s9]))] := hD
  refine lv_aload_n hx hb d_SU_takeParts_53 rfl (lv_at hl 3 rfl) ?_
  refine va_get (D := (dC, dI)) (ci := 4) (v := .ref sp) (C := xR_SU) (T := xT_SU) (N := 8) hx hb hts (fun w h => List.mem_cons_of_mem _ (iw_SU w h)) hown hK hP 0 rfl rfl 1 (by decide) (hts _ (List.mem_cons_of_mem _ wm_180)) (fun _ h9 => h9) rfl d_SU_takeParts_54 ?_
  refine lv_iconst (v := 1) hx hb d_SU_takeParts_57 (by decide) ?_
  refine lv_aload_n hx hb d_SU_takeParts_58 rfl (lv_at hl 3 rfl) ?_
  refine va_get (D := (dC, dI)) (ci := 4) (v := .ref su) (C := xR_SU) (T := xT_SU) (N := 8) hx hb hts (fun w h => List.mem_cons_of_mem _ (iw_SU w h)) hown hK hP 0 rfl rfl 0 (by decide) (hts _ (List.mem_cons_of_mem _ wm_179)) (fun _ h9 => h9) rfl d_SU_takeParts_59 ?_
  refine va_get (D := (dC, dI)) (ci := 3) (v := .long s1) (C := xR_SM) (T := xT_SM) (N := 9) hx hb hts (fun w h => List.mem_cons_of_mem _ (iw_SM w h)) hown hK hP 2 rfl rfl 0 (by decide) (hts _ (List.mem_cons_of_mem _ wm_144)) (fun _ h9 => h9) rfl d_SU_takeParts_62 ?_
  refine lv_lload hx hb d_SU_takeParts_65 (lv_at hl 0 rfl) ?_
  refine lv_lmul hx hb d_SU_takeParts_67 ?_
  refine xa_last hx hb hK hP hD hS 1 0 rfl rfl 1 (by decide) (by decide) (by decide) d_SU_takeParts_68 (fun H locs hP hD hS => ?_)
  have hP : va_P (dC, dI) xCl [(h0, .inr (4, [.ref su, .ref sp, .ref sm, .ref se, .long (s1 * (sr_spread s1 s4 s5 s6)), .int ht, .int (nI sc), .int md])), (sp, .inl (ca, 4, .inr (.inl (vp_updL (vp_updL fa 0 (s1 * (sr_cosine s1 s2 s3 s4 s5 s7))) 1 (s1 * (sr_sine s1 s2 s3 s4 s5 s8)))))), (su, .inr (3, [.long s1, .long s2, .long s3, .long s4, .long s5, .long s6, .long s7, .long s8, .long s9]))] H := hP
  have hD : va_D A [(h0, .inr (4, [.ref su, .ref sp, .ref sm, .ref se, .long (s1 * (sr_spread s1 s4 s5 s6)), .int ht, .int (nI sc), .int md])), (sp, .inl (ca, 4, .inr (.inl (vp_updL (vp_updL fa 0 (s1 * (sr_cosine s1 s2 s3 s4 s5 s7))) 1 (s1 * (sr_sine s1 s2 s3 s4 s5 s8)))))), (su, .inr (3, [.long s1, .long s2, .long s3, .long s4, .long s5, .long s6, .long s7, .long s8, .long s9]))] := hD
  refine lv_aload_n hx hb d_SU_takeParts_69 rfl (lv_at hl 3 rfl) ?_
  refine va_get (D := (dC, dI)) (ci := 4) (v := .ref sp) (C := xR_SU) (T := xT_SU) (N := 8) hx hb hts (fun w h => List.mem_cons_of_mem _ (iw_SU w h)) hown hK hP 0 rfl rfl 1 (by decide) (hts _ (List.mem_cons_of_mem _ wm_180)) (fun _ h9 => h9) rfl d_SU_takeParts_70 ?_
  refine lv_iconst (v := 2) hx hb d_SU_takeParts_73 (by decide) ?_
  refine lv_aload_n hx hb d_SU_takeParts_74 rfl (lv_at hl 3 rfl) ?_
  refine va_get (D := (dC, dI)) (ci := 4) (v := .ref su) (C := xR_SU) (T := xT_SU) (N := 8) hx hb hts (fun w h => List.mem_cons_of_mem _ (iw_SU w h)) hown hK hP 0 rfl rfl 0 (by decide) (hts _ (List.mem_cons_of_mem _ wm_179)) (fun _ h9 => h9) rfl d_SU_takeParts_75 ?_
  refine va_get (D := (dC, dI)) (ci := 3) (v := .long s2) (C := xR_SM) (T := xT_SM) (N := 9) hx hb hts (fun w h => List.mem_cons_of_mem _ (iw_SM w h)) hown hK hP 2 rfl rfl 1 (by decide) (hts _ (List.mem_cons_of_mem _ wm_146)) (fun _ h9 => h9) rfl d_SU_takeParts_78 ?_
  refine lv_lload_n hx hb d_SU_takeParts_81 rfl (lv_at hl 2 rfl) ?_
  refine lv_lmul hx hb d_SU_takeParts_82 ?_
  refine lv_lload_n hx hb d_SU_takeParts_83 rfl (lv_at hl 1 rfl) ?_
  refine lv_aload_n hx hb d_SU_takeParts_84 rfl (lv_at hl 3 rfl) ?_
  refine va_get (D := (dC, dI)) (ci := 4) (v := .ref su) (C := xR_SU) (T := xT_SU) (N := 8) hx hb hts (fun w h => List.mem_cons_of_mem _ (iw_SU w h)) hown hK hP 0 rfl rfl 0 (by decide) (hts _ (List.mem_cons_of_mem _ wm_179)) (fun _ h9 => h9) rfl d_SU_takeParts_85 ?_
  refine va_get (D := (dC, dI)) (ci := 3) (v := .long s4) (C := xR_SM) (T := xT_SM) (N := 9) hx hb hts (fun w h => List.mem_cons_of_mem _ (iw_SM w h)) hown hK hP 2 rfl rfl 3 (by decide) (hts _ (List.mem_cons_of_mem _ wm_150)) (fun _ h9 => h9) rfl d_SU_takeParts_88 ?_
  refine lv_lmul hx hb d_SU_takeParts_91 ?_
  refine lv_lsub hx hb d_SU_takeParts_92 ?_
  refine lv_lload hx hb d_SU_takeParts_93 (lv_at hl 0 rfl) ?_
  refine lv_aload_n hx hb d_SU_takeParts_95 rfl (lv_at hl 3 rfl) ?_
  refine va_get (D := (dC, dI)) (ci := 4) (v := .ref su) (C := xR_SU) (T := xT_SU) (N := 8) hx hb hts (fun w h => List.mem_cons_of_mem _ (iw_SU w h)) hown hK hP 0 rfl rfl 0 (by decide) (hts _ (List.mem_cons_of_mem _ wm_179)) (fun _ h9 => h9) rfl d_SU_takeParts_96 ?_
  refine va_get (D := (dC, dI)) (ci := 3) (v := .long s5) (C := xR_SM) (T := xT_SM) (N := 9) hx hb hts (fun w h => List.mem_cons_of_mem _ (iw_SM w h)) hown hK hP 2 rfl rfl 4 (by decide) (hts _ (List.mem_cons_of_mem _ wm_152)) (fun _ h9 => h9) rfl d_SU_takeParts_99 ?_
  refine lv_lmul hx hb d_SU_takeParts_102 ?_
  refine lv_ladd hx hb d_SU_takeParts_103 ?_
  refine xa_last hx hb hK hP hD hS 1 0 rfl rfl 2 (by decide) (by decide) (by decide) d_SU_takeParts_104 (fun H locs hP hD hS => ?_)
  have hP : va_P (dC, dI) xCl [(h0, .inr (4, [.ref su, .ref sp, .ref sm, .ref se, .long (s1 * (sr_spread s1 s4 s5 s6)), .int ht, .int (nI sc), .int md])), (sp, .inl (ca, 4, .inr (.inl (vp_updL (vp_updL (vp_updL fa 0 (s1 * (sr_cosine s1 s2 s3 s4 s5 s7))) 1 (s1 * (sr_sine s1 s2 s3 s4 s5 s8))) 2 (((s2 * (sr_spread s1 s4 s5 s6)) - ((sr_cosine s1 s2 s3 s4 s5 s7) * s4)) + ((sr_sine s1 s2 s3 s4 s5 s8) * s5)))))), (su, .inr (3, [.long s1, .long s2, .long s3, .long s4, .long s5, .long s6, .long s7, .long s8, .long s9]))] H := hP
  have hD : va_D A [(h0, .inr (4, [.ref su, .ref sp, .ref sm, .ref se, .long (s1 * (sr_spread s1 s4 s5 s6)), .int ht, .int (nI sc), .int md])), (sp, .inl (ca, 4, .inr (.inl (vp_updL (vp_updL (vp_updL fa 0 (s1 * (sr_cosine s1 s2 s3 s4 s5 s7))) 1 (s1 * (sr_sine s1 s2 s3 s4 s5 s8))) 2 (((s2 * (sr_spread s1 s4 s5 s6)) - ((sr_cosine s1 s2 s3 s4 s5 s7) * s4)) + ((sr_sine s1 s2 s3 s4 s5 s8) * s5)))))), (su, .inr (3, [.long s1, .long s2, .long s3, .long s4, .long s5, .long s6, .long s7, .long s8, .long s9]))] := hD
  refine lv_aload_n hx hb d_SU_takeParts_105 rfl (lv_at hl 3 rfl) ?_
  refine va_get (D := (dC, dI)) (ci := 4) (v := .ref sp) (C := xR_SU) (T := xT_SU) (N := 8) hx hb hts (fun w h => List.mem_cons_of_mem _ (iw_SU w h)) hown hK hP 0 rfl rfl 1 (by decide) (hts _ (List.mem_cons_of_mem _ wm_180)) (fun _ h9 => h9) rfl d_SU_takeParts_106 ?_
  refine lv_iconst (v := 3) hx hb d_SU_takeParts_109 (by decide) ?_
  refine lv_aload_n hx hb d_SU_takeParts_110 rfl (lv_at hl 3 rfl) ?_
  refine va_get (D := (dC, dI)) (ci := 4) (v := .ref su) (C := xR_SU) (T := xT_SU) (N := 8) hx hb hts (fun w h => List.mem_cons_of_mem _ (iw_SU w h)) hown hK hP 0 rfl rfl 0 (by decide) (hts _ (List.mem_cons_of_mem _ wm_179)) (fun _ h9 => h9) rfl d_SU_takeParts_111 ?_
  refine va_get (D := (dC, dI)) (ci := 3) (v := .long s3) (C := xR_SM) (T := xT_SM) (N := 9) hx hb hts (fun w h => List.mem_cons_of_mem _ (iw_SM w h)) hown hK hP 2 rfl rfl 2 (by decide) (hts _ (List.mem_cons_of_mem _ wm_148)) (fun _ h9 => h9) rfl d_SU_takeParts_114 ?_
  refine lv_lload_n hx hb d_SU_takeParts_117 rfl (lv_at hl 2 rfl) ?_
  refine lv_lmul hx hb d_SU_takeParts_118 ?_
  refine lv_lload hx hb d_SU_takeParts_119 (lv_at hl 0 rfl) ?_
  refine lv_aload_n hx hb d_SU_takeParts_121 rfl (lv_at hl 3 rfl) ?_
  refine va_get (D := (dC, dI)) (ci := 4) (v := .ref su) (C := xR_SU) (T := xT_SU) (N := 8) hx hb hts (fun w h => List.mem_cons_of_mem _ (iw_SU w h)) hown hK hP 0 rfl rfl 0 (by decide) (hts _ (List.mem_cons_of_mem _ wm_179)) (fun _ h9 => h9) rfl d_SU_takeParts_122 ?_
  refine va_get (D := (dC, dI)) (ci := 3) (v := .long s4) (C := xR_SM) (T := xT_SM) (N := 9) hx hb hts (fun w h => List.mem_cons_of_mem _ (iw_SM w h)) hown hK hP 2 rfl rfl 3 (by decide) (hts _ (List.mem_cons_of_mem _ wm_150)) (fun _ h9 => h9) rfl d_SU_takeParts_125 ?_
  refine lv_lmul hx hb d_SU_takeParts_128 ?_
  refine lv_lsub hx hb d_SU_takeParts_129 ?_
  refine lv_lload_n hx hb d_SU_takeParts_130 rfl (lv_at hl 1 rfl) ?_
  refine lv_aload_n hx hb d_SU_takeParts_131 rfl (lv_at hl 3 rfl) ?_
  refine va_get (D := (dC, dI)) (ci := 4) (v := .ref su) (C := xR_SU) (T := xT_SU) (N := 8) hx hb hts (fun w h => List.mem_cons_of_mem _ (iw_SU w h)) hown hK hP 0 rfl rfl 0 (by decide) (hts _ (List.mem_cons_of_mem _ wm_179)) (fun _ h9 => h9) rfl d_SU_takeParts_132 ?_
  refine va_get (D := (dC, dI)) (ci := 3) (v := .long s5) (C := xR_SM) (T := xT_SM) (N := 9) hx hb hts (fun w h => List.mem_cons_of_mem _ (iw_SM w h)) hown hK hP 2 rfl rfl 4 (by decide) (hts _ (List.mem_cons_of_mem _ wm_152)) (fun _ h9 => h9) rfl d_SU_takeParts_135 ?_
  refine lv_lmul hx hb d_SU_takeParts_138 ?_
  refine lv_lsub hx hb d_SU_takeParts_139 ?_
  refine xa_last hx hb hK hP hD hS 1 0 rfl rfl 3 (by decide) (by decide) (by decide) d_SU_takeParts_140 (fun H locs hP hD hS => ?_)
  have hP : va_P (dC, dI) xCl [(h0, .inr (4, [.ref su, .ref sp, .ref sm, .ref se, .long (s1 * (sr_spread s1 s4 s5 s6)), .int ht, .int (nI sc), .int md])), (sp, .inl (ca, 4, .inr (.inl (vp_updL (vp_updL (vp_updL (vp_updL fa 0 (s1 * (sr_cosine s1 s2 s3 s4 s5 s7))) 1 (s1 * (sr_sine s1 s2 s3 s4 s5 s8))) 2 (((s2 * (sr_spread s1 s4 s5 s6)) - ((sr_cosine s1 s2 s3 s4 s5 s7) * s4)) + ((sr_sine s1 s2 s3 s4 s5 s8) * s5))) 3 (((s3 * (sr_spread s1 s4 s5 s6)) - ((sr_sine s1 s2 s3 s4 s5 s8) * s4)) - ((sr_cosine s1 s2 s3 s4 s5 s7) * s5)))))), (su, .inr (3, [.long s1, .long s2, .long s3, .long s4, .long s5, .long s6, .long s7, .long s8, .long s9]))] H := hP
  have hD : va_D A [(h0, .inr (4, [.ref su, .ref sp, .ref sm, .ref se, .long (s1 * (sr_spread s1 s4 s5 s6)), .int ht, .int (nI sc), .int md])), (sp, .inl (ca, 4, .inr (.inl (vp_updL (vp_updL (vp_updL (vp_updL fa 0 (s1 * (sr_cosine s1 s2 s3 s4 s5 s7))) 1 (s1 * (sr_sine s1 s2 s3 s4 s5 s8))) 2 (((s2 * (sr_spread s1 s4 s5 s6)) - ((sr_cosine s1 s2 s3 s4 s5 s7) * s4)) + ((sr_sine s1 s2 s3 s4 s5 s8) * s5))) 3 (((s3 * (sr_spread s1 s4 s5 s6)) - ((sr_sine s1 s2 s3 s4 s5 s8) * s4)) - ((sr_cosine s1 s2 s3 s4 s5 s7) * s5)))))), (su, .inr (3, [.long s1, .long s2, .long s3, .long s4, .long s5, .long s6, .long s7, .long s8, .long s9]))] := hD
  refine lv_aload_n hx hb d_SU_takeParts_141 rfl (lv_at hl 3 rfl) ?_
  refine lv_aload_n hx hb d_SU_takeParts_142 rfl (lv_at hl 3 rfl) ?_
  refine va_get (D := (dC, dI)) (ci := 4) (v := .ref su) (C := xR_SU) (T := xT_SU) (N := 8) hx hb hts (fun w h => List.mem_cons_of_mem _ (iw_SU w h)) hown hK hP 0 rfl rfl 0 (by decide) (hts _ (List.mem_cons_of_mem _ wm_179)) (fun _ h9 => h9) rfl d_SU_takeParts_143 ?_
  refine va_get (D := (dC, dI)) (ci := 3) (v := .long s9) (C := xR_SM) (T := xT_SM) (N := 9) hx hb hts (fun w h => List.mem_cons_of_mem _ (iw_SM w h)) hown hK hP 2 rfl rfl 8 (by decide) (hts _ (List.mem_cons_of_mem _ wm_157)) (fun _ h9 => h9) rfl d_SU_takeParts_146 ?_
  refine lv_aload_n hx hb d_SU_takeParts_149 rfl (lv_at hl 3 rfl) ?_
  refine va_get (D := (dC, dI)) (ci := 4) (v := .ref su) (C := xR_SU) (T := xT_SU) (N := 8) hx hb hts (fun w h => List.mem_cons_of_mem _ (iw_SU w h)) hown hK hP 0 rfl rfl 0 (by decide) (hts _ (List.mem_cons_of_mem _ wm_179)) (fun _ h9 => h9) rfl d_SU_takeParts_150 ?_
  refine va_get (D := (dC, dI)) (ci := 3) (v := .long s1) (C := xR_SM) (T := xT_SM) (N := 9) hx hb hts (fun w h => List.mem_cons_of_mem _ (iw_SM w h)) hown hK hP 2 rfl rfl 0 (by decide) (hts _ (List.mem_cons_of_mem _ wm_144)) (fun _ h9 => h9) rfl d_SU_takeParts_153 ?_
  refine xr_calll (va_runSN (As := [.long s9, .long s1]) (rest := [.ref h0]) ⟨hx, hb, hml, hown, hts⟩ (c_SR_dividedDown l dC dI s9 s1) ⟨(va_cnB (host := "StationRounds") 2 hts (xg wm_307) rfl rfl rfl (hz.nest (own := xR_SU) (idx := 81) (y := xy_SR_dividedDown) (by decide +kernel)) (hts _ (List.mem_cons_of_mem _ wm_26)) (by decide +kernel) ⟨Nat.le_of_ble_eq_true rfl, Nat.le_of_ble_eq_true rfl⟩), hts _ (List.mem_cons_of_mem _ wm_306), trivial⟩ ⟨xp_blind, fun U hU hW => ⟨rfl, hz.warm hW, by rw [hU]; exact hP.sub [] rfl, va_K.moved hW.alike (hK.sub [] rfl)⟩⟩ rfl rfl hl.1 rfl (lv_room (Nat.le_of_ble_eq_true rfl)) d_SU_takeParts_156 ⟨Nat.le_of_ble_eq_true rfl, Nat.le_of_ble_eq_true rfl⟩) (fun r_7 h_8 => ?_)
  subst h_8
  refine lv_l2i (v := (sr_dd s9 s1).toInt32) hx hb d_SU_takeParts_159 rfl ?_
  refine va_put (D := (dC, dI)) (ci := 4) (v := .int ((sr_dd s9 s1).toInt32)) (ty := .int) (C := xR_SU) (T := xT_SU) (N := 8) hx hb hts (fun w h => List.mem_cons_of_mem _ (iw_SU w h)) xt_SU xt_SU_ok xn_SU_nm hown hK hP hD hS 0 rfl rfl 5 (by decide) (hts _ (List.mem_cons_of_mem _ wm_185)) (fun _ h9 => h9) rfl (by decide +kernel) rfl rfl (Nat.le_of_ble_eq_true rfl) d_SU_takeParts_160 (fun H locs hP hD hS => ?_)
  have hP : va_P (dC, dI) xCl [(h0, .inr (4, [.ref su, .ref sp, .ref sm, .ref se, .long (s1 * (sr_spread s1 s4 s5 s6)), .int ((sr_dd s9 s1).toInt32), .int (nI sc), .int md])), (sp, .inl (ca, 4, .inr (.inl (vp_updL (vp_updL (vp_updL (vp_updL fa 0 (s1 * (sr_cosine s1 s2 s3 s4 s5 s7))) 1 (s1 * (sr_sine s1 s2 s3 s4 s5 s8))) 2 (((s2 * (sr_spread s1 s4 s5 s6)) - ((sr_cosine s1 s2 s3 s4 s5 s7) * s4)) + ((sr_sine s1 s2 s3 s4 s5 s8) * s5))) 3 (((s3 * (sr_spread s1 s4 s5 s6)) - ((sr_sine s1 s2 s3 s4 s5 s8) * s4)) - ((sr_cosine s1 s2 s3 s4 s5 s7) * s5)))))), (su, .inr (3, [.long s1, .long s2, .long s3, .long s4, .long s5, .long s6, .long s7, .long s8, .long s9]))] H := hP
  have hD : va_D A [(h0, .inr (4, [.ref su, .ref sp, .ref sm, .ref se, .long (s1 * (sr_spread s1 s4 s5 s6)), .int ((sr_dd s9 s1).toInt32), .int (nI sc), .int md])), (sp, .inl (ca, 4, .inr (.inl (vp_updL (vp_updL (vp_updL (vp_updL fa 0 (s1 * (sr_cosine s1 s2 s3 s4 s5 s7))) 1 (s1 * (sr_sine s1 s2 s3 s4 s5 s8))) 2 (((s2 * (sr_spread s1 s4 s5 s6)) - ((sr_cosine s1 s2 s3 s4 s5 s7) * s4)) + ((sr_sine s1 s2 s3 s4 s5 s8) * s5))) 3 (((s3 * (sr_spread s1 s4 s5 s6)) - ((sr_sine s1 s2 s3 s4 s5 s8) * s4)) - ((sr_cosine s1 s2 s3 s4 s5 s7) * s5)))))), (su, .inr (3, [.long s1, .long s2, .long s3, .long s4, .long s5, .long s6, .long s7, .long s8, .long s9]))] := hD
  have hP9 := hP.sub (ws' := [(h0, .inr (4, [.ref su, .ref sp, .ref sm, .ref se, .long (s1 * (sr_spread s1 s4 s5 s6)), .int ((sr_dd s9 s1).toInt32), .int (nI sc), .int md])), (sp, .inl (ca, 4, .inr (.inl (vp_updL (vp_updL (vp_updL (vp_updL fa 0 (s1 * (sr_cosine s1 s2 s3 s4 s5 s7))) 1 (s1 * (sr_sine s1 s2 s3 s4 s5 s8))) 2 (((s2 * (sr_spread s1 s4 s5 s6)) - ((sr_cosine s1 s2 s3 s4 s5 s7) * s4)) + ((sr_sine s1 s2 s3 s4 s5 s8) * s5))) 3 (((s3 * (sr_spread s1 s4 s5 s6)) - ((sr_sine s1 s2 s3 s4 s5 s8) * s4)) - ((sr_cosine s1 s2 s3 s4 s5 s7) * s5)))))), (su, .inr (3, [.long s1, .long s2, .long s3, .long s4, .long s5, .long s6, .long s7, .long s8, .long s9]))]) [0, 1, 2] rfl
  have hD9 := hD.sub (ws' := [(h0, .inr (4, [.ref su, .ref sp, .ref sm, .ref se, .long (s1 * (sr_spread s1 s4 s5 s6)), .int ((sr_dd s9 s1).toInt32), .int (nI sc), .int md])), (sp, .inl (ca, 4, .inr (.inl (vp_updL (vp_updL (vp_updL (vp_updL fa 0 (s1 * (sr_cosine s1 s2 s3 s4 s5 s7))) 1 (s1 * (sr_sine s1 s2 s3 s4 s5 s8))) 2 (((s2 * (sr_spread s1 s4 s5 s6)) - ((sr_cosine s1 s2 s3 s4 s5 s7) * s4)) + ((sr_sine s1 s2 s3 s4 s5 s8) * s5))) 3 (((s3 * (sr_spread s1 s4 s5 s6)) - ((sr_sine s1 s2 s3 s4 s5 s8) * s4)) - ((sr_cosine s1 s2 s3 s4 s5 s7) * s5)))))), (su, .inr (3, [.long s1, .long s2, .long s3, .long s4, .long s5, .long s6, .long s7, .long s8, .long s9]))]) [0, 1, 2] (by decide) rfl
  have hK9 := hK.sub (tys' := [(ca, .long)]) [0] rfl
  exact W.vret hx hb hr (fun t ht hW => ⟨⟨(), rfl, trivial, ⟨by rw [ht]; exact hP9, va_K.moved hW.alike hK9, by exact hD9⟩⟩, hS.F ht⟩) hS.2.2 d_SU_takeParts_163 hlocks
set_option maxHeartbeats 4000000 in
set_option maxRecDepth 100000 in
/-- SetUp.placeAlong(0) -/
theorem c_SU_placeAlong0 (l : Launch) (dC : Nat → ClassId) (dI : Nat → Nat → Nat) (h0 : Nat) (su : Nat) (sp : Nat) (sm : Nat) (se : Nat) (dv : Int64) (ht : Int32) (sc : Nat) (md : Int32) (ca : ClassId) (fa : Nat → Int64) (a : Int32) (b : Int32) (d : Int32)  : Met l xy_SU_placeAlong xw_SU_placeAlong ({ frames := 2, cells := 0, slots := 0, locals := 48 }) (xp_r [.ref h0, .int 0, .int a, .int b, .int d] (dC, dI) xCl [(h0, .inr (4, [.ref su, .ref sp, .ref sm, .ref se, .long dv, .int ht, .int (nI sc), .int md])), (sp, .inl (ca, 4, .inr (.inl fa)))] [(ca, .long)]) (xr_i (fun r => r = sr_px fa dv a b)) 0 0 (fun _ => False) := by
  refine Met.ofW (cc := prog_5_method_7_code) (maxL := 5) (ret := (some .int)) (by decide) rfl ?_
  intro p e s m args below meth c s₁ B hml hv
  obtain ⟨rfl, hz, hP, hK⟩ := hv
  have hx := B.exec
  have hb := B.bytes
  have hr := B.returns
  have hts := atoms_spec (ws := xw_SU_placeAlong) B.pre
  have hown : s.vm.findClass xR_SU = some m.cls := findClass_of_methodNamed B.named
  have hlocks := B.notSynchronized
  have hP : va_P (dC, dI) xCl [(h0, .inr (4, [.ref su, .ref sp, .ref sm, .ref se, .long dv, .int ht, .int (nI sc), .int md])), (sp, .inl (ca, 4, .inr (.inl fa)))] s.heap := hP
  have hl := lv_entry ([.ref h0, .int 0, .int a, .int b, .int d]) (n := 5) (Nat.le_of_ble_eq_true rfl)
  rw [lg_entry_eq]
  generalize (lg_sl ([.ref h0, .int 0, .int a, .int b, .int d]) ++ List.replicate (5 - (lg_sl ([.ref h0, .int 0, .int a, .int b, .int d])).length) Slot.unset).toArray = ls at hl ⊢
  have hl : lv_has ls 5 [(0, .ref h0), (1, .int 0), (2, .int a), (3, .int b), (4, .int d)] := hl
  refine lv_iload_n hx hb d_SU_placeAlong_0 rfl (lv_at hl 1 rfl) ?_
  refine lv_lookup (off := 27) (tgt := 28) hx hb d_SU_placeAlong_1 (by decide) (by decide) (by decide) ?_
  refine lv_aload_n hx hb d_SU_placeAlong_28 rfl (lv_at hl 0 rfl) ?_
  refine va_get (D := (dC, dI)) (ci := 4) (v := .ref sp) (C := xR_SU) (T := xT_SU) (N := 8) hx hb hts (fun w h => List.mem_cons_of_mem _ (iw_SU w h)) hown hK hP 0 rfl rfl 1 (by decide) (hts _ (List.mem_cons_of_mem _ wm_180)) (fun _ h9 => h9) rfl d_SU_placeAlong_29 ?_
  refine lv_iconst (v := 0) hx hb d_SU_placeAlong_32 (by decide) ?_
  refine xa_lald hx hb hK hP 1 0 rfl rfl 0 (by decide) (by decide) (by decide) d_SU_placeAlong_33 ?_
  refine lv_iload_n hx hb d_SU_placeAlong_34 rfl (lv_at hl 2 rfl) ?_
  refine lv_i2l (v := a.toInt64) hx hb d_SU_placeAlong_35 rfl ?_
  refine lv_lmul hx hb d_SU_placeAlong_36 ?_
  refine lv_aload_n hx hb d_SU_placeAlong_37 rfl (lv_at hl 0 rfl) ?_
  refine va_get (D := (dC, dI)) (ci := 4) (v := .ref sp) (C := xR_SU) (T := xT_SU) (N := 8) hx hb hts (fun w h => List.mem_cons_of_mem _ (iw_SU w h)) hown hK hP 0 rfl rfl 1 (by decide) (hts _ (List.mem_cons_of_mem _ wm_180)) (fun _ h9 => h9) rfl d_SU_placeAlong_38 ?_
  refine lv_iconst (v := 1) hx hb d_SU_placeAlong_41 (by decide) ?_
  refine xa_lald hx hb hK hP 1 0 rfl rfl 1 (by decide) (by decide) (by decide) d_SU_placeAlong_42 ?_
  refine lv_iload_n hx hb d_SU_placeAlong_43 rfl (lv_at hl 3 rfl) ?_
  refine lv_i2l (v := b.toInt64) hx hb d_SU_placeAlong_44 rfl ?_
  refine lv_lmul hx hb d_SU_placeAlong_45 ?_
  refine lv_lsub hx hb d_SU_placeAlong_46 ?_
  refine lv_aload_n hx hb d_SU_placeAlong_47 rfl (lv_at hl 0 rfl) ?_
  refine va_get (D := (dC, dI)) (ci := 4) (v := .ref sp) (C := xR_SU) (T := xT_SU) (N := 8) hx hb hts (fun w h => List.mem_cons_of_mem _ (iw_SU w h)) hown hK hP 0 rfl rfl 1 (by decide) (hts _ (List.mem_cons_of_mem _ wm_180)) (fun _ h9 => h9) rfl d_SU_placeAlong_48 ?_
  refine lv_iconst (v := 2) hx hb d_SU_placeAlong_51 (by decide) ?_
  refine xa_lald hx hb hK hP 1 0 rfl rfl 2 (by decide) (by decide) (by decide) d_SU_placeAlong_52 ?_
  refine lv_ladd hx hb d_SU_placeAlong_53 ?_
  refine lv_aload_n hx hb d_SU_placeAlong_54 rfl (lv_at hl 0 rfl) ?_
  refine va_get (D := (dC, dI)) (ci := 4) (v := .long dv) (C := xR_SU) (T := xT_SU) (N := 8) hx hb hts (fun w h => List.mem_cons_of_mem _ (iw_SU w h)) hown hK hP 0 rfl rfl 4 (by decide) (hts _ (List.mem_cons_of_mem _ wm_184)) (fun _ h9 => h9) rfl d_SU_placeAlong_55 ?_
  refine xr_calll (va_runSN (As := [.long ((((fa 0) * a.toInt64) - ((fa 1) * b.toInt64)) + (fa 2)), .long dv]) (rest := []) ⟨hx, hb, hml, hown, hts⟩ (c_SR_dividedDown l dC dI ((((fa 0) * a.toInt64) - ((fa 1) * b.toInt64)) + (fa 2)) dv) ⟨(va_cnB (host := "StationRounds") 2 hts (xg wm_307) rfl rfl rfl (hz.nest (own := xR_SU) (idx := 81) (y := xy_SR_dividedDown) (by decide +kernel)) (hts _ (List.mem_cons_of_mem _ wm_26)) (by decide +kernel) ⟨Nat.le_of_ble_eq_true rfl, Nat.le_of_ble_eq_true rfl⟩), hts _ (List.mem_cons_of_mem _ wm_306), trivial⟩ ⟨xp_blind, fun U hU hW => ⟨rfl, hz.warm hW, by rw [hU]; exact hP.sub [] rfl, va_K.moved hW.alike (hK.sub [] rfl)⟩⟩ rfl rfl hl.1 rfl (lv_room (Nat.le_of_ble_eq_true rfl)) d_SU_placeAlong_58 ⟨Nat.le_of_ble_eq_true rfl, Nat.le_of_ble_eq_true rfl⟩) (fun r_1 h_2 => ?_)
  subst h_2
  refine lv_l2i (v := (sr_dd ((((fa 0) * a.toInt64) - ((fa 1) * b.toInt64)) + (fa 2)) dv).toInt32) hx hb d_SU_placeAlong_61 rfl ?_
  exact xr_iret (v := (sr_dd ((((fa 0) * a.toInt64) - ((fa 1) * b.toInt64)) + (fa 2)) dv).toInt32) hx hb hr (by exact rfl) d_SU_placeAlong_62 hlocks
set_option maxHeartbeats 4000000 in
set_option maxRecDepth 100000 in
/-- SetUp.placeAlong(1) -/
theorem c_SU_placeAlong1 (l : Launch) (dC : Nat → ClassId) (dI : Nat → Nat → Nat) (h0 : Nat) (su : Nat) (sp : Nat) (sm : Nat) (se : Nat) (dv : Int64) (ht : Int32) (sc : Nat) (md : Int32) (ca : ClassId) (fa : Nat → Int64) (a : Int32) (b : Int32) (d : Int32)  : Met l xy_SU_placeAlong xw_SU_placeAlong ({ frames := 2, cells := 0, slots := 0, locals := 48 }) (xp_r [.ref h0, .int 1, .int a, .int b, .int d] (dC, dI) xCl [(h0, .inr (4, [.ref su, .ref sp, .ref sm, .ref se, .long dv, .int ht, .int (nI sc), .int md])), (sp, .inl (ca, 4, .inr (.inl fa)))] [(ca, .long)]) (xr_i (fun r => r = sr_py fa dv a b)) 0 0 (fun _ => False) := by
  refine Met.ofW (cc := prog_5_method_7_code) (maxL := 5) (ret := (some .int)) (by decide) rfl ?_
  intro p e s m args below meth c s₁ B hml hv
  obtain ⟨rfl, hz, hP, hK⟩ := hv
  have hx := B.exec
  have hb := B.bytes
  have hr := B.returns
  have hts := atoms_spec (ws := xw_SU_placeAlong) B.pre
  have hown : s.vm.findClass xR_SU = some m.cls := findClass_of_methodNamed B.named
  have hlocks := B.notSynchronized
  have hP : va_P (dC, dI) xCl [(h0, .inr (4, [.ref su, .ref sp, .ref sm, .ref se, .long dv, .int ht, .int (nI sc), .int md])), (sp, .inl (ca, 4, .inr (.inl fa)))] s.heap := hP
  have hl := lv_entry ([.ref h0, .int 1, .int a, .int b, .int d]) (n := 5) (Nat.le_of_ble_eq_true rfl)
  rw [lg_entry_eq]
  generalize (lg_sl ([.ref h0, .int 1, .int a, .int b, .int d]) ++ List.replicate (5 - (lg_sl ([.ref h0, .int 1, .int a, .int b, .int d])).length) Slot.unset).toArray = ls at hl ⊢
  have hl : lv_has ls 5 [(0, .ref h0), (1, .int 1), (2, .int a), (3, .int b), (4, .int d)] := hl
  refine lv_iload_n hx hb d_SU_placeAlong_0 rfl (lv_at hl 1 rfl) ?_
  refine lv_lookup (off := 62) (tgt := 63) hx hb d_SU_placeAlong_1 (by decide) (by decide) (by decide) ?_
  refine lv_aload_n hx hb d_SU_placeAlong_63 rfl (lv_at hl 0 rfl) ?_
  refine va_get (D := (dC, dI)) (ci := 4) (v := .ref sp) (C := xR_SU) (T := xT_SU) (N := 8) hx hb hts (fun w h => List.mem_cons_of_mem _ (iw_SU w h)) hown hK hP 0 rfl rfl 1 (by decide) (hts _ (List.mem_cons_of_mem _ wm_180)) (fun _ h9 => h9) rfl d_SU_placeAlong_64 ?_
  refine lv_iconst (v := 1) hx hb d_SU_placeAlong_67 (by decide) ?_
  refine xa_lald hx hb hK hP 1 0 rfl rfl 1 (by decide) (by decide) (by decide) d_SU_placeAlong_68 ?_
  refine lv_iload_n hx hb d_SU_placeAlong_69 rfl (lv_at hl 2 rfl) ?_
  refine lv_i2l (v := a.toInt64) hx hb d_SU_placeAlong_70 rfl ?_
  refine lv_lmul hx hb d_SU_placeAlong_71 ?_
  refine lv_aload_n hx hb d_SU_placeAlong_72 rfl (lv_at hl 0 rfl) ?_
  refine va_get (D := (dC, dI)) (ci := 4) (v := .ref sp) (C := xR_SU) (T := xT_SU) (N := 8) hx hb hts (fun w h => List.mem_cons_of_mem _ (iw_SU w h)) hown hK hP 0 rfl rfl 1 (by decide) (hts _ (List.mem_cons_of_mem _ wm_180)) (fun _ h9 => h9) rfl d_SU_placeAlong_73 ?_
  refine lv_iconst (v := 0) hx hb d_SU_placeAlong_76 (by decide) ?_
  refine xa_lald hx hb hK hP 1 0 rfl rfl 0 (by decide) (by decide) (by decide) d_SU_placeAlong_77 ?_
  refine lv_iload_n hx hb d_SU_placeAlong_78 rfl (lv_at hl 3 rfl) ?_
  refine lv_i2l (v := b.toInt64) hx hb d_SU_placeAlong_79 rfl ?_
  refine lv_lmul hx hb d_SU_placeAlong_80 ?_
  refine lv_ladd hx hb d_SU_placeAlong_81 ?_
  refine lv_aload_n hx hb d_SU_placeAlong_82 rfl (lv_at hl 0 rfl) ?_
  refine va_get (D := (dC, dI)) (ci := 4) (v := .ref sp) (C := xR_SU) (T := xT_SU) (N := 8) hx hb hts (fun w h => List.mem_cons_of_mem _ (iw_SU w h)) hown hK hP 0 rfl rfl 1 (by decide) (hts _ (List.mem_cons_of_mem _ wm_180)) (fun _ h9 => h9) rfl d_SU_placeAlong_83 ?_
  refine lv_iconst (v := 3) hx hb d_SU_placeAlong_86 (by decide) ?_
  refine xa_lald hx hb hK hP 1 0 rfl rfl 3 (by decide) (by decide) (by decide) d_SU_placeAlong_87 ?_
  refine lv_ladd hx hb d_SU_placeAlong_88 ?_
  refine lv_aload_n hx hb d_SU_placeAlong_89 rfl (lv_at hl 0 rfl) ?_
  refine va_get (D := (dC, dI)) (ci := 4) (v := .long dv) (C := xR_SU) (T := xT_SU) (N := 8) hx hb hts (fun w h => List.mem_cons_of_mem _ (iw_SU w h)) hown hK hP 0 rfl rfl 4 (by decide) (hts _ (List.mem_cons_of_mem _ wm_184)) (fun _ h9 => h9) rfl d_SU_placeAlong_90 ?_
  refine xr_calll (va_runSN (As := [.long ((((fa 1) * a.toInt64) + ((fa 0) * b.toInt64)) + (fa 3)), .long dv]) (rest := []) ⟨hx, hb, hml, hown, hts⟩ (c_SR_dividedDown l dC dI ((((fa 1) * a.toInt64) + ((fa 0) * b.toInt64)) + (fa 3)) dv) ⟨(va_cnB (host := "StationRounds") 2 hts (xg wm_307) rfl rfl rfl (hz.nest (own := xR_SU) (idx := 81) (y := xy_SR_dividedDown) (by decide +kernel)) (hts _ (List.mem_cons_of_mem _ wm_26)) (by decide +kernel) ⟨Nat.le_of_ble_eq_true rfl, Nat.le_of_ble_eq_true rfl⟩), hts _ (List.mem_cons_of_mem _ wm_306), trivial⟩ ⟨xp_blind, fun U hU hW => ⟨rfl, hz.warm hW, by rw [hU]; exact hP.sub [] rfl, va_K.moved hW.alike (hK.sub [] rfl)⟩⟩ rfl rfl hl.1 rfl (lv_room (Nat.le_of_ble_eq_true rfl)) d_SU_placeAlong_93 ⟨Nat.le_of_ble_eq_true rfl, Nat.le_of_ble_eq_true rfl⟩) (fun r_1 h_2 => ?_)
  subst h_2
  refine lv_l2i (v := (sr_dd ((((fa 1) * a.toInt64) + ((fa 0) * b.toInt64)) + (fa 3)) dv).toInt32) hx hb d_SU_placeAlong_96 rfl ?_
  exact xr_iret (v := (sr_dd ((((fa 1) * a.toInt64) + ((fa 0) * b.toInt64)) + (fa 3)) dv).toInt32) hx hb hr (by exact rfl) d_SU_placeAlong_97 hlocks
set_option maxHeartbeats 4000000 in
set_option maxRecDepth 100000 in
/-- SetUp.placeAlong(2) -/
theorem c_SU_placeAlong2 (l : Launch) (dC : Nat → ClassId) (dI : Nat → Nat → Nat) (h0 : Nat) (su : Nat) (sp : Nat) (sm : Nat) (se : Nat) (dv : Int64) (ht : Int32) (sc : Nat) (md : Int32) (ca : ClassId) (fa : Nat → Int64) (a : Int32) (b : Int32) (d : Int32)  : Met l xy_SU_placeAlong xw_SU_placeAlong ({ frames := 0, cells := 0, slots := 0, locals := 0 }) (xp_r [.ref h0, .int 2, .int a, .int b, .int d] (dC, dI) xCl [(h0, .inr (4, [.ref su, .ref sp, .ref sm, .ref se, .long dv, .int ht, .int (nI sc), .int md])), (sp, .inl (ca, 4, .inr (.inl fa)))] [(ca, .long)]) (xr_i (fun r => r = d + ht)) 0 0 (fun _ => False) := by
  refine Met.ofW (cc := prog_5_method_7_code) (maxL := 5) (ret := (some .int)) (by decide) rfl ?_
  intro p e s m args below meth c s₁ B hml hv
  obtain ⟨rfl, hz, hP, hK⟩ := hv
  have hx := B.exec
  have hb := B.bytes
  have hr := B.returns
  have hts := atoms_spec (ws := xw_SU_placeAlong) B.pre
  have hown : s.vm.findClass xR_SU = some m.cls := findClass_of_methodNamed B.named
  have hlocks := B.notSynchronized
  have hP : va_P (dC, dI) xCl [(h0, .inr (4, [.ref su, .ref sp, .ref sm, .ref se, .long dv, .int ht, .int (nI sc), .int md])), (sp, .inl (ca, 4, .inr (.inl fa)))] s.heap := hP
  have hl := lv_entry ([.ref h0, .int 2, .int a, .int b, .int d]) (n := 5) (Nat.le_of_ble_eq_true rfl)
  rw [lg_entry_eq]
  generalize (lg_sl ([.ref h0, .int 2, .int a, .int b, .int d]) ++ List.replicate (5 - (lg_sl ([.ref h0, .int 2, .int a, .int b, .int d])).length) Slot.unset).toArray = ls at hl ⊢
  have hl : lv_has ls 5 [(0, .ref h0), (1, .int 2), (2, .int a), (3, .int b), (4, .int d)] := hl
  refine lv_iload_n hx hb d_SU_placeAlong_0 rfl (lv_at hl 1 rfl) ?_
  refine lv_lookup (off := 97) (tgt := 98) hx hb d_SU_placeAlong_1 (by decide) (by decide) (by decide) ?_
  refine lv_iload hx hb d_SU_placeAlong_98 (lv_at hl 4 rfl) ?_
  refine lv_aload_n hx hb d_SU_placeAlong_100 rfl (lv_at hl 0 rfl) ?_
  refine va_get (D := (dC, dI)) (ci := 4) (v := .int ht) (C := xR_SU) (T := xT_SU) (N := 8) hx hb hts (fun w h => List.mem_cons_of_mem _ (iw_SU w h)) hown hK hP 0 rfl rfl 5 (by decide) (hts _ (List.mem_cons_of_mem _ wm_185)) (fun _ h9 => h9) rfl d_SU_placeAlong_101 ?_
  refine lv_iadd hx hb d_SU_placeAlong_104 ?_
  exact xr_iret (v := d + ht) hx hb hr (by exact rfl) d_SU_placeAlong_105 hlocks
set_option maxHeartbeats 4000000 in
set_option maxRecDepth 100000 in
/-- SetUp.millionthsOf -/
theorem c_SU_millionthsOf (l : Launch) (dC : Nat → ClassId) (dI : Nat → Nat → Nat) (h0 : Nat) (su : Nat) (sp : Nat) (sm : Nat) (se : Nat) (dv : Int64) (ht : Int32) (sc : Nat) (md : Int32) (ca : ClassId) (fa : Nat → Int64) (k : Nat) (hk : k < 4) : Met l xy_SU_millionthsOf xw_SU_millionthsOf ({ frames := 2, cells := 0, slots := 0, locals := 48 }) (xp_r [.ref h0, .int (nI k)] (dC, dI) xCl [(h0, .inr (4, [.ref su, .ref sp, .ref sm, .ref se, .long dv, .int ht, .int (nI sc), .int md])), (sp, .inl (ca, 4, .inr (.inl fa)))] [(ca, .long)]) (xr_l (fun r => r = sr_mil fa dv k)) 0 0 (fun _ => False) := by
  refine Met.ofW (cc := prog_5_method_8_code) (maxL := 6) (ret := (some .long)) (by decide) rfl ?_
  intro p e s m args below meth c s₁ B hml hv
  obtain ⟨rfl, hz, hP, hK⟩ := hv
  have hx := B.exec
  have hb := B.bytes
  have hr := B.returns
  have hts := atoms_spec (ws := xw_SU_millionthsOf) B.pre
  have hown : s.vm.findClass xR_SU = some m.cls := findClass_of_methodNamed B.named
  have hlocks := B.notSynchronized
  have hP : va_P (dC, dI) xCl [(h0, .inr (4, [.ref su, .ref sp, .ref sm, .ref se, .long dv, .int ht, .int (nI sc), .int md])), (sp, .inl (ca, 4, .inr (.inl fa)))] s.heap := hP
  have hl := lv_entry ([.ref h0, .int (nI k)]) (n := 6) (Nat.le_of_ble_eq_true rfl)
  rw [lg_entry_eq]
  generalize (lg_sl ([.ref h0, .int (nI k)]) ++ List.replicate (6 - (lg_sl ([.ref h0, .int (nI k)])).length) Slot.unset).toArray = ls at hl ⊢
  have hl : lv_has ls 6 [(0, .ref h0), (1, .int (nI k))] := hl
  refine lv_aload_n hx hb d_SU_millionthsOf_0 rfl (lv_at hl 0 rfl) ?_
  refine va_get (D := (dC, dI)) (ci := 4) (v := .ref sp) (C := xR_SU) (T := xT_SU) (N := 8) hx hb hts (fun w h => List.mem_cons_of_mem _ (iw_SU w h)) hown hK hP 0 rfl rfl 1 (by decide) (hts _ (List.mem_cons_of_mem _ wm_180)) (fun _ h9 => h9) rfl d_SU_millionthsOf_1 ?_
  refine lv_iload_n hx hb d_SU_millionthsOf_4 rfl (lv_at hl 1 rfl) ?_
  refine xa_lald hx hb hK hP 1 0 rfl rfl k rfl (by omega) (by decide) d_SU_millionthsOf_5 ?_
  refine lv_aload_n hx hb d_SU_millionthsOf_6 rfl (lv_at hl 0 rfl) ?_
  refine va_get (D := (dC, dI)) (ci := 4) (v := .long dv) (C := xR_SU) (T := xT_SU) (N := 8) hx hb hts (fun w h => List.mem_cons_of_mem _ (iw_SU w h)) hown hK hP 0 rfl rfl 4 (by decide) (hts _ (List.mem_cons_of_mem _ wm_184)) (fun _ h9 => h9) rfl d_SU_millionthsOf_7 ?_
  refine xr_calll (va_runSN (As := [.long (fa k), .long dv]) (rest := []) ⟨hx, hb, hml, hown, hts⟩ (c_SR_dividedDown l dC dI (fa k) dv) ⟨(va_cnB (host := "StationRounds") 2 hts (xg wm_307) rfl rfl rfl (hz.nest (own := xR_SU) (idx := 81) (y := xy_SR_dividedDown) (by decide +kernel)) (hts _ (List.mem_cons_of_mem _ wm_26)) (by decide +kernel) ⟨Nat.le_of_ble_eq_true rfl, Nat.le_of_ble_eq_true rfl⟩), hts _ (List.mem_cons_of_mem _ wm_306), trivial⟩ ⟨xp_blind, fun U hU hW => ⟨rfl, hz.warm hW, by rw [hU]; exact hP.sub [] rfl, va_K.moved hW.alike (hK.sub [] rfl)⟩⟩ rfl rfl hl.1 rfl (lv_room (Nat.le_of_ble_eq_true rfl)) d_SU_millionthsOf_10 ⟨Nat.le_of_ble_eq_true rfl, Nat.le_of_ble_eq_true rfl⟩) (fun r_1 h_2 => ?_)
  subst h_2
  refine lv_lstore_n (lv' := [(2, .long (sr_dd (fa k) dv)), (0, .ref h0), (1, .int (nI k))]) hx hb d_SU_millionthsOf_13 rfl hl (by decide) rfl (fun ls hl => ?_)
  refine lv_aload_n hx hb d_SU_millionthsOf_14 rfl (lv_at hl 1 rfl) ?_
  refine va_get (D := (dC, dI)) (ci := 4) (v := .ref sp) (C := xR_SU) (T := xT_SU) (N := 8) hx hb hts (fun w h => List.mem_cons_of_mem _ (iw_SU w h)) hown hK hP 0 rfl rfl 1 (by decide) (hts _ (List.mem_cons_of_mem _ wm_180)) (fun _ h9 => h9) rfl d_SU_millionthsOf_15 ?_
  refine lv_iload_n hx hb d_SU_millionthsOf_18 rfl (lv_at hl 2 rfl) ?_
  refine xa_lald hx hb hK hP 1 0 rfl rfl k rfl (by omega) (by decide) d_SU_millionthsOf_19 ?_
  refine lv_lload_n hx hb d_SU_millionthsOf_20 rfl (lv_at hl 0 rfl) ?_
  refine lv_aload_n hx hb d_SU_millionthsOf_21 rfl (lv_at hl 1 rfl) ?_
  refine va_get (D := (dC, dI)) (ci := 4) (v := .long dv) (C := xR_SU) (T := xT_SU) (N := 8) hx hb hts (fun w h => List.mem_cons_of_mem _ (iw_SU w h)) hown hK hP 0 rfl rfl 4 (by decide) (hts _ (List.mem_cons_of_mem _ wm_184)) (fun _ h9 => h9) rfl d_SU_millionthsOf_22 ?_
  refine lv_lmul hx hb d_SU_millionthsOf_25 ?_
  refine lv_lsub hx hb d_SU_millionthsOf_26 ?_
  refine lv_lstore (lv' := [(4, .long ((fa k) - ((sr_dd (fa k) dv) * dv))), (2, .long (sr_dd (fa k) dv)), (0, .ref h0), (1, .int (nI k))]) hx hb d_SU_millionthsOf_27 hl (by decide) rfl (fun ls hl => ?_)
  refine lv_lload_n hx hb d_SU_millionthsOf_29 rfl (lv_at hl 1 rfl) ?_
  refine lv_ldc2 (v := 1000000) hx hb hown (hts _ (List.mem_cons_of_mem _ wm_545)) d_SU_millionthsOf_30 ?_
  refine lv_lmul hx hb d_SU_millionthsOf_33 ?_
  refine lv_lload hx hb d_SU_millionthsOf_34 (lv_at hl 0 rfl) ?_
  refine lv_ldc2 (v := 1000000) hx hb hown (hts _ (List.mem_cons_of_mem _ wm_545)) d_SU_millionthsOf_36 ?_
  refine lv_lmul hx hb d_SU_millionthsOf_39 ?_
  refine lv_aload_n hx hb d_SU_millionthsOf_40 rfl (lv_at hl 2 rfl) ?_
  refine va_get (D := (dC, dI)) (ci := 4) (v := .long dv) (C := xR_SU) (T := xT_SU) (N := 8) hx hb hts (fun w h => List.mem_cons_of_mem _ (iw_SU w h)) hown hK hP 0 rfl rfl 4 (by decide) (hts _ (List.mem_cons_of_mem _ wm_184)) (fun _ h9 => h9) rfl d_SU_millionthsOf_41 ?_
  refine xr_calll (va_runSN (As := [.long (((fa k) - ((sr_dd (fa k) dv) * dv)) * 1000000), .long dv]) (rest := [.long ((sr_dd (fa k) dv) * 1000000)]) ⟨hx, hb, hml, hown, hts⟩ (c_SR_dividedDown l dC dI (((fa k) - ((sr_dd (fa k) dv) * dv)) * 1000000) dv) ⟨(va_cnB (host := "StationRounds") 2 hts (xg wm_307) rfl rfl rfl (hz.nest (own := xR_SU) (idx := 81) (y := xy_SR_dividedDown) (by decide +kernel)) (hts _ (List.mem_cons_of_mem _ wm_26)) (by decide +kernel) ⟨Nat.le_of_ble_eq_true rfl, Nat.le_of_ble_eq_true rfl⟩), hts _ (List.mem_cons_of_mem _ wm_306), trivial⟩ ⟨xp_blind, fun U hU hW => ⟨rfl, hz.warm hW, by rw [hU]; exact hP.sub [] rfl, va_K.moved hW.alike (hK.sub [] rfl)⟩⟩ rfl rfl hl.1 rfl (lv_room (Nat.le_of_ble_eq_true rfl)) d_SU_millionthsOf_44 ⟨Nat.le_of_ble_eq_true rfl, Nat.le_of_ble_eq_true rfl⟩) (fun r_3 h_4 => ?_)
  subst h_4
  refine lv_ladd hx hb d_SU_millionthsOf_47 ?_
  exact xr_lret (v := ((sr_dd (fa k) dv) * 1000000) + (sr_dd (((fa k) - ((sr_dd (fa k) dv) * dv)) * 1000000) dv)) hx hb hr (by exact rfl) d_SU_millionthsOf_48 hlocks
set_option maxHeartbeats 4000000 in
set_option maxRecDepth 100000 in
/-- SetUp.squareOf(0) -/
theorem c_SU_squareOf0 (l : Launch) (dC : Nat → ClassId) (dI : Nat → Nat → Nat) (h0 : Nat) (su : Nat) (sp : Nat) (sm : Nat) (se : Nat) (dv : Int64) (ht : Int32) (sc : Nat) (md : Int32) (m0 : Nat) (m1 : Nat) (m2 : Nat) (cm : ClassId) (cm0 : ClassId) (cm1 : ClassId) (cm2 : ClassId) (n0 : Nat → Int32) (n1 : Nat → Int32) (n2 : Nat → Int32) (k : Nat) (hk : k < 20) : Met l xy_SU_squareOf xw_SU_squareOf ({ frames := 0, cells := 0, slots := 0, locals := 0 }) (xp_r [.ref h0, .int 0, .int (nI k)] (dC, dI) xCl [(h0, .inr (4, [.ref su, .ref sp, .ref sm, .ref se, .long dv, .int ht, .int (nI sc), .int md])), (sm, .inl (cm, 3, .inr (.inr (.inr (.inr (xm_3 m0 m1 m2)))))), (m0, .inl (cm0, 20, .inl n0)), (m1, .inl (cm1, 20, .inl n1)), (m2, .inl (cm2, 20, .inl n2))] [(cm, .array .int), (cm0, .int), (cm1, .int), (cm2, .int)]) (xr_l (fun r => r = (n0 k).toInt64 * (n0 k).toInt64)) 0 0 (fun _ => False) := by
  refine Met.ofW (cc := prog_5_method_11_code) (maxL := 5) (ret := (some .long)) (by decide) rfl ?_
  intro p e s m args below meth c s₁ B hml hv
  obtain ⟨rfl, hz, hP, hK⟩ := hv
  have hx := B.exec
  have hb := B.bytes
  have hr := B.returns
  have hts := atoms_spec (ws := xw_SU_squareOf) B.pre
  have hown : s.vm.findClass xR_SU = some m.cls := findClass_of_methodNamed B.named
  have hlocks := B.notSynchronized
  have hP : va_P (dC, dI) xCl [(h0, .inr (4, [.ref su, .ref sp, .ref sm, .ref se, .long dv, .int ht, .int (nI sc), .int md])), (sm, .inl (cm, 3, .inr (.inr (.inr (.inr (xm_3 m0 m1 m2)))))), (m0, .inl (cm0, 20, .inl n0)), (m1, .inl (cm1, 20, .inl n1)), (m2, .inl (cm2, 20, .inl n2))] s.heap := hP
  have hl := lv_entry ([.ref h0, .int 0, .int (nI k)]) (n := 5) (Nat.le_of_ble_eq_true rfl)
  rw [lg_entry_eq]
  generalize (lg_sl ([.ref h0, .int 0, .int (nI k)]) ++ List.replicate (5 - (lg_sl ([.ref h0, .int 0, .int (nI k)])).length) Slot.unset).toArray = ls at hl ⊢
  have hl : lv_has ls 5 [(0, .ref h0), (1, .int 0), (2, .int (nI k))] := hl
  refine lv_aload_n hx hb d_SU_squareOf_0 rfl (lv_at hl 0 rfl) ?_
  refine va_get (D := (dC, dI)) (ci := 4) (v := .ref sm) (C := xR_SU) (T := xT_SU) (N := 8) hx hb hts (fun w h => List.mem_cons_of_mem _ (iw_SU w h)) hown hK hP 0 rfl rfl 2 (by decide) (hts _ (List.mem_cons_of_mem _ wm_181)) (fun _ h9 => h9) rfl d_SU_squareOf_1 ?_
  refine lv_iload_n hx hb d_SU_squareOf_4 rfl (lv_at hl 1 rfl) ?_
  refine xa_aald hx hb hK hP 1 0 rfl rfl 0 (by decide) (by decide) (by decide) (b := m0) rfl d_SU_squareOf_5 ?_
  refine lv_iload_n hx hb d_SU_squareOf_6 rfl (lv_at hl 2 rfl) ?_
  refine xa_iald hx hb hK hP 2 1 rfl rfl k rfl (by omega) (by decide) d_SU_squareOf_7 ?_
  refine lv_i2l (v := (n0 k).toInt64) hx hb d_SU_squareOf_8 rfl ?_
  refine lv_lstore_n (lv' := [(3, .long ((n0 k).toInt64)), (0, .ref h0), (1, .int 0), (2, .int (nI k))]) hx hb d_SU_squareOf_9 rfl hl (by decide) rfl (fun ls hl => ?_)
  refine lv_lload_n hx hb d_SU_squareOf_10 rfl (lv_at hl 0 rfl) ?_
  refine lv_lload_n hx hb d_SU_squareOf_11 rfl (lv_at hl 0 rfl) ?_
  refine lv_lmul hx hb d_SU_squareOf_12 ?_
  exact xr_lret (v := ((n0 k).toInt64) * ((n0 k).toInt64)) hx hb hr (by exact rfl) d_SU_squareOf_13 hlocks
set_option maxHeartbeats 4000000 in
set_option maxRecDepth 100000 in
/-- SetUp.squareOf(1) -/
theorem c_SU_squareOf1 (l : Launch) (dC : Nat → ClassId) (dI : Nat → Nat → Nat) (h0 : Nat) (su : Nat) (sp : Nat) (sm : Nat) (se : Nat) (dv : Int64) (ht : Int32) (sc : Nat) (md : Int32) (m0 : Nat) (m1 : Nat) (m2 : Nat) (cm : ClassId) (cm0 : ClassId) (cm1 : ClassId) (cm2 : ClassId) (n0 : Nat → Int32) (n1 : Nat → Int32) (n2 : Nat → Int32) (k : Nat) (hk : k < 20) : Met l xy_SU_squareOf xw_SU_squareOf ({ frames := 0, cells := 0, slots := 0, locals := 0 }) (xp_r [.ref h0, .int 1, .int (nI k)] (dC, dI) xCl [(h0, .inr (4, [.ref su, .ref sp, .ref sm, .ref se, .long dv, .int ht, .int (nI sc), .int md])), (sm, .inl (cm, 3, .inr (.inr (.inr (.inr (xm_3 m0 m1 m2)))))), (m0, .inl (cm0, 20, .inl n0)), (m1, .inl (cm1, 20, .inl n1)), (m2, .inl (cm2, 20, .inl n2))] [(cm, .array .int), (cm0, .int), (cm1, .int), (cm2, .int)]) (xr_l (fun r => r = (n1 k).toInt64 * (n1 k).toInt64)) 0 0 (fun _ => False) := by
  refine Met.ofW (cc := prog_5_method_11_code) (maxL := 5) (ret := (some .long)) (by decide) rfl ?_
  intro p e s m args below meth c s₁ B hml hv
  obtain ⟨rfl, hz, hP, hK⟩ := hv
  have hx := B.exec
  have hb := B.bytes
  have hr := B.returns
  have hts := atoms_spec (ws := xw_SU_squareOf) B.pre
  have hown : s.vm.findClass xR_SU = some m.cls := findClass_of_methodNamed B.named
  have hlocks := B.notSynchronized
  have hP : va_P (dC, dI) xCl [(h0, .inr (4, [.ref su, .ref sp, .ref sm, .ref se, .long dv, .int ht, .int (nI sc), .int md])), (sm, .inl (cm, 3, .inr (.inr (.inr (.inr (xm_3 m0 m1 m2)))))), (m0, .inl (cm0, 20, .inl n0)), (m1, .inl (cm1, 20, .inl n1)), (m2, .inl (cm2, 20, .inl n2))] s.heap := hP
  have hl := lv_entry ([.ref h0, .int 1, .int (nI k)]) (n := 5) (Nat.le_of_ble_eq_true rfl)
  rw [lg_entry_eq]
  generalize (lg_sl ([.ref h0, .int 1, .int (nI k)]) ++ List.replicate (5 - (lg_sl ([.ref h0, .int 1, .int (nI k)])).length) Slot.unset).toArray = ls at hl ⊢
  have hl : lv_has ls 5 [(0, .ref h0), (1, .int 1), (2, .int (nI k))] := hl
  refine lv_aload_n hx hb d_SU_squareOf_0 rfl (lv_at hl 0 rfl) ?_
  refine va_get (D := (dC, dI)) (ci := 4) (v := .ref sm) (C := xR_SU) (T := xT_SU) (N := 8) hx hb hts (fun w h => List.mem_cons_of_mem _ (iw_SU w h)) hown hK hP 0 rfl rfl 2 (by decide) (hts _ (List.mem_cons_of_mem _ wm_181)) (fun _ h9 => h9) rfl d_SU_squareOf_1 ?_
  refine lv_iload_n hx hb d_SU_squareOf_4 rfl (lv_at hl 1 rfl) ?_
  refine xa_aald hx hb hK hP 1 0 rfl rfl 1 (by decide) (by decide) (by decide) (b := m1) rfl d_SU_squareOf_5 ?_
  refine lv_iload_n hx hb d_SU_squareOf_6 rfl (lv_at hl 2 rfl) ?_
  refine xa_iald hx hb hK hP 3 2 rfl rfl k rfl (by omega) (by decide) d_SU_squareOf_7 ?_
  refine lv_i2l (v := (n1 k).toInt64) hx hb d_SU_squareOf_8 rfl ?_
  refine lv_lstore_n (lv' := [(3, .long ((n1 k).toInt64)), (0, .ref h0), (1, .int 1), (2, .int (nI k))]) hx hb d_SU_squareOf_9 rfl hl (by decide) rfl (fun ls hl => ?_)
  refine lv_lload_n hx hb d_SU_squareOf_10 rfl (lv_at hl 0 rfl) ?_
  refine lv_lload_n hx hb d_SU_squareOf_11 rfl (lv_at hl 0 rfl) ?_
  refine lv_lmul hx hb d_SU_squareOf_12 ?_
  exact xr_lret (v := ((n1 k).toInt64) * ((n1 k).toInt64)) hx hb hr (by exact rfl) d_SU_squareOf_13 hlocks
set_option maxHeartbeats 4000000 in
set_option maxRecDepth 100000 in
/-- SetUp.squareOf(2) -/
theorem c_SU_squareOf2 (l : Launch) (dC : Nat → ClassId) (dI : Nat → Nat → Nat) (h0 : Nat) (su : Nat) (sp : Nat) (sm : Nat) (se : Nat) (dv : Int64) (ht : Int32) (sc : Nat) (md : Int32) (m0 : Nat) (m1 : Nat) (m2 : Nat) (cm : ClassId) (cm0 : ClassId) (cm1 : ClassId) (cm2 : ClassId) (n0 : Nat → Int32) (n1 : Nat → Int32) (n2 : Nat → Int32) (k : Nat) (hk : k < 20) : Met l xy_SU_squareOf xw_SU_squareOf ({ frames := 0, cells := 0, slots := 0, locals := 0 }) (xp_r [.ref h0, .int 2, .int (nI k)] (dC, dI) xCl [(h0, .inr (4, [.ref su, .ref sp, .ref sm, .ref se, .long dv, .int ht, .int (nI sc), .int md])), (sm, .inl (cm, 3, .inr (.inr (.inr (.inr (xm_3 m0 m1 m2)))))), (m0, .inl (cm0, 20, .inl n0)), (m1, .inl (cm1, 20, .inl n1)), (m2, .inl (cm2, 20, .inl n2))] [(cm, .array .int), (cm0, .int), (cm1, .int), (cm2, .int)]) (xr_l (fun r => r = (n2 k).toInt64 * (n2 k).toInt64)) 0 0 (fun _ => False) := by
  refine Met.ofW (cc := prog_5_method_11_code) (maxL := 5) (ret := (some .long)) (by decide) rfl ?_
  intro p e s m args below meth c s₁ B hml hv
  obtain ⟨rfl, hz, hP, hK⟩ := hv
  have hx := B.exec
  have hb := B.bytes
  have hr := B.returns
  have hts := atoms_spec (ws := xw_SU_squareOf) B.pre
  have hown : s.vm.findClass xR_SU = some m.cls := findClass_of_methodNamed B.named
  have hlocks := B.notSynchronized
  have hP : va_P (dC, dI) xCl [(h0, .inr (4, [.ref su, .ref sp, .ref sm, .ref se, .long dv, .int ht, .int (nI sc), .int md])), (sm, .inl (cm, 3, .inr (.inr (.inr (.inr (xm_3 m0 m1 m2)))))), (m0, .inl (cm0, 20, .inl n0)), (m1, .inl (cm1, 20, .inl n1)), (m2, .inl (cm2, 20, .inl n2))] s.heap := hP
  have hl := lv_entry ([.ref h0, .int 2, .int (nI k)]) (n := 5) (Nat.le_of_ble_eq_true rfl)
  rw [lg_entry_eq]
  generalize (lg_sl ([.ref h0, .int 2, .int (nI k)]) ++ List.replicate (5 - (lg_sl ([.ref h0, .int 2, .int (nI k)])).length) Slot.unset).toArray = ls at hl ⊢
  have hl : lv_has ls 5 [(0, .ref h0), (1, .int 2), (2, .int (nI k))] := hl
  refine lv_aload_n hx hb d_SU_squareOf_0 rfl (lv_at hl 0 rfl) ?_
  refine va_get (D := (dC, dI)) (ci := 4) (v := .ref sm) (C := xR_SU) (T := xT_SU) (N := 8) hx hb hts (fun w h => List.mem_cons_of_mem _ (iw_SU w h)) hown hK hP 0 rfl rfl 2 (by decide) (hts _ (List.mem_cons_of_mem _ wm_181)) (fun _ h9 => h9) rfl d_SU_squareOf_1 ?_
  refine lv_iload_n hx hb d_SU_squareOf_4 rfl (lv_at hl 1 rfl) ?_
  refine xa_aald hx hb hK hP 1 0 rfl rfl 2 (by decide) (by decide) (by decide) (b := m2) rfl d_SU_squareOf_5 ?_
  refine lv_iload_n hx hb d_SU_squareOf_6 rfl (lv_at hl 2 rfl) ?_
  refine xa_iald hx hb hK hP 4 3 rfl rfl k rfl (by omega) (by decide) d_SU_squareOf_7 ?_
  refine lv_i2l (v := (n2 k).toInt64) hx hb d_SU_squareOf_8 rfl ?_
  refine lv_lstore_n (lv' := [(3, .long ((n2 k).toInt64)), (0, .ref h0), (1, .int 2), (2, .int (nI k))]) hx hb d_SU_squareOf_9 rfl hl (by decide) rfl (fun ls hl => ?_)
  refine lv_lload_n hx hb d_SU_squareOf_10 rfl (lv_at hl 0 rfl) ?_
  refine lv_lload_n hx hb d_SU_squareOf_11 rfl (lv_at hl 0 rfl) ?_
  refine lv_lmul hx hb d_SU_squareOf_12 ?_
  exact xr_lret (v := ((n2 k).toInt64) * ((n2 k).toInt64)) hx hb hr (by exact rfl) d_SU_squareOf_13 hlocks
set_option maxHeartbeats 4000000 in
set_option maxRecDepth 100000 in
/-- SetUp.takeMisses -/
theorem c_SU_takeMisses (l : Launch) (dC : Nat → ClassId) (dI : Nat → Nat → Nat) (sz : Nat) (h0 : Nat) (su : Nat) (sp : Nat) (sm : Nat) (se : Nat) (dv : Int64) (ht : Int32) (sc : Nat) (md : Int32) (ca : ClassId) (fa : Nat → Int64) (m0 : Nat) (m1 : Nat) (m2 : Nat) (cm : ClassId) (cm0 : ClassId) (cm1 : ClassId) (cm2 : ClassId) (n0 : Nat → Int32) (n1 : Nat → Int32) (n2 : Nat → Int32) (cq : ClassId) (fq : Nat → Int32) (h1 : Nat) (qx : Nat) (qy : Nat) (qz : Nat) (qu : Nat) (qv : Nat) (qw : Nat) (qp : Nat) (qe : Nat) (no : Nat) (cx : ClassId) (cy : ClassId) (cz : ClassId) (cu : ClassId) (cv : ClassId) (cw : ClassId) (cp : ClassId) (ce : ClassId) (fx : Nat → Int32) (fy : Nat → Int32) (fz : Nat → Int32) (fu : Nat → Int32) (fv : Nat → Int32) (fw : Nat → Int32) (fp : Nat → Int32) (fe : Nat → Int32) (hc : no ≤ 20) (hb01 : ∀ k, fe k = 0 ∨ fe k = 1) : Met l xy_SU_takeMisses xw_SU_takeMisses ({ frames := 3, cells := 0, slots := 0, locals := 72 }) (xp_w [.ref h0, .ref h1] sz (dC, dI) xCl [(h0, .inr (4, [.ref su, .ref sp, .ref sm, .ref se, .long dv, .int ht, .int (nI sc), .int md])), (sp, .inl (ca, 4, .inr (.inl fa))), (sm, .inl (cm, 3, .inr (.inr (.inr (.inr (xm_3 m0 m1 m2)))))), (m0, .inl (cm0, 20, .inl n0)), (m1, .inl (cm1, 20, .inl n1)), (m2, .inl (cm2, 20, .inl n2)), (se, .inl (cq, 20, .inl fq)), (h1, .inr (2, [.ref qx, .ref qy, .ref qz, .ref qu, .ref qv, .ref qw, .ref qp, .ref qe, .int (nI no)])), (qx, .inl (cx, 20, .inl fx)), (qy, .inl (cy, 20, .inl fy)), (qz, .inl (cz, 20, .inl fz)), (qu, .inl (cu, 20, .inl fu)), (qv, .inl (cv, 20, .inl fv)), (qw, .inl (cw, 20, .inl fw)), (qp, .inl (cp, 20, .inl fp)), (qe, .inl (ce, 20, .inl fe))] [(ca, .long), (cm, .array .int), (cm0, .int), (cm1, .int), (cm2, .int), (cq, .boolean), (cx, .int), (cy, .int), (cz, .int), (cu, .int), (cv, .int), (cw, .int), (cp, .int), (ce, .boolean)]) (va_Qv (fun (_ : Unit) => True) (fun _ t => xb_w (dC, dI) xCl [(h0, .inr (4, [.ref su, .ref sp, .ref sm, .ref se, .long dv, .int ht, .int (nI no), .int md])), (sp, .inl (ca, 4, .inr (.inl fa))), (sm, .inl (cm, 3, .inr (.inr (.inr (.inr (xm_3 m0 m1 m2)))))), (m0, .inl (cm0, 20, .inl (sr_m0 no fx fu fv fa dv n0))), (m1, .inl (cm1, 20, .inl (sr_m1 no fy fu fv fa dv n1))), (m2, .inl (cm2, 20, .inl (sr_m2 no fz fw fp ht n2))), (se, .inl (cq, 20, .inl (sr_cp no fe fq))), (h1, .inr (2, [.ref qx, .ref qy, .ref qz, .ref qu, .ref qv, .ref qw, .ref qp, .ref qe, .int (nI no)])), (qx, .inl (cx, 20, .inl fx)), (qy, .inl (cy, 20, .inl fy)), (qz, .inl (cz, 20, .inl fz)), (qu, .inl (cu, 20, .inl fu)), (qv, .inl (cv, 20, .inl fv)), (qw, .inl (cw, 20, .inl fw)), (qp, .inl (cp, 20, .inl fp)), (qe, .inl (ce, 20, .inl fe))] [(ca, .long), (cm, .array .int), (cm0, .int), (cm1, .int), (cm2, .int), (cq, .boolean), (cx, .int), (cy, .int), (cz, .int), (cu, .int), (cv, .int), (cw, .int), (cp, .int), (ce, .boolean)] (va_A [(h0, .inr (4, [.ref su, .ref sp, .ref sm, .ref se, .long dv, .int ht, .int (nI sc), .int md])), (sp, .inl (ca, 4, .inr (.inl fa))), (sm, .inl (cm, 3, .inr (.inr (.inr (.inr (xm_3 m0 m1 m2)))))), (m0, .inl (cm0, 20, .inl n0)), (m1, .inl (cm1, 20, .inl n1)), (m2, .inl (cm2, 20, .inl n2)), (se, .inl (cq, 20, .inl fq)), (h1, .inr (2, [.ref qx, .ref qy, .ref qz, .ref qu, .ref qv, .ref qw, .ref qp, .ref qe, .int (nI no)])), (qx, .inl (cx, 20, .inl fx)), (qy, .inl (cy, 20, .inl fy)), (qz, .inl (cz, 20, .inl fz)), (qu, .inl (cu, 20, .inl fu)), (qv, .inl (cv, 20, .inl fv)), (qw, .inl (cw, 20, .inl fw)), (qp, .inl (cp, 20, .inl fp)), (qe, .inl (ce, 20, .inl fe))] sz) t) (va_A [(h0, .inr (4, [.ref su, .ref sp, .ref sm, .ref se, .long dv, .int ht, .int (nI sc), .int md])), (sp, .inl (ca, 4, .inr (.inl fa))), (sm, .inl (cm, 3, .inr (.inr (.inr (.inr (xm_3 m0 m1 m2)))))), (m0, .inl (cm0, 20, .inl n0)), (m1, .inl (cm1, 20, .inl n1)), (m2, .inl (cm2, 20, .inl n2)), (se, .inl (cq, 20, .inl fq)), (h1, .inr (2, [.ref qx, .ref qy, .ref qz, .ref qu, .ref qv, .ref qw, .ref qp, .ref qe, .int (nI no)])), (qx, .inl (cx, 20, .inl fx)), (qy, .inl (cy, 20, .inl fy)), (qz, .inl (cz, 20, .inl fz)), (qu, .inl (cu, 20, .inl fu)), (qv, .inl (cv, 20, .inl fv)), (qw, .inl (cw, 20, .inl fw)), (qp, .inl (cp, 20, .inl fp)), (qe, .inl (ce, 20, .inl fe))] sz)) 0 0 (va_A [(h0, .inr (4, [.ref su, .ref sp, .ref sm, .ref se, .long dv, .int ht, .int (nI sc), .int md])), (sp, .inl (ca, 4, .inr (.inl fa))), (sm, .inl (cm, 3, .inr (.inr (.inr (.inr (xm_3 m0 m1 m2)))))), (m0, .inl (cm0, 20, .inl n0)), (m1, .inl (cm1, 20, .inl n1)), (m2, .inl (cm2, 20, .inl n2)), (se, .inl (cq, 20, .inl fq)), (h1, .inr (2, [.ref qx, .ref qy, .ref qz, .ref qu, .ref qv, .ref qw, .ref qp, .ref qe, .int (nI no)])), (qx, .inl (cx, 20, .inl fx)), (qy, .inl (cy, 20, .inl fy)), (qz, .inl (cz, 20, .inl fz)), (qu, .inl (cu, 20, .inl fu)), (qv, .inl (cv, 20, .inl fv)), (qw, .inl (cw, 20, .inl fw)), (qp, .inl (cp, 20, .inl fp)), (qe, .inl (ce, 20, .inl fe))] sz) := by
  refine Met.ofW (cc := prog_5_method_6_code) (maxL := 4) (ret := none) (by decide) rfl ?_
  intro p e s m args below meth c s₁ B hml hv
  obtain ⟨rfl, hsz, hz, hP, hK, hD0⟩ := hv
  have hx := B.exec
  have hb := B.bytes
  have hr := B.returns
  have hts := atoms_spec (ws := xw_SU_takeMisses) B.pre
  have hown : s.vm.findClass xR_SU = some m.cls := findClass_of_methodNamed B.named
  have hlocks := B.notSynchronized
  subst hsz
  have hD := hD0.self (sz := s.heap.size)
  generalize hAe : va_A [(h0, .inr (4, [.ref su, .ref sp, .ref sm, .ref se, .long dv, .int ht, .int (nI sc), .int md])), (sp, .inl (ca, 4, .inr (.inl fa))), (sm, .inl (cm, 3, .inr (.inr (.inr (.inr (xm_3 m0 m1 m2)))))), (m0, .inl (cm0, 20, .inl n0)), (m1, .inl (cm1, 20, .inl n1)), (m2, .inl (cm2, 20, .inl n2)), (se, .inl (cq, 20, .inl fq)), (h1, .inr (2, [.ref qx, .ref qy, .ref qz, .ref qu, .ref qv, .ref qw, .ref qp, .ref qe, .int (nI no)])), (qx, .inl (cx, 20, .inl fx)), (qy, .inl (cy, 20, .inl fy)), (qz, .inl (cz, 20, .inl fz)), (qu, .inl (cu, 20, .inl fu)), (qv, .inl (cv, 20, .inl fv)), (qw, .inl (cw, 20, .inl fw)), (qp, .inl (cp, 20, .inl fp)), (qe, .inl (ce, 20, .inl fe))] s.heap.size = A at hD ⊢
  have hA : ∀ q : Nat, s.heap.size ≤ q → A q := fun q h => by rw [← hAe]; exact Or.inr h
  have hS : va_S A s.heap s.heap [] := va_S.rf
  have hP : va_P (dC, dI) xCl [(h0, .inr (4, [.ref su, .ref sp, .ref sm, .ref se, .long dv, .int ht, .int (nI sc), .int md])), (sp, .inl (ca, 4, .inr (.inl fa))), (sm, .inl (cm, 3, .inr (.inr (.inr (.inr (xm_3 m0 m1 m2)))))), (m0, .inl (cm0, 20, .inl n0)), (m1, .inl (cm1, 20, .inl n1)), (m2, .inl (cm2, 20, .inl n2)), (se, .inl (cq, 20, .inl fq)), (h1, .inr (2, [.ref qx, .ref qy, .ref qz, .ref qu, .ref qv, .ref qw, .ref qp, .ref qe, .int (nI no)])), (qx, .inl (cx, 20, .inl fx)), (qy, .inl (cy, 20, .inl fy)), (qz, .inl (cz, 20, .inl fz)), (qu, .inl (cu, 20, .inl fu)), (qv, .inl (cv, 20, .inl fv)), (qw, .inl (cw, 20, .inl fw)), (qp, .inl (cp, 20, .inl fp)), (qe, .inl (ce, 20, .inl fe))] s.heap := hP
  have hl := lv_entry ([.ref h0, .ref h1]) (n := 4) (Nat.le_of_ble_eq_true rfl)
  rw [lg_entry_eq]
  generalize (lg_sl ([.ref h0, .ref h1]) ++ List.replicate (4 - (lg_sl ([.ref h0, .ref h1])).length) Slot.unset).toArray = ls at hl ⊢
  have hl : lv_has ls 4 [(0, .ref h0), (1, .ref h1)] := hl
  refine lv_aload_n hx hb d_SU_takeMisses_0 rfl (lv_at hl 0 rfl) ?_
  refine lv_aload_n hx hb d_SU_takeMisses_1 rfl (lv_at hl 1 rfl) ?_
  refine va_get (D := (dC, dI)) (ci := 2) (v := .int (nI no)) (C := xR_OB) (T := xT_OB) (N := 9) hx hb hts (fun w h => List.mem_cons_of_mem _ (iw_OB w h)) hown hK hP 7 rfl rfl 8 (by decide) (hts _ (List.mem_cons_of_mem _ wm_109)) (fun _ h9 => h9) rfl d_SU_takeMisses_2 ?_
  refine va_put (D := (dC, dI)) (ci := 4) (v := .int (nI no)) (ty := .int) (C := xR_SU) (T := xT_SU) (N := 8) hx hb hts (fun w h => List.mem_cons_of_mem _ (iw_SU w h)) xt_SU xt_SU_ok xn_SU_nm hown hK hP hD hS 0 rfl rfl 6 (by decide) (hts _ (List.mem_cons_of_mem _ wm_186)) (fun _ h9 => h9) rfl (by decide +kernel) rfl rfl (Nat.le_of_ble_eq_true rfl) d_SU_takeMisses_5 (fun H locs hP hD hS => ?_)
  have hP : va_P (dC, dI) xCl [(h0, .inr (4, [.ref su, .ref sp, .ref sm, .ref se, .long dv, .int ht, .int (nI no), .int md])), (sp, .inl (ca, 4, .inr (.inl fa))), (sm, .inl (cm, 3, .inr (.inr (.inr (.inr (xm_3 m0 m1 m2)))))), (m0, .inl (cm0, 20, .inl n0)), (m1, .inl (cm1, 20, .inl n1)), (m2, .inl (cm2, 20, .inl n2)), (se, .inl (cq, 20, .inl fq)), (h1, .inr (2, [.ref qx, .ref qy, .ref qz, .ref qu, .ref qv, .ref qw, .ref qp, .ref qe, .int (nI no)])), (qx, .inl (cx, 20, .inl fx)), (qy, .inl (cy, 20, .inl fy)), (qz, .inl (cz, 20, .inl fz)), (qu, .inl (cu, 20, .inl fu)), (qv, .inl (cv, 20, .inl fv)), (qw, .inl (cw, 20, .inl fw)), (qp, .inl (cp, 20, .inl fp)), (qe, .inl (ce, 20, .inl fe))] H := hP
  have hD : va_D A [(h0, .inr (4, [.ref su, .ref sp, .ref sm, .ref se, .long dv, .int ht, .int (nI no), .int md])), (sp, .inl (ca, 4, .inr (.inl fa))), (sm, .inl (cm, 3, .inr (.inr (.inr (.inr (xm_3 m0 m1 m2)))))), (m0, .inl (cm0, 20, .inl n0)), (m1, .inl (cm1, 20, .inl n1)), (m2, .inl (cm2, 20, .inl n2)), (se, .inl (cq, 20, .inl fq)), (h1, .inr (2, [.ref qx, .ref qy, .ref qz, .ref qu, .ref qv, .ref qw, .ref qp, .ref qe, .int (nI no)])), (qx, .inl (cx, 20, .inl fx)), (qy, .inl (cy, 20, .inl fy)), (qz, .inl (cz, 20, .inl fz)), (qu, .inl (cu, 20, .inl fu)), (qv, .inl (cv, 20, .inl fv)), (qw, .inl (cw, 20, .inl fw)), (qp, .inl (cp, 20, .inl fp)), (qe, .inl (ce, 20, .inl fe))] := hD
  refine lv_iconst (v := 0) hx hb d_SU_takeMisses_8 (by decide) ?_
  refine lv_istore_n (lv' := [(2, .int 0), (0, .ref h0), (1, .ref h1)]) hx hb d_SU_takeMisses_9 rfl hl (by decide) rfl (fun ls hl => ?_)
  have lp10 : ∀ (fuel : Nat) (i : Nat) (z0 : Nat → Int32) (z1 : Nat → Int32) (z2 : Nat → Int32) (zq : Nat → Int32), no - i < fuel → i ≤ no → z0 = sr_m0 i fx fu fv fa dv n0 → z1 = sr_m1 i fy fu fv fa dv n1 → z2 = sr_m2 i fz fw fp ht n2 → zq = sr_cp i fe fq → ∀ (H : Heap) (locs : List Loc), va_P (dC, dI) xCl [(h0, .inr (4, [.ref su, .ref sp, .ref sm, .ref se, .long dv, .int ht, .int (nI no), .int md])), (sp, .inl (ca, 4, .inr (.inl fa))), (sm, .inl (cm, 3, .inr (.inr (.inr (.inr (xm_3 m0 m1 m2)))))), (m0, .inl (cm0, 20, .inl z0)), (m1, .inl (cm1, 20, .inl z1)), (m2, .inl (cm2, 20, .inl z2)), (se, .inl (cq, 20, .inl zq)), (h1, .inr (2, [.ref qx, .ref qy, .ref qz, .ref qu, .ref qv, .ref qw, .ref qp, .ref qe, .int (nI no)])), (qx, .inl (cx, 20, .inl fx)), (qy, .inl (cy, 20, .inl fy)), (qz, .inl (cz, 20, .inl fz)), (qu, .inl (cu, 20, .inl fu)), (qv, .inl (cv, 20, .inl fv)), (qw, .inl (cw, 20, .inl fw)), (qp, .inl (cp, 20, .inl fp)), (qe, .inl (ce, 20, .inl fe))] H → va_D A [(h0, .inr (4, [.ref su, .ref sp, .ref sm, .ref se, .long dv, .int ht, .int (nI no), .int md])), (sp, .inl (ca, 4, .inr (.inl fa))), (sm, .inl (cm, 3, .inr (.inr (.inr (.inr (xm_3 m0 m1 m2)))))), (m0, .inl (cm0, 20, .inl z0)), (m1, .inl (cm1, 20, .inl z1)), (m2, .inl (cm2, 20, .inl z2)), (se, .inl (cq, 20, .inl zq)), (h1, .inr (2, [.ref qx, .ref qy, .ref qz, .ref qu, .ref qv, .ref qw, .ref qp, .ref qe, .int (nI no)])), (qx, .inl (cx, 20, .inl fx)), (qy, .inl (cy, 20, .inl fy)), (qz, .inl (cz, 20, .inl fz)), (qu, .inl (cu, 20, .inl fu)), (qv, .inl (cv, 20, .inl fv)), (qw, .inl (cw, 20, .inl fw)), (qp, .inl (cp, 20, .inl fp)), (qe, .inl (ce, 20, .inl fe))] → va_S A s.heap H locs → ∀ (ls : Array Slot), lv_has ls 4 [(0, .ref h0), (1, .ref h1), (2, .int (nI i))] → W p l e (headSpec xw_SU_takeMisses ({ frames := 3, cells := 0, slots := 0, locals := 72 })).room s m ([.ref h0, .ref h1] : List Value).toArray below meth c H locs 0 0 (MQ below (va_Qv (fun (_ : Unit) => True) (fun _ t => xb_w (dC, dI) xCl [(h0, .inr (4, [.ref su, .ref sp, .ref sm, .ref se, .long dv, .int ht, .int (nI no), .int md])), (sp, .inl (ca, 4, .inr (.inl fa))), (sm, .inl (cm, 3, .inr (.inr (.inr (.inr (xm_3 m0 m1 m2)))))), (m0, .inl (cm0, 20, .inl (sr_m0 no fx fu fv fa dv n0))), (m1, .inl (cm1, 20, .inl (sr_m1 no fy fu fv fa dv n1))), (m2, .inl (cm2, 20, .inl (sr_m2 no fz fw fp ht n2))), (se, .inl (cq, 20, .inl (sr_cp no fe fq))), (h1, .inr (2, [.ref qx, .ref qy, .ref qz, .ref qu, .ref qv, .ref qw, .ref qp, .ref qe, .int (nI no)])), (qx, .inl (cx, 20, .inl fx)), (qy, .inl (cy, 20, .inl fy)), (qz, .inl (cz, 20, .inl fz)), (qu, .inl (cu, 20, .inl fu)), (qv, .inl (cv, 20, .inl fv)), (qw, .inl (cw, 20, .inl fw)), (qp, .inl (cp, 20, .inl fp)), (qe, .inl (ce, 20, .inl fe))] [(ca, .long), (cm, .array .int), (cm0, .int), (cm1, .int), (cm2, .int), (cq, .boolean), (cx, .int), (cy, .int), (cz, .int), (cu, .int), (cv, .int), (cw, .int), (cp, .int), (ce, .boolean)] A t) A) ([.ref h0, .ref h1] : List Value).toArray s 0 0 A) (F0 m 10 ls []) := by
    intro fuel
    induction fuel with
    | zero => intro i z0 z1 z2 zq hfu; exact absurd hfu (Nat.not_lt_zero _)
    | succ fuel ih =>
      intro i z0 z1 z2 zq hfu hi hz0 hz1 hz2 hzq H locs hP hD hS ls hl
      subst hz0
      subst hz1
      subst hz2
      subst hzq
      refine lv_iload_n hx hb d_SU_takeMisses_10 rfl (lv_at hl 2 rfl) ?_
      refine lv_aload_n hx hb d_SU_takeMisses_11 rfl (lv_at hl 0 rfl) ?_
      refine va_get (D := (dC, dI)) (ci := 4) (v := .int (nI no)) (C := xR_SU) (T := xT_SU) (N := 8) hx hb hts (fun w h => List.mem_cons_of_mem _ (iw_SU w h)) hown hK hP 0 rfl rfl 6 (by decide) (hts _ (List.mem_cons_of_mem _ wm_186)) (fun _ h9 => h9) rfl d_SU_takeMisses_12 ?_
      refine lv_icmp_ge (tgt := 141) hx hb d_SU_takeMisses_15 (by decide) (fun c_1 => ?_) (fun c_1 => ?_)
      · have n_2 := xn_le (a := no) (b := i) c_1 rfl rfl (by omega) (by omega)
        have e9 : i = no := by omega
        rw [e9] at hP hD
        have hP9 := hP.sub (ws' := [(h0, .inr (4, [.ref su, .ref sp, .ref sm, .ref se, .long dv, .int ht, .int (nI no), .int md])), (sp, .inl (ca, 4, .inr (.inl fa))), (sm, .inl (cm, 3, .inr (.inr (.inr (.inr (xm_3 m0 m1 m2)))))), (m0, .inl (cm0, 20, .inl (sr_m0 no fx fu fv fa dv n0))), (m1, .inl (cm1, 20, .inl (sr_m1 no fy fu fv fa dv n1))), (m2, .inl (cm2, 20, .inl (sr_m2 no fz fw fp ht n2))), (se, .inl (cq, 20, .inl (sr_cp no fe fq))), (h1, .inr (2, [.ref qx, .ref qy, .ref qz, .ref qu, .ref qv, .ref qw, .ref qp, .ref qe, .int (nI no)])), (qx, .inl (cx, 20, .inl fx)), (qy, .inl (cy, 20, .inl fy)), (qz, .inl (cz, 20, .inl fz)), (qu, .inl (cu, 20, .inl fu)), (qv, .inl (cv, 20, .inl fv)), (qw, .inl (cw, 20, .inl fw)), (qp, .inl (cp, 20, .inl fp)), (qe, .inl (ce, 20, .inl fe))]) [0, 1, 2, 3, 4, 5, 6, 7, 8, 9, 10, 11, 12, 13, 14, 15] rfl
        have hD9 := hD.sub (ws' := [(h0, .inr (4, [.ref su, .ref sp, .ref sm, .ref se, .long dv, .int ht, .int (nI no), .int md])), (sp, .inl (ca, 4, .inr (.inl fa))), (sm, .inl (cm, 3, .inr (.inr (.inr (.inr (xm_3 m0 m1 m2)))))), (m0, .inl (cm0, 20, .inl (sr_m0 no fx fu fv fa dv n0))), (m1, .inl (cm1, 20, .inl (sr_m1 no fy fu fv fa dv n1))), (m2, .inl (cm2, 20, .inl (sr_m2 no fz fw fp ht n2))), (se, .inl (cq, 20, .inl (sr_cp no fe fq))), (h1, .inr (2, [.ref qx, .ref qy, .ref qz, .ref qu, .ref qv, .ref qw, .ref qp, .ref qe, .int (nI no)])), (qx, .inl (cx, 20, .inl fx)), (qy, .inl (cy, 20, .inl fy)), (qz, .inl (cz, 20, .inl fz)), (qu, .inl (cu, 20, .inl fu)), (qv, .inl (cv, 20, .inl fv)), (qw, .inl (cw, 20, .inl fw)), (qp, .inl (cp, 20, .inl fp)), (qe, .inl (ce, 20, .inl fe))]) [0, 1, 2, 3, 4, 5, 6, 7, 8, 9, 10, 11, 12, 13, 14, 15] (by decide) rfl
        have hK9 := hK.sub (tys' := [(ca, .long), (cm, .array .int), (cm0, .int), (cm1, .int), (cm2, .int), (cq, .boolean), (cx, .int), (cy, .int), (cz, .int), (cu, .int), (cv, .int), (cw, .int), (cp, .int), (ce, .boolean)]) [0, 1, 2, 3, 4, 5, 6, 7, 8, 9, 10, 11, 12, 13] rfl
        exact W.vret hx hb hr (fun t ht hW => ⟨⟨(), rfl, trivial, ⟨by rw [ht]; exact hP9, va_K.moved hW.alike hK9, by exact hD9⟩⟩, hS.F ht⟩) hS.2.2 d_SU_takeMisses_141 hlocks
      · have n_3 := xn_nle (a := no) (b := i) c_1 rfl rfl (by omega) (by omega)
        refine lv_aload_n hx hb d_SU_takeMisses_18 rfl (lv_at hl 1 rfl) ?_
        refine lv_iload_n hx hb d_SU_takeMisses_19 rfl (lv_at hl 2 rfl) ?_
        refine xr_calli (va_runV (As := [.int (nI i)]) (rest := []) ⟨hx, hb, hml, hown, hts⟩ (c_OB_upLessPrism l dC dI h1 qx qy qz qu qv qw qp qe no cw cp fw fp i (by first | assumption | omega | decide)) (cwV 1 hts (xgV wm_315 wm_286 wm_287 wm_29 wm_288) rfl rfl rfl (by decide +kernel) ⟨Nat.le_of_ble_eq_true rfl, Nat.le_of_ble_eq_true rfl⟩) ⟨xp_blind, va_recv hK hP (ci := 2) (q0 := 7) rfl rfl, fun U hU hW => ⟨rfl, hz.warm hW, by rw [hU]; exact hP.sub [7, 13, 14] rfl, va_K.moved hW.alike (hK.sub [11, 12] rfl)⟩⟩ rfl rfl hl.1 rfl (lv_room (Nat.le_of_ble_eq_true rfl)) d_SU_takeMisses_20 ⟨Nat.le_of_ble_eq_true rfl, Nat.le_of_ble_eq_true rfl⟩) (fun r_4 h_5 => ?_)
        subst h_5
        refine lv_istore_n (lv' := [(3, .int (fw i - fp i)), (0, .ref h0), (1, .ref h1), (2, .int (nI i))]) hx hb d_SU_takeMisses_23 rfl hl (by decide) rfl (fun ls hl => ?_)
        refine lv_aload_n hx hb d_SU_takeMisses_24 rfl (lv_at hl 1 rfl) ?_
        refine va_get (D := (dC, dI)) (ci := 4) (v := .ref sm) (C := xR_SU) (T := xT_SU) (N := 8) hx hb hts (fun w h => List.mem_cons_of_mem _ (iw_SU w h)) hown hK hP 0 rfl rfl 2 (by decide) (hts _ (List.mem_cons_of_mem _ wm_181)) (fun _ h9 => h9) rfl d_SU_takeMisses_25 ?_
        refine lv_iconst (v := 0) hx hb d_SU_takeMisses_28 (by decide) ?_
        refine xa_aald hx hb hK hP 2 1 rfl rfl 0 (by decide) (by decide) (by decide) (b := m0) rfl d_SU_takeMisses_29 ?_
        refine lv_iload_n hx hb d_SU_takeMisses_30 rfl (lv_at hl 3 rfl) ?_
        refine lv_aload_n hx hb d_SU_takeMisses_31 rfl (lv_at hl 2 rfl) ?_
        refine va_get (D := (dC, dI)) (ci := 2) (v := .ref qx) (C := xR_OB) (T := xT_OB) (N := 9) hx hb hts (fun w h => List.mem_cons_of_mem _ (iw_OB w h)) hown hK hP 7 rfl rfl 0 (by decide) (hts _ (List.mem_cons_of_mem _ wm_87)) (fun _ h9 => h9) rfl d_SU_takeMisses_32 ?_
        refine lv_iload_n hx hb d_SU_takeMisses_35 rfl (lv_at hl 3 rfl) ?_
        refine xa_iald hx hb hK hP 8 6 rfl rfl i rfl (by omega) (by decide) d_SU_takeMisses_36 ?_
        refine lv_aload_n hx hb d_SU_takeMisses_37 rfl (lv_at hl 1 rfl) ?_
        refine lv_iconst (v := 0) hx hb d_SU_takeMisses_38 (by decide) ?_
        refine lv_aload_n hx hb d_SU_takeMisses_39 rfl (lv_at hl 2 rfl) ?_
        refine va_get (D := (dC, dI)) (ci := 2) (v := .ref qu) (C := xR_OB) (T := xT_OB) (N := 9) hx hb hts (fun w h => List.mem_cons_of_mem _ (iw_OB w h)) hown hK hP 7 rfl rfl 3 (by decide) (hts _ (List.mem_cons_of_mem _ wm_96)) (fun _ h9 => h9) rfl d_SU_takeMisses_40 ?_
        refine lv_iload_n hx hb d_SU_takeMisses_43 rfl (lv_at hl 3 rfl) ?_
        refine xa_iald hx hb hK hP 11 9 rfl rfl i rfl (by omega) (by decide) d_SU_takeMisses_44 ?_
        refine lv_aload_n hx hb d_SU_takeMisses_45 rfl (lv_at hl 2 rfl) ?_
        refine va_get (D := (dC, dI)) (ci := 2) (v := .ref qv) (C := xR_OB) (T := xT_OB) (N := 9) hx hb hts (fun w h => List.mem_cons_of_mem _ (iw_OB w h)) hown hK hP 7 rfl rfl 4 (by decide) (hts _ (List.mem_cons_of_mem _ wm_99)) (fun _ h9 => h9) rfl d_SU_takeMisses_46 ?_
        refine lv_iload_n hx hb d_SU_takeMisses_49 rfl (lv_at hl 3 rfl) ?_
        refine xa_iald hx hb hK hP 12 10 rfl rfl i rfl (by omega) (by decide) d_SU_takeMisses_50 ?_
        refine lv_iload_n hx hb d_SU_takeMisses_51 rfl (lv_at hl 0 rfl) ?_
        refine xr_calli (va_runV (As := [.int 0, .int (fu i), .int (fv i), .int (fw i - fp i)]) (rest := [.int (fx i), .int (nI i), .ref m0]) ⟨hx, hb, hml, hown, hts⟩ (c_SU_placeAlong0 l dC dI h0 su sp sm se dv ht no md ca fa (fu i) (fv i) (fw i - fp i)) (cwV 4 hts (xgV wm_316 wm_317 wm_318 wm_30 wm_319) rfl rfl rfl (by decide +kernel) ⟨Nat.le_of_ble_eq_true rfl, Nat.le_of_ble_eq_true rfl⟩) ⟨xp_blind, va_recv hK hP (ci := 4) (q0 := 0) rfl rfl, fun U hU hW => ⟨rfl, hz.warm hW, by rw [hU]; exact hP.sub [0, 1] rfl, va_K.moved hW.alike (hK.sub [0] rfl)⟩⟩ rfl rfl hl.1 rfl (lv_room (Nat.le_of_ble_eq_true rfl)) d_SU_takeMisses_52 ⟨Nat.le_of_ble_eq_true rfl, Nat.le_of_ble_eq_true rfl⟩) (fun r_6 h_7 => ?_)
        subst h_7
        refine lv_isub hx hb d_SU_takeMisses_55 ?_
        refine xa_iast hx hb hK hP hD hS 3 2 rfl rfl i rfl (by omega) (by decide) d_SU_takeMisses_56 (fun H locs hP hD hS => ?_)
        have hP : va_P (dC, dI) xCl [(h0, .inr (4, [.ref su, .ref sp, .ref sm, .ref se, .long dv, .int ht, .int (nI no), .int md])), (sp, .inl (ca, 4, .inr (.inl fa))), (sm, .inl (cm, 3, .inr (.inr (.inr (.inr (xm_3 m0 m1 m2)))))), (m0, .inl (cm0, 20, .inl (upd (sr_m0 i fx fu fv fa dv n0) i ((fx i) - (sr_px fa dv (fu i) (fv i)))))), (m1, .inl (cm1, 20, .inl (sr_m1 i fy fu fv fa dv n1))), (m2, .inl (cm2, 20, .inl (sr_m2 i fz fw fp ht n2))), (se, .inl (cq, 20, .inl (sr_cp i fe fq))), (h1, .inr (2, [.ref qx, .ref qy, .ref qz, .ref qu, .ref qv, .ref qw, .ref qp, .ref qe, .int (nI no)])), (qx, .inl (cx, 20, .inl fx)), (qy, .inl (cy, 20, .inl fy)), (qz, .inl (cz, 20, .inl fz)), (qu, .inl (cu, 20, .inl fu)), (qv, .inl (cv, 20, .inl fv)), (qw, .inl (cw, 20, .inl fw)), (qp, .inl (cp, 20, .inl fp)), (qe, .inl (ce, 20, .inl fe))] H := hP
        have hD : va_D A [(h0, .inr (4, [.ref su, .ref sp, .ref sm, .ref se, .long dv, .int ht, .int (nI no), .int md])), (sp, .inl (ca, 4, .inr (.inl fa))), (sm, .inl (cm, 3, .inr (.inr (.inr (.inr (xm_3 m0 m1 m2)))))), (m0, .inl (cm0, 20, .inl (upd (sr_m0 i fx fu fv fa dv n0) i ((fx i) - (sr_px fa dv (fu i) (fv i)))))), (m1, .inl (cm1, 20, .inl (sr_m1 i fy fu fv fa dv n1))), (m2, .inl (cm2, 20, .inl (sr_m2 i fz fw fp ht n2))), (se, .inl (cq, 20, .inl (sr_cp i fe fq))), (h1, .inr (2, [.ref qx, .ref qy, .ref qz, .ref qu, .ref qv, .ref qw, .ref qp, .ref qe, .int (nI no)])), (qx, .inl (cx, 20, .inl fx)), (qy, .inl (cy, 20, .inl fy)), (qz, .inl (cz, 20, .inl fz)), (qu, .inl (cu, 20, .inl fu)), (qv, .inl (cv, 20, .inl fv)), (qw, .inl (cw, 20, .inl fw)), (qp, .inl (cp, 20, .inl fp)), (qe, .inl (ce, 20, .inl fe))] := hD
        refine lv_aload_n hx hb d_SU_takeMisses_57 rfl (lv_at hl 1 rfl) ?_
        refine va_get (D := (dC, dI)) (ci := 4) (v := .ref sm) (C := xR_SU) (T := xT_SU) (N := 8) hx hb hts (fun w h => List.mem_cons_of_mem _ (iw_SU w h)) hown hK hP 0 rfl rfl 2 (by decide) (hts _ (List.mem_cons_of_mem _ wm_181)) (fun _ h9 => h9) rfl d_SU_takeMisses_58 ?_
        refine lv_iconst (v := 1) hx hb d_SU_takeMisses_61 (by decide) ?_
        refine xa_aald hx hb hK hP 2 1 rfl rfl 1 (by decide) (by decide) (by decide) (b := m1) rfl d_SU_takeMisses_62 ?_
        refine lv_iload_n hx hb d_SU_takeMisses_63 rfl (lv_at hl 3 rfl) ?_
        refine lv_aload_n hx hb d_SU_takeMisses_64 rfl (lv_at hl 2 rfl) ?_
        refine va_get (D := (dC, dI)) (ci := 2) (v := .ref qy) (C := xR_OB) (T := xT_OB) (N := 9) hx hb hts (fun w h => List.mem_cons_of_mem _ (iw_OB w h)) hown hK hP 7 rfl rfl 1 (by decide) (hts _ (List.mem_cons_of_mem _ wm_90)) (fun _ h9 => h9) rfl d_SU_takeMisses_65 ?_
        refine lv_iload_n hx hb d_SU_takeMisses_68 rfl (lv_at hl 3 rfl) ?_
        refine xa_iald hx hb hK hP 9 7 rfl rfl i rfl (by omega) (by decide) d_SU_takeMisses_69 ?_
        refine lv_aload_n hx hb d_SU_takeMisses_70 rfl (lv_at hl 1 rfl) ?_
        refine lv_iconst (v := 1) hx hb d_SU_takeMisses_71 (by decide) ?_
        refine lv_aload_n hx hb d_SU_takeMisses_72 rfl (lv_at hl 2 rfl) ?_
        refine va_get (D := (dC, dI)) (ci := 2) (v := .ref qu) (C := xR_OB) (T := xT_OB) (N := 9) hx hb hts (fun w h => List.mem_cons_of_mem _ (iw_OB w h)) hown hK hP 7 rfl rfl 3 (by decide) (hts _ (List.mem_cons_of_mem _ wm_96)) (fun _ h9 => h9) rfl d_SU_takeMisses_73 ?_
        refine lv_iload_n hx hb d_SU_takeMisses_76 rfl (lv_at hl 3 rfl) ?_
        refine xa_iald hx hb hK hP 11 9 rfl rfl i rfl (by omega) (by decide) d_SU_takeMisses_77 ?_
        refine lv_aload_n hx hb d_SU_takeMisses_78 rfl (lv_at hl 2 rfl) ?_
        refine va_get (D := (dC, dI)) (ci := 2) (v := .ref qv) (C := xR_OB) (T := xT_OB) (N := 9) hx hb hts (fun w h => List.mem_cons_of_mem _ (iw_OB w h)) hown hK hP 7 rfl rfl 4 (by decide) (hts _ (List.mem_cons_of_mem _ wm_99)) (fun _ h9 => h9) rfl d_SU_takeMisses_79 ?_
        refine lv_iload_n hx hb d_SU_takeMisses_82 rfl (lv_at hl 3 rfl) ?_
        refine xa_iald hx hb hK hP 12 10 rfl rfl i rfl (by omega) (by decide) d_SU_takeMisses_83 ?_
        refine lv_iload_n hx hb d_SU_takeMisses_84 rfl (lv_at hl 0 rfl) ?_
        refine xr_calli (va_runV (As := [.int 1, .int (fu i), .int (fv i), .int (fw i - fp i)]) (rest := [.int (fy i), .int (nI i), .ref m1]) ⟨hx, hb, hml, hown, hts⟩ (c_SU_placeAlong1 l dC dI h0 su sp sm se dv ht no md ca fa (fu i) (fv i) (fw i - fp i)) (cwV 4 hts (xgV wm_316 wm_317 wm_318 wm_30 wm_319) rfl rfl rfl (by decide +kernel) ⟨Nat.le_of_ble_eq_true rfl, Nat.le_of_ble_eq_true rfl⟩) ⟨xp_blind, va_recv hK hP (ci := 4) (q0 := 0) rfl rfl, fun U hU hW => ⟨rfl, hz.warm hW, by rw [hU]; exact hP.sub [0, 1] rfl, va_K.moved hW.alike (hK.sub [0] rfl)⟩⟩ rfl rfl hl.1 rfl (lv_room (Nat.le_of_ble_eq_true rfl)) d_SU_takeMisses_85 ⟨Nat.le_of_ble_eq_true rfl, Nat.le_of_ble_eq_true rfl⟩) (fun r_8 h_9 => ?_)
        subst h_9
        refine lv_isub hx hb d_SU_takeMisses_88 ?_
        refine xa_iast hx hb hK hP hD hS 4 3 rfl rfl i rfl (by omega) (by decide) d_SU_takeMisses_89 (fun H locs hP hD hS => ?_)
        have hP : va_P (dC, dI) xCl [(h0, .inr (4, [.ref su, .ref sp, .ref sm, .ref se, .long dv, .int ht, .int (nI no), .int md])), (sp, .inl (ca, 4, .inr (.inl fa))), (sm, .inl (cm, 3, .inr (.inr (.inr (.inr (xm_3 m0 m1 m2)))))), (m0, .inl (cm0, 20, .inl (upd (sr_m0 i fx fu fv fa dv n0) i ((fx i) - (sr_px fa dv (fu i) (fv i)))))), (m1, .inl (cm1, 20, .inl (upd (sr_m1 i fy fu fv fa dv n1) i ((fy i) - (sr_py fa dv (fu i) (fv i)))))), (m2, .inl (cm2, 20, .inl (sr_m2 i fz fw fp ht n2))), (se, .inl (cq, 20, .inl (sr_cp i fe fq))), (h1, .inr (2, [.ref qx, .ref qy, .ref qz, .ref qu, .ref qv, .ref qw, .ref qp, .ref qe, .int (nI no)])), (qx, .inl (cx, 20, .inl fx)), (qy, .inl (cy, 20, .inl fy)), (qz, .inl (cz, 20, .inl fz)), (qu, .inl (cu, 20, .inl fu)), (qv, .inl (cv, 20, .inl fv)), (qw, .inl (cw, 20, .inl fw)), (qp, .inl (cp, 20, .inl fp)), (qe, .inl (ce, 20, .inl fe))] H := hP
        have hD : va_D A [(h0, .inr (4, [.ref su, .ref sp, .ref sm, .ref se, .long dv, .int ht, .int (nI no), .int md])), (sp, .inl (ca, 4, .inr (.inl fa))), (sm, .inl (cm, 3, .inr (.inr (.inr (.inr (xm_3 m0 m1 m2)))))), (m0, .inl (cm0, 20, .inl (upd (sr_m0 i fx fu fv fa dv n0) i ((fx i) - (sr_px fa dv (fu i) (fv i)))))), (m1, .inl (cm1, 20, .inl (upd (sr_m1 i fy fu fv fa dv n1) i ((fy i) - (sr_py fa dv (fu i) (fv i)))))), (m2, .inl (cm2, 20, .inl (sr_m2 i fz fw fp ht n2))), (se, .inl (cq, 20, .inl (sr_cp i fe fq))), (h1, .inr (2, [.ref qx, .ref qy, .ref qz, .ref qu, .ref qv, .ref qw, .ref qp, .ref qe, .int (nI no)])), (qx, .inl (cx, 20, .inl fx)), (qy, .inl (cy, 20, .inl fy)), (qz, .inl (cz, 20, .inl fz)), (qu, .inl (cu, 20, .inl fu)), (qv, .inl (cv, 20, .inl fv)), (qw, .inl (cw, 20, .inl fw)), (qp, .inl (cp, 20, .inl fp)), (qe, .inl (ce, 20, .inl fe))] := hD
        refine lv_aload_n hx hb d_SU_takeMisses_90 rfl (lv_at hl 1 rfl) ?_
        refine va_get (D := (dC, dI)) (ci := 4) (v := .ref sm) (C := xR_SU) (T := xT_SU) (N := 8) hx hb hts (fun w h => List.mem_cons_of_mem _ (iw_SU w h)) hown hK hP 0 rfl rfl 2 (by decide) (hts _ (List.mem_cons_of_mem _ wm_181)) (fun _ h9 => h9) rfl d_SU_takeMisses_91 ?_
        refine lv_iconst (v := 2) hx hb d_SU_takeMisses_94 (by decide) ?_
        refine xa_aald hx hb hK hP 2 1 rfl rfl 2 (by decide) (by decide) (by decide) (b := m2) rfl d_SU_takeMisses_95 ?_
        refine lv_iload_n hx hb d_SU_takeMisses_96 rfl (lv_at hl 3 rfl) ?_
        refine lv_aload_n hx hb d_SU_takeMisses_97 rfl (lv_at hl 2 rfl) ?_
        refine va_get (D := (dC, dI)) (ci := 2) (v := .ref qz) (C := xR_OB) (T := xT_OB) (N := 9) hx hb hts (fun w h => List.mem_cons_of_mem _ (iw_OB w h)) hown hK hP 7 rfl rfl 2 (by decide) (hts _ (List.mem_cons_of_mem _ wm_93)) (fun _ h9 => h9) rfl d_SU_takeMisses_98 ?_
        refine lv_iload_n hx hb d_SU_takeMisses_101 rfl (lv_at hl 3 rfl) ?_
        refine xa_iald hx hb hK hP 10 8 rfl rfl i rfl (by omega) (by decide) d_SU_takeMisses_102 ?_
        refine lv_aload_n hx hb d_SU_takeMisses_103 rfl (lv_at hl 1 rfl) ?_
        refine lv_iconst (v := 2) hx hb d_SU_takeMisses_104 (by decide) ?_
        refine lv_aload_n hx hb d_SU_takeMisses_105 rfl (lv_at hl 2 rfl) ?_
        refine va_get (D := (dC, dI)) (ci := 2) (v := .ref qu) (C := xR_OB) (T := xT_OB) (N := 9) hx hb hts (fun w h => List.mem_cons_of_mem _ (iw_OB w h)) hown hK hP 7 rfl rfl 3 (by decide) (hts _ (List.mem_cons_of_mem _ wm_96)) (fun _ h9 => h9) rfl d_SU_takeMisses_106 ?_
        refine lv_iload_n hx hb d_SU_takeMisses_109 rfl (lv_at hl 3 rfl) ?_
        refine xa_iald hx hb hK hP 11 9 rfl rfl i rfl (by omega) (by decide) d_SU_takeMisses_110 ?_
        refine lv_aload_n hx hb d_SU_takeMisses_111 rfl (lv_at hl 2 rfl) ?_
        refine va_get (D := (dC, dI)) (ci := 2) (v := .ref qv) (C := xR_OB) (T := xT_OB) (N := 9) hx hb hts (fun w h => List.mem_cons_of_mem _ (iw_OB w h)) hown hK hP 7 rfl rfl 4 (by decide) (hts _ (List.mem_cons_of_mem _ wm_99)) (fun _ h9 => h9) rfl d_SU_takeMisses_112 ?_
        refine lv_iload_n hx hb d_SU_takeMisses_115 rfl (lv_at hl 3 rfl) ?_
        refine xa_iald hx hb hK hP 12 10 rfl rfl i rfl (by omega) (by decide) d_SU_takeMisses_116 ?_
        refine lv_iload_n hx hb d_SU_takeMisses_117 rfl (lv_at hl 0 rfl) ?_
        refine xr_calli (va_runV (As := [.int 2, .int (fu i), .int (fv i), .int (fw i - fp i)]) (rest := [.int (fz i), .int (nI i), .ref m2]) ⟨hx, hb, hml, hown, hts⟩ (c_SU_placeAlong2 l dC dI h0 su sp sm se dv ht no md ca fa (fu i) (fv i) (fw i - fp i)) (cwV 4 hts (xgV wm_316 wm_317 wm_318 wm_30 wm_319) rfl rfl rfl (by decide +kernel) ⟨Nat.le_of_ble_eq_true rfl, Nat.le_of_ble_eq_true rfl⟩) ⟨xp_blind, va_recv hK hP (ci := 4) (q0 := 0) rfl rfl, fun U hU hW => ⟨rfl, hz.warm hW, by rw [hU]; exact hP.sub [0, 1] rfl, va_K.moved hW.alike (hK.sub [0] rfl)⟩⟩ rfl rfl hl.1 rfl (lv_room (Nat.le_of_ble_eq_true rfl)) d_SU_takeMisses_118 ⟨Nat.le_of_ble_eq_true rfl, Nat.le_of_ble_eq_true rfl⟩) (fun r_10 h_11 => ?_)
        subst h_11
        refine lv_isub hx hb d_SU_takeMisses_121 ?_
        refine xa_iast hx hb hK hP hD hS 5 4 rfl rfl i rfl (by omega) (by decide) d_SU_takeMisses_122 (fun H locs hP hD hS => ?_)
        have hP : va_P (dC, dI) xCl [(h0, .inr (4, [.ref su, .ref sp, .ref sm, .ref se, .long dv, .int ht, .int (nI no), .int md])), (sp, .inl (ca, 4, .inr (.inl fa))), (sm, .inl (cm, 3, .inr (.inr (.inr (.inr (xm_3 m0 m1 m2)))))), (m0, .inl (cm0, 20, .inl (upd (sr_m0 i fx fu fv fa dv n0) i ((fx i) - (sr_px fa dv (fu i) (fv i)))))), (m1, .inl (cm1, 20, .inl (upd (sr_m1 i fy fu fv fa dv n1) i ((fy i) - (sr_py fa dv (fu i) (fv i)))))), (m2, .inl (cm2, 20, .inl (upd (sr_m2 i fz fw fp ht n2) i ((fz i) - ((fw i - fp i) + ht))))), (se, .inl (cq, 20, .inl (sr_cp i fe fq))), (h1, .inr (2, [.ref qx, .ref qy, .ref qz, .ref qu, .ref qv, .ref qw, .ref qp, .ref qe, .int (nI no)])), (qx, .inl (cx, 20, .inl fx)), (qy, .inl (cy, 20, .inl fy)), (qz, .inl (cz, 20, .inl fz)), (qu, .inl (cu, 20, .inl fu)), (qv, .inl (cv, 20, .inl fv)), (qw, .inl (cw, 20, .inl fw)), (qp, .inl (cp, 20, .inl fp)), (qe, .inl (ce, 20, .inl fe))] H := hP
        have hD : va_D A [(h0, .inr (4, [.ref su, .ref sp, .ref sm, .ref se, .long dv, .int ht, .int (nI no), .int md])), (sp, .inl (ca, 4, .inr (.inl fa))), (sm, .inl (cm, 3, .inr (.inr (.inr (.inr (xm_3 m0 m1 m2)))))), (m0, .inl (cm0, 20, .inl (upd (sr_m0 i fx fu fv fa dv n0) i ((fx i) - (sr_px fa dv (fu i) (fv i)))))), (m1, .inl (cm1, 20, .inl (upd (sr_m1 i fy fu fv fa dv n1) i ((fy i) - (sr_py fa dv (fu i) (fv i)))))), (m2, .inl (cm2, 20, .inl (upd (sr_m2 i fz fw fp ht n2) i ((fz i) - ((fw i - fp i) + ht))))), (se, .inl (cq, 20, .inl (sr_cp i fe fq))), (h1, .inr (2, [.ref qx, .ref qy, .ref qz, .ref qu, .ref qv, .ref qw, .ref qp, .ref qe, .int (nI no)])), (qx, .inl (cx, 20, .inl fx)), (qy, .inl (cy, 20, .inl fy)), (qz, .inl (cz, 20, .inl fz)), (qu, .inl (cu, 20, .inl fu)), (qv, .inl (cv, 20, .inl fv)), (qw, .inl (cw, 20, .inl fw)), (qp, .inl (cp, 20, .inl fp)), (qe, .inl (ce, 20, .inl fe))] := hD
        refine lv_aload_n hx hb d_SU_takeMisses_123 rfl (lv_at hl 1 rfl) ?_
        refine va_get (D := (dC, dI)) (ci := 4) (v := .ref se) (C := xR_SU) (T := xT_SU) (N := 8) hx hb hts (fun w h => List.mem_cons_of_mem _ (iw_SU w h)) hown hK hP 0 rfl rfl 3 (by decide) (hts _ (List.mem_cons_of_mem _ wm_183)) (fun _ h9 => h9) rfl d_SU_takeMisses_124 ?_
        refine lv_iload_n hx hb d_SU_takeMisses_127 rfl (lv_at hl 3 rfl) ?_
        refine lv_aload_n hx hb d_SU_takeMisses_128 rfl (lv_at hl 2 rfl) ?_
        refine va_get (D := (dC, dI)) (ci := 2) (v := .ref qe) (C := xR_OB) (T := xT_OB) (N := 9) hx hb hts (fun w h => List.mem_cons_of_mem _ (iw_OB w h)) hown hK hP 7 rfl rfl 7 (by decide) (hts _ (List.mem_cons_of_mem _ wm_106)) (fun _ h9 => h9) rfl d_SU_takeMisses_129 ?_
        refine lv_iload_n hx hb d_SU_takeMisses_132 rfl (lv_at hl 3 rfl) ?_
        refine xa_zald hx hb hK hP 15 13 rfl rfl i rfl (by omega) (by decide) d_SU_takeMisses_133 ?_
        refine xa_zast hx hb hK hP hD hS 6 5 rfl rfl i rfl (by omega) (by decide) (sr_nar01 (hb01 i)) d_SU_takeMisses_134 (fun H locs hP hD hS => ?_)
        have hP : va_P (dC, dI) xCl [(h0, .inr (4, [.ref su, .ref sp, .ref sm, .ref se, .long dv, .int ht, .int (nI no), .int md])), (sp, .inl (ca, 4, .inr (.inl fa))), (sm, .inl (cm, 3, .inr (.inr (.inr (.inr (xm_3 m0 m1 m2)))))), (m0, .inl (cm0, 20, .inl (upd (sr_m0 i fx fu fv fa dv n0) i ((fx i) - (sr_px fa dv (fu i) (fv i)))))), (m1, .inl (cm1, 20, .inl (upd (sr_m1 i fy fu fv fa dv n1) i ((fy i) - (sr_py fa dv (fu i) (fv i)))))), (m2, .inl (cm2, 20, .inl (upd (sr_m2 i fz fw fp ht n2) i ((fz i) - ((fw i - fp i) + ht))))), (se, .inl (cq, 20, .inl (upd (sr_cp i fe fq) i (fe i)))), (h1, .inr (2, [.ref qx, .ref qy, .ref qz, .ref qu, .ref qv, .ref qw, .ref qp, .ref qe, .int (nI no)])), (qx, .inl (cx, 20, .inl fx)), (qy, .inl (cy, 20, .inl fy)), (qz, .inl (cz, 20, .inl fz)), (qu, .inl (cu, 20, .inl fu)), (qv, .inl (cv, 20, .inl fv)), (qw, .inl (cw, 20, .inl fw)), (qp, .inl (cp, 20, .inl fp)), (qe, .inl (ce, 20, .inl fe))] H := hP
        have hD : va_D A [(h0, .inr (4, [.ref su, .ref sp, .ref sm, .ref se, .long dv, .int ht, .int (nI no), .int md])), (sp, .inl (ca, 4, .inr (.inl fa))), (sm, .inl (cm, 3, .inr (.inr (.inr (.inr (xm_3 m0 m1 m2)))))), (m0, .inl (cm0, 20, .inl (upd (sr_m0 i fx fu fv fa dv n0) i ((fx i) - (sr_px fa dv (fu i) (fv i)))))), (m1, .inl (cm1, 20, .inl (upd (sr_m1 i fy fu fv fa dv n1) i ((fy i) - (sr_py fa dv (fu i) (fv i)))))), (m2, .inl (cm2, 20, .inl (upd (sr_m2 i fz fw fp ht n2) i ((fz i) - ((fw i - fp i) + ht))))), (se, .inl (cq, 20, .inl (upd (sr_cp i fe fq) i (fe i)))), (h1, .inr (2, [.ref qx, .ref qy, .ref qz, .ref qu, .ref qv, .ref qw, .ref qp, .ref qe, .int (nI no)])), (qx, .inl (cx, 20, .inl fx)), (qy, .inl (cy, 20, .inl fy)), (qz, .inl (cz, 20, .inl fz)), (qu, .inl (cu, 20, .inl fu)), (qv, .inl (cv, 20, .inl fv)), (qw, .inl (cw, 20, .inl fw)), (qp, .inl (cp, 20, .inl fp)), (qe, .inl (ce, 20, .inl fe))] := hD
        refine lv_iinc (v := nI (i + 1)) (lv' := [(2, .int (nI (i + 1))), (3, .int (fw i - fp i)), (0, .ref h0), (1, .ref h1)]) hx hb d_SU_takeMisses_135 hl (k := 3) rfl (nI_1 _) (by decide) rfl (fun ls hl => ?_)
        refine lv_goto (tgt := 10) hx hb d_SU_takeMisses_138 (by decide) ?_
        exact ih  (i + 1) (upd (sr_m0 i fx fu fv fa dv n0) i ((fx i) - (sr_px fa dv (fu i) (fv i)))) (upd (sr_m1 i fy fu fv fa dv n1) i ((fy i) - (sr_py fa dv (fu i) (fv i)))) (upd (sr_m2 i fz fw fp ht n2) i ((fz i) - ((fw i - fp i) + ht))) (upd (sr_cp i fe fq) i (fe i)) (by omega) (by omega) (sr_m0_s i _ _ _ _ _ _).symm (sr_m1_s i _ _ _ _ _ _).symm (sr_m2_s i _ _ _ _ _).symm (sr_cp_s i _ _).symm _ _ (hP.sub [0, 1, 2, 3, 4, 5, 6, 7, 8, 9, 10, 11, 12, 13, 14, 15] rfl) (hD.sub [0, 1, 2, 3, 4, 5, 6, 7, 8, 9, 10, 11, 12, 13, 14, 15] (by decide) rfl) hS ls (lv_sub hl [2, 3, 0] rfl)
  exact lp10 (no - 0 + 1) 0 n0 n1 n2 fq (by omega) (Nat.zero_le _) (sr_m0_0 _ _ _ _ _ _).symm (sr_m1_0 _ _ _ _ _ _).symm (sr_m2_0 _ _ _ _ _).symm (sr_cp_0 _ _).symm _ _ (hP.sub [0, 1, 2, 3, 4, 5, 6, 7, 8, 9, 10, 11, 12, 13, 14, 15] rfl) (hD.sub [0, 1, 2, 3, 4, 5, 6, 7, 8, 9, 10, 11, 12, 13, 14, 15] (by decide) rfl) hS ls (lv_sub hl [1, 2, 0] rfl)
set_option maxHeartbeats 4000000 in
set_option maxRecDepth 100000 in
/-- SetUp.worstAbove -/
theorem c_SU_worstAbove (l : Launch) (dC : Nat → ClassId) (dI : Nat → Nat → Nat) (h0 : Nat) (su : Nat) (sp : Nat) (sm : Nat) (se : Nat) (dv : Int64) (ht : Int32) (sc : Nat) (md : Int32) (m0 : Nat) (m1 : Nat) (m2 : Nat) (cm : ClassId) (cm0 : ClassId) (cm1 : ClassId) (cm2 : ClassId) (n0 : Nat → Int32) (n1 : Nat → Int32) (n2 : Nat → Int32) (cq : ClassId) (fq : Nat → Int32) (bd : Int64) (hc : sc ≤ 20) : Met l xy_SU_worstAbove xw_SU_worstAbove ({ frames := 1, cells := 0, slots := 0, locals := 24 }) (xp_r [.ref h0, .long bd] (dC, dI) xCl [(h0, .inr (4, [.ref su, .ref sp, .ref sm, .ref se, .long dv, .int ht, .int (nI sc), .int md])), (sm, .inl (cm, 3, .inr (.inr (.inr (.inr (xm_3 m0 m1 m2)))))), (m0, .inl (cm0, 20, .inl n0)), (m1, .inl (cm1, 20, .inl n1)), (m2, .inl (cm2, 20, .inl n2)), (se, .inl (cq, 20, .inl fq))] [(cm, .array .int), (cm0, .int), (cm1, .int), (cm2, .int), (cq, .boolean)]) (xr_i (fun r => r = (sr_wo n0 n1 fq bd sc).2)) 0 0 (fun _ => False) := by
  refine Met.ofW (cc := prog_5_method_9_code) (maxL := 9) (ret := (some .int)) (by decide) rfl ?_
  intro p e s m args below meth c s₁ B hml hv
  obtain ⟨rfl, hz, hP, hK⟩ := hv
  have hx := B.exec
  have hb := B.bytes
  have hr := B.returns
  have hts := atoms_spec (ws := xw_SU_worstAbove) B.pre
  have hown : s.vm.findClass xR_SU = some m.cls := findClass_of_methodNamed B.named
  have hlocks := B.notSynchronized
  have hP : va_P (dC, dI) xCl [(h0, .inr (4, [.ref su, .ref sp, .ref sm, .ref se, .long dv, .int ht, .int (nI sc), .int md])), (sm, .inl (cm, 3, .inr (.inr (.inr (.inr (xm_3 m0 m1 m2)))))), (m0, .inl (cm0, 20, .inl n0)), (m1, .inl (cm1, 20, .inl n1)), (m2, .inl (cm2, 20, .inl n2)), (se, .inl (cq, 20, .inl fq))] s.heap := hP
  have hl := lv_entry ([.ref h0, .long bd]) (n := 9) (Nat.le_of_ble_eq_true rfl)
  rw [lg_entry_eq]
  generalize (lg_sl ([.ref h0, .long bd]) ++ List.replicate (9 - (lg_sl ([.ref h0, .long bd])).length) Slot.unset).toArray = ls at hl ⊢
  have hl : lv_has ls 9 [(0, .ref h0), (1, .long bd)] := hl
  refine lv_lload_n hx hb d_SU_worstAbove_0 rfl (lv_at hl 1 rfl) ?_
  refine lv_lstore_n (lv' := [(3, .long bd), (0, .ref h0), (1, .long bd)]) hx hb d_SU_worstAbove_1 rfl hl (by decide) rfl (fun ls hl => ?_)
  refine lv_iconst (v := (-1)) hx hb d_SU_worstAbove_2 (by decide) ?_
  refine lv_istore (lv' := [(5, .int (-1)), (3, .long bd), (0, .ref h0), (1, .long bd)]) hx hb d_SU_worstAbove_3 hl (by decide) rfl (fun ls hl => ?_)
  refine lv_iconst (v := 0) hx hb d_SU_worstAbove_5 (by decide) ?_
  refine lv_istore (lv' := [(6, .int 0), (5, .int (-1)), (3, .long bd), (0, .ref h0), (1, .long bd)]) hx hb d_SU_worstAbove_6 hl (by decide) rfl (fun ls hl => ?_)
  have lp8 : ∀ (fuel : Nat) (i : Nat) (g : Int64) (w : Int32), sc - i < fuel → i ≤ sc → g = (sr_wo n0 n1 fq bd i).1 → w = (sr_wo n0 n1 fq bd i).2 → ∀ (ls : Array Slot), lv_has ls 9 [(0, .ref h0), (3, .long g), (5, .int w), (6, .int (nI i))] → W p l e (headSpec xw_SU_worstAbove ({ frames := 1, cells := 0, slots := 0, locals := 24 })).room s m ([.ref h0, .long bd] : List Value).toArray below meth c s.heap [] 0 0 (MQ below (xr_i (fun r => r = (sr_wo n0 n1 fq bd sc).2)) ([.ref h0, .long bd] : List Value).toArray s 0 0 (fun _ => False)) (F0 m 8 ls []) := by
    intro fuel
    induction fuel with
    | zero => intro i g w hfu; exact absurd hfu (Nat.not_lt_zero _)
    | succ fuel ih =>
      intro i g w hfu hi hg hw ls hl
      subst hg
      subst hw
      refine lv_iload hx hb d_SU_worstAbove_8 (lv_at hl 3 rfl) ?_
      refine lv_aload_n hx hb d_SU_worstAbove_10 rfl (lv_at hl 0 rfl) ?_
      refine va_get (D := (dC, dI)) (ci := 4) (v := .int (nI sc)) (C := xR_SU) (T := xT_SU) (N := 8) hx hb hts (fun w h => List.mem_cons_of_mem _ (iw_SU w h)) hown hK hP 0 rfl rfl 6 (by decide) (hts _ (List.mem_cons_of_mem _ wm_186)) (fun _ h9 => h9) rfl d_SU_worstAbove_11 ?_
      refine lv_icmp_ge (tgt := 64) hx hb d_SU_worstAbove_14 (by decide) (fun c_1 => ?_) (fun c_1 => ?_)
      · have n_2 := xn_le (a := sc) (b := i) c_1 rfl rfl (by omega) (by omega)
        refine lv_iload hx hb d_SU_worstAbove_64 (lv_at hl 2 rfl) ?_
        exact xr_iret (v := (sr_wo n0 n1 fq bd i).2) hx hb hr (by exact (by rw [show i = sc by omega])) d_SU_worstAbove_66 hlocks
      · have n_3 := xn_nle (a := sc) (b := i) c_1 rfl rfl (by omega) (by omega)
        refine lv_aload_n hx hb d_SU_worstAbove_17 rfl (lv_at hl 0 rfl) ?_
        refine lv_iconst (v := 0) hx hb d_SU_worstAbove_18 (by decide) ?_
        refine lv_iload hx hb d_SU_worstAbove_19 (lv_at hl 3 rfl) ?_
        refine xr_calll (va_runV (As := [.int 0, .int (nI i)]) (rest := []) ⟨hx, hb, hml, hown, hts⟩ (c_SU_squareOf0 l dC dI h0 su sp sm se dv ht sc md m0 m1 m2 cm cm0 cm1 cm2 n0 n1 n2 i (by first | assumption | omega | decide)) (cwV 2 hts (xgV wm_579 wm_581 wm_10 wm_30 wm_582) rfl rfl rfl (by decide +kernel) ⟨Nat.le_of_ble_eq_true rfl, Nat.le_of_ble_eq_true rfl⟩) ⟨xp_blind, va_recv hK hP (ci := 4) (q0 := 0) rfl rfl, fun U hU hW => ⟨rfl, hz.warm hW, by rw [hU]; exact hP.sub [0, 1, 2, 3, 4] rfl, va_K.moved hW.alike (hK.sub [0, 1, 2, 3] rfl)⟩⟩ rfl rfl hl.1 rfl (lv_room (Nat.le_of_ble_eq_true rfl)) d_SU_worstAbove_21 ⟨Nat.le_of_ble_eq_true rfl, Nat.le_of_ble_eq_true rfl⟩) (fun r_4 h_5 => ?_)
        subst h_5
        refine lv_aload_n hx hb d_SU_worstAbove_24 rfl (lv_at hl 0 rfl) ?_
        refine lv_iconst (v := 1) hx hb d_SU_worstAbove_25 (by decide) ?_
        refine lv_iload hx hb d_SU_worstAbove_26 (lv_at hl 3 rfl) ?_
        refine xr_calll (va_runV (As := [.int 1, .int (nI i)]) (rest := [.long ((n0 i).toInt64 * (n0 i).toInt64)]) ⟨hx, hb, hml, hown, hts⟩ (c_SU_squareOf1 l dC dI h0 su sp sm se dv ht sc md m0 m1 m2 cm cm0 cm1 cm2 n0 n1 n2 i (by first | assumption | omega | decide)) (cwV 2 hts (xgV wm_579 wm_581 wm_10 wm_30 wm_582) rfl rfl rfl (by decide +kernel) ⟨Nat.le_of_ble_eq_true rfl, Nat.le_of_ble_eq_true rfl⟩) ⟨xp_blind, va_recv hK hP (ci := 4) (q0 := 0) rfl rfl, fun U hU hW => ⟨rfl, hz.warm hW, by rw [hU]; exact hP.sub [0, 1, 2, 3, 4] rfl, va_K.moved hW.alike (hK.sub [0, 1, 2, 3] rfl)⟩⟩ rfl rfl hl.1 rfl (lv_room (Nat.le_of_ble_eq_true rfl)) d_SU_worstAbove_28 ⟨Nat.le_of_ble_eq_true rfl, Nat.le_of_ble_eq_true rfl⟩) (fun r_6 h_7 => ?_)
        subst h_7
        refine lv_ladd hx hb d_SU_worstAbove_31 ?_
        refine lv_lstore (lv' := [(7, .long (((n0 i).toInt64 * (n0 i).toInt64) + ((n1 i).toInt64 * (n1 i).toInt64))), (0, .ref h0), (3, .long (sr_wo n0 n1 fq bd i).1), (5, .int (sr_wo n0 n1 fq bd i).2), (6, .int (nI i))]) hx hb d_SU_worstAbove_32 hl (by decide) rfl (fun ls hl => ?_)
        refine lv_aload_n hx hb d_SU_worstAbove_34 rfl (lv_at hl 1 rfl) ?_
        refine va_get (D := (dC, dI)) (ci := 4) (v := .ref se) (C := xR_SU) (T := xT_SU) (N := 8) hx hb hts (fun w h => List.mem_cons_of_mem _ (iw_SU w h)) hown hK hP 0 rfl rfl 3 (by decide) (hts _ (List.mem_cons_of_mem _ wm_183)) (fun _ h9 => h9) rfl d_SU_worstAbove_35 ?_
        refine lv_iload hx hb d_SU_worstAbove_38 (lv_at hl 4 rfl) ?_
        refine xa_zald hx hb hK hP 5 4 rfl rfl i rfl (by omega) (by decide) d_SU_worstAbove_40 ?_
        refine lv_if_eq (tgt := 58) hx hb d_SU_worstAbove_41 (by decide) (fun c_8 => ?_) (fun c_8 => ?_)
        · refine lv_iinc (v := nI (i + 1)) (lv' := [(6, .int (nI (i + 1))), (7, .long (((n0 i).toInt64 * (n0 i).toInt64) + ((n1 i).toInt64 * (n1 i).toInt64))), (0, .ref h0), (3, .long (sr_wo n0 n1 fq bd i).1), (5, .int (sr_wo n0 n1 fq bd i).2)]) hx hb d_SU_worstAbove_58 hl (k := 4) rfl (nI_1 _) (by decide) rfl (fun ls hl => ?_)
          refine lv_goto (tgt := 8) hx hb d_SU_worstAbove_61 (by decide) ?_
          exact ih  (i + 1) (sr_wo n0 n1 fq bd i).1 (sr_wo n0 n1 fq bd i).2 (by omega) (by omega) (by rw [sr_wo_u c_8]) (by rw [sr_wo_u c_8]) ls (lv_sub hl [2, 3, 4, 0] rfl)
        · refine lv_lload hx hb d_SU_worstAbove_44 (lv_at hl 0 rfl) ?_
          refine lv_lload_n hx hb d_SU_worstAbove_46 rfl (lv_at hl 2 rfl) ?_
          refine W.lcmp hx hb d_SU_worstAbove_47 ?_
          refine lv_if_le (tgt := 58) hx hb d_SU_worstAbove_48 (by decide) (fun c_9 => ?_) (fun c_9 => ?_)
          · have l_10 := lc_le.mp c_9
            refine lv_iinc (v := nI (i + 1)) (lv' := [(6, .int (nI (i + 1))), (7, .long (((n0 i).toInt64 * (n0 i).toInt64) + ((n1 i).toInt64 * (n1 i).toInt64))), (0, .ref h0), (3, .long (sr_wo n0 n1 fq bd i).1), (5, .int (sr_wo n0 n1 fq bd i).2)]) hx hb d_SU_worstAbove_58 hl (k := 4) rfl (nI_1 _) (by decide) rfl (fun ls hl => ?_)
            refine lv_goto (tgt := 8) hx hb d_SU_worstAbove_61 (by decide) ?_
            exact ih  (i + 1) (sr_wo n0 n1 fq bd i).1 (sr_wo n0 n1 fq bd i).2 (by omega) (by omega) (by rw [sr_wo_f l_10]) (by rw [sr_wo_f l_10]) ls (lv_sub hl [2, 3, 4, 0] rfl)
          · have l_11 := fun q => c_9 (lc_le.mpr q)
            refine lv_lload hx hb d_SU_worstAbove_51 (lv_at hl 0 rfl) ?_
            refine lv_lstore_n (lv' := [(3, .long (((n0 i).toInt64 * (n0 i).toInt64) + ((n1 i).toInt64 * (n1 i).toInt64))), (7, .long (((n0 i).toInt64 * (n0 i).toInt64) + ((n1 i).toInt64 * (n1 i).toInt64))), (0, .ref h0), (5, .int (sr_wo n0 n1 fq bd i).2), (6, .int (nI i))]) hx hb d_SU_worstAbove_53 rfl hl (by decide) rfl (fun ls hl => ?_)
            refine lv_iload hx hb d_SU_worstAbove_54 (lv_at hl 4 rfl) ?_
            refine lv_istore (lv' := [(5, .int (nI i)), (3, .long (((n0 i).toInt64 * (n0 i).toInt64) + ((n1 i).toInt64 * (n1 i).toInt64))), (7, .long (((n0 i).toInt64 * (n0 i).toInt64) + ((n1 i).toInt64 * (n1 i).toInt64))), (0, .ref h0), (6, .int (nI i))]) hx hb d_SU_worstAbove_56 hl (by decide) rfl (fun ls hl => ?_)
            refine lv_iinc (v := nI (i + 1)) (lv' := [(6, .int (nI (i + 1))), (5, .int (nI i)), (3, .long (((n0 i).toInt64 * (n0 i).toInt64) + ((n1 i).toInt64 * (n1 i).toInt64))), (7, .long (((n0 i).toInt64 * (n0 i).toInt64) + ((n1 i).toInt64 * (n1 i).toInt64))), (0, .ref h0)]) hx hb d_SU_worstAbove_58 hl (k := 4) rfl (nI_1 _) (by decide) rfl (fun ls hl => ?_)
            refine lv_goto (tgt := 8) hx hb d_SU_worstAbove_61 (by decide) ?_
            exact ih  (i + 1) (((n0 i).toInt64 * (n0 i).toInt64) + ((n1 i).toInt64 * (n1 i).toInt64)) (nI i) (by omega) (by omega) (by rw [sr_wo_t c_8 l_11]) (by rw [sr_wo_t c_8 l_11]) ls (lv_sub hl [4, 2, 1, 0] rfl)
  exact lp8 (sc - 0 + 1) 0 bd (-1) (by omega) (Nat.zero_le _) rfl rfl ls (lv_sub hl [3, 2, 1, 0] rfl)
set_option maxHeartbeats 4000000 in
set_option maxRecDepth 100000 in
/-- SetUp.sumOfSquares -/
theorem c_SU_sumOfSquares (l : Launch) (dC : Nat → ClassId) (dI : Nat → Nat → Nat) (h0 : Nat) (su : Nat) (sp : Nat) (sm : Nat) (se : Nat) (dv : Int64) (ht : Int32) (sc : Nat) (md : Int32) (m0 : Nat) (m1 : Nat) (m2 : Nat) (cm : ClassId) (cm0 : ClassId) (cm1 : ClassId) (cm2 : ClassId) (n0 : Nat → Int32) (n1 : Nat → Int32) (n2 : Nat → Int32) (cq : ClassId) (fq : Nat → Int32) (hc : sc ≤ 20) : Met l xy_SU_sumOfSquares xw_SU_sumOfSquares ({ frames := 1, cells := 0, slots := 0, locals := 24 }) (xp_r [.ref h0] (dC, dI) xCl [(h0, .inr (4, [.ref su, .ref sp, .ref sm, .ref se, .long dv, .int ht, .int (nI sc), .int md])), (sm, .inl (cm, 3, .inr (.inr (.inr (.inr (xm_3 m0 m1 m2)))))), (m0, .inl (cm0, 20, .inl n0)), (m1, .inl (cm1, 20, .inl n1)), (m2, .inl (cm2, 20, .inl n2)), (se, .inl (cq, 20, .inl fq))] [(cm, .array .int), (cm0, .int), (cm1, .int), (cm2, .int), (cq, .boolean)]) (xr_l (fun r => r = sr_ss n0 n1 n2 fq sc)) 0 0 (fun _ => False) := by
  refine Met.ofW (cc := prog_5_method_10_code) (maxL := 4) (ret := (some .long)) (by decide) rfl ?_
  intro p e s m args below meth c s₁ B hml hv
  obtain ⟨rfl, hz, hP, hK⟩ := hv
  have hx := B.exec
  have hb := B.bytes
  have hr := B.returns
  have hts := atoms_spec (ws := xw_SU_sumOfSquares) B.pre
  have hown : s.vm.findClass xR_SU = some m.cls := findClass_of_methodNamed B.named
  have hlocks := B.notSynchronized
  have hP : va_P (dC, dI) xCl [(h0, .inr (4, [.ref su, .ref sp, .ref sm, .ref se, .long dv, .int ht, .int (nI sc), .int md])), (sm, .inl (cm, 3, .inr (.inr (.inr (.inr (xm_3 m0 m1 m2)))))), (m0, .inl (cm0, 20, .inl n0)), (m1, .inl (cm1, 20, .inl n1)), (m2, .inl (cm2, 20, .inl n2)), (se, .inl (cq, 20, .inl fq))] s.heap := hP
  have hl := lv_entry ([.ref h0]) (n := 4) (Nat.le_of_ble_eq_true rfl)
  rw [lg_entry_eq]
  generalize (lg_sl ([.ref h0]) ++ List.replicate (4 - (lg_sl ([.ref h0])).length) Slot.unset).toArray = ls at hl ⊢
  have hl : lv_has ls 4 [(0, .ref h0)] := hl
  refine lv_lconst (v := 0) hx hb d_SU_sumOfSquares_0 (by decide) ?_
  refine lv_lstore_n (lv' := [(1, .long 0), (0, .ref h0)]) hx hb d_SU_sumOfSquares_1 rfl hl (by decide) rfl (fun ls hl => ?_)
  refine lv_iconst (v := 0) hx hb d_SU_sumOfSquares_2 (by decide) ?_
  refine lv_istore_n (lv' := [(3, .int 0), (1, .long 0), (0, .ref h0)]) hx hb d_SU_sumOfSquares_3 rfl hl (by decide) rfl (fun ls hl => ?_)
  have lp4 : ∀ (fuel : Nat) (i : Nat) (g : Int64), sc - i < fuel → i ≤ sc → g = sr_ss n0 n1 n2 fq i → ∀ (ls : Array Slot), lv_has ls 4 [(0, .ref h0), (1, .long g), (3, .int (nI i))] → W p l e (headSpec xw_SU_sumOfSquares ({ frames := 1, cells := 0, slots := 0, locals := 24 })).room s m ([.ref h0] : List Value).toArray below meth c s.heap [] 0 0 (MQ below (xr_l (fun r => r = sr_ss n0 n1 n2 fq sc)) ([.ref h0] : List Value).toArray s 0 0 (fun _ => False)) (F0 m 4 ls []) := by
    intro fuel
    induction fuel with
    | zero => intro i g hfu; exact absurd hfu (Nat.not_lt_zero _)
    | succ fuel ih =>
      intro i g hfu hi hg ls hl
      subst hg
      refine lv_iload_n hx hb d_SU_sumOfSquares_4 rfl (lv_at hl 2 rfl) ?_
      refine lv_aload_n hx hb d_SU_sumOfSquares_5 rfl (lv_at hl 0 rfl) ?_
      refine va_get (D := (dC, dI)) (ci := 4) (v := .int (nI sc)) (C := xR_SU) (T := xT_SU) (N := 8) hx hb hts (fun w h => List.mem_cons_of_mem _ (iw_SU w h)) hown hK hP 0 rfl rfl 6 (by decide) (hts _ (List.mem_cons_of_mem _ wm_186)) (fun _ h9 => h9) rfl d_SU_sumOfSquares_6 ?_
      refine lv_icmp_ge (tgt := 50) hx hb d_SU_sumOfSquares_9 (by decide) (fun c_1 => ?_) (fun c_1 => ?_)
      · have n_2 := xn_le (a := sc) (b := i) c_1 rfl rfl (by omega) (by omega)
        refine lv_lload_n hx hb d_SU_sumOfSquares_50 rfl (lv_at hl 1 rfl) ?_
        exact xr_lret (v := sr_ss n0 n1 n2 fq i) hx hb hr (by exact (by rw [show i = sc by omega])) d_SU_sumOfSquares_51 hlocks
      · have n_3 := xn_nle (a := sc) (b := i) c_1 rfl rfl (by omega) (by omega)
        refine lv_aload_n hx hb d_SU_sumOfSquares_12 rfl (lv_at hl 0 rfl) ?_
        refine va_get (D := (dC, dI)) (ci := 4) (v := .ref se) (C := xR_SU) (T := xT_SU) (N := 8) hx hb hts (fun w h => List.mem_cons_of_mem _ (iw_SU w h)) hown hK hP 0 rfl rfl 3 (by decide) (hts _ (List.mem_cons_of_mem _ wm_183)) (fun _ h9 => h9) rfl d_SU_sumOfSquares_13 ?_
        refine lv_iload_n hx hb d_SU_sumOfSquares_16 rfl (lv_at hl 2 rfl) ?_
        refine xa_zald hx hb hK hP 5 4 rfl rfl i rfl (by omega) (by decide) d_SU_sumOfSquares_17 ?_
        refine lv_if_eq (tgt := 44) hx hb d_SU_sumOfSquares_18 (by decide) (fun c_4 => ?_) (fun c_4 => ?_)
        · refine lv_iinc (v := nI (i + 1)) (lv' := [(3, .int (nI (i + 1))), (0, .ref h0), (1, .long (sr_ss n0 n1 n2 fq i))]) hx hb d_SU_sumOfSquares_44 hl (k := 2) rfl (nI_1 _) (by decide) rfl (fun ls hl => ?_)
          refine lv_goto (tgt := 4) hx hb d_SU_sumOfSquares_47 (by decide) ?_
          exact ih  (i + 1) (sr_ss n0 n1 n2 fq i) (by omega) (by omega) (sr_ss_f c_4).symm ls (lv_sub hl [1, 2, 0] rfl)
        · refine lv_lload_n hx hb d_SU_sumOfSquares_21 rfl (lv_at hl 1 rfl) ?_
          refine lv_aload_n hx hb d_SU_sumOfSquares_22 rfl (lv_at hl 0 rfl) ?_
          refine lv_iconst (v := 0) hx hb d_SU_sumOfSquares_23 (by decide) ?_
          refine lv_iload_n hx hb d_SU_sumOfSquares_24 rfl (lv_at hl 2 rfl) ?_
          refine xr_calll (va_runV (As := [.int 0, .int (nI i)]) (rest := [.long (sr_ss n0 n1 n2 fq i)]) ⟨hx, hb, hml, hown, hts⟩ (c_SU_squareOf0 l dC dI h0 su sp sm se dv ht sc md m0 m1 m2 cm cm0 cm1 cm2 n0 n1 n2 i (by first | assumption | omega | decide)) (cwV 2 hts (xgV wm_579 wm_581 wm_10 wm_30 wm_582) rfl rfl rfl (by decide +kernel) ⟨Nat.le_of_ble_eq_true rfl, Nat.le_of_ble_eq_true rfl⟩) ⟨xp_blind, va_recv hK hP (ci := 4) (q0 := 0) rfl rfl, fun U hU hW => ⟨rfl, hz.warm hW, by rw [hU]; exact hP.sub [0, 1, 2, 3, 4] rfl, va_K.moved hW.alike (hK.sub [0, 1, 2, 3] rfl)⟩⟩ rfl rfl hl.1 rfl (lv_room (Nat.le_of_ble_eq_true rfl)) d_SU_sumOfSquares_25 ⟨Nat.le_of_ble_eq_true rfl, Nat.le_of_ble_eq_true rfl⟩) (fun r_5 h_6 => ?_)
          subst h_6
          refine lv_aload_n hx hb d_SU_sumOfSquares_28 rfl (lv_at hl 0 rfl) ?_
          refine lv_iconst (v := 1) hx hb d_SU_sumOfSquares_29 (by decide) ?_
          refine lv_iload_n hx hb d_SU_sumOfSquares_30 rfl (lv_at hl 2 rfl) ?_
          refine xr_calll (va_runV (As := [.int 1, .int (nI i)]) (rest := [.long ((n0 i).toInt64 * (n0 i).toInt64), .long (sr_ss n0 n1 n2 fq i)]) ⟨hx, hb, hml, hown, hts⟩ (c_SU_squareOf1 l dC dI h0 su sp sm se dv ht sc md m0 m1 m2 cm cm0 cm1 cm2 n0 n1 n2 i (by first | assumption | omega | decide)) (cwV 2 hts (xgV wm_579 wm_581 wm_10 wm_30 wm_582) rfl rfl rfl (by decide +kernel) ⟨Nat.le_of_ble_eq_true rfl, Nat.le_of_ble_eq_true rfl⟩) ⟨xp_blind, va_recv hK hP (ci := 4) (q0 := 0) rfl rfl, fun U hU hW => ⟨rfl, hz.warm hW, by rw [hU]; exact hP.sub [0, 1, 2, 3, 4] rfl, va_K.moved hW.alike (hK.sub [0, 1, 2, 3] rfl)⟩⟩ rfl rfl hl.1 rfl (lv_room (Nat.le_of_ble_eq_true rfl)) d_SU_sumOfSquares_31 ⟨Nat.le_of_ble_eq_true rfl, Nat.le_of_ble_eq_true rfl⟩) (fun r_7 h_8 => ?_)
          subst h_8
          refine lv_ladd hx hb d_SU_sumOfSquares_34 ?_
          refine lv_aload_n hx hb d_SU_sumOfSquares_35 rfl (lv_at hl 0 rfl) ?_
          refine lv_iconst (v := 2) hx hb d_SU_sumOfSquares_36 (by decide) ?_
          refine lv_iload_n hx hb d_SU_sumOfSquares_37 rfl (lv_at hl 2 rfl) ?_
          refine xr_calll (va_runV (As := [.int 2, .int (nI i)]) (rest := [.long (((n0 i).toInt64 * (n0 i).toInt64) + ((n1 i).toInt64 * (n1 i).toInt64)), .long (sr_ss n0 n1 n2 fq i)]) ⟨hx, hb, hml, hown, hts⟩ (c_SU_squareOf2 l dC dI h0 su sp sm se dv ht sc md m0 m1 m2 cm cm0 cm1 cm2 n0 n1 n2 i (by first | assumption | omega | decide)) (cwV 2 hts (xgV wm_579 wm_581 wm_10 wm_30 wm_582) rfl rfl rfl (by decide +kernel) ⟨Nat.le_of_ble_eq_true rfl, Nat.le_of_ble_eq_true rfl⟩) ⟨xp_blind, va_recv hK hP (ci := 4) (q0 := 0) rfl rfl, fun U hU hW => ⟨rfl, hz.warm hW, by rw [hU]; exact hP.sub [0, 1, 2, 3, 4] rfl, va_K.moved hW.alike (hK.sub [0, 1, 2, 3] rfl)⟩⟩ rfl rfl hl.1 rfl (lv_room (Nat.le_of_ble_eq_true rfl)) d_SU_sumOfSquares_38 ⟨Nat.le_of_ble_eq_true rfl, Nat.le_of_ble_eq_true rfl⟩) (fun r_9 h_10 => ?_)
          subst h_10
          refine lv_ladd hx hb d_SU_sumOfSquares_41 ?_
          refine lv_ladd hx hb d_SU_sumOfSquares_42 ?_
          refine lv_lstore_n (lv' := [(1, .long ((sr_ss n0 n1 n2 fq i) + ((((n0 i).toInt64 * (n0 i).toInt64) + ((n1 i).toInt64 * (n1 i).toInt64)) + ((n2 i).toInt64 * (n2 i).toInt64)))), (0, .ref h0), (3, .int (nI i))]) hx hb d_SU_sumOfSquares_43 rfl hl (by decide) rfl (fun ls hl => ?_)
          refine lv_iinc (v := nI (i + 1)) (lv' := [(3, .int (nI (i + 1))), (1, .long ((sr_ss n0 n1 n2 fq i) + ((((n0 i).toInt64 * (n0 i).toInt64) + ((n1 i).toInt64 * (n1 i).toInt64)) + ((n2 i).toInt64 * (n2 i).toInt64)))), (0, .ref h0)]) hx hb d_SU_sumOfSquares_44 hl (k := 2) rfl (nI_1 _) (by decide) rfl (fun ls hl => ?_)
          refine lv_goto (tgt := 4) hx hb d_SU_sumOfSquares_47 (by decide) ?_
          exact ih  (i + 1) ((sr_ss n0 n1 n2 fq i) + ((((n0 i).toInt64 * (n0 i).toInt64) + ((n1 i).toInt64 * (n1 i).toInt64)) + ((n2 i).toInt64 * (n2 i).toInt64))) (by omega) (by omega) (sr_ss_t c_4).symm ls (lv_sub hl [2, 1, 0] rfl)
  exact lp4 (sc - 0 + 1) 0 0 (by omega) (Nat.zero_le _) rfl ls (lv_sub hl [2, 1, 0] rfl)
set_option maxHeartbeats 4000000 in
set_option maxRecDepth 100000 in
/-- SetUp.makeBy -/
theorem c_SU_makeBy (l : Launch) (dC : Nat → ClassId) (dI : Nat → Nat → Nat) (sz : Nat) (h0 : Nat) (su : Nat) (sp : Nat) (sm : Nat) (se : Nat) (m0 : Nat) (m1 : Nat) (m2 : Nat) (ca : ClassId) (cm : ClassId) (cm0 : ClassId) (cm1 : ClassId) (cm2 : ClassId) (cq : ClassId) (S : sr_St) (sf : Nat → Int64) (h1 : Nat) (qx : Nat) (qy : Nat) (qz : Nat) (qu : Nat) (qv : Nat) (qw : Nat) (qp : Nat) (qe : Nat) (no : Nat) (cx : ClassId) (cy : ClassId) (cz : ClassId) (cu : ClassId) (cv : ClassId) (cw : ClassId) (cp : ClassId) (ce : ClassId) (fx : Nat → Int32) (fy : Nat → Int32) (fz : Nat → Int32) (fu : Nat → Int32) (fv : Nat → Int32) (fw : Nat → Int32) (fp : Nat → Int32) (fe : Nat → Int32) (hc : no ≤ 20) (hb01 : ∀ k, fe k = 0 ∨ fe k = 1) : Met l xy_SU_makeBy xw_SU_makeBy ({ frames := 4, cells := 0, slots := 0, locals := 95 }) (xp_w [.ref h0, .ref h1] sz (dC, dI) xCl [(h0, .inr (4, [.ref su, .ref sp, .ref sm, .ref se, .long (st_dv S), .int (st_ht S), .int (nI (st_sc S)), .int (st_md S)])), (sp, .inl (ca, 4, .inr (.inl (st_fa S)))), (sm, .inl (cm, 3, .inr (.inr (.inr (.inr (xm_3 m0 m1 m2)))))), (m0, .inl (cm0, 20, .inl (st_n0 S))), (m1, .inl (cm1, 20, .inl (st_n1 S))), (m2, .inl (cm2, 20, .inl (st_n2 S))), (se, .inl (cq, 20, .inl (st_fq S))), (su, .inr (3, [.long (sf 1), .long (sf 2), .long (sf 3), .long (sf 4), .long (sf 5), .long (sf 6), .long (sf 7), .long (sf 8), .long (sf 9)])), (h1, .inr (2, [.ref qx, .ref qy, .ref qz, .ref qu, .ref qv, .ref qw, .ref qp, .ref qe, .int (nI no)])), (qx, .inl (cx, 20, .inl fx)), (qy, .inl (cy, 20, .inl fy)), (qz, .inl (cz, 20, .inl fz)), (qu, .inl (cu, 20, .inl fu)), (qv, .inl (cv, 20, .inl fv)), (qw, .inl (cw, 20, .inl fw)), (qp, .inl (cp, 20, .inl fp)), (qe, .inl (ce, 20, .inl fe))] [(ca, .long), (cm, .array .int), (cm0, .int), (cm1, .int), (cm2, .int), (cq, .boolean), (cx, .int), (cy, .int), (cz, .int), (cu, .int), (cv, .int), (cw, .int), (cp, .int), (ce, .boolean)]) (va_Qi (fun (r : Int32) (_ : Unit) => r = bI (0 < sr_sp no fx fy fz fu fv fw fp fe)) (fun _ t => xb_w (dC, dI) xCl [(h0, .inr (4, [.ref su, .ref sp, .ref sm, .ref se, .long (st_dv (sr_mk S no fx fy fz fu fv fw fp fe)), .int (st_ht (sr_mk S no fx fy fz fu fv fw fp fe)), .int (nI (st_sc (sr_mk S no fx fy fz fu fv fw fp fe))), .int (st_md (sr_mk S no fx fy fz fu fv fw fp fe))])), (sp, .inl (ca, 4, .inr (.inl (st_fa (sr_mk S no fx fy fz fu fv fw fp fe))))), (sm, .inl (cm, 3, .inr (.inr (.inr (.inr (xm_3 m0 m1 m2)))))), (m0, .inl (cm0, 20, .inl (st_n0 (sr_mk S no fx fy fz fu fv fw fp fe)))), (m1, .inl (cm1, 20, .inl (st_n1 (sr_mk S no fx fy fz fu fv fw fp fe)))), (m2, .inl (cm2, 20, .inl (st_n2 (sr_mk S no fx fy fz fu fv fw fp fe)))), (se, .inl (cq, 20, .inl (st_fq (sr_mk S no fx fy fz fu fv fw fp fe)))), (su, .inr (3, [.long ((sr_sums no fx fy fz fu fv fw fp fe) 1), .long ((sr_sums no fx fy fz fu fv fw fp fe) 2), .long ((sr_sums no fx fy fz fu fv fw fp fe) 3), .long ((sr_sums no fx fy fz fu fv fw fp fe) 4), .long ((sr_sums no fx fy fz fu fv fw fp fe) 5), .long ((sr_sums no fx fy fz fu fv fw fp fe) 6), .long ((sr_sums no fx fy fz fu fv fw fp fe) 7), .long ((sr_sums no fx fy fz fu fv fw fp fe) 8), .long ((sr_sums no fx fy fz fu fv fw fp fe) 9)])), (h1, .inr (2, [.ref qx, .ref qy, .ref qz, .ref qu, .ref qv, .ref qw, .ref qp, .ref qe, .int (nI no)])), (qx, .inl (cx, 20, .inl fx)), (qy, .inl (cy, 20, .inl fy)), (qz, .inl (cz, 20, .inl fz)), (qu, .inl (cu, 20, .inl fu)), (qv, .inl (cv, 20, .inl fv)), (qw, .inl (cw, 20, .inl fw)), (qp, .inl (cp, 20, .inl fp)), (qe, .inl (ce, 20, .inl fe))] [(ca, .long), (cm, .array .int), (cm0, .int), (cm1, .int), (cm2, .int), (cq, .boolean), (cx, .int), (cy, .int), (cz, .int), (cu, .int), (cv, .int), (cw, .int), (cp, .int), (ce, .boolean)] (va_A [(h0, .inr (4, [.ref su, .ref sp, .ref sm, .ref se, .long (st_dv S), .int (st_ht S), .int (nI (st_sc S)), .int (st_md S)])), (sp, .inl (ca, 4, .inr (.inl (st_fa S)))), (sm, .inl (cm, 3, .inr (.inr (.inr (.inr (xm_3 m0 m1 m2)))))), (m0, .inl (cm0, 20, .inl (st_n0 S))), (m1, .inl (cm1, 20, .inl (st_n1 S))), (m2, .inl (cm2, 20, .inl (st_n2 S))), (se, .inl (cq, 20, .inl (st_fq S))), (su, .inr (3, [.long (sf 1), .long (sf 2), .long (sf 3), .long (sf 4), .long (sf 5), .long (sf 6), .long (sf 7), .long (sf 8), .long (sf 9)])), (h1, .inr (2, [.ref qx, .ref qy, .ref qz, .ref qu, .ref qv, .ref qw, .ref qp, .ref qe, .int (nI no)])), (qx, .inl (cx, 20, .inl fx)), (qy, .inl (cy, 20, .inl fy)), (qz, .inl (cz, 20, .inl fz)), (qu, .inl (cu, 20, .inl fu)), (qv, .inl (cv, 20, .inl fv)), (qw, .inl (cw, 20, .inl fw)), (qp, .inl (cp, 20, .inl fp)), (qe, .inl (ce, 20, .inl fe))] sz) t) (va_A [(h0, .inr (4, [.ref su, .ref sp, .ref sm, .ref se, .long (st_dv S), .int (st_ht S), .int (nI (st_sc S)), .int (st_md S)])), (sp, .inl (ca, 4, .inr (.inl (st_fa S)))), (sm, .inl (cm, 3, .inr (.inr (.inr (.inr (xm_3 m0 m1 m2)))))), (m0, .inl (cm0, 20, .inl (st_n0 S))), (m1, .inl (cm1, 20, .inl (st_n1 S))), (m2, .inl (cm2, 20, .inl (st_n2 S))), (se, .inl (cq, 20, .inl (st_fq S))), (su, .inr (3, [.long (sf 1), .long (sf 2), .long (sf 3), .long (sf 4), .long (sf 5), .long (sf 6), .long (sf 7), .long (sf 8), .long (sf 9)])), (h1, .inr (2, [.ref qx, .ref qy, .ref qz, .ref qu, .ref qv, .ref qw, .ref qp, .ref qe, .int (nI no)])), (qx, .inl (cx, 20, .inl fx)), (qy, .inl (cy, 20, .inl fy)), (qz, .inl (cz, 20, .inl fz)), (qu, .inl (cu, 20, .inl fu)), (qv, .inl (cv, 20, .inl fv)), (qw, .inl (cw, 20, .inl fw)), (qp, .inl (cp, 20, .inl fp)), (qe, .inl (ce, 20, .inl fe))] sz)) 0 0 (va_A [(h0, .inr (4, [.ref su, .ref sp, .ref sm, .ref se, .long (st_dv S), .int (st_ht S), .int (nI (st_sc S)), .int (st_md S)])), (sp, .inl (ca, 4, .inr (.inl (st_fa S)))), (sm, .inl (cm, 3, .inr (.inr (.inr (.inr (xm_3 m0 m1 m2)))))), (m0, .inl (cm0, 20, .inl (st_n0 S))), (m1, .inl (cm1, 20, .inl (st_n1 S))), (m2, .inl (cm2, 20, .inl (st_n2 S))), (se, .inl (cq, 20, .inl (st_fq S))), (su, .inr (3, [.long (sf 1), .long (sf 2), .long (sf 3), .long (sf 4), .long (sf 5), .long (sf 6), .long (sf 7), .long (sf 8), .long (sf 9)])), (h1, .inr (2, [.ref qx, .ref qy, .ref qz, .ref qu, .ref qv, .ref qw, .ref qp, .ref qe, .int (nI no)])), (qx, .inl (cx, 20, .inl fx)), (qy, .inl (cy, 20, .inl fy)), (qz, .inl (cz, 20, .inl fz)), (qu, .inl (cu, 20, .inl fu)), (qv, .inl (cv, 20, .inl fv)), (qw, .inl (cw, 20, .inl fw)), (qp, .inl (cp, 20, .inl fp)), (qe, .inl (ce, 20, .inl fe))] sz) := by
  refine Met.ofW (cc := prog_5_method_4_code) (maxL := 2) (ret := (some .boolean)) (by decide) rfl ?_
  intro p e s m args below meth c s₁ B hml hv
  obtain ⟨rfl, hsz, hz, hP, hK, hD0⟩ := hv
  have hx := B.exec
  have hb := B.bytes
  have hr := B.returns
  have hts := atoms_spec (ws := xw_SU_makeBy) B.pre
  have hown : s.vm.findClass xR_SU = some m.cls := findClass_of_methodNamed B.named
  have hlocks := B.notSynchronized
  subst hsz
  have hD := hD0.self (sz := s.heap.size)
  generalize hAe : va_A [(h0, .inr (4, [.ref su, .ref sp, .ref sm, .ref se, .long (st_dv S), .int (st_ht S), .int (nI (st_sc S)), .int (st_md S)])), (sp, .inl (ca, 4, .inr (.inl (st_fa S)))), (sm, .inl (cm, 3, .inr (.inr (.inr (.inr (xm_3 m0 m1 m2)))))), (m0, .inl (cm0, 20, .inl (st_n0 S))), (m1, .inl (cm1, 20, .inl (st_n1 S))), (m2, .inl (cm2, 20, .inl (st_n2 S))), (se, .inl (cq, 20, .inl (st_fq S))), (su, .inr (3, [.long (sf 1), .long (sf 2), .long (sf 3), .long (sf 4), .long (sf 5), .long (sf 6), .long (sf 7), .long (sf 8), .long (sf 9)])), (h1, .inr (2, [.ref qx, .ref qy, .ref qz, .ref qu, .ref qv, .ref qw, .ref qp, .ref qe, .int (nI no)])), (qx, .inl (cx, 20, .inl fx)), (qy, .inl (cy, 20, .inl fy)), (qz, .inl (cz, 20, .inl fz)), (qu, .inl (cu, 20, .inl fu)), (qv, .inl (cv, 20, .inl fv)), (qw, .inl (cw, 20, .inl fw)), (qp, .inl (cp, 20, .inl fp)), (qe, .inl (ce, 20, .inl fe))] s.heap.size = A at hD ⊢
  have hA : ∀ q : Nat, s.heap.size ≤ q → A q := fun q h => by rw [← hAe]; exact Or.inr h
  have hS : va_S A s.heap s.heap [] := va_S.rf
  have hP : va_P (dC, dI) xCl [(h0, .inr (4, [.ref su, .ref sp, .ref sm, .ref se, .long (st_dv S), .int (st_ht S), .int (nI (st_sc S)), .int (st_md S)])), (sp, .inl (ca, 4, .inr (.inl (st_fa S)))), (sm, .inl (cm, 3, .inr (.inr (.inr (.inr (xm_3 m0 m1 m2)))))), (m0, .inl (cm0, 20, .inl (st_n0 S))), (m1, .inl (cm1, 20, .inl (st_n1 S))), (m2, .inl (cm2, 20, .inl (st_n2 S))), (se, .inl (cq, 20, .inl (st_fq S))), (su, .inr (3, [.long (sf 1), .long (sf 2), .long (sf 3), .long (sf 4), .long (sf 5), .long (sf 6), .long (sf 7), .long (sf 8), .long (sf 9)])), (h1, .inr (2, [.ref qx, .ref qy, .ref qz, .ref qu, .ref qv, .ref qw, .ref qp, .ref qe, .int (nI no)])), (qx, .inl (cx, 20, .inl fx)), (qy, .inl (cy, 20, .inl fy)), (qz, .inl (cz, 20, .inl fz)), (qu, .inl (cu, 20, .inl fu)), (qv, .inl (cv, 20, .inl fv)), (qw, .inl (cw, 20, .inl fw)), (qp, .inl (cp, 20, .inl fp)), (qe, .inl (ce, 20, .inl fe))] s.heap := hP
  have hl := lv_entry ([.ref h0, .ref h1]) (n := 2) (Nat.le_of_ble_eq_true rfl)
  rw [lg_entry_eq]
  generalize (lg_sl ([.ref h0, .ref h1]) ++ List.replicate (2 - (lg_sl ([.ref h0, .ref h1])).length) Slot.unset).toArray = ls at hl ⊢
  have hl : lv_has ls 2 [(0, .ref h0), (1, .ref h1)] := hl
  refine lv_aload_n hx hb d_SU_makeBy_0 rfl (lv_at hl 0 rfl) ?_
  refine va_get (D := (dC, dI)) (ci := 4) (v := .ref su) (C := xR_SU) (T := xT_SU) (N := 8) hx hb hts (fun w h => List.mem_cons_of_mem _ (iw_SU w h)) hown hK hP 0 rfl rfl 0 (by decide) (hts _ (List.mem_cons_of_mem _ wm_179)) (fun _ h9 => h9) rfl d_SU_makeBy_1 ?_
  refine lv_aload_n hx hb d_SU_makeBy_4 rfl (lv_at hl 1 rfl) ?_
  have hPc := hP.sub (ws' := [(su, .inr (3, [.long (sf 1), .long (sf 2), .long (sf 3), .long (sf 4), .long (sf 5), .long (sf 6), .long (sf 7), .long (sf 8), .long (sf 9)])), (h1, .inr (2, [.ref qx, .ref qy, .ref qz, .ref qu, .ref qv, .ref qw, .ref qp, .ref qe, .int (nI no)])), (qx, .inl (cx, 20, .inl fx)), (qy, .inl (cy, 20, .inl fy)), (qz, .inl (cz, 20, .inl fz)), (qu, .inl (cu, 20, .inl fu)), (qv, .inl (cv, 20, .inl fv)), (qw, .inl (cw, 20, .inl fw)), (qp, .inl (cp, 20, .inl fp)), (qe, .inl (ce, 20, .inl fe))]) [7, 8, 9, 10, 11, 12, 13, 14, 15, 16] rfl
  have hDc := hD.sub (ws' := [(su, .inr (3, [.long (sf 1), .long (sf 2), .long (sf 3), .long (sf 4), .long (sf 5), .long (sf 6), .long (sf 7), .long (sf 8), .long (sf 9)])), (h1, .inr (2, [.ref qx, .ref qy, .ref qz, .ref qu, .ref qv, .ref qw, .ref qp, .ref qe, .int (nI no)])), (qx, .inl (cx, 20, .inl fx)), (qy, .inl (cy, 20, .inl fy)), (qz, .inl (cz, 20, .inl fz)), (qu, .inl (cu, 20, .inl fu)), (qv, .inl (cv, 20, .inl fv)), (qw, .inl (cw, 20, .inl fw)), (qp, .inl (cp, 20, .inl fp)), (qe, .inl (ce, 20, .inl fe))]) [7, 8, 9, 10, 11, 12, 13, 14, 15, 16] (by decide) rfl
  have hKc := hK.sub (tys' := [(cx, .int), (cy, .int), (cz, .int), (cu, .int), (cv, .int), (cw, .int), (cp, .int), (ce, .boolean)]) [6, 7, 8, 9, 10, 11, 12, 13] rfl
  have hFc := va_free (wc := [(su, .inr (3, [.long (sf 1), .long (sf 2), .long (sf 3), .long (sf 4), .long (sf 5), .long (sf 6), .long (sf 7), .long (sf 8), .long (sf 9)])), (h1, .inr (2, [.ref qx, .ref qy, .ref qz, .ref qu, .ref qv, .ref qw, .ref qp, .ref qe, .int (nI no)])), (qx, .inl (cx, 20, .inl fx)), (qy, .inl (cy, 20, .inl fy)), (qz, .inl (cz, 20, .inl fz)), (qu, .inl (cu, 20, .inl fu)), (qv, .inl (cv, 20, .inl fv)), (qw, .inl (cw, 20, .inl fw)), (qp, .inl (cp, 20, .inl fp)), (qe, .inl (ce, 20, .inl fe))]) hD hS hA [7, 8, 9, 10, 11, 12, 13, 14, 15, 16] rfl
  refine va_callv (va_runV (As := [.ref h1]) (rest := []) ⟨hx, hb, hml, hown, hts⟩ (c_SM_addUp l dC dI s.heap.size su (sf 1) (sf 2) (sf 3) (sf 4) (sf 5) (sf 6) (sf 7) (sf 8) (sf 9) h1 qx qy qz qu qv qw qp qe no cx cy cz cu cv cw cp ce fx fy fz fu fv fw fp fe (by first | assumption | omega | decide)) (cwV 1 hts (xgV wm_273 wm_274 wm_275 wm_31 wm_276) rfl rfl rfl (by decide +kernel) ⟨Nat.le_of_ble_eq_true rfl, Nat.le_of_ble_eq_true rfl⟩) ⟨xw_blind, va_recv hKc hPc (ci := 3) (q0 := 0) rfl rfl, fun U hU hW => ⟨rfl, by rw [hU], hz.warm hW, by rw [hU]; exact hPc, va_K.moved hW.alike hKc, hDc.weaken (fun _ _ _ _ => trivial)⟩⟩ rfl rfl hl.1 rfl (lv_room (Nat.le_of_ble_eq_true rfl)) d_SU_makeBy_5 ⟨Nat.le_of_ble_eq_true rfl, Nat.le_of_ble_eq_true rfl⟩) hS (fun q _ h => hFc q h) hFc (fun _ t H1 locs ht hvm hw_2 hB hz1 hk1 hS => ?_)
  obtain ⟨hP1, hK1, hD1⟩ := hB
  rw [ht] at hP1
  have hK1 := va_K.moved hvm.symm hK1
  obtain ⟨hP, hD⟩ := va_join (wr := [(h0, .inr (4, [.ref su, .ref sp, .ref sm, .ref se, .long (st_dv S), .int (st_ht S), .int (nI (st_sc S)), .int (st_md S)])), (sp, .inl (ca, 4, .inr (.inl (st_fa S)))), (sm, .inl (cm, 3, .inr (.inr (.inr (.inr (xm_3 m0 m1 m2)))))), (m0, .inl (cm0, 20, .inl (st_n0 S))), (m1, .inl (cm1, 20, .inl (st_n1 S))), (m2, .inl (cm2, 20, .inl (st_n2 S))), (se, .inl (cq, 20, .inl (st_fq S)))]) (w1 := [(su, .inr (3, [.long (sr_sm fe (fun _ => 1) no), .long (sr_sm fe (sr_g2 fx) no), .long (sr_sm fe (sr_g3 fy) no), .long (sr_sm fe (sr_g4 fu) no), .long (sr_sm fe (sr_g5 fv) no), .long (sr_sm fe (sr_g6 fu fv) no), .long (sr_sm fe (sr_g7 fx fy fu fv) no), .long (sr_sm fe (sr_g8 fx fy fu fv) no), .long (sr_sm fe (sr_g9 fz fw fp) no)])), (h1, .inr (2, [.ref qx, .ref qy, .ref qz, .ref qu, .ref qv, .ref qw, .ref qp, .ref qe, .int (nI no)])), (qx, .inl (cx, 20, .inl fx)), (qy, .inl (cy, 20, .inl fy)), (qz, .inl (cz, 20, .inl fz)), (qu, .inl (cu, 20, .inl fu)), (qv, .inl (cv, 20, .inl fv)), (qw, .inl (cw, 20, .inl fw)), (qp, .inl (cp, 20, .inl fp)), (qe, .inl (ce, 20, .inl fe))]) hP hD [7, 8, 9, 10, 11, 12, 13, 14, 15, 16] [0, 1, 2, 3, 4, 5, 6] rfl rfl (by decide) (by decide) hk1 hFc hP1 hD1
  generalize H1 = H at hP hS ⊢
  have hP : va_P (dC, dI) xCl [(h0, .inr (4, [.ref su, .ref sp, .ref sm, .ref se, .long (st_dv S), .int (st_ht S), .int (nI (st_sc S)), .int (st_md S)])), (sp, .inl (ca, 4, .inr (.inl (st_fa S)))), (sm, .inl (cm, 3, .inr (.inr (.inr (.inr (xm_3 m0 m1 m2)))))), (m0, .inl (cm0, 20, .inl (st_n0 S))), (m1, .inl (cm1, 20, .inl (st_n1 S))), (m2, .inl (cm2, 20, .inl (st_n2 S))), (se, .inl (cq, 20, .inl (st_fq S))), (su, .inr (3, [.long (sr_sm fe (fun _ => 1) no), .long (sr_sm fe (sr_g2 fx) no), .long (sr_sm fe (sr_g3 fy) no), .long (sr_sm fe (sr_g4 fu) no), .long (sr_sm fe (sr_g5 fv) no), .long (sr_sm fe (sr_g6 fu fv) no), .long (sr_sm fe (sr_g7 fx fy fu fv) no), .long (sr_sm fe (sr_g8 fx fy fu fv) no), .long (sr_sm fe (sr_g9 fz fw fp) no)])), (h1, .inr (2, [.ref qx, .ref qy, .ref qz, .ref qu, .ref qv, .ref qw, .ref qp, .ref qe, .int (nI no)])), (qx, .inl (cx, 20, .inl fx)), (qy, .inl (cy, 20, .inl fy)), (qz, .inl (cz, 20, .inl fz)), (qu, .inl (cu, 20, .inl fu)), (qv, .inl (cv, 20, .inl fv)), (qw, .inl (cw, 20, .inl fw)), (qp, .inl (cp, 20, .inl fp)), (qe, .inl (ce, 20, .inl fe))] H := hP
  have hD : va_D A [(h0, .inr (4, [.ref su, .ref sp, .ref sm, .ref se, .long (st_dv S), .int (st_ht S), .int (nI (st_sc S)), .int (st_md S)])), (sp, .inl (ca, 4, .inr (.inl (st_fa S)))), (sm, .inl (cm, 3, .inr (.inr (.inr (.inr (xm_3 m0 m1 m2)))))), (m0, .inl (cm0, 20, .inl (st_n0 S))), (m1, .inl (cm1, 20, .inl (st_n1 S))), (m2, .inl (cm2, 20, .inl (st_n2 S))), (se, .inl (cq, 20, .inl (st_fq S))), (su, .inr (3, [.long (sr_sm fe (fun _ => 1) no), .long (sr_sm fe (sr_g2 fx) no), .long (sr_sm fe (sr_g3 fy) no), .long (sr_sm fe (sr_g4 fu) no), .long (sr_sm fe (sr_g5 fv) no), .long (sr_sm fe (sr_g6 fu fv) no), .long (sr_sm fe (sr_g7 fx fy fu fv) no), .long (sr_sm fe (sr_g8 fx fy fu fv) no), .long (sr_sm fe (sr_g9 fz fw fp) no)])), (h1, .inr (2, [.ref qx, .ref qy, .ref qz, .ref qu, .ref qv, .ref qw, .ref qp, .ref qe, .int (nI no)])), (qx, .inl (cx, 20, .inl fx)), (qy, .inl (cy, 20, .inl fy)), (qz, .inl (cz, 20, .inl fz)), (qu, .inl (cu, 20, .inl fu)), (qv, .inl (cv, 20, .inl fv)), (qw, .inl (cw, 20, .inl fw)), (qp, .inl (cp, 20, .inl fp)), (qe, .inl (ce, 20, .inl fe))] := hD
  refine lv_aload_n hx hb d_SU_makeBy_8 rfl (lv_at hl 0 rfl) ?_
  refine va_get (D := (dC, dI)) (ci := 4) (v := .ref su) (C := xR_SU) (T := xT_SU) (N := 8) hx hb hts (fun w h => List.mem_cons_of_mem _ (iw_SU w h)) hown hK hP 0 rfl rfl 0 (by decide) (hts _ (List.mem_cons_of_mem _ wm_179)) (fun _ h9 => h9) rfl d_SU_makeBy_9 ?_
  refine xr_calll (va_runV (As := []) (rest := []) ⟨hx, hb, hml, hown, hts⟩ (c_SM_spread l dC dI su (sr_sm fe (fun _ => 1) no) (sr_sm fe (sr_g2 fx) no) (sr_sm fe (sr_g3 fy) no) (sr_sm fe (sr_g4 fu) no) (sr_sm fe (sr_g5 fv) no) (sr_sm fe (sr_g6 fu fv) no) (sr_sm fe (sr_g7 fx fy fu fv) no) (sr_sm fe (sr_g8 fx fy fu fv) no) (sr_sm fe (sr_g9 fz fw fp) no)) (cwV 0 hts (xgV wm_289 wm_290 wm_291 wm_31 wm_292) rfl rfl rfl (by decide +kernel) ⟨Nat.le_of_ble_eq_true rfl, Nat.le_of_ble_eq_true rfl⟩) ⟨xp_blind, va_recv hK hP (ci := 3) (q0 := 7) rfl rfl, fun U hU hW => ⟨rfl, hz.warm hW, by rw [hU]; exact hP.sub [7] rfl, va_K.moved hW.alike (hK.sub [] rfl)⟩⟩ rfl rfl hl.1 rfl (lv_room (Nat.le_of_ble_eq_true rfl)) d_SU_makeBy_12 ⟨Nat.le_of_ble_eq_true rfl, Nat.le_of_ble_eq_true rfl⟩) (fun r_3 h_4 => ?_)
  subst h_4
  refine lv_lconst (v := 0) hx hb d_SU_makeBy_15 (by decide) ?_
  refine W.lcmp hx hb d_SU_makeBy_16 ?_
  refine lv_if_gt (tgt := 22) hx hb d_SU_makeBy_17 (by decide) (fun c_5 => ?_) (fun c_5 => ?_)
  · have l_6 := lc_gt.mp c_5
    refine lv_aload_n hx hb d_SU_makeBy_22 rfl (lv_at hl 0 rfl) ?_
    have hPc := hP.sub (ws' := [(h0, .inr (4, [.ref su, .ref sp, .ref sm, .ref se, .long (st_dv S), .int (st_ht S), .int (nI (st_sc S)), .int (st_md S)])), (sp, .inl (ca, 4, .inr (.inl (st_fa S)))), (su, .inr (3, [.long (sr_sm fe (fun _ => 1) no), .long (sr_sm fe (sr_g2 fx) no), .long (sr_sm fe (sr_g3 fy) no), .long (sr_sm fe (sr_g4 fu) no), .long (sr_sm fe (sr_g5 fv) no), .long (sr_sm fe (sr_g6 fu fv) no), .long (sr_sm fe (sr_g7 fx fy fu fv) no), .long (sr_sm fe (sr_g8 fx fy fu fv) no), .long (sr_sm fe (sr_g9 fz fw fp) no)]))]) [0, 1, 7] rfl
    have hDc := hD.sub (ws' := [(h0, .inr (4, [.ref su, .ref sp, .ref sm, .ref se, .long (st_dv S), .int (st_ht S), .int (nI (st_sc S)), .int (st_md S)])), (sp, .inl (ca, 4, .inr (.inl (st_fa S)))), (su, .inr (3, [.long (sr_sm fe (fun _ => 1) no), .long (sr_sm fe (sr_g2 fx) no), .long (sr_sm fe (sr_g3 fy) no), .long (sr_sm fe (sr_g4 fu) no), .long (sr_sm fe (sr_g5 fv) no), .long (sr_sm fe (sr_g6 fu fv) no), .long (sr_sm fe (sr_g7 fx fy fu fv) no), .long (sr_sm fe (sr_g8 fx fy fu fv) no), .long (sr_sm fe (sr_g9 fz fw fp) no)]))]) [0, 1, 7] (by decide) rfl
    have hKc := hK.sub (tys' := [(ca, .long)]) [0] rfl
    have hFc := va_free (wc := [(h0, .inr (4, [.ref su, .ref sp, .ref sm, .ref se, .long (st_dv S), .int (st_ht S), .int (nI (st_sc S)), .int (st_md S)])), (sp, .inl (ca, 4, .inr (.inl (st_fa S)))), (su, .inr (3, [.long (sr_sm fe (fun _ => 1) no), .long (sr_sm fe (sr_g2 fx) no), .long (sr_sm fe (sr_g3 fy) no), .long (sr_sm fe (sr_g4 fu) no), .long (sr_sm fe (sr_g5 fv) no), .long (sr_sm fe (sr_g6 fu fv) no), .long (sr_sm fe (sr_g7 fx fy fu fv) no), .long (sr_sm fe (sr_g8 fx fy fu fv) no), .long (sr_sm fe (sr_g9 fz fw fp) no)]))]) hD hS hA [0, 1, 7] rfl
    refine va_callv (va_runV (As := []) (rest := []) ⟨hx, hb, hml, hown, hts⟩ (c_SU_takeParts l dC dI H.size h0 su sp sm se (st_dv S) (st_ht S) (st_sc S) (st_md S) ca (st_fa S) (sr_sm fe (fun _ => 1) no) (sr_sm fe (sr_g2 fx) no) (sr_sm fe (sr_g3 fy) no) (sr_sm fe (sr_g4 fu) no) (sr_sm fe (sr_g5 fv) no) (sr_sm fe (sr_g6 fu fv) no) (sr_sm fe (sr_g7 fx fy fu fv) no) (sr_sm fe (sr_g8 fx fy fu fv) no) (sr_sm fe (sr_g9 fz fw fp) no)) (cwV 0 hts (xgV wm_293 wm_295 wm_2 wm_30 wm_296) rfl rfl rfl (by decide +kernel) ⟨Nat.le_of_ble_eq_true rfl, Nat.le_of_ble_eq_true rfl⟩) ⟨xw_blind, va_recv hKc hPc (ci := 4) (q0 := 0) rfl rfl, fun U hU hW => ⟨rfl, by rw [hU], hz.warm hW, by rw [hU]; exact hPc, va_K.moved hW.alike hKc, hDc.weaken (fun _ _ _ _ => trivial)⟩⟩ rfl rfl hl.1 rfl (lv_room (Nat.le_of_ble_eq_true rfl)) d_SU_makeBy_23 ⟨Nat.le_of_ble_eq_true rfl, Nat.le_of_ble_eq_true rfl⟩) hS (fun q _ h => hFc q h) hFc (fun _ t H1 locs ht hvm hw_8 hB hz1 hk1 hS => ?_)
    obtain ⟨hP1, hK1, hD1⟩ := hB
    rw [ht] at hP1
    have hK1 := va_K.moved hvm.symm hK1
    obtain ⟨hP, hD⟩ := va_join (wr := [(sm, .inl (cm, 3, .inr (.inr (.inr (.inr (xm_3 m0 m1 m2)))))), (m0, .inl (cm0, 20, .inl (st_n0 S))), (m1, .inl (cm1, 20, .inl (st_n1 S))), (m2, .inl (cm2, 20, .inl (st_n2 S))), (se, .inl (cq, 20, .inl (st_fq S))), (h1, .inr (2, [.ref qx, .ref qy, .ref qz, .ref qu, .ref qv, .ref qw, .ref qp, .ref qe, .int (nI no)])), (qx, .inl (cx, 20, .inl fx)), (qy, .inl (cy, 20, .inl fy)), (qz, .inl (cz, 20, .inl fz)), (qu, .inl (cu, 20, .inl fu)), (qv, .inl (cv, 20, .inl fv)), (qw, .inl (cw, 20, .inl fw)), (qp, .inl (cp, 20, .inl fp)), (qe, .inl (ce, 20, .inl fe))]) (w1 := [(h0, .inr (4, [.ref su, .ref sp, .ref sm, .ref se, .long (sr_dv (sr_sm fe (fun _ => 1) no) (sr_sm fe (sr_g4 fu) no) (sr_sm fe (sr_g5 fv) no) (sr_sm fe (sr_g6 fu fv) no)), .int (sr_ht (sr_sm fe (fun _ => 1) no) (sr_sm fe (sr_g9 fz fw fp) no)), .int (nI (st_sc S)), .int (st_md S)])), (sp, .inl (ca, 4, .inr (.inl (sr_pt (sr_sm fe (fun _ => 1) no) (sr_sm fe (sr_g2 fx) no) (sr_sm fe (sr_g3 fy) no) (sr_sm fe (sr_g4 fu) no) (sr_sm fe (sr_g5 fv) no) (sr_sm fe (sr_g6 fu fv) no) (sr_sm fe (sr_g7 fx fy fu fv) no) (sr_sm fe (sr_g8 fx fy fu fv) no) (st_fa S))))), (su, .inr (3, [.long (sr_sm fe (fun _ => 1) no), .long (sr_sm fe (sr_g2 fx) no), .long (sr_sm fe (sr_g3 fy) no), .long (sr_sm fe (sr_g4 fu) no), .long (sr_sm fe (sr_g5 fv) no), .long (sr_sm fe (sr_g6 fu fv) no), .long (sr_sm fe (sr_g7 fx fy fu fv) no), .long (sr_sm fe (sr_g8 fx fy fu fv) no), .long (sr_sm fe (sr_g9 fz fw fp) no)]))]) hP hD [0, 1, 7] [2, 3, 4, 5, 6, 8, 9, 10, 11, 12, 13, 14, 15, 16] rfl rfl (by decide) (by decide) hk1 hFc hP1 hD1
    generalize H1 = H at hP hS ⊢
    have hP : va_P (dC, dI) xCl [(sm, .inl (cm, 3, .inr (.inr (.inr (.inr (xm_3 m0 m1 m2)))))), (m0, .inl (cm0, 20, .inl (st_n0 S))), (m1, .inl (cm1, 20, .inl (st_n1 S))), (m2, .inl (cm2, 20, .inl (st_n2 S))), (se, .inl (cq, 20, .inl (st_fq S))), (h1, .inr (2, [.ref qx, .ref qy, .ref qz, .ref qu, .ref qv, .ref qw, .ref qp, .ref qe, .int (nI no)])), (qx, .inl (cx, 20, .inl fx)), (qy, .inl (cy, 20, .inl fy)), (qz, .inl (cz, 20, .inl fz)), (qu, .inl (cu, 20, .inl fu)), (qv, .inl (cv, 20, .inl fv)), (qw, .inl (cw, 20, .inl fw)), (qp, .inl (cp, 20, .inl fp)), (qe, .inl (ce, 20, .inl fe)), (h0, .inr (4, [.ref su, .ref sp, .ref sm, .ref se, .long (sr_dv (sr_sm fe (fun _ => 1) no) (sr_sm fe (sr_g4 fu) no) (sr_sm fe (sr_g5 fv) no) (sr_sm fe (sr_g6 fu fv) no)), .int (sr_ht (sr_sm fe (fun _ => 1) no) (sr_sm fe (sr_g9 fz fw fp) no)), .int (nI (st_sc S)), .int (st_md S)])), (sp, .inl (ca, 4, .inr (.inl (sr_pt (sr_sm fe (fun _ => 1) no) (sr_sm fe (sr_g2 fx) no) (sr_sm fe (sr_g3 fy) no) (sr_sm fe (sr_g4 fu) no) (sr_sm fe (sr_g5 fv) no) (sr_sm fe (sr_g6 fu fv) no) (sr_sm fe (sr_g7 fx fy fu fv) no) (sr_sm fe (sr_g8 fx fy fu fv) no) (st_fa S))))), (su, .inr (3, [.long (sr_sm fe (fun _ => 1) no), .long (sr_sm fe (sr_g2 fx) no), .long (sr_sm fe (sr_g3 fy) no), .long (sr_sm fe (sr_g4 fu) no), .long (sr_sm fe (sr_g5 fv) no), .long (sr_sm fe (sr_g6 fu fv) no), .long (sr_sm fe (sr_g7 fx fy fu fv) no), .long (sr_sm fe (sr_g8 fx fy fu fv) no), .long (sr_sm fe (sr_g9 fz fw fp) no)]))] H := hP
    have hD : va_D A [(sm, .inl (cm, 3, .inr (.inr (.inr (.inr (xm_3 m0 m1 m2)))))), (m0, .inl (cm0, 20, .inl (st_n0 S))), (m1, .inl (cm1, 20, .inl (st_n1 S))), (m2, .inl (cm2, 20, .inl (st_n2 S))), (se, .inl (cq, 20, .inl (st_fq S))), (h1, .inr (2, [.ref qx, .ref qy, .ref qz, .ref qu, .ref qv, .ref qw, .ref qp, .ref qe, .int (nI no)])), (qx, .inl (cx, 20, .inl fx)), (qy, .inl (cy, 20, .inl fy)), (qz, .inl (cz, 20, .inl fz)), (qu, .inl (cu, 20, .inl fu)), (qv, .inl (cv, 20, .inl fv)), (qw, .inl (cw, 20, .inl fw)), (qp, .inl (cp, 20, .inl fp)), (qe, .inl (ce, 20, .inl fe)), (h0, .inr (4, [.ref su, .ref sp, .ref sm, .ref se, .long (sr_dv (sr_sm fe (fun _ => 1) no) (sr_sm fe (sr_g4 fu) no) (sr_sm fe (sr_g5 fv) no) (sr_sm fe (sr_g6 fu fv) no)), .int (sr_ht (sr_sm fe (fun _ => 1) no) (sr_sm fe (sr_g9 fz fw fp) no)), .int (nI (st_sc S)), .int (st_md S)])), (sp, .inl (ca, 4, .inr (.inl (sr_pt (sr_sm fe (fun _ => 1) no) (sr_sm fe (sr_g2 fx) no) (sr_sm fe (sr_g3 fy) no) (sr_sm fe (sr_g4 fu) no) (sr_sm fe (sr_g5 fv) no) (sr_sm fe (sr_g6 fu fv) no) (sr_sm fe (sr_g7 fx fy fu fv) no) (sr_sm fe (sr_g8 fx fy fu fv) no) (st_fa S))))), (su, .inr (3, [.long (sr_sm fe (fun _ => 1) no), .long (sr_sm fe (sr_g2 fx) no), .long (sr_sm fe (sr_g3 fy) no), .long (sr_sm fe (sr_g4 fu) no), .long (sr_sm fe (sr_g5 fv) no), .long (sr_sm fe (sr_g6 fu fv) no), .long (sr_sm fe (sr_g7 fx fy fu fv) no), .long (sr_sm fe (sr_g8 fx fy fu fv) no), .long (sr_sm fe (sr_g9 fz fw fp) no)]))] := hD
    refine lv_aload_n hx hb d_SU_makeBy_26 rfl (lv_at hl 0 rfl) ?_
    refine lv_aload_n hx hb d_SU_makeBy_27 rfl (lv_at hl 1 rfl) ?_
    have hPc := hP.sub (ws' := [(h0, .inr (4, [.ref su, .ref sp, .ref sm, .ref se, .long (sr_dv (sr_sm fe (fun _ => 1) no) (sr_sm fe (sr_g4 fu) no) (sr_sm fe (sr_g5 fv) no) (sr_sm fe (sr_g6 fu fv) no)), .int (sr_ht (sr_sm fe (fun _ => 1) no) (sr_sm fe (sr_g9 fz fw fp) no)), .int (nI (st_sc S)), .int (st_md S)])), (sp, .inl (ca, 4, .inr (.inl (sr_pt (sr_sm fe (fun _ => 1) no) (sr_sm fe (sr_g2 fx) no) (sr_sm fe (sr_g3 fy) no) (sr_sm fe (sr_g4 fu) no) (sr_sm fe (sr_g5 fv) no) (sr_sm fe (sr_g6 fu fv) no) (sr_sm fe (sr_g7 fx fy fu fv) no) (sr_sm fe (sr_g8 fx fy fu fv) no) (st_fa S))))), (sm, .inl (cm, 3, .inr (.inr (.inr (.inr (xm_3 m0 m1 m2)))))), (m0, .inl (cm0, 20, .inl (st_n0 S))), (m1, .inl (cm1, 20, .inl (st_n1 S))), (m2, .inl (cm2, 20, .inl (st_n2 S))), (se, .inl (cq, 20, .inl (st_fq S))), (h1, .inr (2, [.ref qx, .ref qy, .ref qz, .ref qu, .ref qv, .ref qw, .ref qp, .ref qe, .int (nI no)])), (qx, .inl (cx, 20, .inl fx)), (qy, .inl (cy, 20, .inl fy)), (qz, .inl (cz, 20, .inl fz)), (qu, .inl (cu, 20, .inl fu)), (qv, .inl (cv, 20, .inl fv)), (qw, .inl (cw, 20, .inl fw)), (qp, .inl (cp, 20, .inl fp)), (qe, .inl (ce, 20, .inl fe))]) [14, 15, 0, 1, 2, 3, 4, 5, 6, 7, 8, 9, 10, 11, 12, 13] rfl
    have hDc := hD.sub (ws' := [(h0, .inr (4, [.ref su, .ref sp, .ref sm, .ref se, .long (sr_dv (sr_sm fe (fun _ => 1) no) (sr_sm fe (sr_g4 fu) no) (sr_sm fe (sr_g5 fv) no) (sr_sm fe (sr_g6 fu fv) no)), .int (sr_ht (sr_sm fe (fun _ => 1) no) (sr_sm fe (sr_g9 fz fw fp) no)), .int (nI (st_sc S)), .int (st_md S)])), (sp, .inl (ca, 4, .inr (.inl (sr_pt (sr_sm fe (fun _ => 1) no) (sr_sm fe (sr_g2 fx) no) (sr_sm fe (sr_g3 fy) no) (sr_sm fe (sr_g4 fu) no) (sr_sm fe (sr_g5 fv) no) (sr_sm fe (sr_g6 fu fv) no) (sr_sm fe (sr_g7 fx fy fu fv) no) (sr_sm fe (sr_g8 fx fy fu fv) no) (st_fa S))))), (sm, .inl (cm, 3, .inr (.inr (.inr (.inr (xm_3 m0 m1 m2)))))), (m0, .inl (cm0, 20, .inl (st_n0 S))), (m1, .inl (cm1, 20, .inl (st_n1 S))), (m2, .inl (cm2, 20, .inl (st_n2 S))), (se, .inl (cq, 20, .inl (st_fq S))), (h1, .inr (2, [.ref qx, .ref qy, .ref qz, .ref qu, .ref qv, .ref qw, .ref qp, .ref qe, .int (nI no)])), (qx, .inl (cx, 20, .inl fx)), (qy, .inl (cy, 20, .inl fy)), (qz, .inl (cz, 20, .inl fz)), (qu, .inl (cu, 20, .inl fu)), (qv, .inl (cv, 20, .inl fv)), (qw, .inl (cw, 20, .inl fw)), (qp, .inl (cp, 20, .inl fp)), (qe, .inl (ce, 20, .inl fe))]) [14, 15, 0, 1, 2, 3, 4, 5, 6, 7, 8, 9, 10, 11, 12, 13] (by decide) rfl
    have hKc := hK.sub (tys' := [(ca, .long), (cm, .array .int), (cm0, .int), (cm1, .int), (cm2, .int), (cq, .boolean), (cx, .int), (cy, .int), (cz, .int), (cu, .int), (cv, .int), (cw, .int), (cp, .int), (ce, .boolean)]) [0, 1, 2, 3, 4, 5, 6, 7, 8, 9, 10, 11, 12, 13] rfl
    have hFc := va_free (wc := [(h0, .inr (4, [.ref su, .ref sp, .ref sm, .ref se, .long (sr_dv (sr_sm fe (fun _ => 1) no) (sr_sm fe (sr_g4 fu) no) (sr_sm fe (sr_g5 fv) no) (sr_sm fe (sr_g6 fu fv) no)), .int (sr_ht (sr_sm fe (fun _ => 1) no) (sr_sm fe (sr_g9 fz fw fp) no)), .int (nI (st_sc S)), .int (st_md S)])), (sp, .inl (ca, 4, .inr (.inl (sr_pt (sr_sm fe (fun _ => 1) no) (sr_sm fe (sr_g2 fx) no) (sr_sm fe (sr_g3 fy) no) (sr_sm fe (sr_g4 fu) no) (sr_sm fe (sr_g5 fv) no) (sr_sm fe (sr_g6 fu fv) no) (sr_sm fe (sr_g7 fx fy fu fv) no) (sr_sm fe (sr_g8 fx fy fu fv) no) (st_fa S))))), (sm, .inl (cm, 3, .inr (.inr (.inr (.inr (xm_3 m0 m1 m2)))))), (m0, .inl (cm0, 20, .inl (st_n0 S))), (m1, .inl (cm1, 20, .inl (st_n1 S))), (m2, .inl (cm2, 20, .inl (st_n2 S))), (se, .inl (cq, 20, .inl (st_fq S))), (h1, .inr (2, [.ref qx, .ref qy, .ref qz, .ref qu, .ref qv, .ref qw, .ref qp, .ref qe, .int (nI no)])), (qx, .inl (cx, 20, .inl fx)), (qy, .inl (cy, 20, .inl fy)), (qz, .inl (cz, 20, .inl fz)), (qu, .inl (cu, 20, .inl fu)), (qv, .inl (cv, 20, .inl fv)), (qw, .inl (cw, 20, .inl fw)), (qp, .inl (cp, 20, .inl fp)), (qe, .inl (ce, 20, .inl fe))]) hD hS hA [14, 15, 0, 1, 2, 3, 4, 5, 6, 7, 8, 9, 10, 11, 12, 13] rfl
    refine va_callv (va_runV (As := [.ref h1]) (rest := []) ⟨hx, hb, hml, hown, hts⟩ (c_SU_takeMisses l dC dI H.size h0 su sp sm se (sr_dv (sr_sm fe (fun _ => 1) no) (sr_sm fe (sr_g4 fu) no) (sr_sm fe (sr_g5 fv) no) (sr_sm fe (sr_g6 fu fv) no)) (sr_ht (sr_sm fe (fun _ => 1) no) (sr_sm fe (sr_g9 fz fw fp) no)) (st_sc S) (st_md S) ca (sr_pt (sr_sm fe (fun _ => 1) no) (sr_sm fe (sr_g2 fx) no) (sr_sm fe (sr_g3 fy) no) (sr_sm fe (sr_g4 fu) no) (sr_sm fe (sr_g5 fv) no) (sr_sm fe (sr_g6 fu fv) no) (sr_sm fe (sr_g7 fx fy fu fv) no) (sr_sm fe (sr_g8 fx fy fu fv) no) (st_fa S)) m0 m1 m2 cm cm0 cm1 cm2 (st_n0 S) (st_n1 S) (st_n2 S) cq (st_fq S) h1 qx qy qz qu qv qw qp qe no cx cy cz cu cv cw cp ce fx fy fz fu fv fw fp fe (by first | assumption | omega | decide) (by first | assumption | omega | decide)) (cwV 1 hts (xgV wm_311 wm_313 wm_3 wm_30 wm_314) rfl rfl rfl (by decide +kernel) ⟨Nat.le_of_ble_eq_true rfl, Nat.le_of_ble_eq_true rfl⟩) ⟨xw_blind, va_recv hKc hPc (ci := 4) (q0 := 0) rfl rfl, fun U hU hW => ⟨rfl, by rw [hU], hz.warm hW, by rw [hU]; exact hPc, va_K.moved hW.alike hKc, hDc.weaken (fun _ _ _ _ => trivial)⟩⟩ rfl rfl hl.1 rfl (lv_room (Nat.le_of_ble_eq_true rfl)) d_SU_makeBy_28 ⟨Nat.le_of_ble_eq_true rfl, Nat.le_of_ble_eq_true rfl⟩) hS (fun q _ h => hFc q h) hFc (fun _ t H1 locs ht hvm hw_10 hB hz1 hk1 hS => ?_)
    obtain ⟨hP1, hK1, hD1⟩ := hB
    rw [ht] at hP1
    have hK1 := va_K.moved hvm.symm hK1
    obtain ⟨hP, hD⟩ := va_join (wr := [(su, .inr (3, [.long (sr_sm fe (fun _ => 1) no), .long (sr_sm fe (sr_g2 fx) no), .long (sr_sm fe (sr_g3 fy) no), .long (sr_sm fe (sr_g4 fu) no), .long (sr_sm fe (sr_g5 fv) no), .long (sr_sm fe (sr_g6 fu fv) no), .long (sr_sm fe (sr_g7 fx fy fu fv) no), .long (sr_sm fe (sr_g8 fx fy fu fv) no), .long (sr_sm fe (sr_g9 fz fw fp) no)]))]) (w1 := [(h0, .inr (4, [.ref su, .ref sp, .ref sm, .ref se, .long (sr_dv (sr_sm fe (fun _ => 1) no) (sr_sm fe (sr_g4 fu) no) (sr_sm fe (sr_g5 fv) no) (sr_sm fe (sr_g6 fu fv) no)), .int (sr_ht (sr_sm fe (fun _ => 1) no) (sr_sm fe (sr_g9 fz fw fp) no)), .int (nI no), .int (st_md S)])), (sp, .inl (ca, 4, .inr (.inl (sr_pt (sr_sm fe (fun _ => 1) no) (sr_sm fe (sr_g2 fx) no) (sr_sm fe (sr_g3 fy) no) (sr_sm fe (sr_g4 fu) no) (sr_sm fe (sr_g5 fv) no) (sr_sm fe (sr_g6 fu fv) no) (sr_sm fe (sr_g7 fx fy fu fv) no) (sr_sm fe (sr_g8 fx fy fu fv) no) (st_fa S))))), (sm, .inl (cm, 3, .inr (.inr (.inr (.inr (xm_3 m0 m1 m2)))))), (m0, .inl (cm0, 20, .inl (sr_m0 no fx fu fv (sr_pt (sr_sm fe (fun _ => 1) no) (sr_sm fe (sr_g2 fx) no) (sr_sm fe (sr_g3 fy) no) (sr_sm fe (sr_g4 fu) no) (sr_sm fe (sr_g5 fv) no) (sr_sm fe (sr_g6 fu fv) no) (sr_sm fe (sr_g7 fx fy fu fv) no) (sr_sm fe (sr_g8 fx fy fu fv) no) (st_fa S)) (sr_dv (sr_sm fe (fun _ => 1) no) (sr_sm fe (sr_g4 fu) no) (sr_sm fe (sr_g5 fv) no) (sr_sm fe (sr_g6 fu fv) no)) (st_n0 S)))), (m1, .inl (cm1, 20, .inl (sr_m1 no fy fu fv (sr_pt (sr_sm fe (fun _ => 1) no) (sr_sm fe (sr_g2 fx) no) (sr_sm fe (sr_g3 fy) no) (sr_sm fe (sr_g4 fu) no) (sr_sm fe (sr_g5 fv) no) (sr_sm fe (sr_g6 fu fv) no) (sr_sm fe (sr_g7 fx fy fu fv) no) (sr_sm fe (sr_g8 fx fy fu fv) no) (st_fa S)) (sr_dv (sr_sm fe (fun _ => 1) no) (sr_sm fe (sr_g4 fu) no) (sr_sm fe (sr_g5 fv) no) (sr_sm fe (sr_g6 fu fv) no)) (st_n1 S)))), (m2, .inl (cm2, 20, .inl (sr_m2 no fz fw fp (sr_ht (sr_sm fe (fun _ => 1) no) (sr_sm fe (sr_g9 fz fw fp) no)) (st_n2 S)))), (se, .inl (cq, 20, .inl (sr_cp no fe (st_fq S)))), (h1, .inr (2, [.ref qx, .ref qy, .ref qz, .ref qu, .ref qv, .ref qw, .ref qp, .ref qe, .int (nI no)])), (qx, .inl (cx, 20, .inl fx)), (qy, .inl (cy, 20, .inl fy)), (qz, .inl (cz, 20, .inl fz)), (qu, .inl (cu, 20, .inl fu)), (qv, .inl (cv, 20, .inl fv)), (qw, .inl (cw, 20, .inl fw)), (qp, .inl (cp, 20, .inl fp)), (qe, .inl (ce, 20, .inl fe))]) hP hD [14, 15, 0, 1, 2, 3, 4, 5, 6, 7, 8, 9, 10, 11, 12, 13] [16] rfl rfl (by decide) (by decide) hk1 hFc hP1 hD1
    generalize H1 = H at hP hS ⊢
    have hP : va_P (dC, dI) xCl [(su, .inr (3, [.long (sr_sm fe (fun _ => 1) no), .long (sr_sm fe (sr_g2 fx) no), .long (sr_sm fe (sr_g3 fy) no), .long (sr_sm fe (sr_g4 fu) no), .long (sr_sm fe (sr_g5 fv) no), .long (sr_sm fe (sr_g6 fu fv) no), .long (sr_sm fe (sr_g7 fx fy fu fv) no), .long (sr_sm fe (sr_g8 fx fy fu fv) no), .long (sr_sm fe (sr_g9 fz fw fp) no)])), (h0, .inr (4, [.ref su, .ref sp, .ref sm, .ref se, .long (sr_dv (sr_sm fe (fun _ => 1) no) (sr_sm fe (sr_g4 fu) no) (sr_sm fe (sr_g5 fv) no) (sr_sm fe (sr_g6 fu fv) no)), .int (sr_ht (sr_sm fe (fun _ => 1) no) (sr_sm fe (sr_g9 fz fw fp) no)), .int (nI no), .int (st_md S)])), (sp, .inl (ca, 4, .inr (.inl (sr_pt (sr_sm fe (fun _ => 1) no) (sr_sm fe (sr_g2 fx) no) (sr_sm fe (sr_g3 fy) no) (sr_sm fe (sr_g4 fu) no) (sr_sm fe (sr_g5 fv) no) (sr_sm fe (sr_g6 fu fv) no) (sr_sm fe (sr_g7 fx fy fu fv) no) (sr_sm fe (sr_g8 fx fy fu fv) no) (st_fa S))))), (sm, .inl (cm, 3, .inr (.inr (.inr (.inr (xm_3 m0 m1 m2)))))), (m0, .inl (cm0, 20, .inl (sr_m0 no fx fu fv (sr_pt (sr_sm fe (fun _ => 1) no) (sr_sm fe (sr_g2 fx) no) (sr_sm fe (sr_g3 fy) no) (sr_sm fe (sr_g4 fu) no) (sr_sm fe (sr_g5 fv) no) (sr_sm fe (sr_g6 fu fv) no) (sr_sm fe (sr_g7 fx fy fu fv) no) (sr_sm fe (sr_g8 fx fy fu fv) no) (st_fa S)) (sr_dv (sr_sm fe (fun _ => 1) no) (sr_sm fe (sr_g4 fu) no) (sr_sm fe (sr_g5 fv) no) (sr_sm fe (sr_g6 fu fv) no)) (st_n0 S)))), (m1, .inl (cm1, 20, .inl (sr_m1 no fy fu fv (sr_pt (sr_sm fe (fun _ => 1) no) (sr_sm fe (sr_g2 fx) no) (sr_sm fe (sr_g3 fy) no) (sr_sm fe (sr_g4 fu) no) (sr_sm fe (sr_g5 fv) no) (sr_sm fe (sr_g6 fu fv) no) (sr_sm fe (sr_g7 fx fy fu fv) no) (sr_sm fe (sr_g8 fx fy fu fv) no) (st_fa S)) (sr_dv (sr_sm fe (fun _ => 1) no) (sr_sm fe (sr_g4 fu) no) (sr_sm fe (sr_g5 fv) no) (sr_sm fe (sr_g6 fu fv) no)) (st_n1 S)))), (m2, .inl (cm2, 20, .inl (sr_m2 no fz fw fp (sr_ht (sr_sm fe (fun _ => 1) no) (sr_sm fe (sr_g9 fz fw fp) no)) (st_n2 S)))), (se, .inl (cq, 20, .inl (sr_cp no fe (st_fq S)))), (h1, .inr (2, [.ref qx, .ref qy, .ref qz, .ref qu, .ref qv, .ref qw, .ref qp, .ref qe, .int (nI no)])), (qx, .inl (cx, 20, .inl fx)), (qy, .inl (cy, 20, .inl fy)), (qz, .inl (cz, 20, .inl fz)), (qu, .inl (cu, 20, .inl fu)), (qv, .inl (cv, 20, .inl fv)), (qw, .inl (cw, 20, .inl fw)), (qp, .inl (cp, 20, .inl fp)), (qe, .inl (ce, 20, .inl fe))] H := hP
    have hD : va_D A [(su, .inr (3, [.long (sr_sm fe (fun _ => 1) no), .long (sr_sm fe (sr_g2 fx) no), .long (sr_sm fe (sr_g3 fy) no), .long (sr_sm fe (sr_g4 fu) no), .long (sr_sm fe (sr_g5 fv) no), .long (sr_sm fe (sr_g6 fu fv) no), .long (sr_sm fe (sr_g7 fx fy fu fv) no), .long (sr_sm fe (sr_g8 fx fy fu fv) no), .long (sr_sm fe (sr_g9 fz fw fp) no)])), (h0, .inr (4, [.ref su, .ref sp, .ref sm, .ref se, .long (sr_dv (sr_sm fe (fun _ => 1) no) (sr_sm fe (sr_g4 fu) no) (sr_sm fe (sr_g5 fv) no) (sr_sm fe (sr_g6 fu fv) no)), .int (sr_ht (sr_sm fe (fun _ => 1) no) (sr_sm fe (sr_g9 fz fw fp) no)), .int (nI no), .int (st_md S)])), (sp, .inl (ca, 4, .inr (.inl (sr_pt (sr_sm fe (fun _ => 1) no) (sr_sm fe (sr_g2 fx) no) (sr_sm fe (sr_g3 fy) no) (sr_sm fe (sr_g4 fu) no) (sr_sm fe (sr_g5 fv) no) (sr_sm fe (sr_g6 fu fv) no) (sr_sm fe (sr_g7 fx fy fu fv) no) (sr_sm fe (sr_g8 fx fy fu fv) no) (st_fa S))))), (sm, .inl (cm, 3, .inr (.inr (.inr (.inr (xm_3 m0 m1 m2)))))), (m0, .inl (cm0, 20, .inl (sr_m0 no fx fu fv (sr_pt (sr_sm fe (fun _ => 1) no) (sr_sm fe (sr_g2 fx) no) (sr_sm fe (sr_g3 fy) no) (sr_sm fe (sr_g4 fu) no) (sr_sm fe (sr_g5 fv) no) (sr_sm fe (sr_g6 fu fv) no) (sr_sm fe (sr_g7 fx fy fu fv) no) (sr_sm fe (sr_g8 fx fy fu fv) no) (st_fa S)) (sr_dv (sr_sm fe (fun _ => 1) no) (sr_sm fe (sr_g4 fu) no) (sr_sm fe (sr_g5 fv) no) (sr_sm fe (sr_g6 fu fv) no)) (st_n0 S)))), (m1, .inl (cm1, 20, .inl (sr_m1 no fy fu fv (sr_pt (sr_sm fe (fun _ => 1) no) (sr_sm fe (sr_g2 fx) no) (sr_sm fe (sr_g3 fy) no) (sr_sm fe (sr_g4 fu) no) (sr_sm fe (sr_g5 fv) no) (sr_sm fe (sr_g6 fu fv) no) (sr_sm fe (sr_g7 fx fy fu fv) no) (sr_sm fe (sr_g8 fx fy fu fv) no) (st_fa S)) (sr_dv (sr_sm fe (fun _ => 1) no) (sr_sm fe (sr_g4 fu) no) (sr_sm fe (sr_g5 fv) no) (sr_sm fe (sr_g6 fu fv) no)) (st_n1 S)))), (m2, .inl (cm2, 20, .inl (sr_m2 no fz fw fp (sr_ht (sr_sm fe (fun _ => 1) no) (sr_sm fe (sr_g9 fz fw fp) no)) (st_n2 S)))), (se, .inl (cq, 20, .inl (sr_cp no fe (st_fq S)))), (h1, .inr (2, [.ref qx, .ref qy, .ref qz, .ref qu, .ref qv, .ref qw, .ref qp, .ref qe, .int (nI no)])), (qx, .inl (cx, 20, .inl fx)), (qy, .inl (cy, 20, .inl fy)), (qz, .inl (cz, 20, .inl fz)), (qu, .inl (cu, 20, .inl fu)), (qv, .inl (cv, 20, .inl fv)), (qw, .inl (cw, 20, .inl fw)), (qp, .inl (cp, 20, .inl fp)), (qe, .inl (ce, 20, .inl fe))] := hD
    refine lv_aload_n hx hb d_SU_makeBy_31 rfl (lv_at hl 0 rfl) ?_
    refine lv_iconst (v := 1) hx hb d_SU_makeBy_32 (by decide) ?_
    refine va_put (D := (dC, dI)) (ci := 4) (v := .int 1) (ty := .boolean) (C := xR_SU) (T := xT_SU) (N := 8) hx hb hts (fun w h => List.mem_cons_of_mem _ (iw_SU w h)) xt_SU xt_SU_ok xn_SU_nm hown hK hP hD hS 1 rfl rfl 7 (by decide) (hts _ (List.mem_cons_of_mem _ wm_187)) (fun _ h9 => h9) rfl (by decide +kernel) rfl rfl (Nat.le_of_ble_eq_true rfl) d_SU_makeBy_33 (fun H locs hP hD hS => ?_)
    have hP : va_P (dC, dI) xCl [(su, .inr (3, [.long (sr_sm fe (fun _ => 1) no), .long (sr_sm fe (sr_g2 fx) no), .long (sr_sm fe (sr_g3 fy) no), .long (sr_sm fe (sr_g4 fu) no), .long (sr_sm fe (sr_g5 fv) no), .long (sr_sm fe (sr_g6 fu fv) no), .long (sr_sm fe (sr_g7 fx fy fu fv) no), .long (sr_sm fe (sr_g8 fx fy fu fv) no), .long (sr_sm fe (sr_g9 fz fw fp) no)])), (h0, .inr (4, [.ref su, .ref sp, .ref sm, .ref se, .long (sr_dv (sr_sm fe (fun _ => 1) no) (sr_sm fe (sr_g4 fu) no) (sr_sm fe (sr_g5 fv) no) (sr_sm fe (sr_g6 fu fv) no)), .int (sr_ht (sr_sm fe (fun _ => 1) no) (sr_sm fe (sr_g9 fz fw fp) no)), .int (nI no), .int 1])), (sp, .inl (ca, 4, .inr (.inl (sr_pt (sr_sm fe (fun _ => 1) no) (sr_sm fe (sr_g2 fx) no) (sr_sm fe (sr_g3 fy) no) (sr_sm fe (sr_g4 fu) no) (sr_sm fe (sr_g5 fv) no) (sr_sm fe (sr_g6 fu fv) no) (sr_sm fe (sr_g7 fx fy fu fv) no) (sr_sm fe (sr_g8 fx fy fu fv) no) (st_fa S))))), (sm, .inl (cm, 3, .inr (.inr (.inr (.inr (xm_3 m0 m1 m2)))))), (m0, .inl (cm0, 20, .inl (sr_m0 no fx fu fv (sr_pt (sr_sm fe (fun _ => 1) no) (sr_sm fe (sr_g2 fx) no) (sr_sm fe (sr_g3 fy) no) (sr_sm fe (sr_g4 fu) no) (sr_sm fe (sr_g5 fv) no) (sr_sm fe (sr_g6 fu fv) no) (sr_sm fe (sr_g7 fx fy fu fv) no) (sr_sm fe (sr_g8 fx fy fu fv) no) (st_fa S)) (sr_dv (sr_sm fe (fun _ => 1) no) (sr_sm fe (sr_g4 fu) no) (sr_sm fe (sr_g5 fv) no) (sr_sm fe (sr_g6 fu fv) no)) (st_n0 S)))), (m1, .inl (cm1, 20, .inl (sr_m1 no fy fu fv (sr_pt (sr_sm fe (fun _ => 1) no) (sr_sm fe (sr_g2 fx) no) (sr_sm fe (sr_g3 fy) no) (sr_sm fe (sr_g4 fu) no) (sr_sm fe (sr_g5 fv) no) (sr_sm fe (sr_g6 fu fv) no) (sr_sm fe (sr_g7 fx fy fu fv) no) (sr_sm fe (sr_g8 fx fy fu fv) no) (st_fa S)) (sr_dv (sr_sm fe (fun _ => 1) no) (sr_sm fe (sr_g4 fu) no) (sr_sm fe (sr_g5 fv) no) (sr_sm fe (sr_g6 fu fv) no)) (st_n1 S)))), (m2, .inl (cm2, 20, .inl (sr_m2 no fz fw fp (sr_ht (sr_sm fe (fun _ => 1) no) (sr_sm fe (sr_g9 fz fw fp) no)) (st_n2 S)))), (se, .inl (cq, 20, .inl (sr_cp no fe (st_fq S)))), (h1, .inr (2, [.ref qx, .ref qy, .ref qz, .ref qu, .ref qv, .ref qw, .ref qp, .ref qe, .int (nI no)])), (qx, .inl (cx, 20, .inl fx)), (qy, .inl (cy, 20, .inl fy)), (qz, .inl (cz, 20, .inl fz)), (qu, .inl (cu, 20, .inl fu)), (qv, .inl (cv, 20, .inl fv)), (qw, .inl (cw, 20, .inl fw)), (qp, .inl (cp, 20, .inl fp)), (qe, .inl (ce, 20, .inl fe))] H := hP
    have hD : va_D A [(su, .inr (3, [.long (sr_sm fe (fun _ => 1) no), .long (sr_sm fe (sr_g2 fx) no), .long (sr_sm fe (sr_g3 fy) no), .long (sr_sm fe (sr_g4 fu) no), .long (sr_sm fe (sr_g5 fv) no), .long (sr_sm fe (sr_g6 fu fv) no), .long (sr_sm fe (sr_g7 fx fy fu fv) no), .long (sr_sm fe (sr_g8 fx fy fu fv) no), .long (sr_sm fe (sr_g9 fz fw fp) no)])), (h0, .inr (4, [.ref su, .ref sp, .ref sm, .ref se, .long (sr_dv (sr_sm fe (fun _ => 1) no) (sr_sm fe (sr_g4 fu) no) (sr_sm fe (sr_g5 fv) no) (sr_sm fe (sr_g6 fu fv) no)), .int (sr_ht (sr_sm fe (fun _ => 1) no) (sr_sm fe (sr_g9 fz fw fp) no)), .int (nI no), .int 1])), (sp, .inl (ca, 4, .inr (.inl (sr_pt (sr_sm fe (fun _ => 1) no) (sr_sm fe (sr_g2 fx) no) (sr_sm fe (sr_g3 fy) no) (sr_sm fe (sr_g4 fu) no) (sr_sm fe (sr_g5 fv) no) (sr_sm fe (sr_g6 fu fv) no) (sr_sm fe (sr_g7 fx fy fu fv) no) (sr_sm fe (sr_g8 fx fy fu fv) no) (st_fa S))))), (sm, .inl (cm, 3, .inr (.inr (.inr (.inr (xm_3 m0 m1 m2)))))), (m0, .inl (cm0, 20, .inl (sr_m0 no fx fu fv (sr_pt (sr_sm fe (fun _ => 1) no) (sr_sm fe (sr_g2 fx) no) (sr_sm fe (sr_g3 fy) no) (sr_sm fe (sr_g4 fu) no) (sr_sm fe (sr_g5 fv) no) (sr_sm fe (sr_g6 fu fv) no) (sr_sm fe (sr_g7 fx fy fu fv) no) (sr_sm fe (sr_g8 fx fy fu fv) no) (st_fa S)) (sr_dv (sr_sm fe (fun _ => 1) no) (sr_sm fe (sr_g4 fu) no) (sr_sm fe (sr_g5 fv) no) (sr_sm fe (sr_g6 fu fv) no)) (st_n0 S)))), (m1, .inl (cm1, 20, .inl (sr_m1 no fy fu fv (sr_pt (sr_sm fe (fun _ => 1) no) (sr_sm fe (sr_g2 fx) no) (sr_sm fe (sr_g3 fy) no) (sr_sm fe (sr_g4 fu) no) (sr_sm fe (sr_g5 fv) no) (sr_sm fe (sr_g6 fu fv) no) (sr_sm fe (sr_g7 fx fy fu fv) no) (sr_sm fe (sr_g8 fx fy fu fv) no) (st_fa S)) (sr_dv (sr_sm fe (fun _ => 1) no) (sr_sm fe (sr_g4 fu) no) (sr_sm fe (sr_g5 fv) no) (sr_sm fe (sr_g6 fu fv) no)) (st_n1 S)))), (m2, .inl (cm2, 20, .inl (sr_m2 no fz fw fp (sr_ht (sr_sm fe (fun _ => 1) no) (sr_sm fe (sr_g9 fz fw fp) no)) (st_n2 S)))), (se, .inl (cq, 20, .inl (sr_cp no fe (st_fq S)))), (h1, .inr (2, [.ref qx, .ref qy, .ref qz, .ref qu, .ref qv, .ref qw, .ref qp, .ref qe, .int (nI no)])), (qx, .inl (cx, 20, .inl fx)), (qy, .inl (cy, 20, .inl fy)), (qz, .inl (cz, 20, .inl fz)), (qu, .inl (cu, 20, .inl fu)), (qv, .inl (cv, 20, .inl fv)), (qw, .inl (cw, 20, .inl fw)), (qp, .inl (cp, 20, .inl fp)), (qe, .inl (ce, 20, .inl fe))] := hD
    refine lv_iconst (v := 1) hx hb d_SU_makeBy_36 (by decide) ?_
    have hP9 := hP.sub (ws' := [(h0, .inr (4, [.ref su, .ref sp, .ref sm, .ref se, .long (sr_dv (sr_sm fe (fun _ => 1) no) (sr_sm fe (sr_g4 fu) no) (sr_sm fe (sr_g5 fv) no) (sr_sm fe (sr_g6 fu fv) no)), .int (sr_ht (sr_sm fe (fun _ => 1) no) (sr_sm fe (sr_g9 fz fw fp) no)), .int (nI no), .int 1])), (sp, .inl (ca, 4, .inr (.inl (sr_pt (sr_sm fe (fun _ => 1) no) (sr_sm fe (sr_g2 fx) no) (sr_sm fe (sr_g3 fy) no) (sr_sm fe (sr_g4 fu) no) (sr_sm fe (sr_g5 fv) no) (sr_sm fe (sr_g6 fu fv) no) (sr_sm fe (sr_g7 fx fy fu fv) no) (sr_sm fe (sr_g8 fx fy fu fv) no) (st_fa S))))), (sm, .inl (cm, 3, .inr (.inr (.inr (.inr (xm_3 m0 m1 m2)))))), (m0, .inl (cm0, 20, .inl (sr_m0 no fx fu fv (sr_pt (sr_sm fe (fun _ => 1) no) (sr_sm fe (sr_g2 fx) no) (sr_sm fe (sr_g3 fy) no) (sr_sm fe (sr_g4 fu) no) (sr_sm fe (sr_g5 fv) no) (sr_sm fe (sr_g6 fu fv) no) (sr_sm fe (sr_g7 fx fy fu fv) no) (sr_sm fe (sr_g8 fx fy fu fv) no) (st_fa S)) (sr_dv (sr_sm fe (fun _ => 1) no) (sr_sm fe (sr_g4 fu) no) (sr_sm fe (sr_g5 fv) no) (sr_sm fe (sr_g6 fu fv) no)) (st_n0 S)))), (m1, .inl (cm1, 20, .inl (sr_m1 no fy fu fv (sr_pt (sr_sm fe (fun _ => 1) no) (sr_sm fe (sr_g2 fx) no) (sr_sm fe (sr_g3 fy) no) (sr_sm fe (sr_g4 fu) no) (sr_sm fe (sr_g5 fv) no) (sr_sm fe (sr_g6 fu fv) no) (sr_sm fe (sr_g7 fx fy fu fv) no) (sr_sm fe (sr_g8 fx fy fu fv) no) (st_fa S)) (sr_dv (sr_sm fe (fun _ => 1) no) (sr_sm fe (sr_g4 fu) no) (sr_sm fe (sr_g5 fv) no) (sr_sm fe (sr_g6 fu fv) no)) (st_n1 S)))), (m2, .inl (cm2, 20, .inl (sr_m2 no fz fw fp (sr_ht (sr_sm fe (fun _ => 1) no) (sr_sm fe (sr_g9 fz fw fp) no)) (st_n2 S)))), (se, .inl (cq, 20, .inl (sr_cp no fe (st_fq S)))), (su, .inr (3, [.long (sr_sm fe (fun _ => 1) no), .long (sr_sm fe (sr_g2 fx) no), .long (sr_sm fe (sr_g3 fy) no), .long (sr_sm fe (sr_g4 fu) no), .long (sr_sm fe (sr_g5 fv) no), .long (sr_sm fe (sr_g6 fu fv) no), .long (sr_sm fe (sr_g7 fx fy fu fv) no), .long (sr_sm fe (sr_g8 fx fy fu fv) no), .long (sr_sm fe (sr_g9 fz fw fp) no)])), (h1, .inr (2, [.ref qx, .ref qy, .ref qz, .ref qu, .ref qv, .ref qw, .ref qp, .ref qe, .int (nI no)])), (qx, .inl (cx, 20, .inl fx)), (qy, .inl (cy, 20, .inl fy)), (qz, .inl (cz, 20, .inl fz)), (qu, .inl (cu, 20, .inl fu)), (qv, .inl (cv, 20, .inl fv)), (qw, .inl (cw, 20, .inl fw)), (qp, .inl (cp, 20, .inl fp)), (qe, .inl (ce, 20, .inl fe))]) [1, 2, 3, 4, 5, 6, 7, 0, 8, 9, 10, 11, 12, 13, 14, 15, 16] rfl
    have hD9 := hD.sub (ws' := [(h0, .inr (4, [.ref su, .ref sp, .ref sm, .ref se, .long (sr_dv (sr_sm fe (fun _ => 1) no) (sr_sm fe (sr_g4 fu) no) (sr_sm fe (sr_g5 fv) no) (sr_sm fe (sr_g6 fu fv) no)), .int (sr_ht (sr_sm fe (fun _ => 1) no) (sr_sm fe (sr_g9 fz fw fp) no)), .int (nI no), .int 1])), (sp, .inl (ca, 4, .inr (.inl (sr_pt (sr_sm fe (fun _ => 1) no) (sr_sm fe (sr_g2 fx) no) (sr_sm fe (sr_g3 fy) no) (sr_sm fe (sr_g4 fu) no) (sr_sm fe (sr_g5 fv) no) (sr_sm fe (sr_g6 fu fv) no) (sr_sm fe (sr_g7 fx fy fu fv) no) (sr_sm fe (sr_g8 fx fy fu fv) no) (st_fa S))))), (sm, .inl (cm, 3, .inr (.inr (.inr (.inr (xm_3 m0 m1 m2)))))), (m0, .inl (cm0, 20, .inl (sr_m0 no fx fu fv (sr_pt (sr_sm fe (fun _ => 1) no) (sr_sm fe (sr_g2 fx) no) (sr_sm fe (sr_g3 fy) no) (sr_sm fe (sr_g4 fu) no) (sr_sm fe (sr_g5 fv) no) (sr_sm fe (sr_g6 fu fv) no) (sr_sm fe (sr_g7 fx fy fu fv) no) (sr_sm fe (sr_g8 fx fy fu fv) no) (st_fa S)) (sr_dv (sr_sm fe (fun _ => 1) no) (sr_sm fe (sr_g4 fu) no) (sr_sm fe (sr_g5 fv) no) (sr_sm fe (sr_g6 fu fv) no)) (st_n0 S)))), (m1, .inl (cm1, 20, .inl (sr_m1 no fy fu fv (sr_pt (sr_sm fe (fun _ => 1) no) (sr_sm fe (sr_g2 fx) no) (sr_sm fe (sr_g3 fy) no) (sr_sm fe (sr_g4 fu) no) (sr_sm fe (sr_g5 fv) no) (sr_sm fe (sr_g6 fu fv) no) (sr_sm fe (sr_g7 fx fy fu fv) no) (sr_sm fe (sr_g8 fx fy fu fv) no) (st_fa S)) (sr_dv (sr_sm fe (fun _ => 1) no) (sr_sm fe (sr_g4 fu) no) (sr_sm fe (sr_g5 fv) no) (sr_sm fe (sr_g6 fu fv) no)) (st_n1 S)))), (m2, .inl (cm2, 20, .inl (sr_m2 no fz fw fp (sr_ht (sr_sm fe (fun _ => 1) no) (sr_sm fe (sr_g9 fz fw fp) no)) (st_n2 S)))), (se, .inl (cq, 20, .inl (sr_cp no fe (st_fq S)))), (su, .inr (3, [.long (sr_sm fe (fun _ => 1) no), .long (sr_sm fe (sr_g2 fx) no), .long (sr_sm fe (sr_g3 fy) no), .long (sr_sm fe (sr_g4 fu) no), .long (sr_sm fe (sr_g5 fv) no), .long (sr_sm fe (sr_g6 fu fv) no), .long (sr_sm fe (sr_g7 fx fy fu fv) no), .long (sr_sm fe (sr_g8 fx fy fu fv) no), .long (sr_sm fe (sr_g9 fz fw fp) no)])), (h1, .inr (2, [.ref qx, .ref qy, .ref qz, .ref qu, .ref qv, .ref qw, .ref qp, .ref qe, .int (nI no)])), (qx, .inl (cx, 20, .inl fx)), (qy, .inl (cy, 20, .inl fy)), (qz, .inl (cz, 20, .inl fz)), (qu, .inl (cu, 20, .inl fu)), (qv, .inl (cv, 20, .inl fv)), (qw, .inl (cw, 20, .inl fw)), (qp, .inl (cp, 20, .inl fp)), (qe, .inl (ce, 20, .inl fe))]) [1, 2, 3, 4, 5, 6, 7, 0, 8, 9, 10, 11, 12, 13, 14, 15, 16] (by decide) rfl
    have hK9 := hK.sub (tys' := [(ca, .long), (cm, .array .int), (cm0, .int), (cm1, .int), (cm2, .int), (cq, .boolean), (cx, .int), (cy, .int), (cz, .int), (cu, .int), (cv, .int), (cw, .int), (cp, .int), (ce, .boolean)]) [0, 1, 2, 3, 4, 5, 6, 7, 8, 9, 10, 11, 12, 13] rfl
    exact W.zret (v := 1) (ty := .boolean) hx hb hr (by exact rfl) (fun t ht hW => ⟨⟨1, (), rfl, bI_p l_6, ⟨by rw [ht]; rw [sr_mk_t S no fx fy fz fu fv fw fp fe l_6]; exact hP9, va_K.moved hW.alike hK9, by rw [sr_mk_t S no fx fy fz fu fv fw fp fe l_6]; exact hD9⟩⟩, hS.F ht⟩) hS.2.2 d_SU_makeBy_37 hlocks
  · have l_11 := fun q => c_5 (lc_gt.mpr q)
    refine lv_iconst (v := 0) hx hb d_SU_makeBy_20 (by decide) ?_
    have hP9 := hP.sub (ws' := [(h0, .inr (4, [.ref su, .ref sp, .ref sm, .ref se, .long (st_dv S), .int (st_ht S), .int (nI (st_sc S)), .int (st_md S)])), (sp, .inl (ca, 4, .inr (.inl (st_fa S)))), (sm, .inl (cm, 3, .inr (.inr (.inr (.inr (xm_3 m0 m1 m2)))))), (m0, .inl (cm0, 20, .inl (st_n0 S))), (m1, .inl (cm1, 20, .inl (st_n1 S))), (m2, .inl (cm2, 20, .inl (st_n2 S))), (se, .inl (cq, 20, .inl (st_fq S))), (su, .inr (3, [.long (sr_sm fe (fun _ => 1) no), .long (sr_sm fe (sr_g2 fx) no), .long (sr_sm fe (sr_g3 fy) no), .long (sr_sm fe (sr_g4 fu) no), .long (sr_sm fe (sr_g5 fv) no), .long (sr_sm fe (sr_g6 fu fv) no), .long (sr_sm fe (sr_g7 fx fy fu fv) no), .long (sr_sm fe (sr_g8 fx fy fu fv) no), .long (sr_sm fe (sr_g9 fz fw fp) no)])), (h1, .inr (2, [.ref qx, .ref qy, .ref qz, .ref qu, .ref qv, .ref qw, .ref qp, .ref qe, .int (nI no)])), (qx, .inl (cx, 20, .inl fx)), (qy, .inl (cy, 20, .inl fy)), (qz, .inl (cz, 20, .inl fz)), (qu, .inl (cu, 20, .inl fu)), (qv, .inl (cv, 20, .inl fv)), (qw, .inl (cw, 20, .inl fw)), (qp, .inl (cp, 20, .inl fp)), (qe, .inl (ce, 20, .inl fe))]) [0, 1, 2, 3, 4, 5, 6, 7, 8, 9, 10, 11, 12, 13, 14, 15, 16] rfl
    have hD9 := hD.sub (ws' := [(h0, .inr (4, [.ref su, .ref sp, .ref sm, .ref se, .long (st_dv S), .int (st_ht S), .int (nI (st_sc S)), .int (st_md S)])), (sp, .inl (ca, 4, .inr (.inl (st_fa S)))), (sm, .inl (cm, 3, .inr (.inr (.inr (.inr (xm_3 m0 m1 m2)))))), (m0, .inl (cm0, 20, .inl (st_n0 S))), (m1, .inl (cm1, 20, .inl (st_n1 S))), (m2, .inl (cm2, 20, .inl (st_n2 S))), (se, .inl (cq, 20, .inl (st_fq S))), (su, .inr (3, [.long (sr_sm fe (fun _ => 1) no), .long (sr_sm fe (sr_g2 fx) no), .long (sr_sm fe (sr_g3 fy) no), .long (sr_sm fe (sr_g4 fu) no), .long (sr_sm fe (sr_g5 fv) no), .long (sr_sm fe (sr_g6 fu fv) no), .long (sr_sm fe (sr_g7 fx fy fu fv) no), .long (sr_sm fe (sr_g8 fx fy fu fv) no), .long (sr_sm fe (sr_g9 fz fw fp) no)])), (h1, .inr (2, [.ref qx, .ref qy, .ref qz, .ref qu, .ref qv, .ref qw, .ref qp, .ref qe, .int (nI no)])), (qx, .inl (cx, 20, .inl fx)), (qy, .inl (cy, 20, .inl fy)), (qz, .inl (cz, 20, .inl fz)), (qu, .inl (cu, 20, .inl fu)), (qv, .inl (cv, 20, .inl fv)), (qw, .inl (cw, 20, .inl fw)), (qp, .inl (cp, 20, .inl fp)), (qe, .inl (ce, 20, .inl fe))]) [0, 1, 2, 3, 4, 5, 6, 7, 8, 9, 10, 11, 12, 13, 14, 15, 16] (by decide) rfl
    have hK9 := hK.sub (tys' := [(ca, .long), (cm, .array .int), (cm0, .int), (cm1, .int), (cm2, .int), (cq, .boolean), (cx, .int), (cy, .int), (cz, .int), (cu, .int), (cv, .int), (cw, .int), (cp, .int), (ce, .boolean)]) [0, 1, 2, 3, 4, 5, 6, 7, 8, 9, 10, 11, 12, 13] rfl
    exact W.zret (v := 0) (ty := .boolean) hx hb hr (by exact rfl) (fun t ht hW => ⟨⟨0, (), rfl, bI_n l_11, ⟨by rw [ht]; rw [sr_mk_f S no fx fy fz fu fv fw fp fe l_11]; exact hP9, va_K.moved hW.alike hK9, by rw [sr_mk_f S no fx fy fz fu fv fw fp fe l_11]; exact hD9⟩⟩, hS.F ht⟩) hS.2.2 d_SU_makeBy_21 hlocks
