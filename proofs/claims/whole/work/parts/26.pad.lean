theorem d_PA_signOf_0 : decode prog_4_method_2_code 0 = .ok (.iload_n 0, 1) := by decide +kernel
theorem d_PA_signOf_1 : decode prog_4_method_2_code 1 = .ok (.iload_n 1, 1) := by decide +kernel
theorem d_PA_signOf_2 : decode prog_4_method_2_code 2 = .ok (.bipush 8, 2) := by decide +kernel
theorem d_PA_signOf_4 : decode prog_4_method_2_code 4 = .ok (.imul, 1) := by decide +kernel
theorem d_PA_signOf_5 : decode prog_4_method_2_code 5 = .ok (.iushr, 1) := by decide +kernel
theorem d_PA_signOf_6 : decode prog_4_method_2_code 6 = .ok (.sipush 255, 3) := by decide +kernel
theorem d_PA_signOf_9 : decode prog_4_method_2_code 9 = .ok (.iand, 1) := by decide +kernel
theorem d_PA_signOf_10 : decode prog_4_method_2_code 10 = .ok (.i2c, 1) := by decide +kernel
theorem d_PA_signOf_11 : decode prog_4_method_2_code 11 = .ok (.ireturn, 1) := by decide +kernel
theorem d_PA_signsIn_0 : decode prog_4_method_3_code 0 = .ok (.iconst 0, 1) := by decide +kernel
theorem d_PA_signsIn_1 : decode prog_4_method_3_code 1 = .ok (.istore_n 1, 1) := by decide +kernel
theorem d_PA_signsIn_2 : decode prog_4_method_3_code 2 = .ok (.iconst 0, 1) := by decide +kernel
theorem d_PA_signsIn_3 : decode prog_4_method_3_code 3 = .ok (.istore_n 2, 1) := by decide +kernel
theorem d_PA_signsIn_4 : decode prog_4_method_3_code 4 = .ok (.iload_n 2, 1) := by decide +kernel
theorem d_PA_signsIn_5 : decode prog_4_method_3_code 5 = .ok (.iconst 4, 1) := by decide +kernel
theorem d_PA_signsIn_6 : decode prog_4_method_3_code 6 = .ok (.if_icmp .ge 25, 3) := by decide +kernel
theorem d_PA_signsIn_9 : decode prog_4_method_3_code 9 = .ok (.iload_n 1, 1) := by decide +kernel
theorem d_PA_signsIn_10 : decode prog_4_method_3_code 10 = .ok (.iload_n 0, 1) := by decide +kernel
theorem d_PA_signsIn_11 : decode prog_4_method_3_code 11 = .ok (.iload_n 2, 1) := by decide +kernel
theorem d_PA_signsIn_12 : decode prog_4_method_3_code 12 = .ok (.invokestatic 19, 3) := by decide +kernel
theorem d_PA_signsIn_15 : decode prog_4_method_3_code 15 = .ok (.ifCond .eq 7, 3) := by decide +kernel
theorem d_PA_signsIn_18 : decode prog_4_method_3_code 18 = .ok (.iconst 1, 1) := by decide +kernel
theorem d_PA_signsIn_19 : decode prog_4_method_3_code 19 = .ok (.goto 4, 3) := by decide +kernel
theorem d_PA_signsIn_22 : decode prog_4_method_3_code 22 = .ok (.iconst 0, 1) := by decide +kernel
theorem d_PA_signsIn_23 : decode prog_4_method_3_code 23 = .ok (.iadd, 1) := by decide +kernel
theorem d_PA_signsIn_24 : decode prog_4_method_3_code 24 = .ok (.istore_n 1, 1) := by decide +kernel
theorem d_PA_signsIn_25 : decode prog_4_method_3_code 25 = .ok (.iinc 2 1, 3) := by decide +kernel
theorem d_PA_signsIn_28 : decode prog_4_method_3_code 28 = .ok (.goto (-24), 3) := by decide +kernel
theorem d_PA_signsIn_31 : decode prog_4_method_3_code 31 = .ok (.iload_n 1, 1) := by decide +kernel
theorem d_PA_signsIn_32 : decode prog_4_method_3_code 32 = .ok (.ireturn, 1) := by decide +kernel
theorem d_PA_isDigit_0 : decode prog_4_method_5_code 0 = .ok (.iload_n 0, 1) := by decide +kernel
theorem d_PA_isDigit_1 : decode prog_4_method_5_code 1 = .ok (.bipush 48, 2) := by decide +kernel
theorem d_PA_isDigit_3 : decode prog_4_method_5_code 3 = .ok (.if_icmp .lt 13, 3) := by decide +kernel
theorem d_PA_isDigit_6 : decode prog_4_method_5_code 6 = .ok (.iload_n 0, 1) := by decide +kernel
theorem d_PA_isDigit_7 : decode prog_4_method_5_code 7 = .ok (.bipush 57, 2) := by decide +kernel
theorem d_PA_isDigit_9 : decode prog_4_method_5_code 9 = .ok (.if_icmp .gt 7, 3) := by decide +kernel
theorem d_PA_isDigit_12 : decode prog_4_method_5_code 12 = .ok (.iconst 1, 1) := by decide +kernel
theorem d_PA_isDigit_13 : decode prog_4_method_5_code 13 = .ok (.goto 4, 3) := by decide +kernel
theorem d_PA_isDigit_16 : decode prog_4_method_5_code 16 = .ok (.iconst 0, 1) := by decide +kernel
theorem d_PA_isDigit_17 : decode prog_4_method_5_code 17 = .ok (.ireturn, 1) := by decide +kernel
theorem d_PA_isGood_0 : decode prog_4_method_4_code 0 = .ok (.iconst 0, 1) := by decide +kernel
theorem d_PA_isGood_1 : decode prog_4_method_4_code 1 = .ok (.istore_n 1, 1) := by decide +kernel
theorem d_PA_isGood_2 : decode prog_4_method_4_code 2 = .ok (.iload_n 1, 1) := by decide +kernel
theorem d_PA_isGood_3 : decode prog_4_method_4_code 3 = .ok (.iconst 4, 1) := by decide +kernel
theorem d_PA_isGood_4 : decode prog_4_method_4_code 4 = .ok (.if_icmp .ge 46, 3) := by decide +kernel
theorem d_PA_isGood_7 : decode prog_4_method_4_code 7 = .ok (.iload_n 0, 1) := by decide +kernel
theorem d_PA_isGood_8 : decode prog_4_method_4_code 8 = .ok (.iload_n 1, 1) := by decide +kernel
theorem d_PA_isGood_9 : decode prog_4_method_4_code 9 = .ok (.invokestatic 19, 3) := by decide +kernel
theorem d_PA_isGood_12 : decode prog_4_method_4_code 12 = .ok (.istore_n 2, 1) := by decide +kernel
theorem d_PA_isGood_13 : decode prog_4_method_4_code 13 = .ok (.iload_n 2, 1) := by decide +kernel
theorem d_PA_isGood_14 : decode prog_4_method_4_code 14 = .ok (.ifCond .eq 30, 3) := by decide +kernel
theorem d_PA_isGood_17 : decode prog_4_method_4_code 17 = .ok (.iload_n 2, 1) := by decide +kernel
theorem d_PA_isGood_18 : decode prog_4_method_4_code 18 = .ok (.bipush 45, 2) := by decide +kernel
theorem d_PA_isGood_20 : decode prog_4_method_4_code 20 = .ok (.if_icmp .eq 24, 3) := by decide +kernel
theorem d_PA_isGood_23 : decode prog_4_method_4_code 23 = .ok (.iload_n 2, 1) := by decide +kernel
theorem d_PA_isGood_24 : decode prog_4_method_4_code 24 = .ok (.bipush 32, 2) := by decide +kernel
theorem d_PA_isGood_26 : decode prog_4_method_4_code 26 = .ok (.if_icmp .eq 18, 3) := by decide +kernel
theorem d_PA_isGood_29 : decode prog_4_method_4_code 29 = .ok (.iload_n 2, 1) := by decide +kernel
theorem d_PA_isGood_30 : decode prog_4_method_4_code 30 = .ok (.bipush 59, 2) := by decide +kernel
theorem d_PA_isGood_32 : decode prog_4_method_4_code 32 = .ok (.if_icmp .eq 12, 3) := by decide +kernel
theorem d_PA_isGood_35 : decode prog_4_method_4_code 35 = .ok (.iload_n 2, 1) := by decide +kernel
theorem d_PA_isGood_36 : decode prog_4_method_4_code 36 = .ok (.invokestatic 23, 3) := by decide +kernel
theorem d_PA_isGood_39 : decode prog_4_method_4_code 39 = .ok (.ifCond .ne 5, 3) := by decide +kernel
theorem d_PA_isGood_42 : decode prog_4_method_4_code 42 = .ok (.iconst 0, 1) := by decide +kernel
theorem d_PA_isGood_43 : decode prog_4_method_4_code 43 = .ok (.ireturn, 1) := by decide +kernel
theorem d_PA_isGood_44 : decode prog_4_method_4_code 44 = .ok (.iinc 1 1, 3) := by decide +kernel
theorem d_PA_isGood_47 : decode prog_4_method_4_code 47 = .ok (.goto (-45), 3) := by decide +kernel
theorem d_PA_isGood_50 : decode prog_4_method_4_code 50 = .ok (.iconst 1, 1) := by decide +kernel
theorem d_PA_isGood_51 : decode prog_4_method_4_code 51 = .ok (.ireturn, 1) := by decide +kernel
theorem d_PA_addSignsOf_0 : decode prog_4_method_6_code 0 = .ok (.iconst 0, 1) := by decide +kernel
theorem d_PA_addSignsOf_1 : decode prog_4_method_6_code 1 = .ok (.istore_n 2, 1) := by decide +kernel
theorem d_PA_addSignsOf_2 : decode prog_4_method_6_code 2 = .ok (.iload_n 2, 1) := by decide +kernel
theorem d_PA_addSignsOf_3 : decode prog_4_method_6_code 3 = .ok (.iconst 4, 1) := by decide +kernel
theorem d_PA_addSignsOf_4 : decode prog_4_method_6_code 4 = .ok (.if_icmp .ge 49, 3) := by decide +kernel
theorem d_PA_addSignsOf_7 : decode prog_4_method_6_code 7 = .ok (.iload_n 1, 1) := by decide +kernel
theorem d_PA_addSignsOf_8 : decode prog_4_method_6_code 8 = .ok (.iload_n 2, 1) := by decide +kernel
theorem d_PA_addSignsOf_9 : decode prog_4_method_6_code 9 = .ok (.invokestatic 19, 3) := by decide +kernel
theorem d_PA_addSignsOf_12 : decode prog_4_method_6_code 12 = .ok (.istore_n 3, 1) := by decide +kernel
theorem d_PA_addSignsOf_13 : decode prog_4_method_6_code 13 = .ok (.iload_n 3, 1) := by decide +kernel
theorem d_PA_addSignsOf_14 : decode prog_4_method_6_code 14 = .ok (.ifCond .eq 33, 3) := by decide +kernel
theorem d_PA_addSignsOf_17 : decode prog_4_method_6_code 17 = .ok (.aload_n 0, 1) := by decide +kernel
theorem d_PA_addSignsOf_18 : decode prog_4_method_6_code 18 = .ok (.getfield 27, 3) := by decide +kernel
theorem d_PA_addSignsOf_21 : decode prog_4_method_6_code 21 = .ok (.sipush 200, 3) := by decide +kernel
theorem d_PA_addSignsOf_24 : decode prog_4_method_6_code 24 = .ok (.if_icmp .ge 23, 3) := by decide +kernel
theorem d_PA_addSignsOf_27 : decode prog_4_method_6_code 27 = .ok (.aload_n 0, 1) := by decide +kernel
theorem d_PA_addSignsOf_28 : decode prog_4_method_6_code 28 = .ok (.getfield 9, 3) := by decide +kernel
theorem d_PA_addSignsOf_31 : decode prog_4_method_6_code 31 = .ok (.aload_n 0, 1) := by decide +kernel
theorem d_PA_addSignsOf_32 : decode prog_4_method_6_code 32 = .ok (.getfield 27, 3) := by decide +kernel
theorem d_PA_addSignsOf_35 : decode prog_4_method_6_code 35 = .ok (.iload_n 3, 1) := by decide +kernel
theorem d_PA_addSignsOf_36 : decode prog_4_method_6_code 36 = .ok (.castore, 1) := by decide +kernel
theorem d_PA_addSignsOf_37 : decode prog_4_method_6_code 37 = .ok (.aload_n 0, 1) := by decide +kernel
theorem d_PA_addSignsOf_38 : decode prog_4_method_6_code 38 = .ok (.dup, 1) := by decide +kernel
theorem d_PA_addSignsOf_39 : decode prog_4_method_6_code 39 = .ok (.getfield 27, 3) := by decide +kernel
theorem d_PA_addSignsOf_42 : decode prog_4_method_6_code 42 = .ok (.iconst 1, 1) := by decide +kernel
theorem d_PA_addSignsOf_43 : decode prog_4_method_6_code 43 = .ok (.iadd, 1) := by decide +kernel
theorem d_PA_addSignsOf_44 : decode prog_4_method_6_code 44 = .ok (.putfield 27, 3) := by decide +kernel
theorem d_PA_addSignsOf_47 : decode prog_4_method_6_code 47 = .ok (.iinc 2 1, 3) := by decide +kernel
theorem d_PA_addSignsOf_50 : decode prog_4_method_6_code 50 = .ok (.goto (-48), 3) := by decide +kernel
theorem d_PA_addSignsOf_53 : decode prog_4_method_6_code 53 = .ok (.return_, 1) := by decide +kernel
theorem d_PA_rewind_0 : decode prog_4_method_7_code 0 = .ok (.aload_n 0, 1) := by decide +kernel
theorem d_PA_rewind_1 : decode prog_4_method_7_code 1 = .ok (.iconst 0, 1) := by decide +kernel
theorem d_PA_rewind_2 : decode prog_4_method_7_code 2 = .ok (.putfield 31, 3) := by decide +kernel
theorem d_PA_rewind_5 : decode prog_4_method_7_code 5 = .ok (.return_, 1) := by decide +kernel
theorem d_PA_isAtEnd_0 : decode prog_4_method_8_code 0 = .ok (.aload_n 0, 1) := by decide +kernel
theorem d_PA_isAtEnd_1 : decode prog_4_method_8_code 1 = .ok (.getfield 31, 3) := by decide +kernel
theorem d_PA_isAtEnd_4 : decode prog_4_method_8_code 4 = .ok (.aload_n 0, 1) := by decide +kernel
theorem d_PA_isAtEnd_5 : decode prog_4_method_8_code 5 = .ok (.getfield 27, 3) := by decide +kernel
theorem d_PA_isAtEnd_8 : decode prog_4_method_8_code 8 = .ok (.if_icmp .lt 7, 3) := by decide +kernel
theorem d_PA_isAtEnd_11 : decode prog_4_method_8_code 11 = .ok (.iconst 1, 1) := by decide +kernel
theorem d_PA_isAtEnd_12 : decode prog_4_method_8_code 12 = .ok (.goto 4, 3) := by decide +kernel
theorem d_PA_isAtEnd_15 : decode prog_4_method_8_code 15 = .ok (.iconst 0, 1) := by decide +kernel
theorem d_PA_isAtEnd_16 : decode prog_4_method_8_code 16 = .ok (.ireturn, 1) := by decide +kernel
theorem d_PA_skips_0 : decode prog_4_method_11_code 0 = .ok (.aload_n 0, 1) := by decide +kernel
theorem d_PA_skips_1 : decode prog_4_method_11_code 1 = .ok (.getfield 31, 3) := by decide +kernel
theorem d_PA_skips_4 : decode prog_4_method_11_code 4 = .ok (.aload_n 0, 1) := by decide +kernel
theorem d_PA_skips_5 : decode prog_4_method_11_code 5 = .ok (.getfield 27, 3) := by decide +kernel
theorem d_PA_skips_8 : decode prog_4_method_11_code 8 = .ok (.if_icmp .ge 28, 3) := by decide +kernel
theorem d_PA_skips_11 : decode prog_4_method_11_code 11 = .ok (.aload_n 0, 1) := by decide +kernel
theorem d_PA_skips_12 : decode prog_4_method_11_code 12 = .ok (.getfield 9, 3) := by decide +kernel
theorem d_PA_skips_15 : decode prog_4_method_11_code 15 = .ok (.aload_n 0, 1) := by decide +kernel
theorem d_PA_skips_16 : decode prog_4_method_11_code 16 = .ok (.getfield 31, 3) := by decide +kernel
theorem d_PA_skips_19 : decode prog_4_method_11_code 19 = .ok (.caload, 1) := by decide +kernel
theorem d_PA_skips_20 : decode prog_4_method_11_code 20 = .ok (.iload_n 1, 1) := by decide +kernel
theorem d_PA_skips_21 : decode prog_4_method_11_code 21 = .ok (.if_icmp .ne 15, 3) := by decide +kernel
theorem d_PA_skips_24 : decode prog_4_method_11_code 24 = .ok (.aload_n 0, 1) := by decide +kernel
theorem d_PA_skips_25 : decode prog_4_method_11_code 25 = .ok (.dup, 1) := by decide +kernel
theorem d_PA_skips_26 : decode prog_4_method_11_code 26 = .ok (.getfield 31, 3) := by decide +kernel
theorem d_PA_skips_29 : decode prog_4_method_11_code 29 = .ok (.iconst 1, 1) := by decide +kernel
theorem d_PA_skips_30 : decode prog_4_method_11_code 30 = .ok (.iadd, 1) := by decide +kernel
theorem d_PA_skips_31 : decode prog_4_method_11_code 31 = .ok (.putfield 31, 3) := by decide +kernel
theorem d_PA_skips_34 : decode prog_4_method_11_code 34 = .ok (.iconst 1, 1) := by decide +kernel
theorem d_PA_skips_35 : decode prog_4_method_11_code 35 = .ok (.ireturn, 1) := by decide +kernel
theorem d_PA_skips_36 : decode prog_4_method_11_code 36 = .ok (.iconst 0, 1) := by decide +kernel
theorem d_PA_skips_37 : decode prog_4_method_11_code 37 = .ok (.ireturn, 1) := by decide +kernel
theorem d_PA_nextNumber_0 : decode prog_4_method_10_code 0 = .ok (.aload_n 0, 1) := by decide +kernel
theorem d_PA_nextNumber_1 : decode prog_4_method_10_code 1 = .ok (.bipush 45, 2) := by decide +kernel
theorem d_PA_nextNumber_3 : decode prog_4_method_10_code 3 = .ok (.invokevirtual 38, 3) := by decide +kernel
theorem d_PA_nextNumber_6 : decode prog_4_method_10_code 6 = .ok (.istore_n 2, 1) := by decide +kernel
theorem d_PA_nextNumber_7 : decode prog_4_method_10_code 7 = .ok (.iconst 0, 1) := by decide +kernel
theorem d_PA_nextNumber_8 : decode prog_4_method_10_code 8 = .ok (.istore_n 3, 1) := by decide +kernel
theorem d_PA_nextNumber_9 : decode prog_4_method_10_code 9 = .ok (.iconst 0, 1) := by decide +kernel
theorem d_PA_nextNumber_10 : decode prog_4_method_10_code 10 = .ok (.istore 4, 2) := by decide +kernel
theorem d_PA_nextNumber_12 : decode prog_4_method_10_code 12 = .ok (.iload 4, 2) := by decide +kernel
theorem d_PA_nextNumber_14 : decode prog_4_method_10_code 14 = .ok (.bipush 6, 2) := by decide +kernel
theorem d_PA_nextNumber_16 : decode prog_4_method_10_code 16 = .ok (.if_icmp .ge 63, 3) := by decide +kernel
theorem d_PA_nextNumber_19 : decode prog_4_method_10_code 19 = .ok (.aload_n 0, 1) := by decide +kernel
theorem d_PA_nextNumber_20 : decode prog_4_method_10_code 20 = .ok (.getfield 31, 3) := by decide +kernel
theorem d_PA_nextNumber_23 : decode prog_4_method_10_code 23 = .ok (.aload_n 0, 1) := by decide +kernel
theorem d_PA_nextNumber_24 : decode prog_4_method_10_code 24 = .ok (.getfield 27, 3) := by decide +kernel
theorem d_PA_nextNumber_27 : decode prog_4_method_10_code 27 = .ok (.if_icmp .ge 52, 3) := by decide +kernel
theorem d_PA_nextNumber_30 : decode prog_4_method_10_code 30 = .ok (.aload_n 0, 1) := by decide +kernel
theorem d_PA_nextNumber_31 : decode prog_4_method_10_code 31 = .ok (.getfield 9, 3) := by decide +kernel
theorem d_PA_nextNumber_34 : decode prog_4_method_10_code 34 = .ok (.aload_n 0, 1) := by decide +kernel
theorem d_PA_nextNumber_35 : decode prog_4_method_10_code 35 = .ok (.getfield 31, 3) := by decide +kernel
theorem d_PA_nextNumber_38 : decode prog_4_method_10_code 38 = .ok (.caload, 1) := by decide +kernel
theorem d_PA_nextNumber_39 : decode prog_4_method_10_code 39 = .ok (.invokestatic 23, 3) := by decide +kernel
theorem d_PA_nextNumber_42 : decode prog_4_method_10_code 42 = .ok (.ifCond .eq 37, 3) := by decide +kernel
theorem d_PA_nextNumber_45 : decode prog_4_method_10_code 45 = .ok (.iload_n 3, 1) := by decide +kernel
theorem d_PA_nextNumber_46 : decode prog_4_method_10_code 46 = .ok (.bipush 10, 2) := by decide +kernel
theorem d_PA_nextNumber_48 : decode prog_4_method_10_code 48 = .ok (.imul, 1) := by decide +kernel
theorem d_PA_nextNumber_49 : decode prog_4_method_10_code 49 = .ok (.aload_n 0, 1) := by decide +kernel
theorem d_PA_nextNumber_50 : decode prog_4_method_10_code 50 = .ok (.getfield 9, 3) := by decide +kernel
theorem d_PA_nextNumber_53 : decode prog_4_method_10_code 53 = .ok (.aload_n 0, 1) := by decide +kernel
theorem d_PA_nextNumber_54 : decode prog_4_method_10_code 54 = .ok (.getfield 31, 3) := by decide +kernel
theorem d_PA_nextNumber_57 : decode prog_4_method_10_code 57 = .ok (.caload, 1) := by decide +kernel
theorem d_PA_nextNumber_58 : decode prog_4_method_10_code 58 = .ok (.bipush 48, 2) := by decide +kernel
theorem d_PA_nextNumber_60 : decode prog_4_method_10_code 60 = .ok (.isub, 1) := by decide +kernel
theorem d_PA_nextNumber_61 : decode prog_4_method_10_code 61 = .ok (.iadd, 1) := by decide +kernel
theorem d_PA_nextNumber_62 : decode prog_4_method_10_code 62 = .ok (.istore_n 3, 1) := by decide +kernel
theorem d_PA_nextNumber_63 : decode prog_4_method_10_code 63 = .ok (.iinc 4 1, 3) := by decide +kernel
theorem d_PA_nextNumber_66 : decode prog_4_method_10_code 66 = .ok (.aload_n 0, 1) := by decide +kernel
theorem d_PA_nextNumber_67 : decode prog_4_method_10_code 67 = .ok (.dup, 1) := by decide +kernel
theorem d_PA_nextNumber_68 : decode prog_4_method_10_code 68 = .ok (.getfield 31, 3) := by decide +kernel
theorem d_PA_nextNumber_71 : decode prog_4_method_10_code 71 = .ok (.iconst 1, 1) := by decide +kernel
theorem d_PA_nextNumber_72 : decode prog_4_method_10_code 72 = .ok (.iadd, 1) := by decide +kernel
theorem d_PA_nextNumber_73 : decode prog_4_method_10_code 73 = .ok (.putfield 31, 3) := by decide +kernel
theorem d_PA_nextNumber_76 : decode prog_4_method_10_code 76 = .ok (.goto (-64), 3) := by decide +kernel
theorem d_PA_nextNumber_79 : decode prog_4_method_10_code 79 = .ok (.aload_n 0, 1) := by decide +kernel
theorem d_PA_nextNumber_80 : decode prog_4_method_10_code 80 = .ok (.getfield 15, 3) := by decide +kernel
theorem d_PA_nextNumber_83 : decode prog_4_method_10_code 83 = .ok (.iload_n 1, 1) := by decide +kernel
theorem d_PA_nextNumber_84 : decode prog_4_method_10_code 84 = .ok (.iload_n 2, 1) := by decide +kernel
theorem d_PA_nextNumber_85 : decode prog_4_method_10_code 85 = .ok (.ifCond .eq 8, 3) := by decide +kernel
theorem d_PA_nextNumber_88 : decode prog_4_method_10_code 88 = .ok (.iload_n 3, 1) := by decide +kernel
theorem d_PA_nextNumber_89 : decode prog_4_method_10_code 89 = .ok (.ineg, 1) := by decide +kernel
theorem d_PA_nextNumber_90 : decode prog_4_method_10_code 90 = .ok (.goto 4, 3) := by decide +kernel
theorem d_PA_nextNumber_93 : decode prog_4_method_10_code 93 = .ok (.iload_n 3, 1) := by decide +kernel
theorem d_PA_nextNumber_94 : decode prog_4_method_10_code 94 = .ok (.iastore, 1) := by decide +kernel
theorem d_PA_nextNumber_95 : decode prog_4_method_10_code 95 = .ok (.iload 4, 2) := by decide +kernel
theorem d_PA_nextNumber_97 : decode prog_4_method_10_code 97 = .ok (.ifCond .le 7, 3) := by decide +kernel
theorem d_PA_nextNumber_100 : decode prog_4_method_10_code 100 = .ok (.iconst 1, 1) := by decide +kernel
theorem d_PA_nextNumber_101 : decode prog_4_method_10_code 101 = .ok (.goto 4, 3) := by decide +kernel
theorem d_PA_nextNumber_104 : decode prog_4_method_10_code 104 = .ok (.iconst 0, 1) := by decide +kernel
theorem d_PA_nextNumber_105 : decode prog_4_method_10_code 105 = .ok (.ireturn, 1) := by decide +kernel
theorem d_PA_nextRow_0 : decode prog_4_method_9_code 0 = .ok (.iconst 0, 1) := by decide +kernel
theorem d_PA_nextRow_1 : decode prog_4_method_9_code 1 = .ok (.istore_n 1, 1) := by decide +kernel
theorem d_PA_nextRow_2 : decode prog_4_method_9_code 2 = .ok (.iload_n 1, 1) := by decide +kernel
theorem d_PA_nextRow_3 : decode prog_4_method_9_code 3 = .ok (.iconst 4, 1) := by decide +kernel
theorem d_PA_nextRow_4 : decode prog_4_method_9_code 4 = .ok (.if_icmp .ge 40, 3) := by decide +kernel
theorem d_PA_nextRow_7 : decode prog_4_method_9_code 7 = .ok (.iload_n 1, 1) := by decide +kernel
theorem d_PA_nextRow_8 : decode prog_4_method_9_code 8 = .ok (.iconst 3, 1) := by decide +kernel
theorem d_PA_nextRow_9 : decode prog_4_method_9_code 9 = .ok (.if_icmp .ge 8, 3) := by decide +kernel
theorem d_PA_nextRow_12 : decode prog_4_method_9_code 12 = .ok (.bipush 32, 2) := by decide +kernel
theorem d_PA_nextRow_14 : decode prog_4_method_9_code 14 = .ok (.goto 5, 3) := by decide +kernel
theorem d_PA_nextRow_17 : decode prog_4_method_9_code 17 = .ok (.bipush 59, 2) := by decide +kernel
theorem d_PA_nextRow_19 : decode prog_4_method_9_code 19 = .ok (.istore_n 2, 1) := by decide +kernel
theorem d_PA_nextRow_20 : decode prog_4_method_9_code 20 = .ok (.aload_n 0, 1) := by decide +kernel
theorem d_PA_nextRow_21 : decode prog_4_method_9_code 21 = .ok (.iload_n 1, 1) := by decide +kernel
theorem d_PA_nextRow_22 : decode prog_4_method_9_code 22 = .ok (.invokevirtual 34, 3) := by decide +kernel
theorem d_PA_nextRow_25 : decode prog_4_method_9_code 25 = .ok (.ifCond .eq 11, 3) := by decide +kernel
theorem d_PA_nextRow_28 : decode prog_4_method_9_code 28 = .ok (.aload_n 0, 1) := by decide +kernel
theorem d_PA_nextRow_29 : decode prog_4_method_9_code 29 = .ok (.iload_n 2, 1) := by decide +kernel
theorem d_PA_nextRow_30 : decode prog_4_method_9_code 30 = .ok (.invokevirtual 38, 3) := by decide +kernel
theorem d_PA_nextRow_33 : decode prog_4_method_9_code 33 = .ok (.ifCond .ne 5, 3) := by decide +kernel
theorem d_PA_nextRow_36 : decode prog_4_method_9_code 36 = .ok (.iconst 0, 1) := by decide +kernel
theorem d_PA_nextRow_37 : decode prog_4_method_9_code 37 = .ok (.ireturn, 1) := by decide +kernel
theorem d_PA_nextRow_38 : decode prog_4_method_9_code 38 = .ok (.iinc 1 1, 3) := by decide +kernel
theorem d_PA_nextRow_41 : decode prog_4_method_9_code 41 = .ok (.goto (-39), 3) := by decide +kernel
theorem d_PA_nextRow_44 : decode prog_4_method_9_code 44 = .ok (.iconst 1, 1) := by decide +kernel
theorem d_PA_nextRow_45 : decode prog_4_method_9_code 45 = .ok (.ireturn, 1) := by decide +kernel
theorem d_PA_init_0 : decode prog_4_method_1_code 0 = .ok (.aload_n 0, 1) := by decide +kernel
theorem d_PA_init_1 : decode prog_4_method_1_code 1 = .ok (.invokespecial 3, 3) := by decide +kernel
theorem d_PA_init_4 : decode prog_4_method_1_code 4 = .ok (.aload_n 0, 1) := by decide +kernel
theorem d_PA_init_5 : decode prog_4_method_1_code 5 = .ok (.sipush 200, 3) := by decide +kernel
theorem d_PA_init_8 : decode prog_4_method_1_code 8 = .ok (.newarray .char, 2) := by decide +kernel
theorem d_PA_init_10 : decode prog_4_method_1_code 10 = .ok (.putfield 9, 3) := by decide +kernel
theorem d_PA_init_13 : decode prog_4_method_1_code 13 = .ok (.aload_n 0, 1) := by decide +kernel
theorem d_PA_init_14 : decode prog_4_method_1_code 14 = .ok (.iconst 4, 1) := by decide +kernel
theorem d_PA_init_15 : decode prog_4_method_1_code 15 = .ok (.newarray .int, 2) := by decide +kernel
theorem d_PA_init_17 : decode prog_4_method_1_code 17 = .ok (.putfield 15, 3) := by decide +kernel
theorem d_PA_init_20 : decode prog_4_method_1_code 20 = .ok (.return_, 1) := by decide +kernel
set_option maxHeartbeats 4000000 in
set_option maxRecDepth 100000 in
/-- Pad.signOf -/
theorem c_PA_signOf (l : Launch) (dC : Nat → ClassId) (dI : Nat → Nat → Nat) (a : Int32) (k : Nat)  : Met l xy_PA_signOf xw_PA_signOf ({ frames := 0, cells := 0, slots := 0, locals := 0 }) (xp_r [.int a, .int (nI k)] (dC, dI) xCl [] []) (xr_i (fun r => r = sr_sg a k)) 0 0 (fun _ => False) := by
  refine Met.ofW (cc := prog_4_method_2_code) (maxL := 2) (ret := (some .char)) (by decide) rfl ?_
  intro p e s m args below meth c s₁ B hml hv
  obtain ⟨rfl, hz, hP, hK⟩ := hv
  have hx := B.exec
  have hb := B.bytes
  have hr := B.returns
  have hts := atoms_spec (ws := xw_PA_signOf) B.pre
  have hown : s.vm.findClass xR_PA = some m.cls := findClass_of_methodNamed B.named
  have hlocks := B.notSynchronized
  have hP : va_P (dC, dI) xCl [] s.heap := hP
  have hl := lv_entry ([.int a, .int (nI k)]) (n := 2) (Nat.le_of_ble_eq_true rfl)
  rw [lg_entry_eq]
  generalize (lg_sl ([.int a, .int (nI k)]) ++ List.replicate (2 - (lg_sl ([.int a, .int (nI k)])).length) Slot.unset).toArray = ls at hl ⊢
  have hl : lv_has ls 2 [(0, .int a), (1, .int (nI k))] := hl
  refine lv_iload_n hx hb d_PA_signOf_0 rfl (lv_at hl 0 rfl) ?_
  refine lv_iload_n hx hb d_PA_signOf_1 rfl (lv_at hl 1 rfl) ?_
  refine lv_bipush (v := 8) hx hb d_PA_signOf_2 (by decide) ?_
  refine lv_imul hx hb d_PA_signOf_4 ?_
  refine lv_iushr (v := (a.toUInt32 >>> (((nI k) * 8).toUInt32 &&& Int32.toUInt32 31)).toInt32) hx hb d_PA_signOf_5 rfl ?_
  refine lv_sipush (v := 255) hx hb d_PA_signOf_6 (by decide) ?_
  refine lv_iand hx hb d_PA_signOf_9 ?_
  refine lv_i2c (v := ((((a.toUInt32 >>> (((nI k) * 8).toUInt32 &&& Int32.toUInt32 31)).toInt32) &&& 255).toUInt32 % 65536).toInt32) hx hb d_PA_signOf_10 rfl ?_
  exact xr_zret (v := ((((a.toUInt32 >>> (((nI k) * 8).toUInt32 &&& Int32.toUInt32 31)).toInt32) &&& 255).toUInt32 % 65536).toInt32) (ty := .char) hx hb hr (by exact (pk_nc _)) (by exact rfl) d_PA_signOf_11 hlocks
set_option maxHeartbeats 4000000 in
set_option maxRecDepth 100000 in
/-- Pad.signsIn -/
theorem c_PA_signsIn (l : Launch) (dC : Nat → ClassId) (dI : Nat → Nat → Nat) (a : Int32)  : Met l xy_PA_signsIn xw_PA_signsIn ({ frames := 1, cells := 0, slots := 0, locals := 21 }) (xp_r [.int a] (dC, dI) xCl [] []) (xr_i (fun r => r = nI (sr_si a 4))) 0 0 (fun _ => False) := by
  refine Met.ofW (cc := prog_4_method_3_code) (maxL := 3) (ret := (some .int)) (by decide) rfl ?_
  intro p e s m args below meth c s₁ B hml hv
  obtain ⟨rfl, hz, hP, hK⟩ := hv
  have hx := B.exec
  have hb := B.bytes
  have hr := B.returns
  have hts := atoms_spec (ws := xw_PA_signsIn) B.pre
  have hown : s.vm.findClass xR_PA = some m.cls := findClass_of_methodNamed B.named
  have hlocks := B.notSynchronized
  have hP : va_P (dC, dI) xCl [] s.heap := hP
  have hl := lv_entry ([.int a]) (n := 3) (Nat.le_of_ble_eq_true rfl)
  rw [lg_entry_eq]
  generalize (lg_sl ([.int a]) ++ List.replicate (3 - (lg_sl ([.int a])).length) Slot.unset).toArray = ls at hl ⊢
  have hl : lv_has ls 3 [(0, .int a)] := hl
  refine lv_iconst (v := 0) hx hb d_PA_signsIn_0 (by decide) ?_
  refine lv_istore_n (lv' := [(1, .int 0), (0, .int a)]) hx hb d_PA_signsIn_1 rfl hl (by decide) rfl (fun ls hl => ?_)
  refine lv_iconst (v := 0) hx hb d_PA_signsIn_2 (by decide) ?_
  refine lv_istore_n (lv' := [(2, .int 0), (1, .int 0), (0, .int a)]) hx hb d_PA_signsIn_3 rfl hl (by decide) rfl (fun ls hl => ?_)
  have lp4 : ∀ (fuel : Nat) (i : Nat) (x1 : Int32), 4 - i < fuel → i ≤ 4 → x1 = nI (sr_si a i) → ∀ (ls : Array Slot), lv_has ls 3 [(0, .int a), (1, .int x1), (2, .int (nI i))] → W p l e (headSpec xw_PA_signsIn ({ frames := 1, cells := 0, slots := 0, locals := 21 })).room s m ([.int a] : List Value).toArray below meth c s.heap [] 0 0 (MQ below (xr_i (fun r => r = nI (sr_si a 4))) ([.int a] : List Value).toArray s 0 0 (fun _ => False)) (F0 m 4 ls []) := by
    intro fuel
    induction fuel with
    | zero => intro i x1 hfu; exact absurd hfu (Nat.not_lt_zero _)
    | succ fuel ih =>
      intro i x1 hfu hi hx1 ls hl
      subst hx1
      refine lv_iload_n hx hb d_PA_signsIn_4 rfl (lv_at hl 2 rfl) ?_
      refine lv_iconst (v := 4) hx hb d_PA_signsIn_5 (by decide) ?_
      refine lv_icmp_ge (tgt := 31) hx hb d_PA_signsIn_6 (by decide) (fun c_1 => ?_) (fun c_1 => ?_)
      · have n_2 := xn_le (a := 4) (b := i) c_1 (by decide) rfl (by omega) (by omega)
        refine lv_iload_n hx hb d_PA_signsIn_31 rfl (lv_at hl 1 rfl) ?_
        exact xr_iret (v := nI (sr_si a i)) hx hb hr (by exact (by rw [show i = 4 by omega])) d_PA_signsIn_32 hlocks
      · have n_3 := xn_nle (a := 4) (b := i) c_1 (by decide) rfl (by omega) (by omega)
        refine lv_iload_n hx hb d_PA_signsIn_9 rfl (lv_at hl 1 rfl) ?_
        refine lv_iload_n hx hb d_PA_signsIn_10 rfl (lv_at hl 0 rfl) ?_
        refine lv_iload_n hx hb d_PA_signsIn_11 rfl (lv_at hl 2 rfl) ?_
        refine xr_calli (va_runS (As := [.int a, .int (nI i)]) (rest := [.int (nI (sr_si a i))]) ⟨hx, hb, hml, hown, hts⟩ (c_PA_signOf l dC dI a i) (va_cwS 2 hts (xgS wm_671 wm_672 wm_33 wm_673) rfl rfl rfl (by decide +kernel) ⟨Nat.le_of_ble_eq_true rfl, Nat.le_of_ble_eq_true rfl⟩) ⟨xp_blind, fun U hU hW => ⟨rfl, hz.warm hW, by rw [hU]; exact hP.sub [] rfl, va_K.moved hW.alike (hK.sub [] rfl)⟩⟩ rfl rfl hl.1 rfl (lv_room (Nat.le_of_ble_eq_true rfl)) d_PA_signsIn_12 ⟨Nat.le_of_ble_eq_true rfl, Nat.le_of_ble_eq_true rfl⟩) (fun r_4 h_5 => ?_)
        subst h_5
        refine lv_if_eq (tgt := 22) hx hb d_PA_signsIn_15 (by decide) (fun c_6 => ?_) (fun c_6 => ?_)
        · refine lv_iconst (v := 0) hx hb d_PA_signsIn_22 (by decide) ?_
          refine lv_iadd hx hb d_PA_signsIn_23 ?_
          refine xv_i (y := nI ((sr_si a i) + 0)) (nI_add _ 0) ?_
          refine lv_istore_n (lv' := [(1, .int (nI ((sr_si a i) + 0))), (0, .int a), (2, .int (nI i))]) hx hb d_PA_signsIn_24 rfl hl (by decide) rfl (fun ls hl => ?_)
          refine lv_iinc (v := nI (i + 1)) (lv' := [(2, .int (nI (i + 1))), (1, .int (nI ((sr_si a i) + 0))), (0, .int a)]) hx hb d_PA_signsIn_25 hl (k := 2) rfl (nI_1 _) (by decide) rfl (fun ls hl => ?_)
          refine lv_goto (tgt := 4) hx hb d_PA_signsIn_28 (by decide) ?_
          exact ih  (i + 1) (nI ((sr_si a i) + 0)) (by omega) (by omega) (congrArg nI (sr_si_f c_6).symm) ls (lv_sub hl [2, 1, 0] rfl)
        · refine lv_iconst (v := 1) hx hb d_PA_signsIn_18 (by decide) ?_
          refine lv_goto (tgt := 23) hx hb d_PA_signsIn_19 (by decide) ?_
          refine lv_iadd hx hb d_PA_signsIn_23 ?_
          refine xv_i (y := nI ((sr_si a i) + 1)) (nI_1 _) ?_
          refine lv_istore_n (lv' := [(1, .int (nI ((sr_si a i) + 1))), (0, .int a), (2, .int (nI i))]) hx hb d_PA_signsIn_24 rfl hl (by decide) rfl (fun ls hl => ?_)
          refine lv_iinc (v := nI (i + 1)) (lv' := [(2, .int (nI (i + 1))), (1, .int (nI ((sr_si a i) + 1))), (0, .int a)]) hx hb d_PA_signsIn_25 hl (k := 2) rfl (nI_1 _) (by decide) rfl (fun ls hl => ?_)
          refine lv_goto (tgt := 4) hx hb d_PA_signsIn_28 (by decide) ?_
          exact ih  (i + 1) (nI ((sr_si a i) + 1)) (by omega) (by omega) (congrArg nI (sr_si_t c_6).symm) ls (lv_sub hl [2, 1, 0] rfl)
  exact lp4 (4 - 0 + 1) 0 0 (by omega) (Nat.zero_le _) nI_0.symm ls (lv_sub hl [2, 1, 0] rfl)
set_option maxHeartbeats 4000000 in
set_option maxRecDepth 100000 in
/-- Pad.isDigit -/
theorem c_PA_isDigit (l : Launch) (dC : Nat → ClassId) (dI : Nat → Nat → Nat) (a : Int32)  : Met l xy_PA_isDigit xw_PA_isDigit ({ frames := 0, cells := 0, slots := 0, locals := 0 }) (xp_r [.int a] (dC, dI) xCl [] []) (xr_i (fun r => r = bI (sr_dig a))) 0 0 (fun _ => False) := by
  refine Met.ofW (cc := prog_4_method_5_code) (maxL := 1) (ret := (some .boolean)) (by decide) rfl ?_
  intro p e s m args below meth c s₁ B hml hv
  obtain ⟨rfl, hz, hP, hK⟩ := hv
  have hx := B.exec
  have hb := B.bytes
  have hr := B.returns
  have hts := atoms_spec (ws := xw_PA_isDigit) B.pre
  have hown : s.vm.findClass xR_PA = some m.cls := findClass_of_methodNamed B.named
  have hlocks := B.notSynchronized
  have hP : va_P (dC, dI) xCl [] s.heap := hP
  have hl := lv_entry ([.int a]) (n := 1) (Nat.le_of_ble_eq_true rfl)
  rw [lg_entry_eq]
  generalize (lg_sl ([.int a]) ++ List.replicate (1 - (lg_sl ([.int a])).length) Slot.unset).toArray = ls at hl ⊢
  have hl : lv_has ls 1 [(0, .int a)] := hl
  refine lv_iload_n hx hb d_PA_isDigit_0 rfl (lv_at hl 0 rfl) ?_
  refine lv_bipush (v := 48) hx hb d_PA_isDigit_1 (by decide) ?_
  refine lv_icmp_lt (tgt := 16) hx hb d_PA_isDigit_3 (by decide) (fun c_1 => ?_) (fun c_1 => ?_)
  · refine lv_iconst (v := 0) hx hb d_PA_isDigit_16 (by decide) ?_
    exact xr_zret (v := 0) (ty := .boolean) hx hb hr (by exact rfl) (by exact bI_n (fun q => q.1 c_1)) d_PA_isDigit_17 hlocks
  · refine lv_iload_n hx hb d_PA_isDigit_6 rfl (lv_at hl 0 rfl) ?_
    refine lv_bipush (v := 57) hx hb d_PA_isDigit_7 (by decide) ?_
    refine lv_icmp_gt (tgt := 16) hx hb d_PA_isDigit_9 (by decide) (fun c_2 => ?_) (fun c_2 => ?_)
    · refine lv_iconst (v := 0) hx hb d_PA_isDigit_16 (by decide) ?_
      exact xr_zret (v := 0) (ty := .boolean) hx hb hr (by exact rfl) (by exact bI_n (fun q => q.2 c_2)) d_PA_isDigit_17 hlocks
    · refine lv_iconst (v := 1) hx hb d_PA_isDigit_12 (by decide) ?_
      refine lv_goto (tgt := 17) hx hb d_PA_isDigit_13 (by decide) ?_
      exact xr_zret (v := 1) (ty := .boolean) hx hb hr (by exact rfl) (by exact bI_p ⟨c_1, c_2⟩) d_PA_isDigit_17 hlocks
set_option maxHeartbeats 4000000 in
set_option maxRecDepth 100000 in
/-- Pad.isGood -/
theorem c_PA_isGood (l : Launch) (dC : Nat → ClassId) (dI : Nat → Nat → Nat) (a : Int32)  : Met l xy_PA_isGood xw_PA_isGood ({ frames := 1, cells := 0, slots := 0, locals := 21 }) (xp_r [.int a] (dC, dI) xCl [] []) (xr_i (fun r => r = bI (sr_gd a 4 = true))) 0 0 (fun _ => False) := by
  refine Met.ofW (cc := prog_4_method_4_code) (maxL := 3) (ret := (some .boolean)) (by decide) rfl ?_
  intro p e s m args below meth c s₁ B hml hv
  obtain ⟨rfl, hz, hP, hK⟩ := hv
  have hx := B.exec
  have hb := B.bytes
  have hr := B.returns
  have hts := atoms_spec (ws := xw_PA_isGood) B.pre
  have hown : s.vm.findClass xR_PA = some m.cls := findClass_of_methodNamed B.named
  have hlocks := B.notSynchronized
  have hP : va_P (dC, dI) xCl [] s.heap := hP
  have hl := lv_entry ([.int a]) (n := 3) (Nat.le_of_ble_eq_true rfl)
  rw [lg_entry_eq]
  generalize (lg_sl ([.int a]) ++ List.replicate (3 - (lg_sl ([.int a])).length) Slot.unset).toArray = ls at hl ⊢
  have hl : lv_has ls 3 [(0, .int a)] := hl
  refine lv_iconst (v := 0) hx hb d_PA_isGood_0 (by decide) ?_
  refine lv_istore_n (lv' := [(1, .int 0), (0, .int a)]) hx hb d_PA_isGood_1 rfl hl (by decide) rfl (fun ls hl => ?_)
  have lp2 : ∀ (fuel : Nat) (i : Nat), 4 - i < fuel → i ≤ 4 → sr_gd a i = true → ∀ (ls : Array Slot), lv_has ls 3 [(0, .int a), (1, .int (nI i))] → W p l e (headSpec xw_PA_isGood ({ frames := 1, cells := 0, slots := 0, locals := 21 })).room s m ([.int a] : List Value).toArray below meth c s.heap [] 0 0 (MQ below (xr_i (fun r => r = bI (sr_gd a 4 = true))) ([.int a] : List Value).toArray s 0 0 (fun _ => False)) (F0 m 2 ls []) := by
    intro fuel
    induction fuel with
    | zero => intro i hfu; exact absurd hfu (Nat.not_lt_zero _)
    | succ fuel ih =>
      intro i hfu hi hg ls hl
      refine lv_iload_n hx hb d_PA_isGood_2 rfl (lv_at hl 1 rfl) ?_
      refine lv_iconst (v := 4) hx hb d_PA_isGood_3 (by decide) ?_
      refine lv_icmp_ge (tgt := 50) hx hb d_PA_isGood_4 (by decide) (fun c_1 => ?_) (fun c_1 => ?_)
      · have n_2 := xn_le (a := 4) (b := i) c_1 (by decide) rfl (by omega) (by omega)
        refine lv_iconst (v := 1) hx hb d_PA_isGood_50 (by decide) ?_
        exact xr_zret (v := 1) (ty := .boolean) hx hb hr (by exact rfl) (by exact bI_p (show sr_gd a 4 = true by rw [← show i = 4 by omega]; exact hg)) d_PA_isGood_51 hlocks
      · have n_3 := xn_nle (a := 4) (b := i) c_1 (by decide) rfl (by omega) (by omega)
        refine lv_iload_n hx hb d_PA_isGood_7 rfl (lv_at hl 0 rfl) ?_
        refine lv_iload_n hx hb d_PA_isGood_8 rfl (lv_at hl 1 rfl) ?_
        refine xr_calli (va_runS (As := [.int a, .int (nI i)]) (rest := []) ⟨hx, hb, hml, hown, hts⟩ (c_PA_signOf l dC dI a i) (va_cwS 2 hts (xgS wm_671 wm_672 wm_33 wm_673) rfl rfl rfl (by decide +kernel) ⟨Nat.le_of_ble_eq_true rfl, Nat.le_of_ble_eq_true rfl⟩) ⟨xp_blind, fun U hU hW => ⟨rfl, hz.warm hW, by rw [hU]; exact hP.sub [] rfl, va_K.moved hW.alike (hK.sub [] rfl)⟩⟩ rfl rfl hl.1 rfl (lv_room (Nat.le_of_ble_eq_true rfl)) d_PA_isGood_9 ⟨Nat.le_of_ble_eq_true rfl, Nat.le_of_ble_eq_true rfl⟩) (fun r_4 h_5 => ?_)
        subst h_5
        refine lv_istore_n (lv' := [(2, .int (sr_sg a i)), (0, .int a), (1, .int (nI i))]) hx hb d_PA_isGood_12 rfl hl (by decide) rfl (fun ls hl => ?_)
        refine lv_iload_n hx hb d_PA_isGood_13 rfl (lv_at hl 0 rfl) ?_
        refine lv_if_eq (tgt := 44) hx hb d_PA_isGood_14 (by decide) (fun c_6 => ?_) (fun c_6 => ?_)
        · refine lv_iinc (v := nI (i + 1)) (lv' := [(1, .int (nI (i + 1))), (2, .int (sr_sg a i)), (0, .int a)]) hx hb d_PA_isGood_44 hl (k := 2) rfl (nI_1 _) (by decide) rfl (fun ls hl => ?_)
          refine lv_goto (tgt := 2) hx hb d_PA_isGood_47 (by decide) ?_
          exact ih  (i + 1) (by omega) (by omega) (sr_gd_s hg (sr_gc_0 c_6)) ls (lv_sub hl [2, 0] rfl)
        · refine lv_iload_n hx hb d_PA_isGood_17 rfl (lv_at hl 0 rfl) ?_
          refine lv_bipush (v := 45) hx hb d_PA_isGood_18 (by decide) ?_
          refine lv_icmp_eq (tgt := 44) hx hb d_PA_isGood_20 (by decide) (fun c_7 => ?_) (fun c_7 => ?_)
          · refine lv_iinc (v := nI (i + 1)) (lv' := [(1, .int (nI (i + 1))), (2, .int (sr_sg a i)), (0, .int a)]) hx hb d_PA_isGood_44 hl (k := 2) rfl (nI_1 _) (by decide) rfl (fun ls hl => ?_)
            refine lv_goto (tgt := 2) hx hb d_PA_isGood_47 (by decide) ?_
            exact ih  (i + 1) (by omega) (by omega) (sr_gd_s hg (sr_gc_m c_7)) ls (lv_sub hl [2, 0] rfl)
          · refine lv_iload_n hx hb d_PA_isGood_23 rfl (lv_at hl 0 rfl) ?_
            refine lv_bipush (v := 32) hx hb d_PA_isGood_24 (by decide) ?_
            refine lv_icmp_eq (tgt := 44) hx hb d_PA_isGood_26 (by decide) (fun c_8 => ?_) (fun c_8 => ?_)
            · refine lv_iinc (v := nI (i + 1)) (lv' := [(1, .int (nI (i + 1))), (2, .int (sr_sg a i)), (0, .int a)]) hx hb d_PA_isGood_44 hl (k := 2) rfl (nI_1 _) (by decide) rfl (fun ls hl => ?_)
              refine lv_goto (tgt := 2) hx hb d_PA_isGood_47 (by decide) ?_
              exact ih  (i + 1) (by omega) (by omega) (sr_gd_s hg (sr_gc_b c_8)) ls (lv_sub hl [2, 0] rfl)
            · refine lv_iload_n hx hb d_PA_isGood_29 rfl (lv_at hl 0 rfl) ?_
              refine lv_bipush (v := 59) hx hb d_PA_isGood_30 (by decide) ?_
              refine lv_icmp_eq (tgt := 44) hx hb d_PA_isGood_32 (by decide) (fun c_9 => ?_) (fun c_9 => ?_)
              · refine lv_iinc (v := nI (i + 1)) (lv' := [(1, .int (nI (i + 1))), (2, .int (sr_sg a i)), (0, .int a)]) hx hb d_PA_isGood_44 hl (k := 2) rfl (nI_1 _) (by decide) rfl (fun ls hl => ?_)
                refine lv_goto (tgt := 2) hx hb d_PA_isGood_47 (by decide) ?_
                exact ih  (i + 1) (by omega) (by omega) (sr_gd_s hg (sr_gc_s c_9)) ls (lv_sub hl [2, 0] rfl)
              · refine lv_iload_n hx hb d_PA_isGood_35 rfl (lv_at hl 0 rfl) ?_
                refine xr_calli (va_runS (As := [.int (sr_sg a i)]) (rest := []) ⟨hx, hb, hml, hown, hts⟩ (c_PA_isDigit l dC dI (sr_sg a i)) (va_cwS 1 hts (xgS wm_356 wm_357 wm_33 wm_358) rfl rfl rfl (by decide +kernel) ⟨Nat.le_of_ble_eq_true rfl, Nat.le_of_ble_eq_true rfl⟩) ⟨xp_blind, fun U hU hW => ⟨rfl, hz.warm hW, by rw [hU]; exact hP.sub [] rfl, va_K.moved hW.alike (hK.sub [] rfl)⟩⟩ rfl rfl hl.1 rfl (lv_room (Nat.le_of_ble_eq_true rfl)) d_PA_isGood_36 ⟨Nat.le_of_ble_eq_true rfl, Nat.le_of_ble_eq_true rfl⟩) (fun r_10 h_11 => ?_)
                refine lv_if_ne (tgt := 44) hx hb d_PA_isGood_39 (by decide) (fun c_12 => ?_) (fun c_12 => ?_)
                · have b_13 := bI_t h_11 c_12
                  refine lv_iinc (v := nI (i + 1)) (lv' := [(1, .int (nI (i + 1))), (2, .int (sr_sg a i)), (0, .int a)]) hx hb d_PA_isGood_44 hl (k := 2) rfl (nI_1 _) (by decide) rfl (fun ls hl => ?_)
                  refine lv_goto (tgt := 2) hx hb d_PA_isGood_47 (by decide) ?_
                  exact ih  (i + 1) (by omega) (by omega) (sr_gd_s hg (sr_gc_d b_13)) ls (lv_sub hl [2, 0] rfl)
                · have b_14 := bI_f h_11 c_12
                  refine lv_iconst (v := 0) hx hb d_PA_isGood_42 (by decide) ?_
                  exact xr_zret (v := 0) (ty := .boolean) hx hb hr (by exact rfl) (by exact bI_n (sr_gd_f (by omega) (sr_gc_n c_6 c_7 c_8 c_9 b_14))) d_PA_isGood_43 hlocks
  exact lp2 (4 - 0 + 1) 0 (by omega) (Nat.zero_le _) rfl ls (lv_sub hl [1, 0] rfl)
set_option maxHeartbeats 4000000 in
set_option maxRecDepth 100000 in
/-- Pad.addSignsOf -/
theorem c_PA_addSignsOf (l : Launch) (dC : Nat → ClassId) (dI : Nat → Nat → Nat) (sz : Nat) (h0 : Nat) (qg : Nat) (qn : Nat) (pn : Nat) (pt : Nat) (cg : ClassId) (sg : Nat → Int32) (a : Int32) (hc : pn ≤ 200) : Met l xy_PA_addSignsOf xw_PA_addSignsOf ({ frames := 1, cells := 0, slots := 0, locals := 21 }) (xp_w [.ref h0, .int a] sz (dC, dI) xCl [(h0, .inr (6, [.ref qg, .ref qn, .int (nI pn), .int (nI pt)])), (qg, .inl (cg, 200, .inl sg))] [(cg, .char)]) (va_Qv (fun (_ : Unit) => True) (fun _ t => xb_w (dC, dI) xCl [(h0, .inr (6, [.ref qg, .ref qn, .int (nI (sr_ad a sg pn 4).2), .int (nI pt)])), (qg, .inl (cg, 200, .inl (sr_ad a sg pn 4).1))] [(cg, .char)] (va_A [(h0, .inr (6, [.ref qg, .ref qn, .int (nI pn), .int (nI pt)])), (qg, .inl (cg, 200, .inl sg))] sz) t) (va_A [(h0, .inr (6, [.ref qg, .ref qn, .int (nI pn), .int (nI pt)])), (qg, .inl (cg, 200, .inl sg))] sz)) 0 0 (va_A [(h0, .inr (6, [.ref qg, .ref qn, .int (nI pn), .int (nI pt)])), (qg, .inl (cg, 200, .inl sg))] sz) := by
  refine Met.ofW (cc := prog_4_method_6_code) (maxL := 4) (ret := none) (by decide) rfl ?_
  intro p e s m args below meth c s₁ B hml hv
  obtain ⟨rfl, hsz, hz, hP, hK, hD0⟩ := hv
  have hx := B.exec
  have hb := B.bytes
  have hr := B.returns
  have hts := atoms_spec (ws := xw_PA_addSignsOf) B.pre
  have hown : s.vm.findClass xR_PA = some m.cls := findClass_of_methodNamed B.named
  have hlocks := B.notSynchronized
  subst hsz
  have hD := hD0.self (sz := s.heap.size)
  generalize hAe : va_A [(h0, .inr (6, [.ref qg, .ref qn, .int (nI pn), .int (nI pt)])), (qg, .inl (cg, 200, .inl sg))] s.heap.size = A at hD ⊢
  have hA : ∀ q : Nat, s.heap.size ≤ q → A q := fun q h => by rw [← hAe]; exact Or.inr h
  have hS : va_S A s.heap s.heap [] := va_S.rf
  have hP : va_P (dC, dI) xCl [(h0, .inr (6, [.ref qg, .ref qn, .int (nI pn), .int (nI pt)])), (qg, .inl (cg, 200, .inl sg))] s.heap := hP
  have hl := lv_entry ([.ref h0, .int a]) (n := 4) (Nat.le_of_ble_eq_true rfl)
  rw [lg_entry_eq]
  generalize (lg_sl ([.ref h0, .int a]) ++ List.replicate (4 - (lg_sl ([.ref h0, .int a])).length) Slot.unset).toArray = ls at hl ⊢
  have hl : lv_has ls 4 [(0, .ref h0), (1, .int a)] := hl
  refine lv_iconst (v := 0) hx hb d_PA_addSignsOf_0 (by decide) ?_
  refine lv_istore_n (lv' := [(2, .int 0), (0, .ref h0), (1, .int a)]) hx hb d_PA_addSignsOf_1 rfl hl (by decide) rfl (fun ls hl => ?_)
  have lp2 : ∀ (fuel : Nat) (i : Nat) (z : Nat) (zg : Nat → Int32), 4 - i < fuel → i ≤ 4 → z ≤ 200 → z = (sr_ad a sg pn i).2 → zg = (sr_ad a sg pn i).1 → ∀ (H : Heap) (locs : List Loc), va_P (dC, dI) xCl [(h0, .inr (6, [.ref qg, .ref qn, .int (nI z), .int (nI pt)])), (qg, .inl (cg, 200, .inl zg))] H → va_D A [(h0, .inr (6, [.ref qg, .ref qn, .int (nI z), .int (nI pt)])), (qg, .inl (cg, 200, .inl zg))] → va_S A s.heap H locs → ∀ (ls : Array Slot), lv_has ls 4 [(0, .ref h0), (1, .int a), (2, .int (nI i))] → W p l e (headSpec xw_PA_addSignsOf ({ frames := 1, cells := 0, slots := 0, locals := 21 })).room s m ([.ref h0, .int a] : List Value).toArray below meth c H locs 0 0 (MQ below (va_Qv (fun (_ : Unit) => True) (fun _ t => xb_w (dC, dI) xCl [(h0, .inr (6, [.ref qg, .ref qn, .int (nI (sr_ad a sg pn 4).2), .int (nI pt)])), (qg, .inl (cg, 200, .inl (sr_ad a sg pn 4).1))] [(cg, .char)] A t) A) ([.ref h0, .int a] : List Value).toArray s 0 0 A) (F0 m 2 ls []) := by
    intro fuel
    induction fuel with
    | zero => intro i z zg hfu; exact absurd hfu (Nat.not_lt_zero _)
    | succ fuel ih =>
      intro i z zg hfu hi hz2 hz hzg H locs hP hD hS ls hl
      subst hz
      subst hzg
      refine lv_iload_n hx hb d_PA_addSignsOf_2 rfl (lv_at hl 2 rfl) ?_
      refine lv_iconst (v := 4) hx hb d_PA_addSignsOf_3 (by decide) ?_
      refine lv_icmp_ge (tgt := 53) hx hb d_PA_addSignsOf_4 (by decide) (fun c_1 => ?_) (fun c_1 => ?_)
      · have n_2 := xn_le (a := 4) (b := i) c_1 (by decide) rfl (by omega) (by omega)
        have e9 : i = 4 := by omega
        rw [e9] at hP hD
        have hP9 := hP.sub (ws' := [(h0, .inr (6, [.ref qg, .ref qn, .int (nI (sr_ad a sg pn 4).2), .int (nI pt)])), (qg, .inl (cg, 200, .inl (sr_ad a sg pn 4).1))]) [0, 1] rfl
        have hD9 := hD.sub (ws' := [(h0, .inr (6, [.ref qg, .ref qn, .int (nI (sr_ad a sg pn 4).2), .int (nI pt)])), (qg, .inl (cg, 200, .inl (sr_ad a sg pn 4).1))]) [0, 1] (by decide) rfl
        have hK9 := hK.sub (tys' := [(cg, .char)]) [0] rfl
        exact W.vret hx hb hr (fun t ht hW => ⟨⟨(), rfl, trivial, ⟨by rw [ht]; exact hP9, va_K.moved hW.alike hK9, by exact hD9⟩⟩, hS.F ht⟩) hS.2.2 d_PA_addSignsOf_53 hlocks
      · have n_3 := xn_nle (a := 4) (b := i) c_1 (by decide) rfl (by omega) (by omega)
        refine lv_iload_n hx hb d_PA_addSignsOf_7 rfl (lv_at hl 1 rfl) ?_
        refine lv_iload_n hx hb d_PA_addSignsOf_8 rfl (lv_at hl 2 rfl) ?_
        refine xr_calli (va_runS (As := [.int a, .int (nI i)]) (rest := []) ⟨hx, hb, hml, hown, hts⟩ (c_PA_signOf l dC dI a i) (va_cwS 2 hts (xgS wm_671 wm_672 wm_33 wm_673) rfl rfl rfl (by decide +kernel) ⟨Nat.le_of_ble_eq_true rfl, Nat.le_of_ble_eq_true rfl⟩) ⟨xp_blind, fun U hU hW => ⟨rfl, hz.warm hW, by rw [hU]; exact hP.sub [] rfl, va_K.moved hW.alike (hK.sub [] rfl)⟩⟩ rfl rfl hl.1 rfl (lv_room (Nat.le_of_ble_eq_true rfl)) d_PA_addSignsOf_9 ⟨Nat.le_of_ble_eq_true rfl, Nat.le_of_ble_eq_true rfl⟩) (fun r_4 h_5 => ?_)
        subst h_5
        refine lv_istore_n (lv' := [(3, .int (sr_sg a i)), (0, .ref h0), (1, .int a), (2, .int (nI i))]) hx hb d_PA_addSignsOf_12 rfl hl (by decide) rfl (fun ls hl => ?_)
        refine lv_iload_n hx hb d_PA_addSignsOf_13 rfl (lv_at hl 0 rfl) ?_
        refine lv_if_eq (tgt := 47) hx hb d_PA_addSignsOf_14 (by decide) (fun c_6 => ?_) (fun c_6 => ?_)
        · refine lv_iinc (v := nI (i + 1)) (lv' := [(2, .int (nI (i + 1))), (3, .int (sr_sg a i)), (0, .ref h0), (1, .int a)]) hx hb d_PA_addSignsOf_47 hl (k := 3) rfl (nI_1 _) (by decide) rfl (fun ls hl => ?_)
          refine lv_goto (tgt := 2) hx hb d_PA_addSignsOf_50 (by decide) ?_
          exact ih  (i + 1) (sr_ad a sg pn i).2 (sr_ad a sg pn i).1 (by omega) (by omega) (by omega) (by rw [sr_ad_0 c_6]) (by rw [sr_ad_0 c_6]) _ _ (hP.sub [0, 1] rfl) (hD.sub [0, 1] (by decide) rfl) hS ls (lv_sub hl [2, 3, 0] rfl)
        · refine lv_aload_n hx hb d_PA_addSignsOf_17 rfl (lv_at hl 1 rfl) ?_
          refine va_get (D := (dC, dI)) (ci := 6) (v := .int (nI (sr_ad a sg pn i).2)) (C := xR_PA) (T := xT_PA) (N := 4) hx hb hts (fun w h => List.mem_cons_of_mem _ (iw_PA w h)) hown hK hP 0 rfl rfl 2 (by decide) (hts _ (List.mem_cons_of_mem _ wm_233)) (fun _ h9 => h9) rfl d_PA_addSignsOf_18 ?_
          refine lv_sipush (v := 200) hx hb d_PA_addSignsOf_21 (by decide) ?_
          refine lv_icmp_ge (tgt := 47) hx hb d_PA_addSignsOf_24 (by decide) (fun c_7 => ?_) (fun c_7 => ?_)
          · have n_8 := xn_le (a := 200) (b := (sr_ad a sg pn i).2) c_7 (by decide) rfl (by omega) (by omega)
            refine lv_iinc (v := nI (i + 1)) (lv' := [(2, .int (nI (i + 1))), (3, .int (sr_sg a i)), (0, .ref h0), (1, .int a)]) hx hb d_PA_addSignsOf_47 hl (k := 3) rfl (nI_1 _) (by decide) rfl (fun ls hl => ?_)
            refine lv_goto (tgt := 2) hx hb d_PA_addSignsOf_50 (by decide) ?_
            exact ih  (i + 1) (sr_ad a sg pn i).2 (sr_ad a sg pn i).1 (by omega) (by omega) (by omega) (by rw [sr_ad_f n_8]) (by rw [sr_ad_f n_8]) _ _ (hP.sub [0, 1] rfl) (hD.sub [0, 1] (by decide) rfl) hS ls (lv_sub hl [2, 3, 0] rfl)
          · have n_9 := xn_nle (a := 200) (b := (sr_ad a sg pn i).2) c_7 (by decide) rfl (by omega) (by omega)
            refine lv_aload_n hx hb d_PA_addSignsOf_27 rfl (lv_at hl 1 rfl) ?_
            refine va_get (D := (dC, dI)) (ci := 6) (v := .ref qg) (C := xR_PA) (T := xT_PA) (N := 4) hx hb hts (fun w h => List.mem_cons_of_mem _ (iw_PA w h)) hown hK hP 0 rfl rfl 0 (by decide) (hts _ (List.mem_cons_of_mem _ wm_230)) (fun _ h9 => h9) rfl d_PA_addSignsOf_28 ?_
            refine lv_aload_n hx hb d_PA_addSignsOf_31 rfl (lv_at hl 1 rfl) ?_
            refine va_get (D := (dC, dI)) (ci := 6) (v := .int (nI (sr_ad a sg pn i).2)) (C := xR_PA) (T := xT_PA) (N := 4) hx hb hts (fun w h => List.mem_cons_of_mem _ (iw_PA w h)) hown hK hP 0 rfl rfl 2 (by decide) (hts _ (List.mem_cons_of_mem _ wm_233)) (fun _ h9 => h9) rfl d_PA_addSignsOf_32 ?_
            refine lv_iload_n hx hb d_PA_addSignsOf_35 rfl (lv_at hl 0 rfl) ?_
            refine xa_cast hx hb hK hP hD hS 1 0 rfl rfl (sr_ad a sg pn i).2 rfl (by omega) (by decide) (sr_sg_nar _ _) d_PA_addSignsOf_36 (fun H locs hP hD hS => ?_)
            have hP : va_P (dC, dI) xCl [(h0, .inr (6, [.ref qg, .ref qn, .int (nI (sr_ad a sg pn i).2), .int (nI pt)])), (qg, .inl (cg, 200, .inl (upd (sr_ad a sg pn i).1 (sr_ad a sg pn i).2 (sr_sg a i))))] H := hP
            have hD : va_D A [(h0, .inr (6, [.ref qg, .ref qn, .int (nI (sr_ad a sg pn i).2), .int (nI pt)])), (qg, .inl (cg, 200, .inl (upd (sr_ad a sg pn i).1 (sr_ad a sg pn i).2 (sr_sg a i))))] := hD
            refine lv_aload_n hx hb d_PA_addSignsOf_37 rfl (lv_at hl 1 rfl) ?_
            refine lv_dup hx hb d_PA_addSignsOf_38 rfl ?_
            refine va_get (D := (dC, dI)) (ci := 6) (v := .int (nI (sr_ad a sg pn i).2)) (C := xR_PA) (T := xT_PA) (N := 4) hx hb hts (fun w h => List.mem_cons_of_mem _ (iw_PA w h)) hown hK hP 0 rfl rfl 2 (by decide) (hts _ (List.mem_cons_of_mem _ wm_233)) (fun _ h9 => h9) rfl d_PA_addSignsOf_39 ?_
            refine lv_iconst (v := 1) hx hb d_PA_addSignsOf_42 (by decide) ?_
            refine lv_iadd hx hb d_PA_addSignsOf_43 ?_
            refine xv_i (y := nI ((sr_ad a sg pn i).2 + 1)) (nI_1 _) ?_
            refine va_put (D := (dC, dI)) (ci := 6) (v := .int (nI ((sr_ad a sg pn i).2 + 1))) (ty := .int) (C := xR_PA) (T := xT_PA) (N := 4) hx hb hts (fun w h => List.mem_cons_of_mem _ (iw_PA w h)) xt_PA xt_PA_ok xn_PA_nm hown hK hP hD hS 0 rfl rfl 2 (by decide) (hts _ (List.mem_cons_of_mem _ wm_233)) (fun _ h9 => h9) rfl (by decide +kernel) rfl rfl (Nat.le_of_ble_eq_true rfl) d_PA_addSignsOf_44 (fun H locs hP hD hS => ?_)
            have hP : va_P (dC, dI) xCl [(h0, .inr (6, [.ref qg, .ref qn, .int (nI ((sr_ad a sg pn i).2 + 1)), .int (nI pt)])), (qg, .inl (cg, 200, .inl (upd (sr_ad a sg pn i).1 (sr_ad a sg pn i).2 (sr_sg a i))))] H := hP
            have hD : va_D A [(h0, .inr (6, [.ref qg, .ref qn, .int (nI ((sr_ad a sg pn i).2 + 1)), .int (nI pt)])), (qg, .inl (cg, 200, .inl (upd (sr_ad a sg pn i).1 (sr_ad a sg pn i).2 (sr_sg a i))))] := hD
            refine lv_iinc (v := nI (i + 1)) (lv' := [(2, .int (nI (i + 1))), (3, .int (sr_sg a i)), (0, .ref h0), (1, .int a)]) hx hb d_PA_addSignsOf_47 hl (k := 3) rfl (nI_1 _) (by decide) rfl (fun ls hl => ?_)
            refine lv_goto (tgt := 2) hx hb d_PA_addSignsOf_50 (by decide) ?_
            exact ih  (i + 1) ((sr_ad a sg pn i).2 + 1) (upd (sr_ad a sg pn i).1 (sr_ad a sg pn i).2 (sr_sg a i)) (by omega) (by omega) (by omega) (by rw [sr_ad_t c_6 n_9]) (by rw [sr_ad_t c_6 n_9]) _ _ (hP.sub [0, 1] rfl) (hD.sub [0, 1] (by decide) rfl) hS ls (lv_sub hl [2, 3, 0] rfl)
  exact lp2 (4 - 0 + 1) 0 pn sg (by omega) (Nat.zero_le _) hc rfl rfl _ _ (hP.sub [0, 1] rfl) (hD.sub [0, 1] (by decide) rfl) hS ls (lv_sub hl [1, 2, 0] rfl)
set_option maxHeartbeats 4000000 in
set_option maxRecDepth 100000 in
/-- Pad.rewind -/
theorem c_PA_rewind (l : Launch) (dC : Nat → ClassId) (dI : Nat → Nat → Nat) (sz : Nat) (h0 : Nat) (qg : Nat) (qn : Nat) (pn : Nat) (pt : Nat)  : Met l xy_PA_rewind xw_PA_rewind ({ frames := 0, cells := 0, slots := 0, locals := 0 }) (xp_w [.ref h0] sz (dC, dI) xCl [(h0, .inr (6, [.ref qg, .ref qn, .int (nI pn), .int (nI pt)]))] []) (va_Qv (fun (_ : Unit) => True) (fun _ t => xb_w (dC, dI) xCl [(h0, .inr (6, [.ref qg, .ref qn, .int (nI pn), .int (nI 0)]))] [] (va_A [(h0, .inr (6, [.ref qg, .ref qn, .int (nI pn), .int (nI pt)]))] sz) t) (va_A [(h0, .inr (6, [.ref qg, .ref qn, .int (nI pn), .int (nI pt)]))] sz)) 0 0 (va_A [(h0, .inr (6, [.ref qg, .ref qn, .int (nI pn), .int (nI pt)]))] sz) := by
  refine Met.ofW (cc := prog_4_method_7_code) (maxL := 1) (ret := none) (by decide) rfl ?_
  intro p e s m args below meth c s₁ B hml hv
  obtain ⟨rfl, hsz, hz, hP, hK, hD0⟩ := hv
  have hx := B.exec
  have hb := B.bytes
  have hr := B.returns
  have hts := atoms_spec (ws := xw_PA_rewind) B.pre
  have hown : s.vm.findClass xR_PA = some m.cls := findClass_of_methodNamed B.named
  have hlocks := B.notSynchronized
  subst hsz
  have hD := hD0.self (sz := s.heap.size)
  generalize hAe : va_A [(h0, .inr (6, [.ref qg, .ref qn, .int (nI pn), .int (nI pt)]))] s.heap.size = A at hD ⊢
  have hA : ∀ q : Nat, s.heap.size ≤ q → A q := fun q h => by rw [← hAe]; exact Or.inr h
  have hS : va_S A s.heap s.heap [] := va_S.rf
  have hP : va_P (dC, dI) xCl [(h0, .inr (6, [.ref qg, .ref qn, .int (nI pn), .int (nI pt)]))] s.heap := hP
  have hl := lv_entry ([.ref h0]) (n := 1) (Nat.le_of_ble_eq_true rfl)
  rw [lg_entry_eq]
  generalize (lg_sl ([.ref h0]) ++ List.replicate (1 - (lg_sl ([.ref h0])).length) Slot.unset).toArray = ls at hl ⊢
  have hl : lv_has ls 1 [(0, .ref h0)] := hl
  refine lv_aload_n hx hb d_PA_rewind_0 rfl (lv_at hl 0 rfl) ?_
  refine lv_iconst (v := 0) hx hb d_PA_rewind_1 (by decide) ?_
  refine va_put (D := (dC, dI)) (ci := 6) (v := .int 0) (ty := .int) (C := xR_PA) (T := xT_PA) (N := 4) hx hb hts (fun w h => List.mem_cons_of_mem _ (iw_PA w h)) xt_PA xt_PA_ok xn_PA_nm hown hK hP hD hS 0 rfl rfl 3 (by decide) (hts _ (List.mem_cons_of_mem _ wm_235)) (fun _ h9 => h9) rfl (by decide +kernel) rfl rfl (Nat.le_of_ble_eq_true rfl) d_PA_rewind_2 (fun H locs hP hD hS => ?_)
  have hP : va_P (dC, dI) xCl [(h0, .inr (6, [.ref qg, .ref qn, .int (nI pn), .int 0]))] H := hP
  have hD : va_D A [(h0, .inr (6, [.ref qg, .ref qn, .int (nI pn), .int 0]))] := hD
  have hP9 := hP.sub (ws' := [(h0, .inr (6, [.ref qg, .ref qn, .int (nI pn), .int 0]))]) [0] rfl
  have hD9 := hD.sub (ws' := [(h0, .inr (6, [.ref qg, .ref qn, .int (nI pn), .int 0]))]) [0] (by decide) rfl
  have hK9 := hK.sub (tys' := []) [] rfl
  exact W.vret hx hb hr (fun t ht hW => ⟨⟨(), rfl, trivial, ⟨by rw [ht]; exact hP9, va_K.moved hW.alike hK9, by exact hD9⟩⟩, hS.F ht⟩) hS.2.2 d_PA_rewind_5 hlocks
set_option maxHeartbeats 4000000 in
set_option maxRecDepth 100000 in
/-- Pad.isAtEnd -/
theorem c_PA_isAtEnd (l : Launch) (dC : Nat → ClassId) (dI : Nat → Nat → Nat) (h0 : Nat) (qg : Nat) (qn : Nat) (pn : Nat) (pt : Nat) (hc : pn ≤ 200) (ha : pt ≤ 200) : Met l xy_PA_isAtEnd xw_PA_isAtEnd ({ frames := 0, cells := 0, slots := 0, locals := 0 }) (xp_r [.ref h0] (dC, dI) xCl [(h0, .inr (6, [.ref qg, .ref qn, .int (nI pn), .int (nI pt)]))] []) (xr_i (fun r => r = bI (pn ≤ pt))) 0 0 (fun _ => False) := by
  refine Met.ofW (cc := prog_4_method_8_code) (maxL := 1) (ret := (some .boolean)) (by decide) rfl ?_
  intro p e s m args below meth c s₁ B hml hv
  obtain ⟨rfl, hz, hP, hK⟩ := hv
  have hx := B.exec
  have hb := B.bytes
  have hr := B.returns
  have hts := atoms_spec (ws := xw_PA_isAtEnd) B.pre
  have hown : s.vm.findClass xR_PA = some m.cls := findClass_of_methodNamed B.named
  have hlocks := B.notSynchronized
  have hP : va_P (dC, dI) xCl [(h0, .inr (6, [.ref qg, .ref qn, .int (nI pn), .int (nI pt)]))] s.heap := hP
  have hl := lv_entry ([.ref h0]) (n := 1) (Nat.le_of_ble_eq_true rfl)
  rw [lg_entry_eq]
  generalize (lg_sl ([.ref h0]) ++ List.replicate (1 - (lg_sl ([.ref h0])).length) Slot.unset).toArray = ls at hl ⊢
  have hl : lv_has ls 1 [(0, .ref h0)] := hl
  refine lv_aload_n hx hb d_PA_isAtEnd_0 rfl (lv_at hl 0 rfl) ?_
  refine va_get (D := (dC, dI)) (ci := 6) (v := .int (nI pt)) (C := xR_PA) (T := xT_PA) (N := 4) hx hb hts (fun w h => List.mem_cons_of_mem _ (iw_PA w h)) hown hK hP 0 rfl rfl 3 (by decide) (hts _ (List.mem_cons_of_mem _ wm_235)) (fun _ h9 => h9) rfl d_PA_isAtEnd_1 ?_
  refine lv_aload_n hx hb d_PA_isAtEnd_4 rfl (lv_at hl 0 rfl) ?_
  refine va_get (D := (dC, dI)) (ci := 6) (v := .int (nI pn)) (C := xR_PA) (T := xT_PA) (N := 4) hx hb hts (fun w h => List.mem_cons_of_mem _ (iw_PA w h)) hown hK hP 0 rfl rfl 2 (by decide) (hts _ (List.mem_cons_of_mem _ wm_233)) (fun _ h9 => h9) rfl d_PA_isAtEnd_5 ?_
  refine lv_icmp_lt (tgt := 15) hx hb d_PA_isAtEnd_8 (by decide) (fun c_1 => ?_) (fun c_1 => ?_)
  · have n_2 := xn_lt (a := pt) (b := pn) c_1 rfl rfl (by omega) (by omega)
    refine lv_iconst (v := 0) hx hb d_PA_isAtEnd_15 (by decide) ?_
    exact xr_zret (v := 0) (ty := .boolean) hx hb hr (by exact rfl) (by exact bI_n (by omega)) d_PA_isAtEnd_16 hlocks
  · have n_3 := xn_nlt (a := pt) (b := pn) c_1 rfl rfl (by omega) (by omega)
    refine lv_iconst (v := 1) hx hb d_PA_isAtEnd_11 (by decide) ?_
    refine lv_goto (tgt := 16) hx hb d_PA_isAtEnd_12 (by decide) ?_
    exact xr_zret (v := 1) (ty := .boolean) hx hb hr (by exact rfl) (by exact bI_p n_3) d_PA_isAtEnd_16 hlocks
set_option maxHeartbeats 4000000 in
set_option maxRecDepth 100000 in
/-- Pad.skips -/
theorem c_PA_skips (l : Launch) (dC : Nat → ClassId) (dI : Nat → Nat → Nat) (sz : Nat) (h0 : Nat) (qg : Nat) (qn : Nat) (pn : Nat) (pt : Nat) (cg : ClassId) (sg : Nat → Int32) (a : Int32) (hc : pn ≤ 200) (ha : pt ≤ 200) : Met l xy_PA_skips xw_PA_skips ({ frames := 0, cells := 0, slots := 0, locals := 0 }) (xp_w [.ref h0, .int a] sz (dC, dI) xCl [(h0, .inr (6, [.ref qg, .ref qn, .int (nI pn), .int (nI pt)])), (qg, .inl (cg, 200, .inl sg))] [(cg, .char)]) (va_Qi (fun (r : Int32) (_ : Unit) => r = bI (pt < pn ∧ sg pt = a)) (fun _ t => xb_w (dC, dI) xCl [(h0, .inr (6, [.ref qg, .ref qn, .int (nI pn), .int (nI (sr_sk sg pn pt a))])), (qg, .inl (cg, 200, .inl sg))] [(cg, .char)] (va_A [(h0, .inr (6, [.ref qg, .ref qn, .int (nI pn), .int (nI pt)])), (qg, .inl (cg, 200, .inl sg))] sz) t) (va_A [(h0, .inr (6, [.ref qg, .ref qn, .int (nI pn), .int (nI pt)])), (qg, .inl (cg, 200, .inl sg))] sz)) 0 0 (va_A [(h0, .inr (6, [.ref qg, .ref qn, .int (nI pn), .int (nI pt)])), (qg, .inl (cg, 200, .inl sg))] sz) := by
  refine Met.ofW (cc := prog_4_method_11_code) (maxL := 2) (ret := (some .boolean)) (by decide) rfl ?_
  intro p e s m args below meth c s₁ B hml hv
  obtain ⟨rfl, hsz, hz, hP, hK, hD0⟩ := hv
  have hx := B.exec
  have hb := B.bytes
  have hr := B.returns
  have hts := atoms_spec (ws := xw_PA_skips) B.pre
  have hown : s.vm.findClass xR_PA = some m.cls := findClass_of_methodNamed B.named
  have hlocks := B.notSynchronized
  subst hsz
  have hD := hD0.self (sz := s.heap.size)
  generalize hAe : va_A [(h0, .inr (6, [.ref qg, .ref qn, .int (nI pn), .int (nI pt)])), (qg, .inl (cg, 200, .inl sg))] s.heap.size = A at hD ⊢
  have hA : ∀ q : Nat, s.heap.size ≤ q → A q := fun q h => by rw [← hAe]; exact Or.inr h
  have hS : va_S A s.heap s.heap [] := va_S.rf
  have hP : va_P (dC, dI) xCl [(h0, .inr (6, [.ref qg, .ref qn, .int (nI pn), .int (nI pt)])), (qg, .inl (cg, 200, .inl sg))] s.heap := hP
  have hl := lv_entry ([.ref h0, .int a]) (n := 2) (Nat.le_of_ble_eq_true rfl)
  rw [lg_entry_eq]
  generalize (lg_sl ([.ref h0, .int a]) ++ List.replicate (2 - (lg_sl ([.ref h0, .int a])).length) Slot.unset).toArray = ls at hl ⊢
  have hl : lv_has ls 2 [(0, .ref h0), (1, .int a)] := hl
  refine lv_aload_n hx hb d_PA_skips_0 rfl (lv_at hl 0 rfl) ?_
  refine va_get (D := (dC, dI)) (ci := 6) (v := .int (nI pt)) (C := xR_PA) (T := xT_PA) (N := 4) hx hb hts (fun w h => List.mem_cons_of_mem _ (iw_PA w h)) hown hK hP 0 rfl rfl 3 (by decide) (hts _ (List.mem_cons_of_mem _ wm_235)) (fun _ h9 => h9) rfl d_PA_skips_1 ?_
  refine lv_aload_n hx hb d_PA_skips_4 rfl (lv_at hl 0 rfl) ?_
  refine va_get (D := (dC, dI)) (ci := 6) (v := .int (nI pn)) (C := xR_PA) (T := xT_PA) (N := 4) hx hb hts (fun w h => List.mem_cons_of_mem _ (iw_PA w h)) hown hK hP 0 rfl rfl 2 (by decide) (hts _ (List.mem_cons_of_mem _ wm_233)) (fun _ h9 => h9) rfl d_PA_skips_5 ?_
  refine lv_icmp_ge (tgt := 36) hx hb d_PA_skips_8 (by decide) (fun c_1 => ?_) (fun c_1 => ?_)
  · have n_2 := xn_le (a := pn) (b := pt) c_1 rfl rfl (by omega) (by omega)
    refine lv_iconst (v := 0) hx hb d_PA_skips_36 (by decide) ?_
    have hP9 := hP.sub (ws' := [(h0, .inr (6, [.ref qg, .ref qn, .int (nI pn), .int (nI pt)])), (qg, .inl (cg, 200, .inl sg))]) [0, 1] rfl
    have hD9 := hD.sub (ws' := [(h0, .inr (6, [.ref qg, .ref qn, .int (nI pn), .int (nI pt)])), (qg, .inl (cg, 200, .inl sg))]) [0, 1] (by decide) rfl
    have hK9 := hK.sub (tys' := [(cg, .char)]) [0] rfl
    exact W.zret (v := 0) (ty := .boolean) hx hb hr (by exact rfl) (fun t ht hW => ⟨⟨0, (), rfl, bI_n (fun q => absurd q.1 (by omega)), ⟨by rw [ht]; rw [show sr_sk sg pn pt a = pt from if_neg (fun q => absurd q.1 (by omega))]; exact hP9, va_K.moved hW.alike hK9, by rw [show sr_sk sg pn pt a = pt from if_neg (fun q => absurd q.1 (by omega))]; exact hD9⟩⟩, hS.F ht⟩) hS.2.2 d_PA_skips_37 hlocks
  · have n_3 := xn_nle (a := pn) (b := pt) c_1 rfl rfl (by omega) (by omega)
    refine lv_aload_n hx hb d_PA_skips_11 rfl (lv_at hl 0 rfl) ?_
    refine va_get (D := (dC, dI)) (ci := 6) (v := .ref qg) (C := xR_PA) (T := xT_PA) (N := 4) hx hb hts (fun w h => List.mem_cons_of_mem _ (iw_PA w h)) hown hK hP 0 rfl rfl 0 (by decide) (hts _ (List.mem_cons_of_mem _ wm_230)) (fun _ h9 => h9) rfl d_PA_skips_12 ?_
    refine lv_aload_n hx hb d_PA_skips_15 rfl (lv_at hl 0 rfl) ?_
    refine va_get (D := (dC, dI)) (ci := 6) (v := .int (nI pt)) (C := xR_PA) (T := xT_PA) (N := 4) hx hb hts (fun w h => List.mem_cons_of_mem _ (iw_PA w h)) hown hK hP 0 rfl rfl 3 (by decide) (hts _ (List.mem_cons_of_mem _ wm_235)) (fun _ h9 => h9) rfl d_PA_skips_16 ?_
    refine xa_cald hx hb hK hP 1 0 rfl rfl pt rfl (by omega) (by decide) d_PA_skips_19 ?_
    refine lv_iload_n hx hb d_PA_skips_20 rfl (lv_at hl 1 rfl) ?_
    refine lv_icmp_ne (tgt := 36) hx hb d_PA_skips_21 (by decide) (fun c_4 => ?_) (fun c_4 => ?_)
    · refine lv_iconst (v := 0) hx hb d_PA_skips_36 (by decide) ?_
      have hP9 := hP.sub (ws' := [(h0, .inr (6, [.ref qg, .ref qn, .int (nI pn), .int (nI pt)])), (qg, .inl (cg, 200, .inl sg))]) [0, 1] rfl
      have hD9 := hD.sub (ws' := [(h0, .inr (6, [.ref qg, .ref qn, .int (nI pn), .int (nI pt)])), (qg, .inl (cg, 200, .inl sg))]) [0, 1] (by decide) rfl
      have hK9 := hK.sub (tys' := [(cg, .char)]) [0] rfl
      exact W.zret (v := 0) (ty := .boolean) hx hb hr (by exact rfl) (fun t ht hW => ⟨⟨0, (), rfl, bI_n (fun q => c_4 q.2), ⟨by rw [ht]; rw [show sr_sk sg pn pt a = pt from if_neg (fun q => c_4 q.2)]; exact hP9, va_K.moved hW.alike hK9, by rw [show sr_sk sg pn pt a = pt from if_neg (fun q => c_4 q.2)]; exact hD9⟩⟩, hS.F ht⟩) hS.2.2 d_PA_skips_37 hlocks
    · refine lv_aload_n hx hb d_PA_skips_24 rfl (lv_at hl 0 rfl) ?_
      refine lv_dup hx hb d_PA_skips_25 rfl ?_
      refine va_get (D := (dC, dI)) (ci := 6) (v := .int (nI pt)) (C := xR_PA) (T := xT_PA) (N := 4) hx hb hts (fun w h => List.mem_cons_of_mem _ (iw_PA w h)) hown hK hP 0 rfl rfl 3 (by decide) (hts _ (List.mem_cons_of_mem _ wm_235)) (fun _ h9 => h9) rfl d_PA_skips_26 ?_
      refine lv_iconst (v := 1) hx hb d_PA_skips_29 (by decide) ?_
      refine lv_iadd hx hb d_PA_skips_30 ?_
      refine xv_i (y := nI (pt + 1)) (nI_1 _) ?_
      refine va_put (D := (dC, dI)) (ci := 6) (v := .int (nI (pt + 1))) (ty := .int) (C := xR_PA) (T := xT_PA) (N := 4) hx hb hts (fun w h => List.mem_cons_of_mem _ (iw_PA w h)) xt_PA xt_PA_ok xn_PA_nm hown hK hP hD hS 0 rfl rfl 3 (by decide) (hts _ (List.mem_cons_of_mem _ wm_235)) (fun _ h9 => h9) rfl (by decide +kernel) rfl rfl (Nat.le_of_ble_eq_true rfl) d_PA_skips_31 (fun H locs hP hD hS => ?_)
      have hP : va_P (dC, dI) xCl [(h0, .inr (6, [.ref qg, .ref qn, .int (nI pn), .int (nI (pt + 1))])), (qg, .inl (cg, 200, .inl sg))] H := hP
      have hD : va_D A [(h0, .inr (6, [.ref qg, .ref qn, .int (nI pn), .int (nI (pt + 1))])), (qg, .inl (cg, 200, .inl sg))] := hD
      refine lv_iconst (v := 1) hx hb d_PA_skips_34 (by decide) ?_
      have hP9 := hP.sub (ws' := [(h0, .inr (6, [.ref qg, .ref qn, .int (nI pn), .int (nI (pt + 1))])), (qg, .inl (cg, 200, .inl sg))]) [0, 1] rfl
      have hD9 := hD.sub (ws' := [(h0, .inr (6, [.ref qg, .ref qn, .int (nI pn), .int (nI (pt + 1))])), (qg, .inl (cg, 200, .inl sg))]) [0, 1] (by decide) rfl
      have hK9 := hK.sub (tys' := [(cg, .char)]) [0] rfl
      exact W.zret (v := 1) (ty := .boolean) hx hb hr (by exact rfl) (fun t ht hW => ⟨⟨1, (), rfl, bI_p ⟨n_3, c_4⟩, ⟨by rw [ht]; rw [show sr_sk sg pn pt a = pt + 1 from if_pos ⟨n_3, c_4⟩]; exact hP9, va_K.moved hW.alike hK9, by rw [show sr_sk sg pn pt a = pt + 1 from if_pos ⟨n_3, c_4⟩]; exact hD9⟩⟩, hS.F ht⟩) hS.2.2 d_PA_skips_35 hlocks
set_option maxHeartbeats 4000000 in
set_option maxRecDepth 100000 in
/-- Pad.nextNumber -/
theorem c_PA_nextNumber (l : Launch) (dC : Nat → ClassId) (dI : Nat → Nat → Nat) (sz : Nat) (h0 : Nat) (qg : Nat) (qn : Nat) (pn : Nat) (pt : Nat) (cg : ClassId) (sg : Nat → Int32) (cn : ClassId) (nu : Nat → Int32) (k : Nat) (hc : pn ≤ 200) (ha : pt ≤ 200) (hk : k < 4) : Met l xy_PA_nextNumber xw_PA_nextNumber ({ frames := 1, cells := 0, slots := 0, locals := 21 }) (xp_w [.ref h0, .int (nI k)] sz (dC, dI) xCl [(h0, .inr (6, [.ref qg, .ref qn, .int (nI pn), .int (nI pt)])), (qg, .inl (cg, 200, .inl sg)), (qn, .inl (cn, 4, .inl nu))] [(cg, .char), (cn, .int)]) (va_Qi (fun (r : Int32) (_ : Unit) => r = bI (0 < sr_nd sg pn pt)) (fun _ t => xb_w (dC, dI) xCl [(h0, .inr (6, [.ref qg, .ref qn, .int (nI pn), .int (nI (sr_np sg pn pt))])), (qg, .inl (cg, 200, .inl sg)), (qn, .inl (cn, 4, .inl (upd nu k (sr_nv sg pn pt))))] [(cg, .char), (cn, .int)] (va_A [(h0, .inr (6, [.ref qg, .ref qn, .int (nI pn), .int (nI pt)])), (qg, .inl (cg, 200, .inl sg)), (qn, .inl (cn, 4, .inl nu))] sz) t) (va_A [(h0, .inr (6, [.ref qg, .ref qn, .int (nI pn), .int (nI pt)])), (qg, .inl (cg, 200, .inl sg)), (qn, .inl (cn, 4, .inl nu))] sz)) 0 0 (va_A [(h0, .inr (6, [.ref qg, .ref qn, .int (nI pn), .int (nI pt)])), (qg, .inl (cg, 200, .inl sg)), (qn, .inl (cn, 4, .inl nu))] sz) := by
  refine Met.ofW (cc := prog_4_method_10_code) (maxL := 5) (ret := (some .boolean)) (by decide) rfl ?_
  intro p e s m args below meth c s₁ B hml hv
  obtain ⟨rfl, hsz, hz, hP, hK, hD0⟩ := hv
  have hx := B.exec
  have hb := B.bytes
  have hr := B.returns
  have hts := atoms_spec (ws := xw_PA_nextNumber) B.pre
  have hown : s.vm.findClass xR_PA = some m.cls := findClass_of_methodNamed B.named
  have hlocks := B.notSynchronized
  subst hsz
  have hD := hD0.self (sz := s.heap.size)
  generalize hAe : va_A [(h0, .inr (6, [.ref qg, .ref qn, .int (nI pn), .int (nI pt)])), (qg, .inl (cg, 200, .inl sg)), (qn, .inl (cn, 4, .inl nu))] s.heap.size = A at hD ⊢
  have hA : ∀ q : Nat, s.heap.size ≤ q → A q := fun q h => by rw [← hAe]; exact Or.inr h
  have hS : va_S A s.heap s.heap [] := va_S.rf
  have hP : va_P (dC, dI) xCl [(h0, .inr (6, [.ref qg, .ref qn, .int (nI pn), .int (nI pt)])), (qg, .inl (cg, 200, .inl sg)), (qn, .inl (cn, 4, .inl nu))] s.heap := hP
  have hl := lv_entry ([.ref h0, .int (nI k)]) (n := 5) (Nat.le_of_ble_eq_true rfl)
  rw [lg_entry_eq]
  generalize (lg_sl ([.ref h0, .int (nI k)]) ++ List.replicate (5 - (lg_sl ([.ref h0, .int (nI k)])).length) Slot.unset).toArray = ls at hl ⊢
  have hl : lv_has ls 5 [(0, .ref h0), (1, .int (nI k))] := hl
  refine lv_aload_n hx hb d_PA_nextNumber_0 rfl (lv_at hl 0 rfl) ?_
  refine lv_bipush (v := 45) hx hb d_PA_nextNumber_1 (by decide) ?_
  have hPc := hP.sub (ws' := [(h0, .inr (6, [.ref qg, .ref qn, .int (nI pn), .int (nI pt)])), (qg, .inl (cg, 200, .inl sg))]) [0, 1] rfl
  have hDc := hD.sub (ws' := [(h0, .inr (6, [.ref qg, .ref qn, .int (nI pn), .int (nI pt)])), (qg, .inl (cg, 200, .inl sg))]) [0, 1] (by decide) rfl
  have hKc := hK.sub (tys' := [(cg, .char)]) [0] rfl
  have hFc := va_free (wc := [(h0, .inr (6, [.ref qg, .ref qn, .int (nI pn), .int (nI pt)])), (qg, .inl (cg, 200, .inl sg))]) hD hS hA [0, 1] rfl
  refine va_calli (va_runV (As := [.int 45]) (rest := []) ⟨hx, hb, hml, hown, hts⟩ (c_PA_skips l dC dI s.heap.size h0 qg qn pn pt cg sg 45 (by first | assumption | omega | decide) (by first | assumption | omega | decide)) (cwV 1 hts (xgV wm_352 wm_354 wm_6 wm_33 wm_355) rfl rfl rfl (by decide +kernel) ⟨Nat.le_of_ble_eq_true rfl, Nat.le_of_ble_eq_true rfl⟩) ⟨xw_blind, va_recv hKc hPc (ci := 6) (q0 := 0) rfl rfl, fun U hU hW => ⟨rfl, by rw [hU], hz.warm hW, by rw [hU]; exact hPc, va_K.moved hW.alike hKc, hDc.weaken (fun _ _ _ _ => trivial)⟩⟩ rfl rfl hl.1 rfl (lv_room (Nat.le_of_ble_eq_true rfl)) d_PA_nextNumber_3 ⟨Nat.le_of_ble_eq_true rfl, Nat.le_of_ble_eq_true rfl⟩) hS (fun q _ h => hFc q h) hFc (fun r_1 _ t H1 locs ht hvm hw_2 hB hz1 hk1 hS => ?_)
  obtain ⟨hP1, hK1, hD1⟩ := hB
  rw [ht] at hP1
  have hK1 := va_K.moved hvm.symm hK1
  obtain ⟨hP, hD⟩ := va_join (wr := [(qn, .inl (cn, 4, .inl nu))]) (w1 := [(h0, .inr (6, [.ref qg, .ref qn, .int (nI pn), .int (nI (sr_sk sg pn pt 45))])), (qg, .inl (cg, 200, .inl sg))]) hP hD [0, 1] [2] rfl rfl (by decide) (by decide) hk1 hFc hP1 hD1
  generalize H1 = H at hP hS ⊢
  have hP : va_P (dC, dI) xCl [(qn, .inl (cn, 4, .inl nu)), (h0, .inr (6, [.ref qg, .ref qn, .int (nI pn), .int (nI (sr_sk sg pn pt 45))])), (qg, .inl (cg, 200, .inl sg))] H := hP
  have hD : va_D A [(qn, .inl (cn, 4, .inl nu)), (h0, .inr (6, [.ref qg, .ref qn, .int (nI pn), .int (nI (sr_sk sg pn pt 45))])), (qg, .inl (cg, 200, .inl sg))] := hD
  have hb2 : sr_sk sg pn pt 45 ≤ 200 := sr_sk_le hc ha
  obtain ⟨b, hbe⟩ : ∃ b, b = sr_sk sg pn pt 45 := ⟨_, rfl⟩
  rw [← hbe] at hP hD hb2
  have hP : va_P (dC, dI) xCl [(qn, .inl (cn, 4, .inl nu)), (h0, .inr (6, [.ref qg, .ref qn, .int (nI pn), .int (nI b)])), (qg, .inl (cg, 200, .inl sg))] H := hP
  have hD : va_D A [(qn, .inl (cn, 4, .inl nu)), (h0, .inr (6, [.ref qg, .ref qn, .int (nI pn), .int (nI b)])), (qg, .inl (cg, 200, .inl sg))] := hD
  refine lv_istore_n (lv' := [(2, .int r_1), (0, .ref h0), (1, .int (nI k))]) hx hb d_PA_nextNumber_6 rfl hl (by decide) rfl (fun ls hl => ?_)
  refine lv_iconst (v := 0) hx hb d_PA_nextNumber_7 (by decide) ?_
  refine lv_istore_n (lv' := [(3, .int 0), (2, .int r_1), (0, .ref h0), (1, .int (nI k))]) hx hb d_PA_nextNumber_8 rfl hl (by decide) rfl (fun ls hl => ?_)
  refine lv_iconst (v := 0) hx hb d_PA_nextNumber_9 (by decide) ?_
  refine lv_istore (lv' := [(4, .int 0), (3, .int 0), (2, .int r_1), (0, .ref h0), (1, .int (nI k))]) hx hb d_PA_nextNumber_10 hl (by decide) rfl (fun ls hl => ?_)
  have lp12 : ∀ (fuel : Nat) (j : Nat) (z : Nat) (x3 : Int32), 6 - j < fuel → j ≤ 6 → z ≤ 200 → z = b + j → j + sr_dn sg pn (b + j) (6 - j) = sr_dn sg pn b 6 → x3 = sr_va sg b j → ∀ (H : Heap) (locs : List Loc), va_P (dC, dI) xCl [(h0, .inr (6, [.ref qg, .ref qn, .int (nI pn), .int (nI z)])), (qg, .inl (cg, 200, .inl sg)), (qn, .inl (cn, 4, .inl nu))] H → va_D A [(h0, .inr (6, [.ref qg, .ref qn, .int (nI pn), .int (nI z)])), (qg, .inl (cg, 200, .inl sg)), (qn, .inl (cn, 4, .inl nu))] → va_S A s.heap H locs → ∀ (ls : Array Slot), lv_has ls 5 [(0, .ref h0), (1, .int (nI k)), (2, .int r_1), (3, .int x3), (4, .int (nI j))] → W p l e (headSpec xw_PA_nextNumber ({ frames := 1, cells := 0, slots := 0, locals := 21 })).room s m ([.ref h0, .int (nI k)] : List Value).toArray below meth c H locs 0 0 (MQ below (va_Qi (fun (r : Int32) (_ : Unit) => r = bI (0 < sr_nd sg pn pt)) (fun _ t => xb_w (dC, dI) xCl [(h0, .inr (6, [.ref qg, .ref qn, .int (nI pn), .int (nI (sr_np sg pn pt))])), (qg, .inl (cg, 200, .inl sg)), (qn, .inl (cn, 4, .inl (upd nu k (sr_nv sg pn pt))))] [(cg, .char), (cn, .int)] A t) A) ([.ref h0, .int (nI k)] : List Value).toArray s 0 0 A) (F0 m 12 ls []) := by
    intro fuel
    induction fuel with
    | zero => intro j z x3 hfu; exact absurd hfu (Nat.not_lt_zero _)
    | succ fuel ih =>
      intro j z x3 hfu hj hz2 hz hdn hx3 H locs hP hD hS ls hl
      subst hz
      subst hx3
      refine lv_iload hx hb d_PA_nextNumber_12 (lv_at hl 4 rfl) ?_
      refine lv_bipush (v := 6) hx hb d_PA_nextNumber_14 (by decide) ?_
      refine lv_icmp_ge (tgt := 79) hx hb d_PA_nextNumber_16 (by decide) (fun c_3 => ?_) (fun c_3 => ?_)
      · have n_4 := xn_le (a := 6) (b := j) c_3 (by decide) rfl (by omega) (by omega)
        have he6 : j = sr_dn sg pn b 6 := sr_dn_6 (by omega) hdn
        refine lv_aload_n hx hb d_PA_nextNumber_79 rfl (lv_at hl 0 rfl) ?_
        refine va_get (D := (dC, dI)) (ci := 6) (v := .ref qn) (C := xR_PA) (T := xT_PA) (N := 4) hx hb hts (fun w h => List.mem_cons_of_mem _ (iw_PA w h)) hown hK hP 0 rfl rfl 1 (by decide) (hts _ (List.mem_cons_of_mem _ wm_231)) (fun _ h9 => h9) rfl d_PA_nextNumber_80 ?_
        refine lv_iload_n hx hb d_PA_nextNumber_83 rfl (lv_at hl 1 rfl) ?_
        refine lv_iload_n hx hb d_PA_nextNumber_84 rfl (lv_at hl 2 rfl) ?_
        refine lv_if_eq (tgt := 93) hx hb d_PA_nextNumber_85 (by decide) (fun c_5 => ?_) (fun c_5 => ?_)
        · have b_6 := bI_f hw_2 c_5
          refine lv_iload_n hx hb d_PA_nextNumber_93 rfl (lv_at hl 3 rfl) ?_
          refine xa_iast hx hb hK hP hD hS 2 1 rfl rfl k rfl (by omega) (by decide) d_PA_nextNumber_94 (fun H locs hP hD hS => ?_)
          have hP : va_P (dC, dI) xCl [(h0, .inr (6, [.ref qg, .ref qn, .int (nI pn), .int (nI (b + j))])), (qg, .inl (cg, 200, .inl sg)), (qn, .inl (cn, 4, .inl (upd nu k (sr_va sg b j))))] H := hP
          have hD : va_D A [(h0, .inr (6, [.ref qg, .ref qn, .int (nI pn), .int (nI (b + j))])), (qg, .inl (cg, 200, .inl sg)), (qn, .inl (cn, 4, .inl (upd nu k (sr_va sg b j))))] := hD
          refine lv_iload hx hb d_PA_nextNumber_95 (lv_at hl 4 rfl) ?_
          refine lv_if_le (tgt := 104) hx hb d_PA_nextNumber_97 (by decide) (fun c_7 => ?_) (fun c_7 => ?_)
          · have n_8 := xn_le (a := j) (b := 0) c_7 rfl (by decide) (by omega) (by omega)
            refine lv_iconst (v := 0) hx hb d_PA_nextNumber_104 (by decide) ?_
            have hP9 := hP.sub (ws' := [(h0, .inr (6, [.ref qg, .ref qn, .int (nI pn), .int (nI (b + j))])), (qg, .inl (cg, 200, .inl sg)), (qn, .inl (cn, 4, .inl (upd nu k (sr_va sg b j))))]) [0, 1, 2] rfl
            have hD9 := hD.sub (ws' := [(h0, .inr (6, [.ref qg, .ref qn, .int (nI pn), .int (nI (b + j))])), (qg, .inl (cg, 200, .inl sg)), (qn, .inl (cn, 4, .inl (upd nu k (sr_va sg b j))))]) [0, 1, 2] (by decide) rfl
            have hK9 := hK.sub (tys' := [(cg, .char), (cn, .int)]) [0, 1] rfl
            exact W.zret (v := 0) (ty := .boolean) hx hb hr (by exact rfl) (fun t ht hW => ⟨⟨0, (), rfl, bI_n (by unfold sr_nd; rw [← hbe, ← he6]; omega), ⟨by rw [ht]; unfold sr_np sr_nv sr_nd; rw [← hbe, ← he6, if_neg b_6]; exact hP9, va_K.moved hW.alike hK9, by unfold sr_np sr_nv sr_nd; rw [← hbe, ← he6, if_neg b_6]; exact hD9⟩⟩, hS.F ht⟩) hS.2.2 d_PA_nextNumber_105 hlocks
          · have n_9 := xn_nle (a := j) (b := 0) c_7 rfl (by decide) (by omega) (by omega)
            refine lv_iconst (v := 1) hx hb d_PA_nextNumber_100 (by decide) ?_
            refine lv_goto (tgt := 105) hx hb d_PA_nextNumber_101 (by decide) ?_
            have hP9 := hP.sub (ws' := [(h0, .inr (6, [.ref qg, .ref qn, .int (nI pn), .int (nI (b + j))])), (qg, .inl (cg, 200, .inl sg)), (qn, .inl (cn, 4, .inl (upd nu k (sr_va sg b j))))]) [0, 1, 2] rfl
            have hD9 := hD.sub (ws' := [(h0, .inr (6, [.ref qg, .ref qn, .int (nI pn), .int (nI (b + j))])), (qg, .inl (cg, 200, .inl sg)), (qn, .inl (cn, 4, .inl (upd nu k (sr_va sg b j))))]) [0, 1, 2] (by decide) rfl
            have hK9 := hK.sub (tys' := [(cg, .char), (cn, .int)]) [0, 1] rfl
            exact W.zret (v := 1) (ty := .boolean) hx hb hr (by exact rfl) (fun t ht hW => ⟨⟨1, (), rfl, bI_p (by unfold sr_nd; rw [← hbe, ← he6]; exact n_9), ⟨by rw [ht]; unfold sr_np sr_nv sr_nd; rw [← hbe, ← he6, if_neg b_6]; exact hP9, va_K.moved hW.alike hK9, by unfold sr_np sr_nv sr_nd; rw [← hbe, ← he6, if_neg b_6]; exact hD9⟩⟩, hS.F ht⟩) hS.2.2 d_PA_nextNumber_105 hlocks
        · have b_10 := bI_t hw_2 c_5
          refine lv_iload_n hx hb d_PA_nextNumber_88 rfl (lv_at hl 3 rfl) ?_
          refine lv_ineg hx hb d_PA_nextNumber_89 ?_
          refine lv_goto (tgt := 94) hx hb d_PA_nextNumber_90 (by decide) ?_
          refine xa_iast hx hb hK hP hD hS 2 1 rfl rfl k rfl (by omega) (by decide) d_PA_nextNumber_94 (fun H locs hP hD hS => ?_)
          have hP : va_P (dC, dI) xCl [(h0, .inr (6, [.ref qg, .ref qn, .int (nI pn), .int (nI (b + j))])), (qg, .inl (cg, 200, .inl sg)), (qn, .inl (cn, 4, .inl (upd nu k (-(sr_va sg b j)))))] H := hP
          have hD : va_D A [(h0, .inr (6, [.ref qg, .ref qn, .int (nI pn), .int (nI (b + j))])), (qg, .inl (cg, 200, .inl sg)), (qn, .inl (cn, 4, .inl (upd nu k (-(sr_va sg b j)))))] := hD
          refine lv_iload hx hb d_PA_nextNumber_95 (lv_at hl 4 rfl) ?_
          refine lv_if_le (tgt := 104) hx hb d_PA_nextNumber_97 (by decide) (fun c_11 => ?_) (fun c_11 => ?_)
          · have n_12 := xn_le (a := j) (b := 0) c_11 rfl (by decide) (by omega) (by omega)
            refine lv_iconst (v := 0) hx hb d_PA_nextNumber_104 (by decide) ?_
            have hP9 := hP.sub (ws' := [(h0, .inr (6, [.ref qg, .ref qn, .int (nI pn), .int (nI (b + j))])), (qg, .inl (cg, 200, .inl sg)), (qn, .inl (cn, 4, .inl (upd nu k (-(sr_va sg b j)))))]) [0, 1, 2] rfl
            have hD9 := hD.sub (ws' := [(h0, .inr (6, [.ref qg, .ref qn, .int (nI pn), .int (nI (b + j))])), (qg, .inl (cg, 200, .inl sg)), (qn, .inl (cn, 4, .inl (upd nu k (-(sr_va sg b j)))))]) [0, 1, 2] (by decide) rfl
            have hK9 := hK.sub (tys' := [(cg, .char), (cn, .int)]) [0, 1] rfl
            exact W.zret (v := 0) (ty := .boolean) hx hb hr (by exact rfl) (fun t ht hW => ⟨⟨0, (), rfl, bI_n (by unfold sr_nd; rw [← hbe, ← he6]; omega), ⟨by rw [ht]; unfold sr_np sr_nv sr_nd; rw [← hbe, ← he6, if_pos b_10]; exact hP9, va_K.moved hW.alike hK9, by unfold sr_np sr_nv sr_nd; rw [← hbe, ← he6, if_pos b_10]; exact hD9⟩⟩, hS.F ht⟩) hS.2.2 d_PA_nextNumber_105 hlocks
          · have n_13 := xn_nle (a := j) (b := 0) c_11 rfl (by decide) (by omega) (by omega)
            refine lv_iconst (v := 1) hx hb d_PA_nextNumber_100 (by decide) ?_
            refine lv_goto (tgt := 105) hx hb d_PA_nextNumber_101 (by decide) ?_
            have hP9 := hP.sub (ws' := [(h0, .inr (6, [.ref qg, .ref qn, .int (nI pn), .int (nI (b + j))])), (qg, .inl (cg, 200, .inl sg)), (qn, .inl (cn, 4, .inl (upd nu k (-(sr_va sg b j)))))]) [0, 1, 2] rfl
            have hD9 := hD.sub (ws' := [(h0, .inr (6, [.ref qg, .ref qn, .int (nI pn), .int (nI (b + j))])), (qg, .inl (cg, 200, .inl sg)), (qn, .inl (cn, 4, .inl (upd nu k (-(sr_va sg b j)))))]) [0, 1, 2] (by decide) rfl
            have hK9 := hK.sub (tys' := [(cg, .char), (cn, .int)]) [0, 1] rfl
            exact W.zret (v := 1) (ty := .boolean) hx hb hr (by exact rfl) (fun t ht hW => ⟨⟨1, (), rfl, bI_p (by unfold sr_nd; rw [← hbe, ← he6]; exact n_13), ⟨by rw [ht]; unfold sr_np sr_nv sr_nd; rw [← hbe, ← he6, if_pos b_10]; exact hP9, va_K.moved hW.alike hK9, by unfold sr_np sr_nv sr_nd; rw [← hbe, ← he6, if_pos b_10]; exact hD9⟩⟩, hS.F ht⟩) hS.2.2 d_PA_nextNumber_105 hlocks
      · have n_14 := xn_nle (a := 6) (b := j) c_3 (by decide) rfl (by omega) (by omega)
        refine lv_aload_n hx hb d_PA_nextNumber_19 rfl (lv_at hl 0 rfl) ?_
        refine va_get (D := (dC, dI)) (ci := 6) (v := .int (nI (b + j))) (C := xR_PA) (T := xT_PA) (N := 4) hx hb hts (fun w h => List.mem_cons_of_mem _ (iw_PA w h)) hown hK hP 0 rfl rfl 3 (by decide) (hts _ (List.mem_cons_of_mem _ wm_235)) (fun _ h9 => h9) rfl d_PA_nextNumber_20 ?_
        refine lv_aload_n hx hb d_PA_nextNumber_23 rfl (lv_at hl 0 rfl) ?_
        refine va_get (D := (dC, dI)) (ci := 6) (v := .int (nI pn)) (C := xR_PA) (T := xT_PA) (N := 4) hx hb hts (fun w h => List.mem_cons_of_mem _ (iw_PA w h)) hown hK hP 0 rfl rfl 2 (by decide) (hts _ (List.mem_cons_of_mem _ wm_233)) (fun _ h9 => h9) rfl d_PA_nextNumber_24 ?_
        refine lv_icmp_ge (tgt := 79) hx hb d_PA_nextNumber_27 (by decide) (fun c_15 => ?_) (fun c_15 => ?_)
        · have n_16 := xn_le (a := pn) (b := (b + j)) c_15 rfl rfl (by omega) (by omega)
          have he6 : j = sr_dn sg pn b 6 := sr_dn_o n_16 hdn
          refine lv_aload_n hx hb d_PA_nextNumber_79 rfl (lv_at hl 0 rfl) ?_
          refine va_get (D := (dC, dI)) (ci := 6) (v := .ref qn) (C := xR_PA) (T := xT_PA) (N := 4) hx hb hts (fun w h => List.mem_cons_of_mem _ (iw_PA w h)) hown hK hP 0 rfl rfl 1 (by decide) (hts _ (List.mem_cons_of_mem _ wm_231)) (fun _ h9 => h9) rfl d_PA_nextNumber_80 ?_
          refine lv_iload_n hx hb d_PA_nextNumber_83 rfl (lv_at hl 1 rfl) ?_
          refine lv_iload_n hx hb d_PA_nextNumber_84 rfl (lv_at hl 2 rfl) ?_
          refine lv_if_eq (tgt := 93) hx hb d_PA_nextNumber_85 (by decide) (fun c_17 => ?_) (fun c_17 => ?_)
          · have b_18 := bI_f hw_2 c_17
            refine lv_iload_n hx hb d_PA_nextNumber_93 rfl (lv_at hl 3 rfl) ?_
            refine xa_iast hx hb hK hP hD hS 2 1 rfl rfl k rfl (by omega) (by decide) d_PA_nextNumber_94 (fun H locs hP hD hS => ?_)
            have hP : va_P (dC, dI) xCl [(h0, .inr (6, [.ref qg, .ref qn, .int (nI pn), .int (nI (b + j))])), (qg, .inl (cg, 200, .inl sg)), (qn, .inl (cn, 4, .inl (upd nu k (sr_va sg b j))))] H := hP
            have hD : va_D A [(h0, .inr (6, [.ref qg, .ref qn, .int (nI pn), .int (nI (b + j))])), (qg, .inl (cg, 200, .inl sg)), (qn, .inl (cn, 4, .inl (upd nu k (sr_va sg b j))))] := hD
            refine lv_iload hx hb d_PA_nextNumber_95 (lv_at hl 4 rfl) ?_
            refine lv_if_le (tgt := 104) hx hb d_PA_nextNumber_97 (by decide) (fun c_19 => ?_) (fun c_19 => ?_)
            · have n_20 := xn_le (a := j) (b := 0) c_19 rfl (by decide) (by omega) (by omega)
              refine lv_iconst (v := 0) hx hb d_PA_nextNumber_104 (by decide) ?_
              have hP9 := hP.sub (ws' := [(h0, .inr (6, [.ref qg, .ref qn, .int (nI pn), .int (nI (b + j))])), (qg, .inl (cg, 200, .inl sg)), (qn, .inl (cn, 4, .inl (upd nu k (sr_va sg b j))))]) [0, 1, 2] rfl
              have hD9 := hD.sub (ws' := [(h0, .inr (6, [.ref qg, .ref qn, .int (nI pn), .int (nI (b + j))])), (qg, .inl (cg, 200, .inl sg)), (qn, .inl (cn, 4, .inl (upd nu k (sr_va sg b j))))]) [0, 1, 2] (by decide) rfl
              have hK9 := hK.sub (tys' := [(cg, .char), (cn, .int)]) [0, 1] rfl
              exact W.zret (v := 0) (ty := .boolean) hx hb hr (by exact rfl) (fun t ht hW => ⟨⟨0, (), rfl, bI_n (by unfold sr_nd; rw [← hbe, ← he6]; omega), ⟨by rw [ht]; unfold sr_np sr_nv sr_nd; rw [← hbe, ← he6, if_neg b_18]; exact hP9, va_K.moved hW.alike hK9, by unfold sr_np sr_nv sr_nd; rw [← hbe, ← he6, if_neg b_18]; exact hD9⟩⟩, hS.F ht⟩) hS.2.2 d_PA_nextNumber_105 hlocks
            · have n_21 := xn_nle (a := j) (b := 0) c_19 rfl (by decide) (by omega) (by omega)
              refine lv_iconst (v := 1) hx hb d_PA_nextNumber_100 (by decide) ?_
              refine lv_goto (tgt := 105) hx hb d_PA_nextNumber_101 (by decide) ?_
              have hP9 := hP.sub (ws' := [(h0, .inr (6, [.ref qg, .ref qn, .int (nI pn), .int (nI (b + j))])), (qg, .inl (cg, 200, .inl sg)), (qn, .inl (cn, 4, .inl (upd nu k (sr_va sg b j))))]) [0, 1, 2] rfl
              have hD9 := hD.sub (ws' := [(h0, .inr (6, [.ref qg, .ref qn, .int (nI pn), .int (nI (b + j))])), (qg, .inl (cg, 200, .inl sg)), (qn, .inl (cn, 4, .inl (upd nu k (sr_va sg b j))))]) [0, 1, 2] (by decide) rfl
              have hK9 := hK.sub (tys' := [(cg, .char), (cn, .int)]) [0, 1] rfl
              exact W.zret (v := 1) (ty := .boolean) hx hb hr (by exact rfl) (fun t ht hW => ⟨⟨1, (), rfl, bI_p (by unfold sr_nd; rw [← hbe, ← he6]; exact n_21), ⟨by rw [ht]; unfold sr_np sr_nv sr_nd; rw [← hbe, ← he6, if_neg b_18]; exact hP9, va_K.moved hW.alike hK9, by unfold sr_np sr_nv sr_nd; rw [← hbe, ← he6, if_neg b_18]; exact hD9⟩⟩, hS.F ht⟩) hS.2.2 d_PA_nextNumber_105 hlocks
          · have b_22 := bI_t hw_2 c_17
            refine lv_iload_n hx hb d_PA_nextNumber_88 rfl (lv_at hl 3 rfl) ?_
            refine lv_ineg hx hb d_PA_nextNumber_89 ?_
            refine lv_goto (tgt := 94) hx hb d_PA_nextNumber_90 (by decide) ?_
            refine xa_iast hx hb hK hP hD hS 2 1 rfl rfl k rfl (by omega) (by decide) d_PA_nextNumber_94 (fun H locs hP hD hS => ?_)
            have hP : va_P (dC, dI) xCl [(h0, .inr (6, [.ref qg, .ref qn, .int (nI pn), .int (nI (b + j))])), (qg, .inl (cg, 200, .inl sg)), (qn, .inl (cn, 4, .inl (upd nu k (-(sr_va sg b j)))))] H := hP
            have hD : va_D A [(h0, .inr (6, [.ref qg, .ref qn, .int (nI pn), .int (nI (b + j))])), (qg, .inl (cg, 200, .inl sg)), (qn, .inl (cn, 4, .inl (upd nu k (-(sr_va sg b j)))))] := hD
            refine lv_iload hx hb d_PA_nextNumber_95 (lv_at hl 4 rfl) ?_
            refine lv_if_le (tgt := 104) hx hb d_PA_nextNumber_97 (by decide) (fun c_23 => ?_) (fun c_23 => ?_)
            · have n_24 := xn_le (a := j) (b := 0) c_23 rfl (by decide) (by omega) (by omega)
              refine lv_iconst (v := 0) hx hb d_PA_nextNumber_104 (by decide) ?_
              have hP9 := hP.sub (ws' := [(h0, .inr (6, [.ref qg, .ref qn, .int (nI pn), .int (nI (b + j))])), (qg, .inl (cg, 200, .inl sg)), (qn, .inl (cn, 4, .inl (upd nu k (-(sr_va sg b j)))))]) [0, 1, 2] rfl
              have hD9 := hD.sub (ws' := [(h0, .inr (6, [.ref qg, .ref qn, .int (nI pn), .int (nI (b + j))])), (qg, .inl (cg, 200, .inl sg)), (qn, .inl (cn, 4, .inl (upd nu k (-(sr_va sg b j)))))]) [0, 1, 2] (by decide) rfl
              have hK9 := hK.sub (tys' := [(cg, .char), (cn, .int)]) [0, 1] rfl
              exact W.zret (v := 0) (ty := .boolean) hx hb hr (by exact rfl) (fun t ht hW => ⟨⟨0, (), rfl, bI_n (by unfold sr_nd; rw [← hbe, ← he6]; omega), ⟨by rw [ht]; unfold sr_np sr_nv sr_nd; rw [← hbe, ← he6, if_pos b_22]; exact hP9, va_K.moved hW.alike hK9, by unfold sr_np sr_nv sr_nd; rw [← hbe, ← he6, if_pos b_22]; exact hD9⟩⟩, hS.F ht⟩) hS.2.2 d_PA_nextNumber_105 hlocks
            · have n_25 := xn_nle (a := j) (b := 0) c_23 rfl (by decide) (by omega) (by omega)
              refine lv_iconst (v := 1) hx hb d_PA_nextNumber_100 (by decide) ?_
              refine lv_goto (tgt := 105) hx hb d_PA_nextNumber_101 (by decide) ?_
              have hP9 := hP.sub (ws' := [(h0, .inr (6, [.ref qg, .ref qn, .int (nI pn), .int (nI (b + j))])), (qg, .inl (cg, 200, .inl sg)), (qn, .inl (cn, 4, .inl (upd nu k (-(sr_va sg b j)))))]) [0, 1, 2] rfl
              have hD9 := hD.sub (ws' := [(h0, .inr (6, [.ref qg, .ref qn, .int (nI pn), .int (nI (b + j))])), (qg, .inl (cg, 200, .inl sg)), (qn, .inl (cn, 4, .inl (upd nu k (-(sr_va sg b j)))))]) [0, 1, 2] (by decide) rfl
              have hK9 := hK.sub (tys' := [(cg, .char), (cn, .int)]) [0, 1] rfl
              exact W.zret (v := 1) (ty := .boolean) hx hb hr (by exact rfl) (fun t ht hW => ⟨⟨1, (), rfl, bI_p (by unfold sr_nd; rw [← hbe, ← he6]; exact n_25), ⟨by rw [ht]; unfold sr_np sr_nv sr_nd; rw [← hbe, ← he6, if_pos b_22]; exact hP9, va_K.moved hW.alike hK9, by unfold sr_np sr_nv sr_nd; rw [← hbe, ← he6, if_pos b_22]; exact hD9⟩⟩, hS.F ht⟩) hS.2.2 d_PA_nextNumber_105 hlocks
        · have n_26 := xn_nle (a := pn) (b := (b + j)) c_15 rfl rfl (by omega) (by omega)
          refine lv_aload_n hx hb d_PA_nextNumber_30 rfl (lv_at hl 0 rfl) ?_
          refine va_get (D := (dC, dI)) (ci := 6) (v := .ref qg) (C := xR_PA) (T := xT_PA) (N := 4) hx hb hts (fun w h => List.mem_cons_of_mem _ (iw_PA w h)) hown hK hP 0 rfl rfl 0 (by decide) (hts _ (List.mem_cons_of_mem _ wm_230)) (fun _ h9 => h9) rfl d_PA_nextNumber_31 ?_
          refine lv_aload_n hx hb d_PA_nextNumber_34 rfl (lv_at hl 0 rfl) ?_
          refine va_get (D := (dC, dI)) (ci := 6) (v := .int (nI (b + j))) (C := xR_PA) (T := xT_PA) (N := 4) hx hb hts (fun w h => List.mem_cons_of_mem _ (iw_PA w h)) hown hK hP 0 rfl rfl 3 (by decide) (hts _ (List.mem_cons_of_mem _ wm_235)) (fun _ h9 => h9) rfl d_PA_nextNumber_35 ?_
          refine xa_cald hx hb hK hP 1 0 rfl rfl (b + j) rfl (by omega) (by decide) d_PA_nextNumber_38 ?_
          refine xr_calli (va_runS (As := [.int (sg (b + j))]) (rest := []) ⟨hx, hb, hml, hown, hts⟩ (c_PA_isDigit l dC dI (sg (b + j))) (va_cwS 1 hts (xgS wm_356 wm_357 wm_33 wm_358) rfl rfl rfl (by decide +kernel) ⟨Nat.le_of_ble_eq_true rfl, Nat.le_of_ble_eq_true rfl⟩) ⟨xp_blind, fun U hU hW => ⟨rfl, hz.warm hW, by rw [hU]; exact hP.sub [] rfl, va_K.moved hW.alike (hK.sub [] rfl)⟩⟩ rfl rfl hl.1 rfl (lv_room (Nat.le_of_ble_eq_true rfl)) d_PA_nextNumber_39 ⟨Nat.le_of_ble_eq_true rfl, Nat.le_of_ble_eq_true rfl⟩) (fun r_27 h_28 => ?_)
          refine lv_if_eq (tgt := 79) hx hb d_PA_nextNumber_42 (by decide) (fun c_29 => ?_) (fun c_29 => ?_)
          · have b_30 := bI_f h_28 c_29
            have he6 : j = sr_dn sg pn b 6 := sr_dn_n b_30 hdn
            refine lv_aload_n hx hb d_PA_nextNumber_79 rfl (lv_at hl 0 rfl) ?_
            refine va_get (D := (dC, dI)) (ci := 6) (v := .ref qn) (C := xR_PA) (T := xT_PA) (N := 4) hx hb hts (fun w h => List.mem_cons_of_mem _ (iw_PA w h)) hown hK hP 0 rfl rfl 1 (by decide) (hts _ (List.mem_cons_of_mem _ wm_231)) (fun _ h9 => h9) rfl d_PA_nextNumber_80 ?_
            refine lv_iload_n hx hb d_PA_nextNumber_83 rfl (lv_at hl 1 rfl) ?_
            refine lv_iload_n hx hb d_PA_nextNumber_84 rfl (lv_at hl 2 rfl) ?_
            refine lv_if_eq (tgt := 93) hx hb d_PA_nextNumber_85 (by decide) (fun c_31 => ?_) (fun c_31 => ?_)
            · have b_32 := bI_f hw_2 c_31
              refine lv_iload_n hx hb d_PA_nextNumber_93 rfl (lv_at hl 3 rfl) ?_
              refine xa_iast hx hb hK hP hD hS 2 1 rfl rfl k rfl (by omega) (by decide) d_PA_nextNumber_94 (fun H locs hP hD hS => ?_)
              have hP : va_P (dC, dI) xCl [(h0, .inr (6, [.ref qg, .ref qn, .int (nI pn), .int (nI (b + j))])), (qg, .inl (cg, 200, .inl sg)), (qn, .inl (cn, 4, .inl (upd nu k (sr_va sg b j))))] H := hP
              have hD : va_D A [(h0, .inr (6, [.ref qg, .ref qn, .int (nI pn), .int (nI (b + j))])), (qg, .inl (cg, 200, .inl sg)), (qn, .inl (cn, 4, .inl (upd nu k (sr_va sg b j))))] := hD
              refine lv_iload hx hb d_PA_nextNumber_95 (lv_at hl 4 rfl) ?_
              refine lv_if_le (tgt := 104) hx hb d_PA_nextNumber_97 (by decide) (fun c_33 => ?_) (fun c_33 => ?_)
              · have n_34 := xn_le (a := j) (b := 0) c_33 rfl (by decide) (by omega) (by omega)
                refine lv_iconst (v := 0) hx hb d_PA_nextNumber_104 (by decide) ?_
                have hP9 := hP.sub (ws' := [(h0, .inr (6, [.ref qg, .ref qn, .int (nI pn), .int (nI (b + j))])), (qg, .inl (cg, 200, .inl sg)), (qn, .inl (cn, 4, .inl (upd nu k (sr_va sg b j))))]) [0, 1, 2] rfl
                have hD9 := hD.sub (ws' := [(h0, .inr (6, [.ref qg, .ref qn, .int (nI pn), .int (nI (b + j))])), (qg, .inl (cg, 200, .inl sg)), (qn, .inl (cn, 4, .inl (upd nu k (sr_va sg b j))))]) [0, 1, 2] (by decide) rfl
                have hK9 := hK.sub (tys' := [(cg, .char), (cn, .int)]) [0, 1] rfl
                exact W.zret (v := 0) (ty := .boolean) hx hb hr (by exact rfl) (fun t ht hW => ⟨⟨0, (), rfl, bI_n (by unfold sr_nd; rw [← hbe, ← he6]; omega), ⟨by rw [ht]; unfold sr_np sr_nv sr_nd; rw [← hbe, ← he6, if_neg b_32]; exact hP9, va_K.moved hW.alike hK9, by unfold sr_np sr_nv sr_nd; rw [← hbe, ← he6, if_neg b_32]; exact hD9⟩⟩, hS.F ht⟩) hS.2.2 d_PA_nextNumber_105 hlocks
              · have n_35 := xn_nle (a := j) (b := 0) c_33 rfl (by decide) (by omega) (by omega)
                refine lv_iconst (v := 1) hx hb d_PA_nextNumber_100 (by decide) ?_
                refine lv_goto (tgt := 105) hx hb d_PA_nextNumber_101 (by decide) ?_
                have hP9 := hP.sub (ws' := [(h0, .inr (6, [.ref qg, .ref qn, .int (nI pn), .int (nI (b + j))])), (qg, .inl (cg, 200, .inl sg)), (qn, .inl (cn, 4, .inl (upd nu k (sr_va sg b j))))]) [0, 1, 2] rfl
                have hD9 := hD.sub (ws' := [(h0, .inr (6, [.ref qg, .ref qn, .int (nI pn), .int (nI (b + j))])), (qg, .inl (cg, 200, .inl sg)), (qn, .inl (cn, 4, .inl (upd nu k (sr_va sg b j))))]) [0, 1, 2] (by decide) rfl
                have hK9 := hK.sub (tys' := [(cg, .char), (cn, .int)]) [0, 1] rfl
                exact W.zret (v := 1) (ty := .boolean) hx hb hr (by exact rfl) (fun t ht hW => ⟨⟨1, (), rfl, bI_p (by unfold sr_nd; rw [← hbe, ← he6]; exact n_35), ⟨by rw [ht]; unfold sr_np sr_nv sr_nd; rw [← hbe, ← he6, if_neg b_32]; exact hP9, va_K.moved hW.alike hK9, by unfold sr_np sr_nv sr_nd; rw [← hbe, ← he6, if_neg b_32]; exact hD9⟩⟩, hS.F ht⟩) hS.2.2 d_PA_nextNumber_105 hlocks
            · have b_36 := bI_t hw_2 c_31
              refine lv_iload_n hx hb d_PA_nextNumber_88 rfl (lv_at hl 3 rfl) ?_
              refine lv_ineg hx hb d_PA_nextNumber_89 ?_
              refine lv_goto (tgt := 94) hx hb d_PA_nextNumber_90 (by decide) ?_
              refine xa_iast hx hb hK hP hD hS 2 1 rfl rfl k rfl (by omega) (by decide) d_PA_nextNumber_94 (fun H locs hP hD hS => ?_)
              have hP : va_P (dC, dI) xCl [(h0, .inr (6, [.ref qg, .ref qn, .int (nI pn), .int (nI (b + j))])), (qg, .inl (cg, 200, .inl sg)), (qn, .inl (cn, 4, .inl (upd nu k (-(sr_va sg b j)))))] H := hP
              have hD : va_D A [(h0, .inr (6, [.ref qg, .ref qn, .int (nI pn), .int (nI (b + j))])), (qg, .inl (cg, 200, .inl sg)), (qn, .inl (cn, 4, .inl (upd nu k (-(sr_va sg b j)))))] := hD
              refine lv_iload hx hb d_PA_nextNumber_95 (lv_at hl 4 rfl) ?_
              refine lv_if_le (tgt := 104) hx hb d_PA_nextNumber_97 (by decide) (fun c_37 => ?_) (fun c_37 => ?_)
              · have n_38 := xn_le (a := j) (b := 0) c_37 rfl (by decide) (by omega) (by omega)
                refine lv_iconst (v := 0) hx hb d_PA_nextNumber_104 (by decide) ?_
                have hP9 := hP.sub (ws' := [(h0, .inr (6, [.ref qg, .ref qn, .int (nI pn), .int (nI (b + j))])), (qg, .inl (cg, 200, .inl sg)), (qn, .inl (cn, 4, .inl (upd nu k (-(sr_va sg b j)))))]) [0, 1, 2] rfl
                have hD9 := hD.sub (ws' := [(h0, .inr (6, [.ref qg, .ref qn, .int (nI pn), .int (nI (b + j))])), (qg, .inl (cg, 200, .inl sg)), (qn, .inl (cn, 4, .inl (upd nu k (-(sr_va sg b j)))))]) [0, 1, 2] (by decide) rfl
                have hK9 := hK.sub (tys' := [(cg, .char), (cn, .int)]) [0, 1] rfl
                exact W.zret (v := 0) (ty := .boolean) hx hb hr (by exact rfl) (fun t ht hW => ⟨⟨0, (), rfl, bI_n (by unfold sr_nd; rw [← hbe, ← he6]; omega), ⟨by rw [ht]; unfold sr_np sr_nv sr_nd; rw [← hbe, ← he6, if_pos b_36]; exact hP9, va_K.moved hW.alike hK9, by unfold sr_np sr_nv sr_nd; rw [← hbe, ← he6, if_pos b_36]; exact hD9⟩⟩, hS.F ht⟩) hS.2.2 d_PA_nextNumber_105 hlocks
              · have n_39 := xn_nle (a := j) (b := 0) c_37 rfl (by decide) (by omega) (by omega)
                refine lv_iconst (v := 1) hx hb d_PA_nextNumber_100 (by decide) ?_
                refine lv_goto (tgt := 105) hx hb d_PA_nextNumber_101 (by decide) ?_
                have hP9 := hP.sub (ws' := [(h0, .inr (6, [.ref qg, .ref qn, .int (nI pn), .int (nI (b + j))])), (qg, .inl (cg, 200, .inl sg)), (qn, .inl (cn, 4, .inl (upd nu k (-(sr_va sg b j)))))]) [0, 1, 2] rfl
                have hD9 := hD.sub (ws' := [(h0, .inr (6, [.ref qg, .ref qn, .int (nI pn), .int (nI (b + j))])), (qg, .inl (cg, 200, .inl sg)), (qn, .inl (cn, 4, .inl (upd nu k (-(sr_va sg b j)))))]) [0, 1, 2] (by decide) rfl
                have hK9 := hK.sub (tys' := [(cg, .char), (cn, .int)]) [0, 1] rfl
                exact W.zret (v := 1) (ty := .boolean) hx hb hr (by exact rfl) (fun t ht hW => ⟨⟨1, (), rfl, bI_p (by unfold sr_nd; rw [← hbe, ← he6]; exact n_39), ⟨by rw [ht]; unfold sr_np sr_nv sr_nd; rw [← hbe, ← he6, if_pos b_36]; exact hP9, va_K.moved hW.alike hK9, by unfold sr_np sr_nv sr_nd; rw [← hbe, ← he6, if_pos b_36]; exact hD9⟩⟩, hS.F ht⟩) hS.2.2 d_PA_nextNumber_105 hlocks
          · have b_40 := bI_t h_28 c_29
            refine lv_iload_n hx hb d_PA_nextNumber_45 rfl (lv_at hl 3 rfl) ?_
            refine lv_bipush (v := 10) hx hb d_PA_nextNumber_46 (by decide) ?_
            refine lv_imul hx hb d_PA_nextNumber_48 ?_
            refine lv_aload_n hx hb d_PA_nextNumber_49 rfl (lv_at hl 0 rfl) ?_
            refine va_get (D := (dC, dI)) (ci := 6) (v := .ref qg) (C := xR_PA) (T := xT_PA) (N := 4) hx hb hts (fun w h => List.mem_cons_of_mem _ (iw_PA w h)) hown hK hP 0 rfl rfl 0 (by decide) (hts _ (List.mem_cons_of_mem _ wm_230)) (fun _ h9 => h9) rfl d_PA_nextNumber_50 ?_
            refine lv_aload_n hx hb d_PA_nextNumber_53 rfl (lv_at hl 0 rfl) ?_
            refine va_get (D := (dC, dI)) (ci := 6) (v := .int (nI (b + j))) (C := xR_PA) (T := xT_PA) (N := 4) hx hb hts (fun w h => List.mem_cons_of_mem _ (iw_PA w h)) hown hK hP 0 rfl rfl 3 (by decide) (hts _ (List.mem_cons_of_mem _ wm_235)) (fun _ h9 => h9) rfl d_PA_nextNumber_54 ?_
            refine xa_cald hx hb hK hP 1 0 rfl rfl (b + j) rfl (by omega) (by decide) d_PA_nextNumber_57 ?_
            refine lv_bipush (v := 48) hx hb d_PA_nextNumber_58 (by decide) ?_
            refine lv_isub hx hb d_PA_nextNumber_60 ?_
            refine lv_iadd hx hb d_PA_nextNumber_61 ?_
            refine lv_istore_n (lv' := [(3, .int (((sr_va sg b j) * 10) + ((sg (b + j)) - 48))), (0, .ref h0), (1, .int (nI k)), (2, .int r_1), (4, .int (nI j))]) hx hb d_PA_nextNumber_62 rfl hl (by decide) rfl (fun ls hl => ?_)
            refine lv_iinc (v := nI (j + 1)) (lv' := [(4, .int (nI (j + 1))), (3, .int (((sr_va sg b j) * 10) + ((sg (b + j)) - 48))), (0, .ref h0), (1, .int (nI k)), (2, .int r_1)]) hx hb d_PA_nextNumber_63 hl (k := 4) rfl (nI_1 _) (by decide) rfl (fun ls hl => ?_)
            refine lv_aload_n hx hb d_PA_nextNumber_66 rfl (lv_at hl 2 rfl) ?_
            refine lv_dup hx hb d_PA_nextNumber_67 rfl ?_
            refine va_get (D := (dC, dI)) (ci := 6) (v := .int (nI (b + j))) (C := xR_PA) (T := xT_PA) (N := 4) hx hb hts (fun w h => List.mem_cons_of_mem _ (iw_PA w h)) hown hK hP 0 rfl rfl 3 (by decide) (hts _ (List.mem_cons_of_mem _ wm_235)) (fun _ h9 => h9) rfl d_PA_nextNumber_68 ?_
            refine lv_iconst (v := 1) hx hb d_PA_nextNumber_71 (by decide) ?_
            refine lv_iadd hx hb d_PA_nextNumber_72 ?_
            refine xv_i (y := nI ((b + j) + 1)) (nI_1 _) ?_
            refine va_put (D := (dC, dI)) (ci := 6) (v := .int (nI ((b + j) + 1))) (ty := .int) (C := xR_PA) (T := xT_PA) (N := 4) hx hb hts (fun w h => List.mem_cons_of_mem _ (iw_PA w h)) xt_PA xt_PA_ok xn_PA_nm hown hK hP hD hS 0 rfl rfl 3 (by decide) (hts _ (List.mem_cons_of_mem _ wm_235)) (fun _ h9 => h9) rfl (by decide +kernel) rfl rfl (Nat.le_of_ble_eq_true rfl) d_PA_nextNumber_73 (fun H locs hP hD hS => ?_)
            have hP : va_P (dC, dI) xCl [(h0, .inr (6, [.ref qg, .ref qn, .int (nI pn), .int (nI ((b + j) + 1))])), (qg, .inl (cg, 200, .inl sg)), (qn, .inl (cn, 4, .inl nu))] H := hP
            have hD : va_D A [(h0, .inr (6, [.ref qg, .ref qn, .int (nI pn), .int (nI ((b + j) + 1))])), (qg, .inl (cg, 200, .inl sg)), (qn, .inl (cn, 4, .inl nu))] := hD
            refine lv_goto (tgt := 12) hx hb d_PA_nextNumber_76 (by decide) ?_
            exact ih  (j + 1) ((b + j) + 1) (((sr_va sg b j) * 10) + ((sg (b + j)) - 48)) (by omega) (by omega) (by omega) (by omega) (sr_dn_s (by omega) n_26 b_40 hdn) rfl _ _ (hP.sub [0, 1, 2] rfl) (hD.sub [0, 1, 2] (by decide) rfl) hS ls (lv_sub hl [2, 3, 4, 1, 0] rfl)
  exact lp12 (6 - 0 + 1) 0 b 0 (by omega) (by omega) (by omega) (by omega) (by rw [Nat.zero_add]; rfl) rfl _ _ (hP.sub [1, 2, 0] rfl) (hD.sub [1, 2, 0] (by decide) rfl) hS ls (lv_sub hl [3, 4, 2, 1, 0] rfl)
set_option maxHeartbeats 4000000 in
set_option maxRecDepth 100000 in
/-- Pad.nextRow -/
theorem c_PA_nextRow (l : Launch) (dC : Nat → ClassId) (dI : Nat → Nat → Nat) (sz : Nat) (h0 : Nat) (qg : Nat) (qn : Nat) (pn : Nat) (pt : Nat) (cg : ClassId) (sg : Nat → Int32) (cn : ClassId) (nu : Nat → Int32) (hc : pn ≤ 200) (ha : pt ≤ 200) : Met l xy_PA_nextRow xw_PA_nextRow ({ frames := 2, cells := 0, slots := 0, locals := 45 }) (xp_w [.ref h0] sz (dC, dI) xCl [(h0, .inr (6, [.ref qg, .ref qn, .int (nI pn), .int (nI pt)])), (qg, .inl (cg, 200, .inl sg)), (qn, .inl (cn, 4, .inl nu))] [(cg, .char), (cn, .int)]) (va_Qi (fun (r : Int32) (_ : Unit) => r = bI ((sr_rw sg pn pt nu 4).1 = true)) (fun _ t => xb_w (dC, dI) xCl [(h0, .inr (6, [.ref qg, .ref qn, .int (nI pn), .int (nI (sr_rw sg pn pt nu 4).2.1)])), (qg, .inl (cg, 200, .inl sg)), (qn, .inl (cn, 4, .inl (sr_rw sg pn pt nu 4).2.2))] [(cg, .char), (cn, .int)] (va_A [(h0, .inr (6, [.ref qg, .ref qn, .int (nI pn), .int (nI pt)])), (qg, .inl (cg, 200, .inl sg)), (qn, .inl (cn, 4, .inl nu))] sz) t) (va_A [(h0, .inr (6, [.ref qg, .ref qn, .int (nI pn), .int (nI pt)])), (qg, .inl (cg, 200, .inl sg)), (qn, .inl (cn, 4, .inl nu))] sz)) 0 0 (va_A [(h0, .inr (6, [.ref qg, .ref qn, .int (nI pn), .int (nI pt)])), (qg, .inl (cg, 200, .inl sg)), (qn, .inl (cn, 4, .inl nu))] sz) := by
  refine Met.ofW (cc := prog_4_method_9_code) (maxL := 3) (ret := (some .boolean)) (by decide) rfl ?_
  intro p e s m args below meth c s₁ B hml hv
  obtain ⟨rfl, hsz, hz, hP, hK, hD0⟩ := hv
  have hx := B.exec
  have hb := B.bytes
  have hr := B.returns
  have hts := atoms_spec (ws := xw_PA_nextRow) B.pre
  have hown : s.vm.findClass xR_PA = some m.cls := findClass_of_methodNamed B.named
  have hlocks := B.notSynchronized
  subst hsz
  have hD := hD0.self (sz := s.heap.size)
  generalize hAe : va_A [(h0, .inr (6, [.ref qg, .ref qn, .int (nI pn), .int (nI pt)])), (qg, .inl (cg, 200, .inl sg)), (qn, .inl (cn, 4, .inl nu))] s.heap.size = A at hD ⊢
  have hA : ∀ q : Nat, s.heap.size ≤ q → A q := fun q h => by rw [← hAe]; exact Or.inr h
  have hS : va_S A s.heap s.heap [] := va_S.rf
  have hP : va_P (dC, dI) xCl [(h0, .inr (6, [.ref qg, .ref qn, .int (nI pn), .int (nI pt)])), (qg, .inl (cg, 200, .inl sg)), (qn, .inl (cn, 4, .inl nu))] s.heap := hP
  have hl := lv_entry ([.ref h0]) (n := 3) (Nat.le_of_ble_eq_true rfl)
  rw [lg_entry_eq]
  generalize (lg_sl ([.ref h0]) ++ List.replicate (3 - (lg_sl ([.ref h0])).length) Slot.unset).toArray = ls at hl ⊢
  have hl : lv_has ls 3 [(0, .ref h0)] := hl
  refine lv_iconst (v := 0) hx hb d_PA_nextRow_0 (by decide) ?_
  refine lv_istore_n (lv' := [(1, .int 0), (0, .ref h0)]) hx hb d_PA_nextRow_1 rfl hl (by decide) rfl (fun ls hl => ?_)
  have lp2 : ∀ (fuel : Nat) (i : Nat) (z : Nat) (zn : Nat → Int32), 4 - i < fuel → i ≤ 4 → z ≤ 200 → (sr_rw sg pn pt nu i).1 = true → z = (sr_rw sg pn pt nu i).2.1 → zn = (sr_rw sg pn pt nu i).2.2 → ∀ (H : Heap) (locs : List Loc), va_P (dC, dI) xCl [(h0, .inr (6, [.ref qg, .ref qn, .int (nI pn), .int (nI z)])), (qg, .inl (cg, 200, .inl sg)), (qn, .inl (cn, 4, .inl zn))] H → va_D A [(h0, .inr (6, [.ref qg, .ref qn, .int (nI pn), .int (nI z)])), (qg, .inl (cg, 200, .inl sg)), (qn, .inl (cn, 4, .inl zn))] → va_S A s.heap H locs → ∀ (ls : Array Slot), lv_has ls 3 [(0, .ref h0), (1, .int (nI i))] → W p l e (headSpec xw_PA_nextRow ({ frames := 2, cells := 0, slots := 0, locals := 45 })).room s m ([.ref h0] : List Value).toArray below meth c H locs 0 0 (MQ below (va_Qi (fun (r : Int32) (_ : Unit) => r = bI ((sr_rw sg pn pt nu 4).1 = true)) (fun _ t => xb_w (dC, dI) xCl [(h0, .inr (6, [.ref qg, .ref qn, .int (nI pn), .int (nI (sr_rw sg pn pt nu 4).2.1)])), (qg, .inl (cg, 200, .inl sg)), (qn, .inl (cn, 4, .inl (sr_rw sg pn pt nu 4).2.2))] [(cg, .char), (cn, .int)] A t) A) ([.ref h0] : List Value).toArray s 0 0 A) (F0 m 2 ls []) := by
    intro fuel
    induction fuel with
    | zero => intro i z zn hfu; exact absurd hfu (Nat.not_lt_zero _)
    | succ fuel ih =>
      intro i z zn hfu hi hz2 hok hz hzn H locs hP hD hS ls hl
      subst hz
      subst hzn
      refine lv_iload_n hx hb d_PA_nextRow_2 rfl (lv_at hl 1 rfl) ?_
      refine lv_iconst (v := 4) hx hb d_PA_nextRow_3 (by decide) ?_
      refine lv_icmp_ge (tgt := 44) hx hb d_PA_nextRow_4 (by decide) (fun c_1 => ?_) (fun c_1 => ?_)
      · have n_2 := xn_le (a := 4) (b := i) c_1 (by decide) rfl (by omega) (by omega)
        refine lv_iconst (v := 1) hx hb d_PA_nextRow_44 (by decide) ?_
        have e9 : i = 4 := by omega
        rw [e9] at hP hD hok
        have hP9 := hP.sub (ws' := [(h0, .inr (6, [.ref qg, .ref qn, .int (nI pn), .int (nI (sr_rw sg pn pt nu 4).2.1)])), (qg, .inl (cg, 200, .inl sg)), (qn, .inl (cn, 4, .inl (sr_rw sg pn pt nu 4).2.2))]) [0, 1, 2] rfl
        have hD9 := hD.sub (ws' := [(h0, .inr (6, [.ref qg, .ref qn, .int (nI pn), .int (nI (sr_rw sg pn pt nu 4).2.1)])), (qg, .inl (cg, 200, .inl sg)), (qn, .inl (cn, 4, .inl (sr_rw sg pn pt nu 4).2.2))]) [0, 1, 2] (by decide) rfl
        have hK9 := hK.sub (tys' := [(cg, .char), (cn, .int)]) [0, 1] rfl
        exact W.zret (v := 1) (ty := .boolean) hx hb hr (by exact rfl) (fun t ht hW => ⟨⟨1, (), rfl, bI_p hok, ⟨by rw [ht]; exact hP9, va_K.moved hW.alike hK9, by exact hD9⟩⟩, hS.F ht⟩) hS.2.2 d_PA_nextRow_45 hlocks
      · have n_3 := xn_nle (a := 4) (b := i) c_1 (by decide) rfl (by omega) (by omega)
        refine lv_iload_n hx hb d_PA_nextRow_7 rfl (lv_at hl 1 rfl) ?_
        refine lv_iconst (v := 3) hx hb d_PA_nextRow_8 (by decide) ?_
        refine lv_icmp_ge (tgt := 17) hx hb d_PA_nextRow_9 (by decide) (fun c_4 => ?_) (fun c_4 => ?_)
        · have n_5 := xn_le (a := 3) (b := i) c_4 (by decide) rfl (by omega) (by omega)
          refine lv_bipush (v := 59) hx hb d_PA_nextRow_17 (by decide) ?_
          refine lv_istore_n (lv' := [(2, .int 59), (0, .ref h0), (1, .int (nI i))]) hx hb d_PA_nextRow_19 rfl hl (by decide) rfl (fun ls hl => ?_)
          refine lv_aload_n hx hb d_PA_nextRow_20 rfl (lv_at hl 1 rfl) ?_
          refine lv_iload_n hx hb d_PA_nextRow_21 rfl (lv_at hl 2 rfl) ?_
          have hPc := hP.sub (ws' := [(h0, .inr (6, [.ref qg, .ref qn, .int (nI pn), .int (nI (sr_rw sg pn pt nu i).2.1)])), (qg, .inl (cg, 200, .inl sg)), (qn, .inl (cn, 4, .inl (sr_rw sg pn pt nu i).2.2))]) [0, 1, 2] rfl
          have hDc := hD.sub (ws' := [(h0, .inr (6, [.ref qg, .ref qn, .int (nI pn), .int (nI (sr_rw sg pn pt nu i).2.1)])), (qg, .inl (cg, 200, .inl sg)), (qn, .inl (cn, 4, .inl (sr_rw sg pn pt nu i).2.2))]) [0, 1, 2] (by decide) rfl
          have hKc := hK.sub (tys' := [(cg, .char), (cn, .int)]) [0, 1] rfl
          have hFc := va_free (wc := [(h0, .inr (6, [.ref qg, .ref qn, .int (nI pn), .int (nI (sr_rw sg pn pt nu i).2.1)])), (qg, .inl (cg, 200, .inl sg)), (qn, .inl (cn, 4, .inl (sr_rw sg pn pt nu i).2.2))]) hD hS hA [0, 1, 2] rfl
          refine va_calli (va_runV (As := [.int (nI i)]) (rest := []) ⟨hx, hb, hml, hown, hts⟩ (c_PA_nextNumber l dC dI H.size h0 qg qn pn (sr_rw sg pn pt nu i).2.1 cg sg cn (sr_rw sg pn pt nu i).2.2 i (by first | assumption | omega | decide) (by first | assumption | omega | decide) (by first | assumption | omega | decide)) (cwV 1 hts (xgV wm_348 wm_350 wm_5 wm_33 wm_351) rfl rfl rfl (by decide +kernel) ⟨Nat.le_of_ble_eq_true rfl, Nat.le_of_ble_eq_true rfl⟩) ⟨xw_blind, va_recv hKc hPc (ci := 6) (q0 := 0) rfl rfl, fun U hU hW => ⟨rfl, by rw [hU], hz.warm hW, by rw [hU]; exact hPc, va_K.moved hW.alike hKc, hDc.weaken (fun _ _ _ _ => trivial)⟩⟩ rfl rfl hl.1 rfl (lv_room (Nat.le_of_ble_eq_true rfl)) d_PA_nextRow_22 ⟨Nat.le_of_ble_eq_true rfl, Nat.le_of_ble_eq_true rfl⟩) hS (fun q _ h => hFc q h) hFc (fun r_6 _ t H1 locs ht hvm hw_7 hB hz1 hk1 hS => ?_)
          obtain ⟨hP1, hK1, hD1⟩ := hB
          rw [ht] at hP1
          have hK1 := va_K.moved hvm.symm hK1
          obtain ⟨hP, hD⟩ := va_join (wr := []) (w1 := [(h0, .inr (6, [.ref qg, .ref qn, .int (nI pn), .int (nI (sr_np sg pn (sr_rw sg pn pt nu i).2.1))])), (qg, .inl (cg, 200, .inl sg)), (qn, .inl (cn, 4, .inl (upd (sr_rw sg pn pt nu i).2.2 i (sr_nv sg pn (sr_rw sg pn pt nu i).2.1))))]) hP hD [0, 1, 2] [] rfl rfl (by decide) (by decide) hk1 hFc hP1 hD1
          generalize H1 = H at hP hS ⊢
          have hP : va_P (dC, dI) xCl [(h0, .inr (6, [.ref qg, .ref qn, .int (nI pn), .int (nI (sr_np sg pn (sr_rw sg pn pt nu i).2.1))])), (qg, .inl (cg, 200, .inl sg)), (qn, .inl (cn, 4, .inl (upd (sr_rw sg pn pt nu i).2.2 i (sr_nv sg pn (sr_rw sg pn pt nu i).2.1))))] H := hP
          have hD : va_D A [(h0, .inr (6, [.ref qg, .ref qn, .int (nI pn), .int (nI (sr_np sg pn (sr_rw sg pn pt nu i).2.1))])), (qg, .inl (cg, 200, .inl sg)), (qn, .inl (cn, 4, .inl (upd (sr_rw sg pn pt nu i).2.2 i (sr_nv sg pn (sr_rw sg pn pt nu i).2.1))))] := hD
          refine lv_if_eq (tgt := 36) hx hb d_PA_nextRow_25 (by decide) (fun c_8 => ?_) (fun c_8 => ?_)
          · have b_9 := bI_f hw_7 c_8
            refine lv_iconst (v := 0) hx hb d_PA_nextRow_36 (by decide) ?_
            have hP9 := hP.sub (ws' := [(h0, .inr (6, [.ref qg, .ref qn, .int (nI pn), .int (nI (sr_np sg pn (sr_rw sg pn pt nu i).2.1))])), (qg, .inl (cg, 200, .inl sg)), (qn, .inl (cn, 4, .inl (upd (sr_rw sg pn pt nu i).2.2 i (sr_nv sg pn (sr_rw sg pn pt nu i).2.1))))]) [0, 1, 2] rfl
            have hD9 := hD.sub (ws' := [(h0, .inr (6, [.ref qg, .ref qn, .int (nI pn), .int (nI (sr_np sg pn (sr_rw sg pn pt nu i).2.1))])), (qg, .inl (cg, 200, .inl sg)), (qn, .inl (cn, 4, .inl (upd (sr_rw sg pn pt nu i).2.2 i (sr_nv sg pn (sr_rw sg pn pt nu i).2.1))))]) [0, 1, 2] (by decide) rfl
            have hK9 := hK.sub (tys' := [(cg, .char), (cn, .int)]) [0, 1] rfl
            exact W.zret (v := 0) (ty := .boolean) hx hb hr (by exact rfl) (fun t ht hW => ⟨⟨0, (), rfl, bI_n (by rw [(sr_rw_4 (sr_rw_n hok b_9) (by omega))]; exact Bool.noConfusion), ⟨by rw [ht]; rw [(sr_rw_4 (sr_rw_n hok b_9) (by omega))]; exact hP9, va_K.moved hW.alike hK9, by rw [(sr_rw_4 (sr_rw_n hok b_9) (by omega))]; exact hD9⟩⟩, hS.F ht⟩) hS.2.2 d_PA_nextRow_37 hlocks
          · have b_10 := bI_t hw_7 c_8
            refine lv_aload_n hx hb d_PA_nextRow_28 rfl (lv_at hl 1 rfl) ?_
            refine lv_iload_n hx hb d_PA_nextRow_29 rfl (lv_at hl 0 rfl) ?_
            have hPc := hP.sub (ws' := [(h0, .inr (6, [.ref qg, .ref qn, .int (nI pn), .int (nI (sr_np sg pn (sr_rw sg pn pt nu i).2.1))])), (qg, .inl (cg, 200, .inl sg))]) [0, 1] rfl
            have hDc := hD.sub (ws' := [(h0, .inr (6, [.ref qg, .ref qn, .int (nI pn), .int (nI (sr_np sg pn (sr_rw sg pn pt nu i).2.1))])), (qg, .inl (cg, 200, .inl sg))]) [0, 1] (by decide) rfl
            have hKc := hK.sub (tys' := [(cg, .char)]) [0] rfl
            have hFc := va_free (wc := [(h0, .inr (6, [.ref qg, .ref qn, .int (nI pn), .int (nI (sr_np sg pn (sr_rw sg pn pt nu i).2.1))])), (qg, .inl (cg, 200, .inl sg))]) hD hS hA [0, 1] rfl
            refine va_calli (va_runV (As := [.int 59]) (rest := []) ⟨hx, hb, hml, hown, hts⟩ (c_PA_skips l dC dI H.size h0 qg qn pn (sr_np sg pn (sr_rw sg pn pt nu i).2.1) cg sg 59 hc (sr_np_le hc hz2)) (cwV 1 hts (xgV wm_352 wm_354 wm_6 wm_33 wm_355) rfl rfl rfl (by decide +kernel) ⟨Nat.le_of_ble_eq_true rfl, Nat.le_of_ble_eq_true rfl⟩) ⟨xw_blind, va_recv hKc hPc (ci := 6) (q0 := 0) rfl rfl, fun U hU hW => ⟨rfl, by rw [hU], hz.warm hW, by rw [hU]; exact hPc, va_K.moved hW.alike hKc, hDc.weaken (fun _ _ _ _ => trivial)⟩⟩ rfl rfl hl.1 rfl (lv_room (Nat.le_of_ble_eq_true rfl)) d_PA_nextRow_30 ⟨Nat.le_of_ble_eq_true rfl, Nat.le_of_ble_eq_true rfl⟩) hS (fun q _ h => hFc q h) hFc (fun r_11 _ t H1 locs ht hvm hw_12 hB hz1 hk1 hS => ?_)
            obtain ⟨hP1, hK1, hD1⟩ := hB
            rw [ht] at hP1
            have hK1 := va_K.moved hvm.symm hK1
            obtain ⟨hP, hD⟩ := va_join (wr := [(qn, .inl (cn, 4, .inl (upd (sr_rw sg pn pt nu i).2.2 i (sr_nv sg pn (sr_rw sg pn pt nu i).2.1))))]) (w1 := [(h0, .inr (6, [.ref qg, .ref qn, .int (nI pn), .int (nI (sr_sk sg pn (sr_np sg pn (sr_rw sg pn pt nu i).2.1) 59))])), (qg, .inl (cg, 200, .inl sg))]) hP hD [0, 1] [2] rfl rfl (by decide) (by decide) hk1 hFc hP1 hD1
            generalize H1 = H at hP hS ⊢
            have hP : va_P (dC, dI) xCl [(qn, .inl (cn, 4, .inl (upd (sr_rw sg pn pt nu i).2.2 i (sr_nv sg pn (sr_rw sg pn pt nu i).2.1)))), (h0, .inr (6, [.ref qg, .ref qn, .int (nI pn), .int (nI (sr_sk sg pn (sr_np sg pn (sr_rw sg pn pt nu i).2.1) 59))])), (qg, .inl (cg, 200, .inl sg))] H := hP
            have hD : va_D A [(qn, .inl (cn, 4, .inl (upd (sr_rw sg pn pt nu i).2.2 i (sr_nv sg pn (sr_rw sg pn pt nu i).2.1)))), (h0, .inr (6, [.ref qg, .ref qn, .int (nI pn), .int (nI (sr_sk sg pn (sr_np sg pn (sr_rw sg pn pt nu i).2.1) 59))])), (qg, .inl (cg, 200, .inl sg))] := hD
            refine lv_if_ne (tgt := 38) hx hb d_PA_nextRow_33 (by decide) (fun c_13 => ?_) (fun c_13 => ?_)
            · have b_14 := bI_t hw_12 c_13
              refine lv_iinc (v := nI (i + 1)) (lv' := [(1, .int (nI (i + 1))), (2, .int 59), (0, .ref h0)]) hx hb d_PA_nextRow_38 hl (k := 2) rfl (nI_1 _) (by decide) rfl (fun ls hl => ?_)
              refine lv_goto (tgt := 2) hx hb d_PA_nextRow_41 (by decide) ?_
              exact ih  (i + 1) (sr_sk sg pn (sr_np sg pn (sr_rw sg pn pt nu i).2.1) 59) (upd (sr_rw sg pn pt nu i).2.2 i (sr_nv sg pn (sr_rw sg pn pt nu i).2.1)) (by omega) (by omega) (sr_sk_le hc (sr_np_le hc hz2)) (by rw [sr_rw_t hok b_10 (sr_b_f n_5) b_14]) (by rw [sr_rw_t hok b_10 (sr_b_f n_5) b_14]) (by rw [sr_rw_t hok b_10 (sr_b_f n_5) b_14]) _ _ (hP.sub [1, 2, 0] rfl) (hD.sub [1, 2, 0] (by decide) rfl) hS ls (lv_sub hl [2, 0] rfl)
            · have b_15 := bI_f hw_12 c_13
              refine lv_iconst (v := 0) hx hb d_PA_nextRow_36 (by decide) ?_
              have hP9 := hP.sub (ws' := [(h0, .inr (6, [.ref qg, .ref qn, .int (nI pn), .int (nI (sr_sk sg pn (sr_np sg pn (sr_rw sg pn pt nu i).2.1) 59))])), (qg, .inl (cg, 200, .inl sg)), (qn, .inl (cn, 4, .inl (upd (sr_rw sg pn pt nu i).2.2 i (sr_nv sg pn (sr_rw sg pn pt nu i).2.1))))]) [1, 2, 0] rfl
              have hD9 := hD.sub (ws' := [(h0, .inr (6, [.ref qg, .ref qn, .int (nI pn), .int (nI (sr_sk sg pn (sr_np sg pn (sr_rw sg pn pt nu i).2.1) 59))])), (qg, .inl (cg, 200, .inl sg)), (qn, .inl (cn, 4, .inl (upd (sr_rw sg pn pt nu i).2.2 i (sr_nv sg pn (sr_rw sg pn pt nu i).2.1))))]) [1, 2, 0] (by decide) rfl
              have hK9 := hK.sub (tys' := [(cg, .char), (cn, .int)]) [0, 1] rfl
              exact W.zret (v := 0) (ty := .boolean) hx hb hr (by exact rfl) (fun t ht hW => ⟨⟨0, (), rfl, bI_n (by rw [(sr_rw_4 (sr_rw_f hok b_10 (sr_b_f n_5) b_15) (by omega))]; exact Bool.noConfusion), ⟨by rw [ht]; rw [(sr_rw_4 (sr_rw_f hok b_10 (sr_b_f n_5) b_15) (by omega))]; exact hP9, va_K.moved hW.alike hK9, by rw [(sr_rw_4 (sr_rw_f hok b_10 (sr_b_f n_5) b_15) (by omega))]; exact hD9⟩⟩, hS.F ht⟩) hS.2.2 d_PA_nextRow_37 hlocks
        · have n_16 := xn_nle (a := 3) (b := i) c_4 (by decide) rfl (by omega) (by omega)
          refine lv_bipush (v := 32) hx hb d_PA_nextRow_12 (by decide) ?_
          refine lv_goto (tgt := 19) hx hb d_PA_nextRow_14 (by decide) ?_
          refine lv_istore_n (lv' := [(2, .int 32), (0, .ref h0), (1, .int (nI i))]) hx hb d_PA_nextRow_19 rfl hl (by decide) rfl (fun ls hl => ?_)
          refine lv_aload_n hx hb d_PA_nextRow_20 rfl (lv_at hl 1 rfl) ?_
          refine lv_iload_n hx hb d_PA_nextRow_21 rfl (lv_at hl 2 rfl) ?_
          have hPc := hP.sub (ws' := [(h0, .inr (6, [.ref qg, .ref qn, .int (nI pn), .int (nI (sr_rw sg pn pt nu i).2.1)])), (qg, .inl (cg, 200, .inl sg)), (qn, .inl (cn, 4, .inl (sr_rw sg pn pt nu i).2.2))]) [0, 1, 2] rfl
          have hDc := hD.sub (ws' := [(h0, .inr (6, [.ref qg, .ref qn, .int (nI pn), .int (nI (sr_rw sg pn pt nu i).2.1)])), (qg, .inl (cg, 200, .inl sg)), (qn, .inl (cn, 4, .inl (sr_rw sg pn pt nu i).2.2))]) [0, 1, 2] (by decide) rfl
          have hKc := hK.sub (tys' := [(cg, .char), (cn, .int)]) [0, 1] rfl
          have hFc := va_free (wc := [(h0, .inr (6, [.ref qg, .ref qn, .int (nI pn), .int (nI (sr_rw sg pn pt nu i).2.1)])), (qg, .inl (cg, 200, .inl sg)), (qn, .inl (cn, 4, .inl (sr_rw sg pn pt nu i).2.2))]) hD hS hA [0, 1, 2] rfl
          refine va_calli (va_runV (As := [.int (nI i)]) (rest := []) ⟨hx, hb, hml, hown, hts⟩ (c_PA_nextNumber l dC dI H.size h0 qg qn pn (sr_rw sg pn pt nu i).2.1 cg sg cn (sr_rw sg pn pt nu i).2.2 i (by first | assumption | omega | decide) (by first | assumption | omega | decide) (by first | assumption | omega | decide)) (cwV 1 hts (xgV wm_348 wm_350 wm_5 wm_33 wm_351) rfl rfl rfl (by decide +kernel) ⟨Nat.le_of_ble_eq_true rfl, Nat.le_of_ble_eq_true rfl⟩) ⟨xw_blind, va_recv hKc hPc (ci := 6) (q0 := 0) rfl rfl, fun U hU hW => ⟨rfl, by rw [hU], hz.warm hW, by rw [hU]; exact hPc, va_K.moved hW.alike hKc, hDc.weaken (fun _ _ _ _ => trivial)⟩⟩ rfl rfl hl.1 rfl (lv_room (Nat.le_of_ble_eq_true rfl)) d_PA_nextRow_22 ⟨Nat.le_of_ble_eq_true rfl, Nat.le_of_ble_eq_true rfl⟩) hS (fun q _ h => hFc q h) hFc (fun r_17 _ t H1 locs ht hvm hw_18 hB hz1 hk1 hS => ?_)
          obtain ⟨hP1, hK1, hD1⟩ := hB
          rw [ht] at hP1
          have hK1 := va_K.moved hvm.symm hK1
          obtain ⟨hP, hD⟩ := va_join (wr := []) (w1 := [(h0, .inr (6, [.ref qg, .ref qn, .int (nI pn), .int (nI (sr_np sg pn (sr_rw sg pn pt nu i).2.1))])), (qg, .inl (cg, 200, .inl sg)), (qn, .inl (cn, 4, .inl (upd (sr_rw sg pn pt nu i).2.2 i (sr_nv sg pn (sr_rw sg pn pt nu i).2.1))))]) hP hD [0, 1, 2] [] rfl rfl (by decide) (by decide) hk1 hFc hP1 hD1
          generalize H1 = H at hP hS ⊢
          have hP : va_P (dC, dI) xCl [(h0, .inr (6, [.ref qg, .ref qn, .int (nI pn), .int (nI (sr_np sg pn (sr_rw sg pn pt nu i).2.1))])), (qg, .inl (cg, 200, .inl sg)), (qn, .inl (cn, 4, .inl (upd (sr_rw sg pn pt nu i).2.2 i (sr_nv sg pn (sr_rw sg pn pt nu i).2.1))))] H := hP
          have hD : va_D A [(h0, .inr (6, [.ref qg, .ref qn, .int (nI pn), .int (nI (sr_np sg pn (sr_rw sg pn pt nu i).2.1))])), (qg, .inl (cg, 200, .inl sg)), (qn, .inl (cn, 4, .inl (upd (sr_rw sg pn pt nu i).2.2 i (sr_nv sg pn (sr_rw sg pn pt nu i).2.1))))] := hD
          refine lv_if_eq (tgt := 36) hx hb d_PA_nextRow_25 (by decide) (fun c_19 => ?_) (fun c_19 => ?_)
          · have b_20 := bI_f hw_18 c_19
            refine lv_iconst (v := 0) hx hb d_PA_nextRow_36 (by decide) ?_
            have hP9 := hP.sub (ws' := [(h0, .inr (6, [.ref qg, .ref qn, .int (nI pn), .int (nI (sr_np sg pn (sr_rw sg pn pt nu i).2.1))])), (qg, .inl (cg, 200, .inl sg)), (qn, .inl (cn, 4, .inl (upd (sr_rw sg pn pt nu i).2.2 i (sr_nv sg pn (sr_rw sg pn pt nu i).2.1))))]) [0, 1, 2] rfl
            have hD9 := hD.sub (ws' := [(h0, .inr (6, [.ref qg, .ref qn, .int (nI pn), .int (nI (sr_np sg pn (sr_rw sg pn pt nu i).2.1))])), (qg, .inl (cg, 200, .inl sg)), (qn, .inl (cn, 4, .inl (upd (sr_rw sg pn pt nu i).2.2 i (sr_nv sg pn (sr_rw sg pn pt nu i).2.1))))]) [0, 1, 2] (by decide) rfl
            have hK9 := hK.sub (tys' := [(cg, .char), (cn, .int)]) [0, 1] rfl
            exact W.zret (v := 0) (ty := .boolean) hx hb hr (by exact rfl) (fun t ht hW => ⟨⟨0, (), rfl, bI_n (by rw [(sr_rw_4 (sr_rw_n hok b_20) (by omega))]; exact Bool.noConfusion), ⟨by rw [ht]; rw [(sr_rw_4 (sr_rw_n hok b_20) (by omega))]; exact hP9, va_K.moved hW.alike hK9, by rw [(sr_rw_4 (sr_rw_n hok b_20) (by omega))]; exact hD9⟩⟩, hS.F ht⟩) hS.2.2 d_PA_nextRow_37 hlocks
          · have b_21 := bI_t hw_18 c_19
            refine lv_aload_n hx hb d_PA_nextRow_28 rfl (lv_at hl 1 rfl) ?_
            refine lv_iload_n hx hb d_PA_nextRow_29 rfl (lv_at hl 0 rfl) ?_
            have hPc := hP.sub (ws' := [(h0, .inr (6, [.ref qg, .ref qn, .int (nI pn), .int (nI (sr_np sg pn (sr_rw sg pn pt nu i).2.1))])), (qg, .inl (cg, 200, .inl sg))]) [0, 1] rfl
            have hDc := hD.sub (ws' := [(h0, .inr (6, [.ref qg, .ref qn, .int (nI pn), .int (nI (sr_np sg pn (sr_rw sg pn pt nu i).2.1))])), (qg, .inl (cg, 200, .inl sg))]) [0, 1] (by decide) rfl
            have hKc := hK.sub (tys' := [(cg, .char)]) [0] rfl
            have hFc := va_free (wc := [(h0, .inr (6, [.ref qg, .ref qn, .int (nI pn), .int (nI (sr_np sg pn (sr_rw sg pn pt nu i).2.1))])), (qg, .inl (cg, 200, .inl sg))]) hD hS hA [0, 1] rfl
            refine va_calli (va_runV (As := [.int 32]) (rest := []) ⟨hx, hb, hml, hown, hts⟩ (c_PA_skips l dC dI H.size h0 qg qn pn (sr_np sg pn (sr_rw sg pn pt nu i).2.1) cg sg 32 hc (sr_np_le hc hz2)) (cwV 1 hts (xgV wm_352 wm_354 wm_6 wm_33 wm_355) rfl rfl rfl (by decide +kernel) ⟨Nat.le_of_ble_eq_true rfl, Nat.le_of_ble_eq_true rfl⟩) ⟨xw_blind, va_recv hKc hPc (ci := 6) (q0 := 0) rfl rfl, fun U hU hW => ⟨rfl, by rw [hU], hz.warm hW, by rw [hU]; exact hPc, va_K.moved hW.alike hKc, hDc.weaken (fun _ _ _ _ => trivial)⟩⟩ rfl rfl hl.1 rfl (lv_room (Nat.le_of_ble_eq_true rfl)) d_PA_nextRow_30 ⟨Nat.le_of_ble_eq_true rfl, Nat.le_of_ble_eq_true rfl⟩) hS (fun q _ h => hFc q h) hFc (fun r_22 _ t H1 locs ht hvm hw_23 hB hz1 hk1 hS => ?_)
            obtain ⟨hP1, hK1, hD1⟩ := hB
            rw [ht] at hP1
            have hK1 := va_K.moved hvm.symm hK1
            obtain ⟨hP, hD⟩ := va_join (wr := [(qn, .inl (cn, 4, .inl (upd (sr_rw sg pn pt nu i).2.2 i (sr_nv sg pn (sr_rw sg pn pt nu i).2.1))))]) (w1 := [(h0, .inr (6, [.ref qg, .ref qn, .int (nI pn), .int (nI (sr_sk sg pn (sr_np sg pn (sr_rw sg pn pt nu i).2.1) 32))])), (qg, .inl (cg, 200, .inl sg))]) hP hD [0, 1] [2] rfl rfl (by decide) (by decide) hk1 hFc hP1 hD1
            generalize H1 = H at hP hS ⊢
            have hP : va_P (dC, dI) xCl [(qn, .inl (cn, 4, .inl (upd (sr_rw sg pn pt nu i).2.2 i (sr_nv sg pn (sr_rw sg pn pt nu i).2.1)))), (h0, .inr (6, [.ref qg, .ref qn, .int (nI pn), .int (nI (sr_sk sg pn (sr_np sg pn (sr_rw sg pn pt nu i).2.1) 32))])), (qg, .inl (cg, 200, .inl sg))] H := hP
            have hD : va_D A [(qn, .inl (cn, 4, .inl (upd (sr_rw sg pn pt nu i).2.2 i (sr_nv sg pn (sr_rw sg pn pt nu i).2.1)))), (h0, .inr (6, [.ref qg, .ref qn, .int (nI pn), .int (nI (sr_sk sg pn (sr_np sg pn (sr_rw sg pn pt nu i).2.1) 32))])), (qg, .inl (cg, 200, .inl sg))] := hD
            refine lv_if_ne (tgt := 38) hx hb d_PA_nextRow_33 (by decide) (fun c_24 => ?_) (fun c_24 => ?_)
            · have b_25 := bI_t hw_23 c_24
              refine lv_iinc (v := nI (i + 1)) (lv' := [(1, .int (nI (i + 1))), (2, .int 32), (0, .ref h0)]) hx hb d_PA_nextRow_38 hl (k := 2) rfl (nI_1 _) (by decide) rfl (fun ls hl => ?_)
              refine lv_goto (tgt := 2) hx hb d_PA_nextRow_41 (by decide) ?_
              exact ih  (i + 1) (sr_sk sg pn (sr_np sg pn (sr_rw sg pn pt nu i).2.1) 32) (upd (sr_rw sg pn pt nu i).2.2 i (sr_nv sg pn (sr_rw sg pn pt nu i).2.1)) (by omega) (by omega) (sr_sk_le hc (sr_np_le hc hz2)) (by rw [sr_rw_t hok b_21 (sr_b_t n_16) b_25]) (by rw [sr_rw_t hok b_21 (sr_b_t n_16) b_25]) (by rw [sr_rw_t hok b_21 (sr_b_t n_16) b_25]) _ _ (hP.sub [1, 2, 0] rfl) (hD.sub [1, 2, 0] (by decide) rfl) hS ls (lv_sub hl [2, 0] rfl)
            · have b_26 := bI_f hw_23 c_24
              refine lv_iconst (v := 0) hx hb d_PA_nextRow_36 (by decide) ?_
              have hP9 := hP.sub (ws' := [(h0, .inr (6, [.ref qg, .ref qn, .int (nI pn), .int (nI (sr_sk sg pn (sr_np sg pn (sr_rw sg pn pt nu i).2.1) 32))])), (qg, .inl (cg, 200, .inl sg)), (qn, .inl (cn, 4, .inl (upd (sr_rw sg pn pt nu i).2.2 i (sr_nv sg pn (sr_rw sg pn pt nu i).2.1))))]) [1, 2, 0] rfl
              have hD9 := hD.sub (ws' := [(h0, .inr (6, [.ref qg, .ref qn, .int (nI pn), .int (nI (sr_sk sg pn (sr_np sg pn (sr_rw sg pn pt nu i).2.1) 32))])), (qg, .inl (cg, 200, .inl sg)), (qn, .inl (cn, 4, .inl (upd (sr_rw sg pn pt nu i).2.2 i (sr_nv sg pn (sr_rw sg pn pt nu i).2.1))))]) [1, 2, 0] (by decide) rfl
              have hK9 := hK.sub (tys' := [(cg, .char), (cn, .int)]) [0, 1] rfl
              exact W.zret (v := 0) (ty := .boolean) hx hb hr (by exact rfl) (fun t ht hW => ⟨⟨0, (), rfl, bI_n (by rw [(sr_rw_4 (sr_rw_f hok b_21 (sr_b_t n_16) b_26) (by omega))]; exact Bool.noConfusion), ⟨by rw [ht]; rw [(sr_rw_4 (sr_rw_f hok b_21 (sr_b_t n_16) b_26) (by omega))]; exact hP9, va_K.moved hW.alike hK9, by rw [(sr_rw_4 (sr_rw_f hok b_21 (sr_b_t n_16) b_26) (by omega))]; exact hD9⟩⟩, hS.F ht⟩) hS.2.2 d_PA_nextRow_37 hlocks
  exact lp2 (4 - 0 + 1) 0 pt nu (by omega) (Nat.zero_le _) ha rfl rfl rfl _ _ (hP.sub [0, 1, 2] rfl) (hD.sub [0, 1, 2] (by decide) rfl) hS ls (lv_sub hl [1, 0] rfl)
set_option maxHeartbeats 4000000 in
set_option maxRecDepth 100000 in
/-- Pad() -/
theorem c_PA_init (l : Launch) (dC : Nat → ClassId) (dI : Nat → Nat → Nat) (sz : Nat) (h0 : Nat)  : Met l xy_PA_init xw_PA_init ({ frames := 1, cells := 2, slots := 204, locals := 12 }) (xp_w [.ref h0] sz (dC, dI) xCl [(h0, .inr (6, [.null, .null, .int 0, .int 0]))] []) (va_Qv (fun (_ : Unit) => True) (fun _ t => ∃ (qg : Nat) (qn : Nat) (cg : ClassId) (cn : ClassId), xb_w (dC, dI) xCl [(h0, .inr (6, [.ref qg, .ref qn, .int (nI 0), .int (nI 0)])), (qg, .inl (cg, 200, .inl (fun _ => 0))), (qn, .inl (cn, 4, .inl (fun _ => 0)))] [(cg, .char), (cn, .int)] (va_A [(h0, .inr (6, [.null, .null, .int 0, .int 0]))] sz) t) (va_A [(h0, .inr (6, [.null, .null, .int 0, .int 0]))] sz)) 2 204 (va_A [(h0, .inr (6, [.null, .null, .int 0, .int 0]))] sz) := by
  refine Met.ofW (cc := prog_4_method_1_code) (maxL := 1) (ret := none) (by decide) rfl ?_
  intro p e s m args below meth c s₁ B hml hv
  obtain ⟨rfl, hsz, hz, hP, hK, hD0⟩ := hv
  have hx := B.exec
  have hb := B.bytes
  have hr := B.returns
  have hts := atoms_spec (ws := xw_PA_init) B.pre
  have hown : s.vm.findClass xR_PA = some m.cls := findClass_of_methodNamed B.named
  have hlocks := B.notSynchronized
  have hin : meth.name = "<init>" := (name_of_methodNamed B.named B.method).1
  subst hsz
  have hD := hD0.self (sz := s.heap.size)
  generalize hAe : va_A [(h0, .inr (6, [.null, .null, .int 0, .int 0]))] s.heap.size = A at hD ⊢
  have hA : ∀ q : Nat, s.heap.size ≤ q → A q := fun q h => by rw [← hAe]; exact Or.inr h
  have hS : va_S A s.heap s.heap [] := va_S.rf
  have hP : va_P (dC, dI) xCl [(h0, .inr (6, [.null, .null, .int 0, .int 0]))] s.heap := hP
  have hl := lv_entry ([.ref h0]) (n := 1) (Nat.le_of_ble_eq_true rfl)
  rw [lg_entry_eq]
  generalize (lg_sl ([.ref h0]) ++ List.replicate (1 - (lg_sl ([.ref h0])).length) Slot.unset).toArray = ls at hl ⊢
  have hl : lv_has ls 1 [(0, .ref h0)] := hl
  refine lv_aload_n hx hb d_PA_init_0 rfl (lv_at hl 0 rfl) ?_
  refine W.objInit hx hb hown (hts _ (List.mem_cons_of_mem _ wm_229)) (hts _ (List.mem_cons_of_mem _ wm_47)) (hts _ (List.mem_cons_of_mem _ wm_48)) rfl (by rw [hml]; exact hl.1) rfl d_PA_init_1 (Nat.le_of_ble_eq_true rfl) (Nat.le_of_ble_eq_true rfl) ?_
  refine W.eq (g2 := F0 m 4 ls []) rfl ?_
  refine lv_aload_n hx hb d_PA_init_4 rfl (lv_at hl 0 rfl) ?_
  refine lv_sipush (v := 200) hx hb d_PA_init_5 (by decide) ?_
  refine va_newa (atype := .char) (a0 := (200, .inl (fun _ => 0))) (N' := 200) hx hb (hts _ (List.mem_cons_of_mem _ wm_245)) rfl hK hP hD hS hA (fun _ => rfl) (by decide) (by decide) (by decide) (Nat.le_of_ble_eq_true rfl) (Nat.le_of_ble_eq_true rfl) d_PA_init_8 (fun q_1 cA_2 H hK hP hD hS => ?_)
  have hK : va_K (dC, dI) xCl [(cA_2, .char)] s := hK
  have hP : va_P (dC, dI) xCl [(h0, .inr (6, [.null, .null, .int 0, .int 0])), (q_1, .inl (cA_2, 200, .inl (fun _ => 0)))] H := hP
  have hD : va_D A [(h0, .inr (6, [.null, .null, .int 0, .int 0])), (q_1, .inl (cA_2, 200, .inl (fun _ => 0)))] := hD
  refine W.widen (k := 1) (n := 200) (by decide) (by decide) ?_
  refine va_putF (D := (dC, dI)) (ci := 6) (v := .ref q_1) (ty := (.array .char)) (C := xR_PA) (T := xT_PA) (N := 4) hx hb hts (fun w h => List.mem_cons_of_mem _ (iw_PA w h)) xt_PA xt_PA_ok xn_PA_nm hown hK hP hD hS 0 rfl rfl 0 (by decide) (hts _ (List.mem_cons_of_mem _ wm_230)) (fun _ h9 => h9) rfl hin rfl (by decide +kernel) rfl rfl (Nat.le_of_ble_eq_true rfl) d_PA_init_10 (fun H locs hP hD hS => ?_)
  have hP : va_P (dC, dI) xCl [(h0, .inr (6, [.ref q_1, .null, .int 0, .int 0])), (q_1, .inl (cA_2, 200, .inl (fun _ => 0)))] H := hP
  have hD : va_D A [(h0, .inr (6, [.ref q_1, .null, .int 0, .int 0])), (q_1, .inl (cA_2, 200, .inl (fun _ => 0)))] := hD
  refine lv_aload_n hx hb d_PA_init_13 rfl (lv_at hl 0 rfl) ?_
  refine lv_iconst (v := 4) hx hb d_PA_init_14 (by decide) ?_
  refine va_newa (atype := .int) (a0 := (4, .inl (fun _ => 0))) (N' := 4) hx hb (hts _ (List.mem_cons_of_mem _ wm_78)) rfl hK hP hD hS hA (fun _ => rfl) (by decide) (by decide) (by decide) (Nat.le_of_ble_eq_true rfl) (Nat.le_of_ble_eq_true rfl) d_PA_init_15 (fun q_3 cA_4 H hK hP hD hS => ?_)
  have hK : va_K (dC, dI) xCl [(cA_2, .char), (cA_4, .int)] s := hK
  have hP : va_P (dC, dI) xCl [(h0, .inr (6, [.ref q_1, .null, .int 0, .int 0])), (q_1, .inl (cA_2, 200, .inl (fun _ => 0))), (q_3, .inl (cA_4, 4, .inl (fun _ => 0)))] H := hP
  have hD : va_D A [(h0, .inr (6, [.ref q_1, .null, .int 0, .int 0])), (q_1, .inl (cA_2, 200, .inl (fun _ => 0))), (q_3, .inl (cA_4, 4, .inl (fun _ => 0)))] := hD
  refine W.widen (k := 2) (n := 204) (by decide) (by decide) ?_
  refine va_putF (D := (dC, dI)) (ci := 6) (v := .ref q_3) (ty := (.array .int)) (C := xR_PA) (T := xT_PA) (N := 4) hx hb hts (fun w h => List.mem_cons_of_mem _ (iw_PA w h)) xt_PA xt_PA_ok xn_PA_nm hown hK hP hD hS 0 rfl rfl 1 (by decide) (hts _ (List.mem_cons_of_mem _ wm_231)) (fun _ h9 => h9) rfl hin rfl (by decide +kernel) rfl rfl (Nat.le_of_ble_eq_true rfl) d_PA_init_17 (fun H locs hP hD hS => ?_)
  have hP : va_P (dC, dI) xCl [(h0, .inr (6, [.ref q_1, .ref q_3, .int 0, .int 0])), (q_1, .inl (cA_2, 200, .inl (fun _ => 0))), (q_3, .inl (cA_4, 4, .inl (fun _ => 0)))] H := hP
  have hD : va_D A [(h0, .inr (6, [.ref q_1, .ref q_3, .int 0, .int 0])), (q_1, .inl (cA_2, 200, .inl (fun _ => 0))), (q_3, .inl (cA_4, 4, .inl (fun _ => 0)))] := hD
  have hP9 := hP.sub (ws' := [(h0, .inr (6, [.ref q_1, .ref q_3, .int 0, .int 0])), (q_1, .inl (cA_2, 200, .inl (fun _ => 0))), (q_3, .inl (cA_4, 4, .inl (fun _ => 0)))]) [0, 1, 2] rfl
  have hD9 := hD.sub (ws' := [(h0, .inr (6, [.ref q_1, .ref q_3, .int 0, .int 0])), (q_1, .inl (cA_2, 200, .inl (fun _ => 0))), (q_3, .inl (cA_4, 4, .inl (fun _ => 0)))]) [0, 1, 2] (by decide) rfl
  have hK9 := hK.sub (tys' := [(cA_2, .char), (cA_4, .int)]) [0, 1] rfl
  exact W.vret hx hb hr (fun t ht hW => ⟨⟨(), rfl, trivial, q_1, q_3, cA_2, cA_4, ⟨by rw [ht]; exact hP9, va_K.moved hW.alike hK9, by exact hD9⟩⟩, hS.F ht⟩) hS.2.2 d_PA_init_20 hlocks
