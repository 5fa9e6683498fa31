theorem d_MD_thrown_0 : decode prog_9_method_2_code 0 = .ok (.aload_n 0, 1) := by decide +kernel
theorem d_MD_thrown_1 : decode prog_9_method_2_code 1 = .ok (.getfield 48, 3) := by decide +kernel
theorem d_MD_thrown_4 : decode prog_9_method_2_code 4 = .ok (.ireturn, 1) := by decide +kernel
theorem d_MD_goes_0 : decode prog_9_method_3_code 0 = .ok (.aload_n 0, 1) := by decide +kernel
theorem d_MD_goes_1 : decode prog_9_method_3_code 1 = .ok (.iload_n 1, 1) := by decide +kernel
theorem d_MD_goes_2 : decode prog_9_method_3_code 2 = .ok (.ifCond .ne 7, 3) := by decide +kernel
theorem d_MD_goes_5 : decode prog_9_method_3_code 5 = .ok (.iconst 1, 1) := by decide +kernel
theorem d_MD_goes_6 : decode prog_9_method_3_code 6 = .ok (.goto 20, 3) := by decide +kernel
theorem d_MD_goes_9 : decode prog_9_method_3_code 9 = .ok (.iload_n 2, 1) := by decide +kernel
theorem d_MD_goes_10 : decode prog_9_method_3_code 10 = .ok (.ifCond .ne 7, 3) := by decide +kernel
theorem d_MD_goes_13 : decode prog_9_method_3_code 13 = .ok (.iconst 2, 1) := by decide +kernel
theorem d_MD_goes_14 : decode prog_9_method_3_code 14 = .ok (.goto 12, 3) := by decide +kernel
theorem d_MD_goes_17 : decode prog_9_method_3_code 17 = .ok (.iload_n 3, 1) := by decide +kernel
theorem d_MD_goes_18 : decode prog_9_method_3_code 18 = .ok (.ifCond .ne 7, 3) := by decide +kernel
theorem d_MD_goes_21 : decode prog_9_method_3_code 21 = .ok (.iconst 3, 1) := by decide +kernel
theorem d_MD_goes_22 : decode prog_9_method_3_code 22 = .ok (.goto 4, 3) := by decide +kernel
theorem d_MD_goes_25 : decode prog_9_method_3_code 25 = .ok (.iconst 0, 1) := by decide +kernel
theorem d_MD_goes_26 : decode prog_9_method_3_code 26 = .ok (.putfield 48, 3) := by decide +kernel
theorem d_MD_goes_29 : decode prog_9_method_3_code 29 = .ok (.aload_n 0, 1) := by decide +kernel
theorem d_MD_goes_30 : decode prog_9_method_3_code 30 = .ok (.getfield 48, 3) := by decide +kernel
theorem d_MD_goes_33 : decode prog_9_method_3_code 33 = .ok (.ifCond .ne 7, 3) := by decide +kernel
theorem d_MD_goes_36 : decode prog_9_method_3_code 36 = .ok (.iconst 1, 1) := by decide +kernel
theorem d_MD_goes_37 : decode prog_9_method_3_code 37 = .ok (.goto 4, 3) := by decide +kernel
theorem d_MD_goes_40 : decode prog_9_method_3_code 40 = .ok (.iconst 0, 1) := by decide +kernel
theorem d_MD_goes_41 : decode prog_9_method_3_code 41 = .ok (.ireturn, 1) := by decide +kernel
theorem d_MD_within_0 : decode prog_9_method_4_code 0 = .ok (.iload_n 0, 1) := by decide +kernel
theorem d_MD_within_1 : decode prog_9_method_4_code 1 = .ok (.iload_n 1, 1) := by decide +kernel
theorem d_MD_within_2 : decode prog_9_method_4_code 2 = .ok (.if_icmp .lt 12, 3) := by decide +kernel
theorem d_MD_within_5 : decode prog_9_method_4_code 5 = .ok (.iload_n 0, 1) := by decide +kernel
theorem d_MD_within_6 : decode prog_9_method_4_code 6 = .ok (.iload_n 2, 1) := by decide +kernel
theorem d_MD_within_7 : decode prog_9_method_4_code 7 = .ok (.if_icmp .gt 7, 3) := by decide +kernel
theorem d_MD_within_10 : decode prog_9_method_4_code 10 = .ok (.iconst 1, 1) := by decide +kernel
theorem d_MD_within_11 : decode prog_9_method_4_code 11 = .ok (.goto 4, 3) := by decide +kernel
theorem d_MD_within_14 : decode prog_9_method_4_code 14 = .ok (.iconst 0, 1) := by decide +kernel
theorem d_MD_within_15 : decode prog_9_method_4_code 15 = .ok (.ireturn, 1) := by decide +kernel
theorem d_MD_areNear_0 : decode prog_9_method_5_code 0 = .ok (.iload_n 0, 1) := by decide +kernel
theorem d_MD_areNear_1 : decode prog_9_method_5_code 1 = .ok (.sipush (-10000), 3) := by decide +kernel
theorem d_MD_areNear_4 : decode prog_9_method_5_code 4 = .ok (.sipush 10000, 3) := by decide +kernel
theorem d_MD_areNear_7 : decode prog_9_method_5_code 7 = .ok (.invokestatic 51, 3) := by decide +kernel
theorem d_MD_areNear_10 : decode prog_9_method_5_code 10 = .ok (.ifCond .eq 33, 3) := by decide +kernel
theorem d_MD_areNear_13 : decode prog_9_method_5_code 13 = .ok (.iload_n 1, 1) := by decide +kernel
theorem d_MD_areNear_14 : decode prog_9_method_5_code 14 = .ok (.sipush (-10000), 3) := by decide +kernel
theorem d_MD_areNear_17 : decode prog_9_method_5_code 17 = .ok (.sipush 10000, 3) := by decide +kernel
theorem d_MD_areNear_20 : decode prog_9_method_5_code 20 = .ok (.invokestatic 51, 3) := by decide +kernel
theorem d_MD_areNear_23 : decode prog_9_method_5_code 23 = .ok (.ifCond .eq 20, 3) := by decide +kernel
theorem d_MD_areNear_26 : decode prog_9_method_5_code 26 = .ok (.iload_n 2, 1) := by decide +kernel
theorem d_MD_areNear_27 : decode prog_9_method_5_code 27 = .ok (.sipush (-10000), 3) := by decide +kernel
theorem d_MD_areNear_30 : decode prog_9_method_5_code 30 = .ok (.sipush 10000, 3) := by decide +kernel
theorem d_MD_areNear_33 : decode prog_9_method_5_code 33 = .ok (.invokestatic 51, 3) := by decide +kernel
theorem d_MD_areNear_36 : decode prog_9_method_5_code 36 = .ok (.ifCond .eq 7, 3) := by decide +kernel
theorem d_MD_areNear_39 : decode prog_9_method_5_code 39 = .ok (.iconst 1, 1) := by decide +kernel
theorem d_MD_areNear_40 : decode prog_9_method_5_code 40 = .ok (.goto 4, 3) := by decide +kernel
theorem d_MD_areNear_43 : decode prog_9_method_5_code 43 = .ok (.iconst 0, 1) := by decide +kernel
theorem d_MD_areNear_44 : decode prog_9_method_5_code 44 = .ok (.ireturn, 1) := by decide +kernel
theorem d_MD_down_0 : decode prog_9_method_6_code 0 = .ok (.lload_n 0, 1) := by decide +kernel
theorem d_MD_down_1 : decode prog_9_method_6_code 1 = .ok (.lload_n 2, 1) := by decide +kernel
theorem d_MD_down_2 : decode prog_9_method_6_code 2 = .ok (.ldiv, 1) := by decide +kernel
theorem d_MD_down_3 : decode prog_9_method_6_code 3 = .ok (.lstore 4, 2) := by decide +kernel
theorem d_MD_down_5 : decode prog_9_method_6_code 5 = .ok (.lload 4, 2) := by decide +kernel
theorem d_MD_down_7 : decode prog_9_method_6_code 7 = .ok (.lload_n 2, 1) := by decide +kernel
theorem d_MD_down_8 : decode prog_9_method_6_code 8 = .ok (.lmul, 1) := by decide +kernel
theorem d_MD_down_9 : decode prog_9_method_6_code 9 = .ok (.lload_n 0, 1) := by decide +kernel
theorem d_MD_down_10 : decode prog_9_method_6_code 10 = .ok (.lcmp, 1) := by decide +kernel
theorem d_MD_down_11 : decode prog_9_method_6_code 11 = .ok (.ifCond .le 10, 3) := by decide +kernel
theorem d_MD_down_14 : decode prog_9_method_6_code 14 = .ok (.lload 4, 2) := by decide +kernel
theorem d_MD_down_16 : decode prog_9_method_6_code 16 = .ok (.lconst 1, 1) := by decide +kernel
theorem d_MD_down_17 : decode prog_9_method_6_code 17 = .ok (.lsub, 1) := by decide +kernel
theorem d_MD_down_18 : decode prog_9_method_6_code 18 = .ok (.goto 5, 3) := by decide +kernel
theorem d_MD_down_21 : decode prog_9_method_6_code 21 = .ok (.lload 4, 2) := by decide +kernel
theorem d_MD_down_23 : decode prog_9_method_6_code 23 = .ok (.lreturn, 1) := by decide +kernel
theorem d_MD_isObservation_0 : decode prog_9_method_7_code 0 = .ok (.iload_n 1, 1) := by decide +kernel
theorem d_MD_isObservation_1 : decode prog_9_method_7_code 1 = .ok (.iconst 0, 1) := by decide +kernel
theorem d_MD_isObservation_2 : decode prog_9_method_7_code 2 = .ok (.aload_n 0, 1) := by decide +kernel
theorem d_MD_isObservation_3 : decode prog_9_method_7_code 3 = .ok (.getfield 55, 3) := by decide +kernel
theorem d_MD_isObservation_6 : decode prog_9_method_7_code 6 = .ok (.iconst 1, 1) := by decide +kernel
theorem d_MD_isObservation_7 : decode prog_9_method_7_code 7 = .ok (.isub, 1) := by decide +kernel
theorem d_MD_isObservation_8 : decode prog_9_method_7_code 8 = .ok (.invokestatic 51, 3) := by decide +kernel
theorem d_MD_isObservation_11 : decode prog_9_method_7_code 11 = .ok (.ireturn, 1) := by decide +kernel
theorem d_MD_tell_0 : decode prog_9_method_9_code 0 = .ok (.aload_n 0, 1) := by decide +kernel
theorem d_MD_tell_1 : decode prog_9_method_9_code 1 = .ok (.getfield 13, 3) := by decide +kernel
theorem d_MD_tell_4 : decode prog_9_method_9_code 4 = .ok (.aload_n 0, 1) := by decide +kernel
theorem d_MD_tell_5 : decode prog_9_method_9_code 5 = .ok (.getfield 55, 3) := by decide +kernel
theorem d_MD_tell_8 : decode prog_9_method_9_code 8 = .ok (.iload_n 1, 1) := by decide +kernel
theorem d_MD_tell_9 : decode prog_9_method_9_code 9 = .ok (.iastore, 1) := by decide +kernel
theorem d_MD_tell_10 : decode prog_9_method_9_code 10 = .ok (.aload_n 0, 1) := by decide +kernel
theorem d_MD_tell_11 : decode prog_9_method_9_code 11 = .ok (.getfield 16, 3) := by decide +kernel
theorem d_MD_tell_14 : decode prog_9_method_9_code 14 = .ok (.iconst 3, 1) := by decide +kernel
theorem d_MD_tell_15 : decode prog_9_method_9_code 15 = .ok (.aload_n 0, 1) := by decide +kernel
theorem d_MD_tell_16 : decode prog_9_method_9_code 16 = .ok (.getfield 55, 3) := by decide +kernel
theorem d_MD_tell_19 : decode prog_9_method_9_code 19 = .ok (.imul, 1) := by decide +kernel
theorem d_MD_tell_20 : decode prog_9_method_9_code 20 = .ok (.iload_n 2, 1) := by decide +kernel
theorem d_MD_tell_21 : decode prog_9_method_9_code 21 = .ok (.iastore, 1) := by decide +kernel
theorem d_MD_tell_22 : decode prog_9_method_9_code 22 = .ok (.aload_n 0, 1) := by decide +kernel
theorem d_MD_tell_23 : decode prog_9_method_9_code 23 = .ok (.getfield 16, 3) := by decide +kernel
theorem d_MD_tell_26 : decode prog_9_method_9_code 26 = .ok (.iconst 3, 1) := by decide +kernel
theorem d_MD_tell_27 : decode prog_9_method_9_code 27 = .ok (.aload_n 0, 1) := by decide +kernel
theorem d_MD_tell_28 : decode prog_9_method_9_code 28 = .ok (.getfield 55, 3) := by decide +kernel
theorem d_MD_tell_31 : decode prog_9_method_9_code 31 = .ok (.imul, 1) := by decide +kernel
theorem d_MD_tell_32 : decode prog_9_method_9_code 32 = .ok (.iconst 1, 1) := by decide +kernel
theorem d_MD_tell_33 : decode prog_9_method_9_code 33 = .ok (.iadd, 1) := by decide +kernel
theorem d_MD_tell_34 : decode prog_9_method_9_code 34 = .ok (.iload_n 3, 1) := by decide +kernel
theorem d_MD_tell_35 : decode prog_9_method_9_code 35 = .ok (.iastore, 1) := by decide +kernel
theorem d_MD_tell_36 : decode prog_9_method_9_code 36 = .ok (.aload_n 0, 1) := by decide +kernel
theorem d_MD_tell_37 : decode prog_9_method_9_code 37 = .ok (.getfield 16, 3) := by decide +kernel
theorem d_MD_tell_40 : decode prog_9_method_9_code 40 = .ok (.iconst 3, 1) := by decide +kernel
theorem d_MD_tell_41 : decode prog_9_method_9_code 41 = .ok (.aload_n 0, 1) := by decide +kernel
theorem d_MD_tell_42 : decode prog_9_method_9_code 42 = .ok (.getfield 55, 3) := by decide +kernel
theorem d_MD_tell_45 : decode prog_9_method_9_code 45 = .ok (.imul, 1) := by decide +kernel
theorem d_MD_tell_46 : decode prog_9_method_9_code 46 = .ok (.iconst 2, 1) := by decide +kernel
theorem d_MD_tell_47 : decode prog_9_method_9_code 47 = .ok (.iadd, 1) := by decide +kernel
theorem d_MD_tell_48 : decode prog_9_method_9_code 48 = .ok (.iload 4, 2) := by decide +kernel
theorem d_MD_tell_50 : decode prog_9_method_9_code 50 = .ok (.iastore, 1) := by decide +kernel
theorem d_MD_tell_51 : decode prog_9_method_9_code 51 = .ok (.aload_n 0, 1) := by decide +kernel
theorem d_MD_tell_52 : decode prog_9_method_9_code 52 = .ok (.getfield 22, 3) := by decide +kernel
theorem d_MD_tell_55 : decode prog_9_method_9_code 55 = .ok (.aload_n 0, 1) := by decide +kernel
theorem d_MD_tell_56 : decode prog_9_method_9_code 56 = .ok (.getfield 55, 3) := by decide +kernel
theorem d_MD_tell_59 : decode prog_9_method_9_code 59 = .ok (.iconst 1, 1) := by decide +kernel
theorem d_MD_tell_60 : decode prog_9_method_9_code 60 = .ok (.bastore, 1) := by decide +kernel
theorem d_MD_tell_61 : decode prog_9_method_9_code 61 = .ok (.aload_n 0, 1) := by decide +kernel
theorem d_MD_tell_62 : decode prog_9_method_9_code 62 = .ok (.dup, 1) := by decide +kernel
theorem d_MD_tell_63 : decode prog_9_method_9_code 63 = .ok (.getfield 55, 3) := by decide +kernel
theorem d_MD_tell_66 : decode prog_9_method_9_code 66 = .ok (.iconst 1, 1) := by decide +kernel
theorem d_MD_tell_67 : decode prog_9_method_9_code 67 = .ok (.iadd, 1) := by decide +kernel
theorem d_MD_tell_68 : decode prog_9_method_9_code 68 = .ok (.putfield 55, 3) := by decide +kernel
theorem d_MD_tell_71 : decode prog_9_method_9_code 71 = .ok (.return_, 1) := by decide +kernel
theorem d_MD_usedNow_0 : decode prog_9_method_13_code 0 = .ok (.iconst 0, 1) := by decide +kernel
theorem d_MD_usedNow_1 : decode prog_9_method_13_code 1 = .ok (.istore_n 1, 1) := by decide +kernel
theorem d_MD_usedNow_2 : decode prog_9_method_13_code 2 = .ok (.iconst 0, 1) := by decide +kernel
theorem d_MD_usedNow_3 : decode prog_9_method_13_code 3 = .ok (.istore_n 2, 1) := by decide +kernel
theorem d_MD_usedNow_4 : decode prog_9_method_13_code 4 = .ok (.iload_n 2, 1) := by decide +kernel
theorem d_MD_usedNow_5 : decode prog_9_method_13_code 5 = .ok (.aload_n 0, 1) := by decide +kernel
theorem d_MD_usedNow_6 : decode prog_9_method_13_code 6 = .ok (.getfield 55, 3) := by decide +kernel
theorem d_MD_usedNow_9 : decode prog_9_method_13_code 9 = .ok (.if_icmp .ge 26, 3) := by decide +kernel
theorem d_MD_usedNow_12 : decode prog_9_method_13_code 12 = .ok (.aload_n 0, 1) := by decide +kernel
theorem d_MD_usedNow_13 : decode prog_9_method_13_code 13 = .ok (.getfield 22, 3) := by decide +kernel
theorem d_MD_usedNow_16 : decode prog_9_method_13_code 16 = .ok (.iload_n 2, 1) := by decide +kernel
theorem d_MD_usedNow_17 : decode prog_9_method_13_code 17 = .ok (.baload, 1) := by decide +kernel
theorem d_MD_usedNow_18 : decode prog_9_method_13_code 18 = .ok (.ifCond .eq 9, 3) := by decide +kernel
theorem d_MD_usedNow_21 : decode prog_9_method_13_code 21 = .ok (.iload_n 1, 1) := by decide +kernel
theorem d_MD_usedNow_22 : decode prog_9_method_13_code 22 = .ok (.iconst 1, 1) := by decide +kernel
theorem d_MD_usedNow_23 : decode prog_9_method_13_code 23 = .ok (.iadd, 1) := by decide +kernel
theorem d_MD_usedNow_24 : decode prog_9_method_13_code 24 = .ok (.goto 4, 3) := by decide +kernel
theorem d_MD_usedNow_27 : decode prog_9_method_13_code 27 = .ok (.iload_n 1, 1) := by decide +kernel
theorem d_MD_usedNow_28 : decode prog_9_method_13_code 28 = .ok (.istore_n 1, 1) := by decide +kernel
theorem d_MD_usedNow_29 : decode prog_9_method_13_code 29 = .ok (.iinc 2 1, 3) := by decide +kernel
theorem d_MD_usedNow_32 : decode prog_9_method_13_code 32 = .ok (.goto (-28), 3) := by decide +kernel
theorem d_MD_usedNow_35 : decode prog_9_method_13_code 35 = .ok (.iload_n 1, 1) := by decide +kernel
theorem d_MD_usedNow_36 : decode prog_9_method_13_code 36 = .ok (.ireturn, 1) := by decide +kernel
theorem d_MD_sets_0 : decode prog_9_method_14_code 0 = .ok (.aload_n 0, 1) := by decide +kernel
theorem d_MD_sets_1 : decode prog_9_method_14_code 1 = .ok (.invokevirtual 76, 3) := by decide +kernel
theorem d_MD_sets_4 : decode prog_9_method_14_code 4 = .ok (.i2l, 1) := by decide +kernel
theorem d_MD_sets_5 : decode prog_9_method_14_code 5 = .ok (.lstore_n 1, 1) := by decide +kernel
theorem d_MD_sets_6 : decode prog_9_method_14_code 6 = .ok (.lconst 0, 1) := by decide +kernel
theorem d_MD_sets_7 : decode prog_9_method_14_code 7 = .ok (.lstore_n 3, 1) := by decide +kernel
theorem d_MD_sets_8 : decode prog_9_method_14_code 8 = .ok (.lconst 0, 1) := by decide +kernel
theorem d_MD_sets_9 : decode prog_9_method_14_code 9 = .ok (.lstore 5, 2) := by decide +kernel
theorem d_MD_sets_11 : decode prog_9_method_14_code 11 = .ok (.lconst 0, 1) := by decide +kernel
theorem d_MD_sets_12 : decode prog_9_method_14_code 12 = .ok (.lstore 7, 2) := by decide +kernel
theorem d_MD_sets_14 : decode prog_9_method_14_code 14 = .ok (.lconst 0, 1) := by decide +kernel
theorem d_MD_sets_15 : decode prog_9_method_14_code 15 = .ok (.lstore 9, 2) := by decide +kernel
theorem d_MD_sets_17 : decode prog_9_method_14_code 17 = .ok (.lconst 0, 1) := by decide +kernel
theorem d_MD_sets_18 : decode prog_9_method_14_code 18 = .ok (.lstore 11, 2) := by decide +kernel
theorem d_MD_sets_20 : decode prog_9_method_14_code 20 = .ok (.lconst 0, 1) := by decide +kernel
theorem d_MD_sets_21 : decode prog_9_method_14_code 21 = .ok (.lstore 13, 2) := by decide +kernel
theorem d_MD_sets_23 : decode prog_9_method_14_code 23 = .ok (.lconst 0, 1) := by decide +kernel
theorem d_MD_sets_24 : decode prog_9_method_14_code 24 = .ok (.lstore 15, 2) := by decide +kernel
theorem d_MD_sets_26 : decode prog_9_method_14_code 26 = .ok (.lconst 0, 1) := by decide +kernel
theorem d_MD_sets_27 : decode prog_9_method_14_code 27 = .ok (.lstore 17, 2) := by decide +kernel
theorem d_MD_sets_29 : decode prog_9_method_14_code 29 = .ok (.iconst 0, 1) := by decide +kernel
theorem d_MD_sets_30 : decode prog_9_method_14_code 30 = .ok (.istore 19, 2) := by decide +kernel
theorem d_MD_sets_32 : decode prog_9_method_14_code 32 = .ok (.iload 19, 2) := by decide +kernel
theorem d_MD_sets_34 : decode prog_9_method_14_code 34 = .ok (.aload_n 0, 1) := by decide +kernel
theorem d_MD_sets_35 : decode prog_9_method_14_code 35 = .ok (.getfield 55, 3) := by decide +kernel
theorem d_MD_sets_38 : decode prog_9_method_14_code 38 = .ok (.if_icmp .ge 199, 3) := by decide +kernel
theorem d_MD_sets_41 : decode prog_9_method_14_code 41 = .ok (.aload_n 0, 1) := by decide +kernel
theorem d_MD_sets_42 : decode prog_9_method_14_code 42 = .ok (.getfield 22, 3) := by decide +kernel
theorem d_MD_sets_45 : decode prog_9_method_14_code 45 = .ok (.iload 19, 2) := by decide +kernel
theorem d_MD_sets_47 : decode prog_9_method_14_code 47 = .ok (.baload, 1) := by decide +kernel
theorem d_MD_sets_48 : decode prog_9_method_14_code 48 = .ok (.ifCond .eq 183, 3) := by decide +kernel
theorem d_MD_sets_51 : decode prog_9_method_14_code 51 = .ok (.aload_n 0, 1) := by decide +kernel
theorem d_MD_sets_52 : decode prog_9_method_14_code 52 = .ok (.getfield 16, 3) := by decide +kernel
theorem d_MD_sets_55 : decode prog_9_method_14_code 55 = .ok (.iconst 3, 1) := by decide +kernel
theorem d_MD_sets_56 : decode prog_9_method_14_code 56 = .ok (.iload 19, 2) := by decide +kernel
theorem d_MD_sets_58 : decode prog_9_method_14_code 58 = .ok (.imul, 1) := by decide +kernel
theorem d_MD_sets_59 : decode prog_9_method_14_code 59 = .ok (.iaload, 1) := by decide +kernel
theorem d_MD_sets_60 : decode prog_9_method_14_code 60 = .ok (.i2l, 1) := by decide +kernel
theorem d_MD_sets_61 : decode prog_9_method_14_code 61 = .ok (.lstore 20, 2) := by decide +kernel
theorem d_MD_sets_63 : decode prog_9_method_14_code 63 = .ok (.aload_n 0, 1) := by decide +kernel
theorem d_MD_sets_64 : decode prog_9_method_14_code 64 = .ok (.getfield 16, 3) := by decide +kernel
theorem d_MD_sets_67 : decode prog_9_method_14_code 67 = .ok (.iconst 3, 1) := by decide +kernel
theorem d_MD_sets_68 : decode prog_9_method_14_code 68 = .ok (.iload 19, 2) := by decide +kernel
theorem d_MD_sets_70 : decode prog_9_method_14_code 70 = .ok (.imul, 1) := by decide +kernel
theorem d_MD_sets_71 : decode prog_9_method_14_code 71 = .ok (.iconst 1, 1) := by decide +kernel
theorem d_MD_sets_72 : decode prog_9_method_14_code 72 = .ok (.iadd, 1) := by decide +kernel
theorem d_MD_sets_73 : decode prog_9_method_14_code 73 = .ok (.iaload, 1) := by decide +kernel
theorem d_MD_sets_74 : decode prog_9_method_14_code 74 = .ok (.i2l, 1) := by decide +kernel
theorem d_MD_sets_75 : decode prog_9_method_14_code 75 = .ok (.lstore 22, 2) := by decide +kernel
theorem d_MD_sets_77 : decode prog_9_method_14_code 77 = .ok (.aload_n 0, 1) := by decide +kernel
theorem d_MD_sets_78 : decode prog_9_method_14_code 78 = .ok (.getfield 7, 3) := by decide +kernel
theorem d_MD_sets_81 : decode prog_9_method_14_code 81 = .ok (.iconst 3, 1) := by decide +kernel
theorem d_MD_sets_82 : decode prog_9_method_14_code 82 = .ok (.aload_n 0, 1) := by decide +kernel
theorem d_MD_sets_83 : decode prog_9_method_14_code 83 = .ok (.getfield 13, 3) := by decide +kernel
theorem d_MD_sets_86 : decode prog_9_method_14_code 86 = .ok (.iload 19, 2) := by decide +kernel
theorem d_MD_sets_88 : decode prog_9_method_14_code 88 = .ok (.iaload, 1) := by decide +kernel
theorem d_MD_sets_89 : decode prog_9_method_14_code 89 = .ok (.imul, 1) := by decide +kernel
theorem d_MD_sets_90 : decode prog_9_method_14_code 90 = .ok (.iaload, 1) := by decide +kernel
theorem d_MD_sets_91 : decode prog_9_method_14_code 91 = .ok (.i2l, 1) := by decide +kernel
theorem d_MD_sets_92 : decode prog_9_method_14_code 92 = .ok (.lstore 24, 2) := by decide +kernel
theorem d_MD_sets_94 : decode prog_9_method_14_code 94 = .ok (.aload_n 0, 1) := by decide +kernel
theorem d_MD_sets_95 : decode prog_9_method_14_code 95 = .ok (.getfield 7, 3) := by decide +kernel
theorem d_MD_sets_98 : decode prog_9_method_14_code 98 = .ok (.iconst 3, 1) := by decide +kernel
theorem d_MD_sets_99 : decode prog_9_method_14_code 99 = .ok (.aload_n 0, 1) := by decide +kernel
theorem d_MD_sets_100 : decode prog_9_method_14_code 100 = .ok (.getfield 13, 3) := by decide +kernel
theorem d_MD_sets_103 : decode prog_9_method_14_code 103 = .ok (.iload 19, 2) := by decide +kernel
theorem d_MD_sets_105 : decode prog_9_method_14_code 105 = .ok (.iaload, 1) := by decide +kernel
theorem d_MD_sets_106 : decode prog_9_method_14_code 106 = .ok (.imul, 1) := by decide +kernel
theorem d_MD_sets_107 : decode prog_9_method_14_code 107 = .ok (.iconst 1, 1) := by decide +kernel
theorem d_MD_sets_108 : decode prog_9_method_14_code 108 = .ok (.iadd, 1) := by decide +kernel
theorem d_MD_sets_109 : decode prog_9_method_14_code 109 = .ok (.iaload, 1) := by decide +kernel
theorem d_MD_sets_110 : decode prog_9_method_14_code 110 = .ok (.i2l, 1) := by decide +kernel
theorem d_MD_sets_111 : decode prog_9_method_14_code 111 = .ok (.lstore 26, 2) := by decide +kernel
theorem d_MD_sets_113 : decode prog_9_method_14_code 113 = .ok (.lload_n 3, 1) := by decide +kernel
theorem d_MD_sets_114 : decode prog_9_method_14_code 114 = .ok (.lload 20, 2) := by decide +kernel
theorem d_MD_sets_116 : decode prog_9_method_14_code 116 = .ok (.ladd, 1) := by decide +kernel
theorem d_MD_sets_117 : decode prog_9_method_14_code 117 = .ok (.lstore_n 3, 1) := by decide +kernel
theorem d_MD_sets_118 : decode prog_9_method_14_code 118 = .ok (.lload 5, 2) := by decide +kernel
theorem d_MD_sets_120 : decode prog_9_method_14_code 120 = .ok (.lload 22, 2) := by decide +kernel
theorem d_MD_sets_122 : decode prog_9_method_14_code 122 = .ok (.ladd, 1) := by decide +kernel
theorem d_MD_sets_123 : decode prog_9_method_14_code 123 = .ok (.lstore 5, 2) := by decide +kernel
theorem d_MD_sets_125 : decode prog_9_method_14_code 125 = .ok (.lload 7, 2) := by decide +kernel
theorem d_MD_sets_127 : decode prog_9_method_14_code 127 = .ok (.lload 24, 2) := by decide +kernel
theorem d_MD_sets_129 : decode prog_9_method_14_code 129 = .ok (.ladd, 1) := by decide +kernel
theorem d_MD_sets_130 : decode prog_9_method_14_code 130 = .ok (.lstore 7, 2) := by decide +kernel
theorem d_MD_sets_132 : decode prog_9_method_14_code 132 = .ok (.lload 9, 2) := by decide +kernel
theorem d_MD_sets_134 : decode prog_9_method_14_code 134 = .ok (.lload 26, 2) := by decide +kernel
theorem d_MD_sets_136 : decode prog_9_method_14_code 136 = .ok (.ladd, 1) := by decide +kernel
theorem d_MD_sets_137 : decode prog_9_method_14_code 137 = .ok (.lstore 9, 2) := by decide +kernel
theorem d_MD_sets_139 : decode prog_9_method_14_code 139 = .ok (.lload 11, 2) := by decide +kernel
theorem d_MD_sets_141 : decode prog_9_method_14_code 141 = .ok (.lload 20, 2) := by decide +kernel
theorem d_MD_sets_143 : decode prog_9_method_14_code 143 = .ok (.lload 20, 2) := by decide +kernel
theorem d_MD_sets_145 : decode prog_9_method_14_code 145 = .ok (.lmul, 1) := by decide +kernel
theorem d_MD_sets_146 : decode prog_9_method_14_code 146 = .ok (.ladd, 1) := by decide +kernel
theorem d_MD_sets_147 : decode prog_9_method_14_code 147 = .ok (.lload 22, 2) := by decide +kernel
theorem d_MD_sets_149 : decode prog_9_method_14_code 149 = .ok (.lload 22, 2) := by decide +kernel
theorem d_MD_sets_151 : decode prog_9_method_14_code 151 = .ok (.lmul, 1) := by decide +kernel
theorem d_MD_sets_152 : decode prog_9_method_14_code 152 = .ok (.ladd, 1) := by decide +kernel
theorem d_MD_sets_153 : decode prog_9_method_14_code 153 = .ok (.lstore 11, 2) := by decide +kernel
theorem d_MD_sets_155 : decode prog_9_method_14_code 155 = .ok (.lload 13, 2) := by decide +kernel
theorem d_MD_sets_157 : decode prog_9_method_14_code 157 = .ok (.lload 20, 2) := by decide +kernel
theorem d_MD_sets_159 : decode prog_9_method_14_code 159 = .ok (.lload 24, 2) := by decide +kernel
theorem d_MD_sets_161 : decode prog_9_method_14_code 161 = .ok (.lmul, 1) := by decide +kernel
theorem d_MD_sets_162 : decode prog_9_method_14_code 162 = .ok (.ladd, 1) := by decide +kernel
theorem d_MD_sets_163 : decode prog_9_method_14_code 163 = .ok (.lload 22, 2) := by decide +kernel
theorem d_MD_sets_165 : decode prog_9_method_14_code 165 = .ok (.lload 26, 2) := by decide +kernel
theorem d_MD_sets_167 : decode prog_9_method_14_code 167 = .ok (.lmul, 1) := by decide +kernel
theorem d_MD_sets_168 : decode prog_9_method_14_code 168 = .ok (.ladd, 1) := by decide +kernel
theorem d_MD_sets_169 : decode prog_9_method_14_code 169 = .ok (.lstore 13, 2) := by decide +kernel
theorem d_MD_sets_171 : decode prog_9_method_14_code 171 = .ok (.lload 15, 2) := by decide +kernel
theorem d_MD_sets_173 : decode prog_9_method_14_code 173 = .ok (.lload 20, 2) := by decide +kernel
theorem d_MD_sets_175 : decode prog_9_method_14_code 175 = .ok (.lload 26, 2) := by decide +kernel
theorem d_MD_sets_177 : decode prog_9_method_14_code 177 = .ok (.lmul, 1) := by decide +kernel
theorem d_MD_sets_178 : decode prog_9_method_14_code 178 = .ok (.ladd, 1) := by decide +kernel
theorem d_MD_sets_179 : decode prog_9_method_14_code 179 = .ok (.lload 22, 2) := by decide +kernel
theorem d_MD_sets_181 : decode prog_9_method_14_code 181 = .ok (.lload 24, 2) := by decide +kernel
theorem d_MD_sets_183 : decode prog_9_method_14_code 183 = .ok (.lmul, 1) := by decide +kernel
theorem d_MD_sets_184 : decode prog_9_method_14_code 184 = .ok (.lsub, 1) := by decide +kernel
theorem d_MD_sets_185 : decode prog_9_method_14_code 185 = .ok (.lstore 15, 2) := by decide +kernel
theorem d_MD_sets_187 : decode prog_9_method_14_code 187 = .ok (.lload 17, 2) := by decide +kernel
theorem d_MD_sets_189 : decode prog_9_method_14_code 189 = .ok (.aload_n 0, 1) := by decide +kernel
theorem d_MD_sets_190 : decode prog_9_method_14_code 190 = .ok (.getfield 7, 3) := by decide +kernel
theorem d_MD_sets_193 : decode prog_9_method_14_code 193 = .ok (.iconst 3, 1) := by decide +kernel
theorem d_MD_sets_194 : decode prog_9_method_14_code 194 = .ok (.aload_n 0, 1) := by decide +kernel
theorem d_MD_sets_195 : decode prog_9_method_14_code 195 = .ok (.getfield 13, 3) := by decide +kernel
theorem d_MD_sets_198 : decode prog_9_method_14_code 198 = .ok (.iload 19, 2) := by decide +kernel
theorem d_MD_sets_200 : decode prog_9_method_14_code 200 = .ok (.iaload, 1) := by decide +kernel
theorem d_MD_sets_201 : decode prog_9_method_14_code 201 = .ok (.imul, 1) := by decide +kernel
theorem d_MD_sets_202 : decode prog_9_method_14_code 202 = .ok (.iconst 2, 1) := by decide +kernel
theorem d_MD_sets_203 : decode prog_9_method_14_code 203 = .ok (.iadd, 1) := by decide +kernel
theorem d_MD_sets_204 : decode prog_9_method_14_code 204 = .ok (.iaload, 1) := by decide +kernel
theorem d_MD_sets_205 : decode prog_9_method_14_code 205 = .ok (.i2l, 1) := by decide +kernel
theorem d_MD_sets_206 : decode prog_9_method_14_code 206 = .ok (.ladd, 1) := by decide +kernel
theorem d_MD_sets_207 : decode prog_9_method_14_code 207 = .ok (.aload_n 0, 1) := by decide +kernel
theorem d_MD_sets_208 : decode prog_9_method_14_code 208 = .ok (.getfield 16, 3) := by decide +kernel
theorem d_MD_sets_211 : decode prog_9_method_14_code 211 = .ok (.iconst 3, 1) := by decide +kernel
theorem d_MD_sets_212 : decode prog_9_method_14_code 212 = .ok (.iload 19, 2) := by decide +kernel
theorem d_MD_sets_214 : decode prog_9_method_14_code 214 = .ok (.imul, 1) := by decide +kernel
theorem d_MD_sets_215 : decode prog_9_method_14_code 215 = .ok (.iconst 2, 1) := by decide +kernel
theorem d_MD_sets_216 : decode prog_9_method_14_code 216 = .ok (.iadd, 1) := by decide +kernel
theorem d_MD_sets_217 : decode prog_9_method_14_code 217 = .ok (.iaload, 1) := by decide +kernel
theorem d_MD_sets_218 : decode prog_9_method_14_code 218 = .ok (.i2l, 1) := by decide +kernel
theorem d_MD_sets_219 : decode prog_9_method_14_code 219 = .ok (.lsub, 1) := by decide +kernel
theorem d_MD_sets_220 : decode prog_9_method_14_code 220 = .ok (.aload_n 0, 1) := by decide +kernel
theorem d_MD_sets_221 : decode prog_9_method_14_code 221 = .ok (.getfield 19, 3) := by decide +kernel
theorem d_MD_sets_224 : decode prog_9_method_14_code 224 = .ok (.iload 19, 2) := by decide +kernel
theorem d_MD_sets_226 : decode prog_9_method_14_code 226 = .ok (.iaload, 1) := by decide +kernel
theorem d_MD_sets_227 : decode prog_9_method_14_code 227 = .ok (.i2l, 1) := by decide +kernel
theorem d_MD_sets_228 : decode prog_9_method_14_code 228 = .ok (.ladd, 1) := by decide +kernel
theorem d_MD_sets_229 : decode prog_9_method_14_code 229 = .ok (.lstore 17, 2) := by decide +kernel
theorem d_MD_sets_231 : decode prog_9_method_14_code 231 = .ok (.iinc 19 1, 3) := by decide +kernel
theorem d_MD_sets_234 : decode prog_9_method_14_code 234 = .ok (.goto (-202), 3) := by decide +kernel
theorem d_MD_sets_237 : decode prog_9_method_14_code 237 = .ok (.lload_n 1, 1) := by decide +kernel
theorem d_MD_sets_238 : decode prog_9_method_14_code 238 = .ok (.lload 11, 2) := by decide +kernel
theorem d_MD_sets_240 : decode prog_9_method_14_code 240 = .ok (.lmul, 1) := by decide +kernel
theorem d_MD_sets_241 : decode prog_9_method_14_code 241 = .ok (.lload_n 3, 1) := by decide +kernel
theorem d_MD_sets_242 : decode prog_9_method_14_code 242 = .ok (.lload_n 3, 1) := by decide +kernel
theorem d_MD_sets_243 : decode prog_9_method_14_code 243 = .ok (.lmul, 1) := by decide +kernel
theorem d_MD_sets_244 : decode prog_9_method_14_code 244 = .ok (.lsub, 1) := by decide +kernel
theorem d_MD_sets_245 : decode prog_9_method_14_code 245 = .ok (.lload 5, 2) := by decide +kernel
theorem d_MD_sets_247 : decode prog_9_method_14_code 247 = .ok (.lload 5, 2) := by decide +kernel
theorem d_MD_sets_249 : decode prog_9_method_14_code 249 = .ok (.lmul, 1) := by decide +kernel
theorem d_MD_sets_250 : decode prog_9_method_14_code 250 = .ok (.lsub, 1) := by decide +kernel
theorem d_MD_sets_251 : decode prog_9_method_14_code 251 = .ok (.lstore 19, 2) := by decide +kernel
theorem d_MD_sets_253 : decode prog_9_method_14_code 253 = .ok (.lload 19, 2) := by decide +kernel
theorem d_MD_sets_255 : decode prog_9_method_14_code 255 = .ok (.lconst 0, 1) := by decide +kernel
theorem d_MD_sets_256 : decode prog_9_method_14_code 256 = .ok (.lcmp, 1) := by decide +kernel
theorem d_MD_sets_257 : decode prog_9_method_14_code 257 = .ok (.ifCond .ne 5, 3) := by decide +kernel
theorem d_MD_sets_260 : decode prog_9_method_14_code 260 = .ok (.iconst 0, 1) := by decide +kernel
theorem d_MD_sets_261 : decode prog_9_method_14_code 261 = .ok (.ireturn, 1) := by decide +kernel
theorem d_MD_sets_262 : decode prog_9_method_14_code 262 = .ok (.aload_n 0, 1) := by decide +kernel
theorem d_MD_sets_263 : decode prog_9_method_14_code 263 = .ok (.lload 19, 2) := by decide +kernel
theorem d_MD_sets_265 : decode prog_9_method_14_code 265 = .ok (.putfield 80, 3) := by decide +kernel
theorem d_MD_sets_268 : decode prog_9_method_14_code 268 = .ok (.aload_n 0, 1) := by decide +kernel
theorem d_MD_sets_269 : decode prog_9_method_14_code 269 = .ok (.lload_n 1, 1) := by decide +kernel
theorem d_MD_sets_270 : decode prog_9_method_14_code 270 = .ok (.putfield 84, 3) := by decide +kernel
theorem d_MD_sets_273 : decode prog_9_method_14_code 273 = .ok (.aload_n 0, 1) := by decide +kernel
theorem d_MD_sets_274 : decode prog_9_method_14_code 274 = .ok (.lload_n 1, 1) := by decide +kernel
theorem d_MD_sets_275 : decode prog_9_method_14_code 275 = .ok (.lload 13, 2) := by decide +kernel
theorem d_MD_sets_277 : decode prog_9_method_14_code 277 = .ok (.lmul, 1) := by decide +kernel
theorem d_MD_sets_278 : decode prog_9_method_14_code 278 = .ok (.lload_n 3, 1) := by decide +kernel
theorem d_MD_sets_279 : decode prog_9_method_14_code 279 = .ok (.lload 7, 2) := by decide +kernel
theorem d_MD_sets_281 : decode prog_9_method_14_code 281 = .ok (.lmul, 1) := by decide +kernel
theorem d_MD_sets_282 : decode prog_9_method_14_code 282 = .ok (.lsub, 1) := by decide +kernel
theorem d_MD_sets_283 : decode prog_9_method_14_code 283 = .ok (.lload 5, 2) := by decide +kernel
theorem d_MD_sets_285 : decode prog_9_method_14_code 285 = .ok (.lload 9, 2) := by decide +kernel
theorem d_MD_sets_287 : decode prog_9_method_14_code 287 = .ok (.lmul, 1) := by decide +kernel
theorem d_MD_sets_288 : decode prog_9_method_14_code 288 = .ok (.lsub, 1) := by decide +kernel
theorem d_MD_sets_289 : decode prog_9_method_14_code 289 = .ok (.putfield 87, 3) := by decide +kernel
theorem d_MD_sets_292 : decode prog_9_method_14_code 292 = .ok (.aload_n 0, 1) := by decide +kernel
theorem d_MD_sets_293 : decode prog_9_method_14_code 293 = .ok (.lload_n 1, 1) := by decide +kernel
theorem d_MD_sets_294 : decode prog_9_method_14_code 294 = .ok (.lload 15, 2) := by decide +kernel
theorem d_MD_sets_296 : decode prog_9_method_14_code 296 = .ok (.lmul, 1) := by decide +kernel
theorem d_MD_sets_297 : decode prog_9_method_14_code 297 = .ok (.lload_n 3, 1) := by decide +kernel
theorem d_MD_sets_298 : decode prog_9_method_14_code 298 = .ok (.lload 9, 2) := by decide +kernel
theorem d_MD_sets_300 : decode prog_9_method_14_code 300 = .ok (.lmul, 1) := by decide +kernel
theorem d_MD_sets_301 : decode prog_9_method_14_code 301 = .ok (.lsub, 1) := by decide +kernel
theorem d_MD_sets_302 : decode prog_9_method_14_code 302 = .ok (.lload 5, 2) := by decide +kernel
theorem d_MD_sets_304 : decode prog_9_method_14_code 304 = .ok (.lload 7, 2) := by decide +kernel
theorem d_MD_sets_306 : decode prog_9_method_14_code 306 = .ok (.lmul, 1) := by decide +kernel
theorem d_MD_sets_307 : decode prog_9_method_14_code 307 = .ok (.ladd, 1) := by decide +kernel
theorem d_MD_sets_308 : decode prog_9_method_14_code 308 = .ok (.putfield 90, 3) := by decide +kernel
theorem d_MD_sets_311 : decode prog_9_method_14_code 311 = .ok (.aload_n 0, 1) := by decide +kernel
theorem d_MD_sets_312 : decode prog_9_method_14_code 312 = .ok (.lload 7, 2) := by decide +kernel
theorem d_MD_sets_314 : decode prog_9_method_14_code 314 = .ok (.lload 19, 2) := by decide +kernel
theorem d_MD_sets_316 : decode prog_9_method_14_code 316 = .ok (.lmul, 1) := by decide +kernel
theorem d_MD_sets_317 : decode prog_9_method_14_code 317 = .ok (.aload_n 0, 1) := by decide +kernel
theorem d_MD_sets_318 : decode prog_9_method_14_code 318 = .ok (.getfield 87, 3) := by decide +kernel
theorem d_MD_sets_321 : decode prog_9_method_14_code 321 = .ok (.lload_n 3, 1) := by decide +kernel
theorem d_MD_sets_322 : decode prog_9_method_14_code 322 = .ok (.lmul, 1) := by decide +kernel
theorem d_MD_sets_323 : decode prog_9_method_14_code 323 = .ok (.lsub, 1) := by decide +kernel
theorem d_MD_sets_324 : decode prog_9_method_14_code 324 = .ok (.aload_n 0, 1) := by decide +kernel
theorem d_MD_sets_325 : decode prog_9_method_14_code 325 = .ok (.getfield 90, 3) := by decide +kernel
theorem d_MD_sets_328 : decode prog_9_method_14_code 328 = .ok (.lload 5, 2) := by decide +kernel
theorem d_MD_sets_330 : decode prog_9_method_14_code 330 = .ok (.lmul, 1) := by decide +kernel
theorem d_MD_sets_331 : decode prog_9_method_14_code 331 = .ok (.ladd, 1) := by decide +kernel
theorem d_MD_sets_332 : decode prog_9_method_14_code 332 = .ok (.putfield 93, 3) := by decide +kernel
theorem d_MD_sets_335 : decode prog_9_method_14_code 335 = .ok (.aload_n 0, 1) := by decide +kernel
theorem d_MD_sets_336 : decode prog_9_method_14_code 336 = .ok (.lload 9, 2) := by decide +kernel
theorem d_MD_sets_338 : decode prog_9_method_14_code 338 = .ok (.lload 19, 2) := by decide +kernel
theorem d_MD_sets_340 : decode prog_9_method_14_code 340 = .ok (.lmul, 1) := by decide +kernel
theorem d_MD_sets_341 : decode prog_9_method_14_code 341 = .ok (.aload_n 0, 1) := by decide +kernel
theorem d_MD_sets_342 : decode prog_9_method_14_code 342 = .ok (.getfield 90, 3) := by decide +kernel
theorem d_MD_sets_345 : decode prog_9_method_14_code 345 = .ok (.lload_n 3, 1) := by decide +kernel
theorem d_MD_sets_346 : decode prog_9_method_14_code 346 = .ok (.lmul, 1) := by decide +kernel
theorem d_MD_sets_347 : decode prog_9_method_14_code 347 = .ok (.lsub, 1) := by decide +kernel
theorem d_MD_sets_348 : decode prog_9_method_14_code 348 = .ok (.aload_n 0, 1) := by decide +kernel
theorem d_MD_sets_349 : decode prog_9_method_14_code 349 = .ok (.getfield 87, 3) := by decide +kernel
theorem d_MD_sets_352 : decode prog_9_method_14_code 352 = .ok (.lload 5, 2) := by decide +kernel
theorem d_MD_sets_354 : decode prog_9_method_14_code 354 = .ok (.lmul, 1) := by decide +kernel
theorem d_MD_sets_355 : decode prog_9_method_14_code 355 = .ok (.lsub, 1) := by decide +kernel
theorem d_MD_sets_356 : decode prog_9_method_14_code 356 = .ok (.putfield 96, 3) := by decide +kernel
theorem d_MD_sets_359 : decode prog_9_method_14_code 359 = .ok (.aload_n 0, 1) := by decide +kernel
theorem d_MD_sets_360 : decode prog_9_method_14_code 360 = .ok (.lload 17, 2) := by decide +kernel
theorem d_MD_sets_362 : decode prog_9_method_14_code 362 = .ok (.lload_n 1, 1) := by decide +kernel
theorem d_MD_sets_363 : decode prog_9_method_14_code 363 = .ok (.invokestatic 99, 3) := by decide +kernel
theorem d_MD_sets_366 : decode prog_9_method_14_code 366 = .ok (.putfield 103, 3) := by decide +kernel
theorem d_MD_sets_369 : decode prog_9_method_14_code 369 = .ok (.aload_n 0, 1) := by decide +kernel
theorem d_MD_sets_370 : decode prog_9_method_14_code 370 = .ok (.aload_n 0, 1) := by decide +kernel
theorem d_MD_sets_371 : decode prog_9_method_14_code 371 = .ok (.getfield 55, 3) := by decide +kernel
theorem d_MD_sets_374 : decode prog_9_method_14_code 374 = .ok (.putfield 26, 3) := by decide +kernel
theorem d_MD_sets_377 : decode prog_9_method_14_code 377 = .ok (.iconst 0, 1) := by decide +kernel
theorem d_MD_sets_378 : decode prog_9_method_14_code 378 = .ok (.istore 21, 2) := by decide +kernel
theorem d_MD_sets_380 : decode prog_9_method_14_code 380 = .ok (.iload 21, 2) := by decide +kernel
theorem d_MD_sets_382 : decode prog_9_method_14_code 382 = .ok (.bipush 20, 2) := by decide +kernel
theorem d_MD_sets_384 : decode prog_9_method_14_code 384 = .ok (.if_icmp .ge 37, 3) := by decide +kernel
theorem d_MD_sets_387 : decode prog_9_method_14_code 387 = .ok (.aload_n 0, 1) := by decide +kernel
theorem d_MD_sets_388 : decode prog_9_method_14_code 388 = .ok (.getfield 30, 3) := by decide +kernel
theorem d_MD_sets_391 : decode prog_9_method_14_code 391 = .ok (.iload 21, 2) := by decide +kernel
theorem d_MD_sets_393 : decode prog_9_method_14_code 393 = .ok (.aload_n 0, 1) := by decide +kernel
theorem d_MD_sets_394 : decode prog_9_method_14_code 394 = .ok (.getfield 19, 3) := by decide +kernel
theorem d_MD_sets_397 : decode prog_9_method_14_code 397 = .ok (.iload 21, 2) := by decide +kernel
theorem d_MD_sets_399 : decode prog_9_method_14_code 399 = .ok (.iaload, 1) := by decide +kernel
theorem d_MD_sets_400 : decode prog_9_method_14_code 400 = .ok (.iastore, 1) := by decide +kernel
theorem d_MD_sets_401 : decode prog_9_method_14_code 401 = .ok (.aload_n 0, 1) := by decide +kernel
theorem d_MD_sets_402 : decode prog_9_method_14_code 402 = .ok (.getfield 33, 3) := by decide +kernel
theorem d_MD_sets_405 : decode prog_9_method_14_code 405 = .ok (.iload 21, 2) := by decide +kernel
theorem d_MD_sets_407 : decode prog_9_method_14_code 407 = .ok (.aload_n 0, 1) := by decide +kernel
theorem d_MD_sets_408 : decode prog_9_method_14_code 408 = .ok (.getfield 22, 3) := by decide +kernel
theorem d_MD_sets_411 : decode prog_9_method_14_code 411 = .ok (.iload 21, 2) := by decide +kernel
theorem d_MD_sets_413 : decode prog_9_method_14_code 413 = .ok (.baload, 1) := by decide +kernel
theorem d_MD_sets_414 : decode prog_9_method_14_code 414 = .ok (.bastore, 1) := by decide +kernel
theorem d_MD_sets_415 : decode prog_9_method_14_code 415 = .ok (.iinc 21 1, 3) := by decide +kernel
theorem d_MD_sets_418 : decode prog_9_method_14_code 418 = .ok (.goto (-38), 3) := by decide +kernel
theorem d_MD_sets_421 : decode prog_9_method_14_code 421 = .ok (.iconst 1, 1) := by decide +kernel
theorem d_MD_sets_422 : decode prog_9_method_14_code 422 = .ok (.ireturn, 1) := by decide +kernel
set_option maxHeartbeats 4000000 in
set_option maxRecDepth 100000 in
/-- thrown -/
theorem c_MD_thrown (l : Launch) (dC : Nat → ClassId) (dI : Nat → Nat → Nat) (h0 : Nat) (th : Int32) (nm : Nat) (ap : Nat) (no : Nat) (am : Nat) (aw : Nat) (az : Nat) (au : Nat) (kn : Int32) (vP : Int64) (vQ : Int64) (vS : Int64) (vT : Int64) (vB : Int64) (vM : Int64) (vH : Int64) (ao : Nat) (ax : Nat) (np : Nat) (ay : Nat) (nl : Nat) (ad : Nat) (al : Nat) (sn : Nat) (ag : Nat) (ta : Nat) (nb : Int32)  : Met l xy_MD_thrown xw_MD_thrown ({ frames := 0, cells := 0, slots := 0, locals := 0 }) (xp_r [.ref h0] (dC, dI) xCl [(h0, .inr (7, [.int th, .int (nI nm), .ref ap, .int (nI no), .ref am, .ref aw, .ref az, .ref au, .int kn, .long vP, .long vQ, .long vS, .long vT, .long vB, .long vM, .long vH, .ref ao, .ref ax, .int (nI np), .ref ay, .int (nI nl), .ref ad, .ref al, .int (nI sn), .ref ag, .int (nI ta), .int nb]))] []) (xr_i (fun r => r = th)) 0 0 (fun _ => False) := by
  refine Met.ofW (cc := prog_9_method_2_code) (maxL := 1) (ret := (some .int)) (by decide) rfl ?_
  intro p e s m args below meth c s₁ B hml hv
  obtain ⟨rfl, hz, hP, hK⟩ := hv
  have hx := B.exec
  have hb := B.bytes
  have hr := B.returns
  have hts := atoms_spec (ws := xw_MD_thrown) B.pre
  have hown : s.vm.findClass xR_MD = some m.cls := findClass_of_methodNamed B.named
  have hlocks := B.notSynchronized
  have hP : va_P (dC, dI) xCl [(h0, .inr (7, [.int th, .int (nI nm), .ref ap, .int (nI no), .ref am, .ref aw, .ref az, .ref au, .int kn, .long vP, .long vQ, .long vS, .long vT, .long vB, .long vM, .long vH, .ref ao, .ref ax, .int (nI np), .ref ay, .int (nI nl), .ref ad, .ref al, .int (nI sn), .ref ag, .int (nI ta), .int nb]))] s.heap := hP
  have hl := lv_entry ([.ref h0]) (n := 1) (Nat.le_of_ble_eq_true rfl)
  rw [lg_entry_eq]
  generalize (lg_sl ([.ref h0]) ++ List.replicate (1 - (lg_sl ([.ref h0])).length) Slot.unset).toArray = ls at hl ⊢
  have hl : lv_has ls 1 [(0, .ref h0)] := hl
  refine lv_aload_n hx hb d_MD_thrown_0 rfl (lv_at hl 0 rfl) ?_
  refine va_get (D := (dC, dI)) (ci := 7) (v := .int th) (C := xR_MD) (T := xT_MD) (N := 27) hx hb hts (fun w h => List.mem_cons_of_mem _ (iw_MD w h)) hown hK hP 0 rfl rfl 0 (by decide) (hts _ (List.mem_cons_of_mem _ wm_697)) (fun _ h9 => h9) rfl d_MD_thrown_1 ?_
  exact xr_iret (v := th) hx hb hr (by exact rfl) d_MD_thrown_4 hlocks
set_option maxHeartbeats 4000000 in
set_option maxRecDepth 100000 in
/-- goes -/
theorem c_MD_goes (l : Launch) (dC : Nat → ClassId) (dI : Nat → Nat → Nat) (sz : Nat) (h0 : Nat) (th : Int32) (nm : Nat) (ap : Nat) (no : Nat) (am : Nat) (aw : Nat) (az : Nat) (au : Nat) (kn : Int32) (vP : Int64) (vQ : Int64) (vS : Int64) (vT : Int64) (vB : Int64) (vM : Int64) (vH : Int64) (ao : Nat) (ax : Nat) (np : Nat) (ay : Nat) (nl : Nat) (ad : Nat) (al : Nat) (sn : Nat) (ag : Nat) (ta : Nat) (nb : Int32) (o1 : Int32) (o2 : Int32) (o3 : Int32)  : Met l xy_MD_goes xw_MD_goes ({ frames := 0, cells := 0, slots := 0, locals := 0 }) (xp_w [.ref h0, .int o1, .int o2, .int o3] sz (dC, dI) xCl [(h0, .inr (7, [.int th, .int (nI nm), .ref ap, .int (nI no), .ref am, .ref aw, .ref az, .ref au, .int kn, .long vP, .long vQ, .long vS, .long vT, .long vB, .long vM, .long vH, .ref ao, .ref ax, .int (nI np), .ref ay, .int (nI nl), .ref ad, .ref al, .int (nI sn), .ref ag, .int (nI ta), .int nb]))] []) (va_Qi (fun (r : Int32) (_ : Unit) => r = bI (md_th o1 o2 o3 = 0)) (fun _ t => xb_w (dC, dI) xCl [(h0, .inr (7, [.int (md_th o1 o2 o3), .int (nI nm), .ref ap, .int (nI no), .ref am, .ref aw, .ref az, .ref au, .int kn, .long vP, .long vQ, .long vS, .long vT, .long vB, .long vM, .long vH, .ref ao, .ref ax, .int (nI np), .ref ay, .int (nI nl), .ref ad, .ref al, .int (nI sn), .ref ag, .int (nI ta), .int nb]))] [] (va_A [(h0, .inr (7, [.int th, .int (nI nm), .ref ap, .int (nI no), .ref am, .ref aw, .ref az, .ref au, .int kn, .long vP, .long vQ, .long vS, .long vT, .long vB, .long vM, .long vH, .ref ao, .ref ax, .int (nI np), .ref ay, .int (nI nl), .ref ad, .ref al, .int (nI sn), .ref ag, .int (nI ta), .int nb]))] sz) t) (va_A [(h0, .inr (7, [.int th, .int (nI nm), .ref ap, .int (nI no), .ref am, .ref aw, .ref az, .ref au, .int kn, .long vP, .long vQ, .long vS, .long vT, .long vB, .long vM, .long vH, .ref ao, .ref ax, .int (nI np), .ref ay, .int (nI nl), .ref ad, .ref al, .int (nI sn), .ref ag, .int (nI ta), .int nb]))] sz)) 0 0 (va_A [(h0, .inr (7, [.int th, .int (nI nm), .ref ap, .int (nI no), .ref am, .ref aw, .ref az, .ref au, .int kn, .long vP, .long vQ, .long vS, .long vT, .long vB, .long vM, .long vH, .ref ao, .ref ax, .int (nI np), .ref ay, .int (nI nl), .ref ad, .ref al, .int (nI sn), .ref ag, .int (nI ta), .int nb]))] sz) := by
  refine Met.ofW (cc := prog_9_method_3_code) (maxL := 4) (ret := (some .boolean)) (by decide) rfl ?_
  intro p e s m args below meth c s₁ B hml hv
  obtain ⟨rfl, hsz, hz, hP, hK, hD0⟩ := hv
  have hx := B.exec
  have hb := B.bytes
  have hr := B.returns
  have hts := atoms_spec (ws := xw_MD_goes) B.pre
  have hown : s.vm.findClass xR_MD = some m.cls := findClass_of_methodNamed B.named
  have hlocks := B.notSynchronized
  subst hsz
  have hD := hD0.self (sz := s.heap.size)
  generalize hAe : va_A [(h0, .inr (7, [.int th, .int (nI nm), .ref ap, .int (nI no), .ref am, .ref aw, .ref az, .ref au, .int kn, .long vP, .long vQ, .long vS, .long vT, .long vB, .long vM, .long vH, .ref ao, .ref ax, .int (nI np), .ref ay, .int (nI nl), .ref ad, .ref al, .int (nI sn), .ref ag, .int (nI ta), .int nb]))] s.heap.size = A at hD ⊢
  have hA : ∀ q : Nat, s.heap.size ≤ q → A q := fun q h => by rw [← hAe]; exact Or.inr h
  have hS : va_S A s.heap s.heap [] := va_S.rf
  have hP : va_P (dC, dI) xCl [(h0, .inr (7, [.int th, .int (nI nm), .ref ap, .int (nI no), .ref am, .ref aw, .ref az, .ref au, .int kn, .long vP, .long vQ, .long vS, .long vT, .long vB, .long vM, .long vH, .ref ao, .ref ax, .int (nI np), .ref ay, .int (nI nl), .ref ad, .ref al, .int (nI sn), .ref ag, .int (nI ta), .int nb]))] s.heap := hP
  have hl := lv_entry ([.ref h0, .int o1, .int o2, .int o3]) (n := 4) (Nat.le_of_ble_eq_true rfl)
  rw [lg_entry_eq]
  generalize (lg_sl ([.ref h0, .int o1, .int o2, .int o3]) ++ List.replicate (4 - (lg_sl ([.ref h0, .int o1, .int o2, .int o3])).length) Slot.unset).toArray = ls at hl ⊢
  have hl : lv_has ls 4 [(0, .ref h0), (1, .int o1), (2, .int o2), (3, .int o3)] := hl
  refine lv_aload_n hx hb d_MD_goes_0 rfl (lv_at hl 0 rfl) ?_
  refine lv_iload_n hx hb d_MD_goes_1 rfl (lv_at hl 1 rfl) ?_
  refine lv_if_ne (tgt := 9) hx hb d_MD_goes_2 (by decide) (fun c_1 => ?_) (fun c_1 => ?_)
  · refine lv_iload_n hx hb d_MD_goes_9 rfl (lv_at hl 2 rfl) ?_
    refine lv_if_ne (tgt := 17) hx hb d_MD_goes_10 (by decide) (fun c_2 => ?_) (fun c_2 => ?_)
    · refine lv_iload_n hx hb d_MD_goes_17 rfl (lv_at hl 3 rfl) ?_
      refine lv_if_ne (tgt := 25) hx hb d_MD_goes_18 (by decide) (fun c_3 => ?_) (fun c_3 => ?_)
      · refine lv_iconst (v := 0) hx hb d_MD_goes_25 (by decide) ?_
        refine va_put (D := (dC, dI)) (ci := 7) (v := .int 0) (ty := .int) (C := xR_MD) (T := xT_MD) (N := 27) hx hb hts (fun w h => List.mem_cons_of_mem _ (iw_MD w h)) xt_MD xt_MD_ok xn_MD_nm hown hK hP hD hS 0 rfl rfl 0 (by decide) (hts _ (List.mem_cons_of_mem _ wm_697)) (fun _ h9 => h9) rfl (by decide +kernel) rfl rfl (Nat.le_of_ble_eq_true rfl) d_MD_goes_26 (fun H locs hP hD hS => ?_)
        have hP : va_P (dC, dI) xCl [(h0, .inr (7, [.int 0, .int (nI nm), .ref ap, .int (nI no), .ref am, .ref aw, .ref az, .ref au, .int kn, .long vP, .long vQ, .long vS, .long vT, .long vB, .long vM, .long vH, .ref ao, .ref ax, .int (nI np), .ref ay, .int (nI nl), .ref ad, .ref al, .int (nI sn), .ref ag, .int (nI ta), .int nb]))] H := hP
        have hD : va_D A [(h0, .inr (7, [.int 0, .int (nI nm), .ref ap, .int (nI no), .ref am, .ref aw, .ref az, .ref au, .int kn, .long vP, .long vQ, .long vS, .long vT, .long vB, .long vM, .long vH, .ref ao, .ref ax, .int (nI np), .ref ay, .int (nI nl), .ref ad, .ref al, .int (nI sn), .ref ag, .int (nI ta), .int nb]))] := hD
        refine lv_aload_n hx hb d_MD_goes_29 rfl (lv_at hl 0 rfl) ?_
        refine va_get (D := (dC, dI)) (ci := 7) (v := .int 0) (C := xR_MD) (T := xT_MD) (N := 27) hx hb hts (fun w h => List.mem_cons_of_mem _ (iw_MD w h)) hown hK hP 0 rfl rfl 0 (by decide) (hts _ (List.mem_cons_of_mem _ wm_697)) (fun _ h9 => h9) rfl d_MD_goes_30 ?_
        refine lv_if_ne (tgt := 40) hx hb d_MD_goes_33 (by decide) (fun c_4 => ?_) (fun c_4 => ?_)
        · exact absurd c_4 (by decide)
        · refine lv_iconst (v := 1) hx hb d_MD_goes_36 (by decide) ?_
          refine lv_goto (tgt := 41) hx hb d_MD_goes_37 (by decide) ?_
          have hP9 := hP.sub (ws' := [(h0, .inr (7, [.int 0, .int (nI nm), .ref ap, .int (nI no), .ref am, .ref aw, .ref az, .ref au, .int kn, .long vP, .long vQ, .long vS, .long vT, .long vB, .long vM, .long vH, .ref ao, .ref ax, .int (nI np), .ref ay, .int (nI nl), .ref ad, .ref al, .int (nI sn), .ref ag, .int (nI ta), .int nb]))]) [0] rfl
          have hD9 := hD.sub (ws' := [(h0, .inr (7, [.int 0, .int (nI nm), .ref ap, .int (nI no), .ref am, .ref aw, .ref az, .ref au, .int kn, .long vP, .long vQ, .long vS, .long vT, .long vB, .long vM, .long vH, .ref ao, .ref ax, .int (nI np), .ref ay, .int (nI nl), .ref ad, .ref al, .int (nI sn), .ref ag, .int (nI ta), .int nb]))]) [0] (by decide) rfl
          have hK9 := hK.sub (tys' := []) [] rfl
          exact W.zret (v := 1) (ty := .boolean) hx hb hr (by exact rfl) (fun t ht hW => ⟨⟨1, (), rfl, bI_p (md_th_0 c_1 c_2 c_3), ⟨by rw [ht]; rw [(md_th_0 c_1 c_2 c_3)]; exact hP9, va_K.moved hW.alike hK9, by rw [(md_th_0 c_1 c_2 c_3)]; exact hD9⟩⟩, hS.F ht⟩) hS.2.2 d_MD_goes_41 hlocks
      · refine lv_iconst (v := 3) hx hb d_MD_goes_21 (by decide) ?_
        refine lv_goto (tgt := 26) hx hb d_MD_goes_22 (by decide) ?_
        refine va_put (D := (dC, dI)) (ci := 7) (v := .int 3) (ty := .int) (C := xR_MD) (T := xT_MD) (N := 27) hx hb hts (fun w h => List.mem_cons_of_mem _ (iw_MD w h)) xt_MD xt_MD_ok xn_MD_nm hown hK hP hD hS 0 rfl rfl 0 (by decide) (hts _ (List.mem_cons_of_mem _ wm_697)) (fun _ h9 => h9) rfl (by decide +kernel) rfl rfl (Nat.le_of_ble_eq_true rfl) d_MD_goes_26 (fun H locs hP hD hS => ?_)
        have hP : va_P (dC, dI) xCl [(h0, .inr (7, [.int 3, .int (nI nm), .ref ap, .int (nI no), .ref am, .ref aw, .ref az, .ref au, .int kn, .long vP, .long vQ, .long vS, .long vT, .long vB, .long vM, .long vH, .ref ao, .ref ax, .int (nI np), .ref ay, .int (nI nl), .ref ad, .ref al, .int (nI sn), .ref ag, .int (nI ta), .int nb]))] H := hP
        have hD : va_D A [(h0, .inr (7, [.int 3, .int (nI nm), .ref ap, .int (nI no), .ref am, .ref aw, .ref az, .ref au, .int kn, .long vP, .long vQ, .long vS, .long vT, .long vB, .long vM, .long vH, .ref ao, .ref ax, .int (nI np), .ref ay, .int (nI nl), .ref ad, .ref al, .int (nI sn), .ref ag, .int (nI ta), .int nb]))] := hD
        refine lv_aload_n hx hb d_MD_goes_29 rfl (lv_at hl 0 rfl) ?_
        refine va_get (D := (dC, dI)) (ci := 7) (v := .int 3) (C := xR_MD) (T := xT_MD) (N := 27) hx hb hts (fun w h => List.mem_cons_of_mem _ (iw_MD w h)) hown hK hP 0 rfl rfl 0 (by decide) (hts _ (List.mem_cons_of_mem _ wm_697)) (fun _ h9 => h9) rfl d_MD_goes_30 ?_
        refine lv_if_ne (tgt := 40) hx hb d_MD_goes_33 (by decide) (fun c_5 => ?_) (fun c_5 => ?_)
        · refine lv_iconst (v := 0) hx hb d_MD_goes_40 (by decide) ?_
          have hP9 := hP.sub (ws' := [(h0, .inr (7, [.int 3, .int (nI nm), .ref ap, .int (nI no), .ref am, .ref aw, .ref az, .ref au, .int kn, .long vP, .long vQ, .long vS, .long vT, .long vB, .long vM, .long vH, .ref ao, .ref ax, .int (nI np), .ref ay, .int (nI nl), .ref ad, .ref al, .int (nI sn), .ref ag, .int (nI ta), .int nb]))]) [0] rfl
          have hD9 := hD.sub (ws' := [(h0, .inr (7, [.int 3, .int (nI nm), .ref ap, .int (nI no), .ref am, .ref aw, .ref az, .ref au, .int kn, .long vP, .long vQ, .long vS, .long vT, .long vB, .long vM, .long vH, .ref ao, .ref ax, .int (nI np), .ref ay, .int (nI nl), .ref ad, .ref al, .int (nI sn), .ref ag, .int (nI ta), .int nb]))]) [0] (by decide) rfl
          have hK9 := hK.sub (tys' := []) [] rfl
          exact W.zret (v := 0) (ty := .boolean) hx hb hr (by exact rfl) (fun t ht hW => ⟨⟨0, (), rfl, bI_n (by rw [(md_th_3 c_1 c_2 c_3)]; decide), ⟨by rw [ht]; rw [(md_th_3 c_1 c_2 c_3)]; exact hP9, va_K.moved hW.alike hK9, by rw [(md_th_3 c_1 c_2 c_3)]; exact hD9⟩⟩, hS.F ht⟩) hS.2.2 d_MD_goes_41 hlocks
        · exact absurd c_5 (by decide)
    · refine lv_iconst (v := 2) hx hb d_MD_goes_13 (by decide) ?_
      refine lv_goto (tgt := 26) hx hb d_MD_goes_14 (by decide) ?_
      refine va_put (D := (dC, dI)) (ci := 7) (v := .int 2) (ty := .int) (C := xR_MD) (T := xT_MD) (N := 27) hx hb hts (fun w h => List.mem_cons_of_mem _ (iw_MD w h)) xt_MD xt_MD_ok xn_MD_nm hown hK hP hD hS 0 rfl rfl 0 (by decide) (hts _ (List.mem_cons_of_mem _ wm_697)) (fun _ h9 => h9) rfl (by decide +kernel) rfl rfl (Nat.le_of_ble_eq_true rfl) d_MD_goes_26 (fun H locs hP hD hS => ?_)
      have hP : va_P (dC, dI) xCl [(h0, .inr (7, [.int 2, .int (nI nm), .ref ap, .int (nI no), .ref am, .ref aw, .ref az, .ref au, .int kn, .long vP, .long vQ, .long vS, .long vT, .long vB, .long vM, .long vH, .ref ao, .ref ax, .int (nI np), .ref ay, .int (nI nl), .ref ad, .ref al, .int (nI sn), .ref ag, .int (nI ta), .int nb]))] H := hP
      have hD : va_D A [(h0, .inr (7, [.int 2, .int (nI nm), .ref ap, .int (nI no), .ref am, .ref aw, .ref az, .ref au, .int kn, .long vP, .long vQ, .long vS, .long vT, .long vB, .long vM, .long vH, .ref ao, .ref ax, .int (nI np), .ref ay, .int (nI nl), .ref ad, .ref al, .int (nI sn), .ref ag, .int (nI ta), .int nb]))] := hD
      refine lv_aload_n hx hb d_MD_goes_29 rfl (lv_at hl 0 rfl) ?_
      refine va_get (D := (dC, dI)) (ci := 7) (v := .int 2) (C := xR_MD) (T := xT_MD) (N := 27) hx hb hts (fun w h => List.mem_cons_of_mem _ (iw_MD w h)) hown hK hP 0 rfl rfl 0 (by decide) (hts _ (List.mem_cons_of_mem _ wm_697)) (fun _ h9 => h9) rfl d_MD_goes_30 ?_
      refine lv_if_ne (tgt := 40) hx hb d_MD_goes_33 (by decide) (fun c_6 => ?_) (fun c_6 => ?_)
      · refine lv_iconst (v := 0) hx hb d_MD_goes_40 (by decide) ?_
        have hP9 := hP.sub (ws' := [(h0, .inr (7, [.int 2, .int (nI nm), .ref ap, .int (nI no), .ref am, .ref aw, .ref az, .ref au, .int kn, .long vP, .long vQ, .long vS, .long vT, .long vB, .long vM, .long vH, .ref ao, .ref ax, .int (nI np), .ref ay, .int (nI nl), .ref ad, .ref al, .int (nI sn), .ref ag, .int (nI ta), .int nb]))]) [0] rfl
        have hD9 := hD.sub (ws' := [(h0, .inr (7, [.int 2, .int (nI nm), .ref ap, .int (nI no), .ref am, .ref aw, .ref az, .ref au, .int kn, .long vP, .long vQ, .long vS, .long vT, .long vB, .long vM, .long vH, .ref ao, .ref ax, .int (nI np), .ref ay, .int (nI nl), .ref ad, .ref al, .int (nI sn), .ref ag, .int (nI ta), .int nb]))]) [0] (by decide) rfl
        have hK9 := hK.sub (tys' := []) [] rfl
        exact W.zret (v := 0) (ty := .boolean) hx hb hr (by exact rfl) (fun t ht hW => ⟨⟨0, (), rfl, bI_n (by rw [(md_th_2 c_1 c_2)]; decide), ⟨by rw [ht]; rw [(md_th_2 c_1 c_2)]; exact hP9, va_K.moved hW.alike hK9, by rw [(md_th_2 c_1 c_2)]; exact hD9⟩⟩, hS.F ht⟩) hS.2.2 d_MD_goes_41 hlocks
      · exact absurd c_6 (by decide)
  · refine lv_iconst (v := 1) hx hb d_MD_goes_5 (by decide) ?_
    refine lv_goto (tgt := 26) hx hb d_MD_goes_6 (by decide) ?_
    refine va_put (D := (dC, dI)) (ci := 7) (v := .int 1) (ty := .int) (C := xR_MD) (T := xT_MD) (N := 27) hx hb hts (fun w h => List.mem_cons_of_mem _ (iw_MD w h)) xt_MD xt_MD_ok xn_MD_nm hown hK hP hD hS 0 rfl rfl 0 (by decide) (hts _ (List.mem_cons_of_mem _ wm_697)) (fun _ h9 => h9) rfl (by decide +kernel) rfl rfl (Nat.le_of_ble_eq_true rfl) d_MD_goes_26 (fun H locs hP hD hS => ?_)
    have hP : va_P (dC, dI) xCl [(h0, .inr (7, [.int 1, .int (nI nm), .ref ap, .int (nI no), .ref am, .ref aw, .ref az, .ref au, .int kn, .long vP, .long vQ, .long vS, .long vT, .long vB, .long vM, .long vH, .ref ao, .ref ax, .int (nI np), .ref ay, .int (nI nl), .ref ad, .ref al, .int (nI sn), .ref ag, .int (nI ta), .int nb]))] H := hP
    have hD : va_D A [(h0, .inr (7, [.int 1, .int (nI nm), .ref ap, .int (nI no), .ref am, .ref aw, .ref az, .ref au, .int kn, .long vP, .long vQ, .long vS, .long vT, .long vB, .long vM, .long vH, .ref ao, .ref ax, .int (nI np), .ref ay, .int (nI nl), .ref ad, .ref al, .int (nI sn), .ref ag, .int (nI ta), .int nb]))] := hD
    refine lv_aload_n hx hb d_MD_goes_29 rfl (lv_at hl 0 rfl) ?_
    refine va_get (D := (dC, dI)) (ci := 7) (v := .int 1) (C := xR_MD) (T := xT_MD) (N := 27) hx hb hts (fun w h => List.mem_cons_of_mem _ (iw_MD w h)) hown hK hP 0 rfl rfl 0 (by decide) (hts _ (List.mem_cons_of_mem _ wm_697)) (fun _ h9 => h9) rfl d_MD_goes_30 ?_
    refine lv_if_ne (tgt := 40) hx hb d_MD_goes_33 (by decide) (fun c_7 => ?_) (fun c_7 => ?_)
    · refine lv_iconst (v := 0) hx hb d_MD_goes_40 (by decide) ?_
      have hP9 := hP.sub (ws' := [(h0, .inr (7, [.int 1, .int (nI nm), .ref ap, .int (nI no), .ref am, .ref aw, .ref az, .ref au, .int kn, .long vP, .long vQ, .long vS, .long vT, .long vB, .long vM, .long vH, .ref ao, .ref ax, .int (nI np), .ref ay, .int (nI nl), .ref ad, .ref al, .int (nI sn), .ref ag, .int (nI ta), .int nb]))]) [0] rfl
      have hD9 := hD.sub (ws' := [(h0, .inr (7, [.int 1, .int (nI nm), .ref ap, .int (nI no), .ref am, .ref aw, .ref az, .ref au, .int kn, .long vP, .long vQ, .long vS, .long vT, .long vB, .long vM, .long vH, .ref ao, .ref ax, .int (nI np), .ref ay, .int (nI nl), .ref ad, .ref al, .int (nI sn), .ref ag, .int (nI ta), .int nb]))]) [0] (by decide) rfl
      have hK9 := hK.sub (tys' := []) [] rfl
      exact W.zret (v := 0) (ty := .boolean) hx hb hr (by exact rfl) (fun t ht hW => ⟨⟨0, (), rfl, bI_n (by rw [(md_th_1 c_1)]; decide), ⟨by rw [ht]; rw [(md_th_1 c_1)]; exact hP9, va_K.moved hW.alike hK9, by rw [(md_th_1 c_1)]; exact hD9⟩⟩, hS.F ht⟩) hS.2.2 d_MD_goes_41 hlocks
    · exact absurd c_7 (by decide)
set_option maxHeartbeats 4000000 in
set_option maxRecDepth 100000 in
/-- within -/
theorem c_MD_within (l : Launch) (dC : Nat → ClassId) (dI : Nat → Nat → Nat) (a : Int32) (b : Int32) (d : Int32)  : Met l xy_MD_within xw_MD_within ({ frames := 0, cells := 0, slots := 0, locals := 0 }) (xp_r [.int a, .int b, .int d] (dC, dI) xCl [] []) (xr_i (fun r => r = bI (md_win a b d))) 0 0 (fun _ => False) := by
  refine Met.ofW (cc := prog_9_method_4_code) (maxL := 3) (ret := (some .boolean)) (by decide) rfl ?_
  intro p e s m args below meth c s₁ B hml hv
  obtain ⟨rfl, hz, hP, hK⟩ := hv
  have hx := B.exec
  have hb := B.bytes
  have hr := B.returns
  have hts := atoms_spec (ws := xw_MD_within) B.pre
  have hown : s.vm.findClass xR_MD = some m.cls := findClass_of_methodNamed B.named
  have hlocks := B.notSynchronized
  have hP : va_P (dC, dI) xCl [] s.heap := hP
  have hl := lv_entry ([.int a, .int b, .int d]) (n := 3) (Nat.le_of_ble_eq_true rfl)
  rw [lg_entry_eq]
  generalize (lg_sl ([.int a, .int b, .int d]) ++ List.replicate (3 - (lg_sl ([.int a, .int b, .int d])).length) Slot.unset).toArray = ls at hl ⊢
  have hl : lv_has ls 3 [(0, .int a), (1, .int b), (2, .int d)] := hl
  refine lv_iload_n hx hb d_MD_within_0 rfl (lv_at hl 0 rfl) ?_
  refine lv_iload_n hx hb d_MD_within_1 rfl (lv_at hl 1 rfl) ?_
  refine lv_icmp_lt (tgt := 14) hx hb d_MD_within_2 (by decide) (fun c_1 => ?_) (fun c_1 => ?_)
  · refine lv_iconst (v := 0) hx hb d_MD_within_14 (by decide) ?_
    exact xr_zret (v := 0) (ty := .boolean) hx hb hr (by exact rfl) (by exact bI_n (fun q => q.1 c_1)) d_MD_within_15 hlocks
  · refine lv_iload_n hx hb d_MD_within_5 rfl (lv_at hl 0 rfl) ?_
    refine lv_iload_n hx hb d_MD_within_6 rfl (lv_at hl 2 rfl) ?_
    refine lv_icmp_gt (tgt := 14) hx hb d_MD_within_7 (by decide) (fun c_2 => ?_) (fun c_2 => ?_)
    · refine lv_iconst (v := 0) hx hb d_MD_within_14 (by decide) ?_
      exact xr_zret (v := 0) (ty := .boolean) hx hb hr (by exact rfl) (by exact bI_n (fun q => q.2 c_2)) d_MD_within_15 hlocks
    · refine lv_iconst (v := 1) hx hb d_MD_within_10 (by decide) ?_
      refine lv_goto (tgt := 15) hx hb d_MD_within_11 (by decide) ?_
      exact xr_zret (v := 1) (ty := .boolean) hx hb hr (by exact rfl) (by exact bI_p ⟨c_1, c_2⟩) d_MD_within_15 hlocks
set_option maxHeartbeats 4000000 in
set_option maxRecDepth 100000 in
/-- areNear -/
theorem c_MD_areNear (l : Launch) (dC : Nat → ClassId) (dI : Nat → Nat → Nat) (a : Int32) (b : Int32) (d : Int32)  : Met l xy_MD_areNear xw_MD_areNear ({ frames := 1, cells := 0, slots := 0, locals := 22 }) (xp_r [.int a, .int b, .int d] (dC, dI) xCl [] []) (xr_i (fun r => r = bI (sr_near a ∧ sr_near b ∧ sr_near d))) 0 0 (fun _ => False) := by
  refine Met.ofW (cc := prog_9_method_5_code) (maxL := 3) (ret := (some .boolean)) (by decide) rfl ?_
  intro p e s m args below meth c s₁ B hml hv
  obtain ⟨rfl, hz, hP, hK⟩ := hv
  have hx := B.exec
  have hb := B.bytes
  have hr := B.returns
  have hts := atoms_spec (ws := xw_MD_areNear) B.pre
  have hown : s.vm.findClass xR_MD = some m.cls := findClass_of_methodNamed B.named
  have hlocks := B.notSynchronized
  have hP : va_P (dC, dI) xCl [] s.heap := hP
  have hl := lv_entry ([.int a, .int b, .int d]) (n := 3) (Nat.le_of_ble_eq_true rfl)
  rw [lg_entry_eq]
  generalize (lg_sl ([.int a, .int b, .int d]) ++ List.replicate (3 - (lg_sl ([.int a, .int b, .int d])).length) Slot.unset).toArray = ls at hl ⊢
  have hl : lv_has ls 3 [(0, .int a), (1, .int b), (2, .int d)] := hl
  refine lv_iload_n hx hb d_MD_areNear_0 rfl (lv_at hl 0 rfl) ?_
  refine lv_sipush (v := (-10000)) hx hb d_MD_areNear_1 (by decide) ?_
  refine lv_sipush (v := 10000) hx hb d_MD_areNear_4 (by decide) ?_
  refine xr_calli (va_runS (As := [.int a, .int (-10000), .int 10000]) (rest := []) ⟨hx, hb, hml, hown, hts⟩ (c_MD_within l dC dI a (-10000) 10000) (va_cwS 3 hts (xgS wm_790 wm_791 wm_34 wm_792) rfl rfl rfl (by decide +kernel) ⟨Nat.le_of_ble_eq_true rfl, Nat.le_of_ble_eq_true rfl⟩) ⟨xp_blind, fun U hU hW => ⟨rfl, hz.warm hW, by rw [hU]; exact hP.sub [] rfl, va_K.moved hW.alike (hK.sub [] rfl)⟩⟩ rfl rfl hl.1 rfl (lv_room (Nat.le_of_ble_eq_true rfl)) d_MD_areNear_7 ⟨Nat.le_of_ble_eq_true rfl, Nat.le_of_ble_eq_true rfl⟩) (fun r_1 h_2 => ?_)
  subst h_2
  refine lv_if_eq (tgt := 43) hx hb d_MD_areNear_10 (by decide) (fun c_3 => ?_) (fun c_3 => ?_)
  · have b_4 := bI_f (rfl : bI (md_win a (-10000) 10000) = _) c_3
    refine lv_iconst (v := 0) hx hb d_MD_areNear_43 (by decide) ?_
    exact xr_zret (v := 0) (ty := .boolean) hx hb hr (by exact rfl) (by exact bI_n (fun q => b_4 q.1)) d_MD_areNear_44 hlocks
  · have b_5 := bI_t (rfl : bI (md_win a (-10000) 10000) = _) c_3
    refine lv_iload_n hx hb d_MD_areNear_13 rfl (lv_at hl 1 rfl) ?_
    refine lv_sipush (v := (-10000)) hx hb d_MD_areNear_14 (by decide) ?_
    refine lv_sipush (v := 10000) hx hb d_MD_areNear_17 (by decide) ?_
    refine xr_calli (va_runS (As := [.int b, .int (-10000), .int 10000]) (rest := []) ⟨hx, hb, hml, hown, hts⟩ (c_MD_within l dC dI b (-10000) 10000) (va_cwS 3 hts (xgS wm_790 wm_791 wm_34 wm_792) rfl rfl rfl (by decide +kernel) ⟨Nat.le_of_ble_eq_true rfl, Nat.le_of_ble_eq_true rfl⟩) ⟨xp_blind, fun U hU hW => ⟨rfl, hz.warm hW, by rw [hU]; exact hP.sub [] rfl, va_K.moved hW.alike (hK.sub [] rfl)⟩⟩ rfl rfl hl.1 rfl (lv_room (Nat.le_of_ble_eq_true rfl)) d_MD_areNear_20 ⟨Nat.le_of_ble_eq_true rfl, Nat.le_of_ble_eq_true rfl⟩) (fun r_6 h_7 => ?_)
    subst h_7
    refine lv_if_eq (tgt := 43) hx hb d_MD_areNear_23 (by decide) (fun c_8 => ?_) (fun c_8 => ?_)
    · have b_9 := bI_f (rfl : bI (md_win b (-10000) 10000) = _) c_8
      refine lv_iconst (v := 0) hx hb d_MD_areNear_43 (by decide) ?_
      exact xr_zret (v := 0) (ty := .boolean) hx hb hr (by exact rfl) (by exact bI_n (fun q => b_9 q.2.1)) d_MD_areNear_44 hlocks
    · have b_10 := bI_t (rfl : bI (md_win b (-10000) 10000) = _) c_8
      refine lv_iload_n hx hb d_MD_areNear_26 rfl (lv_at hl 2 rfl) ?_
      refine lv_sipush (v := (-10000)) hx hb d_MD_areNear_27 (by decide) ?_
      refine lv_sipush (v := 10000) hx hb d_MD_areNear_30 (by decide) ?_
      refine xr_calli (va_runS (As := [.int d, .int (-10000), .int 10000]) (rest := []) ⟨hx, hb, hml, hown, hts⟩ (c_MD_within l dC dI d (-10000) 10000) (va_cwS 3 hts (xgS wm_790 wm_791 wm_34 wm_792) rfl rfl rfl (by decide +kernel) ⟨Nat.le_of_ble_eq_true rfl, Nat.le_of_ble_eq_true rfl⟩) ⟨xp_blind, fun U hU hW => ⟨rfl, hz.warm hW, by rw [hU]; exact hP.sub [] rfl, va_K.moved hW.alike (hK.sub [] rfl)⟩⟩ rfl rfl hl.1 rfl (lv_room (Nat.le_of_ble_eq_true rfl)) d_MD_areNear_33 ⟨Nat.le_of_ble_eq_true rfl, Nat.le_of_ble_eq_true rfl⟩) (fun r_11 h_12 => ?_)
      subst h_12
      refine lv_if_eq (tgt := 43) hx hb d_MD_areNear_36 (by decide) (fun c_13 => ?_) (fun c_13 => ?_)
      · have b_14 := bI_f (rfl : bI (md_win d (-10000) 10000) = _) c_13
        refine lv_iconst (v := 0) hx hb d_MD_areNear_43 (by decide) ?_
        exact xr_zret (v := 0) (ty := .boolean) hx hb hr (by exact rfl) (by exact bI_n (fun q => b_14 q.2.2)) d_MD_areNear_44 hlocks
      · have b_15 := bI_t (rfl : bI (md_win d (-10000) 10000) = _) c_13
        refine lv_iconst (v := 1) hx hb d_MD_areNear_39 (by decide) ?_
        refine lv_goto (tgt := 44) hx hb d_MD_areNear_40 (by decide) ?_
        exact xr_zret (v := 1) (ty := .boolean) hx hb hr (by exact rfl) (by exact bI_p ⟨b_5, b_10, b_15⟩) d_MD_areNear_44 hlocks
set_option maxHeartbeats 4000000 in
set_option maxRecDepth 100000 in
/-- down -/
theorem c_MD_down (l : Launch) (dC : Nat → ClassId) (dI : Nat → Nat → Nat) (x : Int64) (y : Int64) (hy : 0 < y) : Met l xy_MD_down xw_MD_down ({ frames := 0, cells := 0, slots := 0, locals := 0 }) (xp_r [.long x, .long y] (dC, dI) xCl [] []) (xr_l (fun r => r = sr_fd x y)) 0 0 (fun _ => False) := by
  refine Met.ofW (cc := prog_9_method_6_code) (maxL := 6) (ret := (some .long)) (by decide) rfl ?_
  intro p e s m args below meth c s₁ B hml hv
  obtain ⟨rfl, hz, hP, hK⟩ := hv
  have hx := B.exec
  have hb := B.bytes
  have hr := B.returns
  have hts := atoms_spec (ws := xw_MD_down) B.pre
  have hown : s.vm.findClass xR_MD = some m.cls := findClass_of_methodNamed B.named
  have hlocks := B.notSynchronized
  have hP : va_P (dC, dI) xCl [] s.heap := hP
  have hl := lv_entry ([.long x, .long y]) (n := 6) (Nat.le_of_ble_eq_true rfl)
  rw [lg_entry_eq]
  generalize (lg_sl ([.long x, .long y]) ++ List.replicate (6 - (lg_sl ([.long x, .long y])).length) Slot.unset).toArray = ls at hl ⊢
  have hl : lv_has ls 6 [(0, .long x), (2, .long y)] := hl
  refine lv_lload_n hx hb d_MD_down_0 rfl (lv_at hl 0 rfl) ?_
  refine lv_lload_n hx hb d_MD_down_1 rfl (lv_at hl 1 rfl) ?_
  refine lv_ldiv hx hb d_MD_down_2 (fun q => by rw [q] at hy; exact Int64.lt_irrefl hy) ?_
  refine lv_lstore (lv' := [(4, .long (x / y)), (0, .long x), (2, .long y)]) hx hb d_MD_down_3 hl (by decide) rfl (fun ls hl => ?_)
  refine lv_lload hx hb d_MD_down_5 (lv_at hl 0 rfl) ?_
  refine lv_lload_n hx hb d_MD_down_7 rfl (lv_at hl 2 rfl) ?_
  refine lv_lmul hx hb d_MD_down_8 ?_
  refine lv_lload_n hx hb d_MD_down_9 rfl (lv_at hl 1 rfl) ?_
  refine W.lcmp hx hb d_MD_down_10 ?_
  refine lv_if_le (tgt := 21) hx hb d_MD_down_11 (by decide) (fun c_1 => ?_) (fun c_1 => ?_)
  · have l_2 := lc_le.mp c_1
    refine lv_lload hx hb d_MD_down_21 (lv_at hl 0 rfl) ?_
    exact xr_lret (v := x / y) hx hb hr (by exact (fd_dn0 hy l_2)) d_MD_down_23 hlocks
  · have l_3 := fun q => c_1 (lc_le.mpr q)
    refine lv_lload hx hb d_MD_down_14 (lv_at hl 0 rfl) ?_
    refine lv_lconst (v := 1) hx hb d_MD_down_16 (by decide) ?_
    refine lv_lsub hx hb d_MD_down_17 ?_
    refine lv_goto (tgt := 23) hx hb d_MD_down_18 (by decide) ?_
    exact xr_lret (v := (x / y) - 1) hx hb hr (by exact (fd_dn1 hy l_3)) d_MD_down_23 hlocks
set_option maxHeartbeats 4000000 in
set_option maxRecDepth 100000 in
/-- isObservation -/
theorem c_MD_isObservation (l : Launch) (dC : Nat → ClassId) (dI : Nat → Nat → Nat) (h0 : Nat) (th : Int32) (nm : Nat) (ap : Nat) (no : Nat) (am : Nat) (aw : Nat) (az : Nat) (au : Nat) (kn : Int32) (vP : Int64) (vQ : Int64) (vS : Int64) (vT : Int64) (vB : Int64) (vM : Int64) (vH : Int64) (ao : Nat) (ax : Nat) (np : Nat) (ay : Nat) (nl : Nat) (ad : Nat) (al : Nat) (sn : Nat) (ag : Nat) (ta : Nat) (nb : Int32) (a : Int32) (hno : no ≤ 20) : Met l xy_MD_isObservation xw_MD_isObservation ({ frames := 1, cells := 0, slots := 0, locals := 22 }) (xp_r [.ref h0, .int a] (dC, dI) xCl [(h0, .inr (7, [.int th, .int (nI nm), .ref ap, .int (nI no), .ref am, .ref aw, .ref az, .ref au, .int kn, .long vP, .long vQ, .long vS, .long vT, .long vB, .long vM, .long vH, .ref ao, .ref ax, .int (nI np), .ref ay, .int (nI nl), .ref ad, .ref al, .int (nI sn), .ref ag, .int (nI ta), .int nb]))] []) (xr_i (fun r => r = bI (xin a no))) 0 0 (fun _ => False) := by
  refine Met.ofW (cc := prog_9_method_7_code) (maxL := 2) (ret := (some .boolean)) (by decide) rfl ?_
  intro p e s m args below meth c s₁ B hml hv
  obtain ⟨rfl, hz, hP, hK⟩ := hv
  have hx := B.exec
  have hb := B.bytes
  have hr := B.returns
  have hts := atoms_spec (ws := xw_MD_isObservation) B.pre
  have hown : s.vm.findClass xR_MD = some m.cls := findClass_of_methodNamed B.named
  have hlocks := B.notSynchronized
  have hP : va_P (dC, dI) xCl [(h0, .inr (7, [.int th, .int (nI nm), .ref ap, .int (nI no), .ref am, .ref aw, .ref az, .ref au, .int kn, .long vP, .long vQ, .long vS, .long vT, .long vB, .long vM, .long vH, .ref ao, .ref ax, .int (nI np), .ref ay, .int (nI nl), .ref ad, .ref al, .int (nI sn), .ref ag, .int (nI ta), .int nb]))] s.heap := hP
  have hl := lv_entry ([.ref h0, .int a]) (n := 2) (Nat.le_of_ble_eq_true rfl)
  rw [lg_entry_eq]
  generalize (lg_sl ([.ref h0, .int a]) ++ List.replicate (2 - (lg_sl ([.ref h0, .int a])).length) Slot.unset).toArray = ls at hl ⊢
  have hl : lv_has ls 2 [(0, .ref h0), (1, .int a)] := hl
  refine lv_iload_n hx hb d_MD_isObservation_0 rfl (lv_at hl 1 rfl) ?_
  refine lv_iconst (v := 0) hx hb d_MD_isObservation_1 (by decide) ?_
  refine lv_aload_n hx hb d_MD_isObservation_2 rfl (lv_at hl 0 rfl) ?_
  refine va_get (D := (dC, dI)) (ci := 7) (v := .int (nI no)) (C := xR_MD) (T := xT_MD) (N := 27) hx hb hts (fun w h => List.mem_cons_of_mem _ (iw_MD w h)) hown hK hP 0 rfl rfl 3 (by decide) (hts _ (List.mem_cons_of_mem _ wm_700)) (fun _ h9 => h9) rfl d_MD_isObservation_3 ?_
  refine lv_iconst (v := 1) hx hb d_MD_isObservation_6 (by decide) ?_
  refine lv_isub hx hb d_MD_isObservation_7 ?_
  refine xr_calli (va_runS (As := [.int a, .int 0, .int ((nI no) - 1)]) (rest := []) ⟨hx, hb, hml, hown, hts⟩ (c_MD_within l dC dI a 0 ((nI no) - 1)) (va_cwS 3 hts (xgS wm_790 wm_791 wm_34 wm_792) rfl rfl rfl (by decide +kernel) ⟨Nat.le_of_ble_eq_true rfl, Nat.le_of_ble_eq_true rfl⟩) ⟨xp_blind, fun U hU hW => ⟨rfl, hz.warm hW, by rw [hU]; exact hP.sub [] rfl, va_K.moved hW.alike (hK.sub [] rfl)⟩⟩ rfl rfl hl.1 rfl (lv_room (Nat.le_of_ble_eq_true rfl)) d_MD_isObservation_8 ⟨Nat.le_of_ble_eq_true rfl, Nat.le_of_ble_eq_true rfl⟩) (fun r_1 h_2 => ?_)
  subst h_2
  exact xr_zret (v := bI (md_win a 0 ((nI no) - 1))) (ty := .boolean) hx hb hr (by exact (bI_nar _)) (by exact (bI_congr (md_win_in (by omega)))) d_MD_isObservation_11 hlocks
set_option maxHeartbeats 4000000 in
set_option maxRecDepth 100000 in
/-- tell -/
theorem c_MD_tell (l : Launch) (dC : Nat → ClassId) (dI : Nat → Nat → Nat) (sz : Nat) (h0 : Nat) (th : Int32) (nm : Nat) (ap : Nat) (no : Nat) (am : Nat) (aw : Nat) (az : Nat) (au : Nat) (kn : Int32) (vP : Int64) (vQ : Int64) (vS : Int64) (vT : Int64) (vB : Int64) (vM : Int64) (vH : Int64) (ao : Nat) (ax : Nat) (np : Nat) (ay : Nat) (nl : Nat) (ad : Nat) (al : Nat) (sn : Nat) (ag : Nat) (ta : Nat) (nb : Int32) (km : ClassId) (kw : ClassId) (ku : ClassId) (gm : Nat → Int32) (gw : Nat → Int32) (gu : Nat → Int32) (a : Int32) (b : Int32) (d : Int32) (j4 : Int32) (hno : no < 20) : Met l xy_MD_tell xw_MD_tell ({ frames := 0, cells := 0, slots := 0, locals := 0 }) (xp_w [.ref h0, .int a, .int b, .int d, .int j4] sz (dC, dI) xCl [(h0, .inr (7, [.int th, .int (nI nm), .ref ap, .int (nI no), .ref am, .ref aw, .ref az, .ref au, .int kn, .long vP, .long vQ, .long vS, .long vT, .long vB, .long vM, .long vH, .ref ao, .ref ax, .int (nI np), .ref ay, .int (nI nl), .ref ad, .ref al, .int (nI sn), .ref ag, .int (nI ta), .int nb])), (am, .inl (km, 20, .inl gm)), (aw, .inl (kw, 60, .inl gw)), (au, .inl (ku, 20, .inl gu))] [(km, .int), (kw, .int), (ku, .boolean)]) (va_Qv (fun (_ : Unit) => True) (fun _ t => xb_w (dC, dI) xCl [(h0, .inr (7, [.int th, .int (nI nm), .ref ap, .int (nI (no + 1)), .ref am, .ref aw, .ref az, .ref au, .int kn, .long vP, .long vQ, .long vS, .long vT, .long vB, .long vM, .long vH, .ref ao, .ref ax, .int (nI np), .ref ay, .int (nI nl), .ref ad, .ref al, .int (nI sn), .ref ag, .int (nI ta), .int nb])), (am, .inl (km, 20, .inl (upd gm no a))), (aw, .inl (kw, 60, .inl (upd (upd (upd gw (3 * no) b) (3 * no + 1) d) (3 * no + 2) j4))), (au, .inl (ku, 20, .inl (upd gu no 1)))] [(km, .int), (kw, .int), (ku, .boolean)] (va_A [(h0, .inr (7, [.int th, .int (nI nm), .ref ap, .int (nI no), .ref am, .ref aw, .ref az, .ref au, .int kn, .long vP, .long vQ, .long vS, .long vT, .long vB, .long vM, .long vH, .ref ao, .ref ax, .int (nI np), .ref ay, .int (nI nl), .ref ad, .ref al, .int (nI sn), .ref ag, .int (nI ta), .int nb])), (am, .inl (km, 20, .inl gm)), (aw, .inl (kw, 60, .inl gw)), (au, .inl (ku, 20, .inl gu))] sz) t) (va_A [(h0, .inr (7, [.int th, .int (nI nm), .ref ap, .int (nI no), .ref am, .ref aw, .ref az, .ref au, .int kn, .long vP, .long vQ, .long vS, .long vT, .long vB, .long vM, .long vH, .ref ao, .ref ax, .int (nI np), .ref ay, .int (nI nl), .ref ad, .ref al, .int (nI sn), .ref ag, .int (nI ta), .int nb])), (am, .inl (km, 20, .inl gm)), (aw, .inl (kw, 60, .inl gw)), (au, .inl (ku, 20, .inl gu))] sz)) 0 0 (va_A [(h0, .inr (7, [.int th, .int (nI nm), .ref ap, .int (nI no), .ref am, .ref aw, .ref az, .ref au, .int kn, .long vP, .long vQ, .long vS, .long vT, .long vB, .long vM, .long vH, .ref ao, .ref ax, .int (nI np), .ref ay, .int (nI nl), .ref ad, .ref al, .int (nI sn), .ref ag, .int (nI ta), .int nb])), (am, .inl (km, 20, .inl gm)), (aw, .inl (kw, 60, .inl gw)), (au, .inl (ku, 20, .inl gu))] sz) := by
  refine Met.ofW (cc := prog_9_method_9_code) (maxL := 5) (ret := none) (by decide) rfl ?_
  intro p e s m args below meth c s₁ B hml hv
  obtain ⟨rfl, hsz, hz, hP, hK, hD0⟩ := hv
  have hx := B.exec
  have hb := B.bytes
  have hr := B.returns
  have hts := atoms_spec (ws := xw_MD_tell) B.pre
  have hown : s.vm.findClass xR_MD = some m.cls := findClass_of_methodNamed B.named
  have hlocks := B.notSynchronized
  subst hsz
  have hD := hD0.self (sz := s.heap.size)
  generalize hAe : va_A [(h0, .inr (7, [.int th, .int (nI nm), .ref ap, .int (nI no), .ref am, .ref aw, .ref az, .ref au, .int kn, .long vP, .long vQ, .long vS, .long vT, .long vB, .long vM, .long vH, .ref ao, .ref ax, .int (nI np), .ref ay, .int (nI nl), .ref ad, .ref al, .int (nI sn), .ref ag, .int (nI ta), .int nb])), (am, .inl (km, 20, .inl gm)), (aw, .inl (kw, 60, .inl gw)), (au, .inl (ku, 20, .inl gu))] s.heap.size = A at hD ⊢
  have hA : ∀ q : Nat, s.heap.size ≤ q → A q := fun q h => by rw [← hAe]; exact Or.inr h
  have hS : va_S A s.heap s.heap [] := va_S.rf
  have hP : va_P (dC, dI) xCl [(h0, .inr (7, [.int th, .int (nI nm), .ref ap, .int (nI no), .ref am, .ref aw, .ref az, .ref au, .int kn, .long vP, .long vQ, .long vS, .long vT, .long vB, .long vM, .long vH, .ref ao, .ref ax, .int (nI np), .ref ay, .int (nI nl), .ref ad, .ref al, .int (nI sn), .ref ag, .int (nI ta), .int nb])), (am, .inl (km, 20, .inl gm)), (aw, .inl (kw, 60, .inl gw)), (au, .inl (ku, 20, .inl gu))] s.heap := hP
  have hl := lv_entry ([.ref h0, .int a, .int b, .int d, .int j4]) (n := 5) (Nat.le_of_ble_eq_true rfl)
  rw [lg_entry_eq]
  generalize (lg_sl ([.ref h0, .int a, .int b, .int d, .int j4]) ++ List.replicate (5 - (lg_sl ([.ref h0, .int a, .int b, .int d, .int j4])).length) Slot.unset).toArray = ls at hl ⊢
  have hl : lv_has ls 5 [(0, .ref h0), (1, .int a), (2, .int b), (3, .int d), (4, .int j4)] := hl
  refine lv_aload_n hx hb d_MD_tell_0 rfl (lv_at hl 0 rfl) ?_
  refine va_get (D := (dC, dI)) (ci := 7) (v := .ref am) (C := xR_MD) (T := xT_MD) (N := 27) hx hb hts (fun w h => List.mem_cons_of_mem _ (iw_MD w h)) hown hK hP 0 rfl rfl 4 (by decide) (hts _ (List.mem_cons_of_mem _ wm_701)) (fun _ h9 => h9) rfl d_MD_tell_1 ?_
  refine lv_aload_n hx hb d_MD_tell_4 rfl (lv_at hl 0 rfl) ?_
  refine va_get (D := (dC, dI)) (ci := 7) (v := .int (nI no)) (C := xR_MD) (T := xT_MD) (N := 27) hx hb hts (fun w h => List.mem_cons_of_mem _ (iw_MD w h)) hown hK hP 0 rfl rfl 3 (by decide) (hts _ (List.mem_cons_of_mem _ wm_700)) (fun _ h9 => h9) rfl d_MD_tell_5 ?_
  refine lv_iload_n hx hb d_MD_tell_8 rfl (lv_at hl 1 rfl) ?_
  refine xa_iast hx hb hK hP hD hS 1 0 rfl rfl no rfl (by omega) (by decide) d_MD_tell_9 (fun H locs hP hD hS => ?_)
  have hP : va_P (dC, dI) xCl [(h0, .inr (7, [.int th, .int (nI nm), .ref ap, .int (nI no), .ref am, .ref aw, .ref az, .ref au, .int kn, .long vP, .long vQ, .long vS, .long vT, .long vB, .long vM, .long vH, .ref ao, .ref ax, .int (nI np), .ref ay, .int (nI nl), .ref ad, .ref al, .int (nI sn), .ref ag, .int (nI ta), .int nb])), (am, .inl (km, 20, .inl (upd gm no a))), (aw, .inl (kw, 60, .inl gw)), (au, .inl (ku, 20, .inl gu))] H := hP
  have hD : va_D A [(h0, .inr (7, [.int th, .int (nI nm), .ref ap, .int (nI no), .ref am, .ref aw, .ref az, .ref au, .int kn, .long vP, .long vQ, .long vS, .long vT, .long vB, .long vM, .long vH, .ref ao, .ref ax, .int (nI np), .ref ay, .int (nI nl), .ref ad, .ref al, .int (nI sn), .ref ag, .int (nI ta), .int nb])), (am, .inl (km, 20, .inl (upd gm no a))), (aw, .inl (kw, 60, .inl gw)), (au, .inl (ku, 20, .inl gu))] := hD
  refine lv_aload_n hx hb d_MD_tell_10 rfl (lv_at hl 0 rfl) ?_
  refine va_get (D := (dC, dI)) (ci := 7) (v := .ref aw) (C := xR_MD) (T := xT_MD) (N := 27) hx hb hts (fun w h => List.mem_cons_of_mem _ (iw_MD w h)) hown hK hP 0 rfl rfl 5 (by decide) (hts _ (List.mem_cons_of_mem _ wm_702)) (fun _ h9 => h9) rfl d_MD_tell_11 ?_
  refine lv_iconst (v := 3) hx hb d_MD_tell_14 (by decide) ?_
  refine lv_aload_n hx hb d_MD_tell_15 rfl (lv_at hl 0 rfl) ?_
  refine va_get (D := (dC, dI)) (ci := 7) (v := .int (nI no)) (C := xR_MD) (T := xT_MD) (N := 27) hx hb hts (fun w h => List.mem_cons_of_mem _ (iw_MD w h)) hown hK hP 0 rfl rfl 3 (by decide) (hts _ (List.mem_cons_of_mem _ wm_700)) (fun _ h9 => h9) rfl d_MD_tell_16 ?_
  refine lv_imul hx hb d_MD_tell_19 ?_
  refine xv_i (y := nI (3 * no)) (pk_mul 3 _) ?_
  refine lv_iload_n hx hb d_MD_tell_20 rfl (lv_at hl 2 rfl) ?_
  refine xa_iast hx hb hK hP hD hS 2 1 rfl rfl (3 * no) rfl (by omega) (by decide) d_MD_tell_21 (fun H locs hP hD hS => ?_)
  have hP : va_P (dC, dI) xCl [(h0, .inr (7, [.int th, .int (nI nm), .ref ap, .int (nI no), .ref am, .ref aw, .ref az, .ref au, .int kn, .long vP, .long vQ, .long vS, .long vT, .long vB, .long vM, .long vH, .ref ao, .ref ax, .int (nI np), .ref ay, .int (nI nl), .ref ad, .ref al, .int (nI sn), .ref ag, .int (nI ta), .int nb])), (am, .inl (km, 20, .inl (upd gm no a))), (aw, .inl (kw, 60, .inl (upd gw (3 * no) b))), (au, .inl (ku, 20, .inl gu))] H := hP
  have hD : va_D A [(h0, .inr (7, [.int th, .int (nI nm), .ref ap, .int (nI no), .ref am, .ref aw, .ref az, .ref au, .int kn, .long vP, .long vQ, .long vS, .long vT, .long vB, .long vM, .long vH, .ref ao, .ref ax, .int (nI np), .ref ay, .int (nI nl), .ref ad, .ref al, .int (nI sn), .ref ag, .int (nI ta), .int nb])), (am, .inl (km, 20, .inl (upd gm no a))), (aw, .inl (kw, 60, .inl (upd gw (3 * no) b))), (au, .inl (ku, 20, .inl gu))] := hD
  refine lv_aload_n hx hb d_MD_tell_22 rfl (lv_at hl 0 rfl) ?_
  refine va_get (D := (dC, dI)) (ci := 7) (v := .ref aw) (C := xR_MD) (T := xT_MD) (N := 27) hx hb hts (fun w h => List.mem_cons_of_mem _ (iw_MD w h)) hown hK hP 0 rfl rfl 5 (by decide) (hts _ (List.mem_cons_of_mem _ wm_702)) (fun _ h9 => h9) rfl d_MD_tell_23 ?_
  refine lv_iconst (v := 3) hx hb d_MD_tell_26 (by decide) ?_
  refine lv_aload_n hx hb d_MD_tell_27 rfl (lv_at hl 0 rfl) ?_
  refine va_get (D := (dC, dI)) (ci := 7) (v := .int (nI no)) (C := xR_MD) (T := xT_MD) (N := 27) hx hb hts (fun w h => List.mem_cons_of_mem _ (iw_MD w h)) hown hK hP 0 rfl rfl 3 (by decide) (hts _ (List.mem_cons_of_mem _ wm_700)) (fun _ h9 => h9) rfl d_MD_tell_28 ?_
  refine lv_imul hx hb d_MD_tell_31 ?_
  refine xv_i (y := nI (3 * no)) (pk_mul 3 _) ?_
  refine lv_iconst (v := 1) hx hb d_MD_tell_32 (by decide) ?_
  refine lv_iadd hx hb d_MD_tell_33 ?_
  refine xv_i (y := nI ((3 * no) + 1)) (nI_1 _) ?_
  refine lv_iload_n hx hb d_MD_tell_34 rfl (lv_at hl 3 rfl) ?_
  refine xa_iast hx hb hK hP hD hS 2 1 rfl rfl ((3 * no) + 1) rfl (by omega) (by decide) d_MD_tell_35 (fun H locs hP hD hS => ?_)
  have hP : va_P (dC, dI) xCl [(h0, .inr (7, [.int th, .int (nI nm), .ref ap, .int (nI no), .ref am, .ref aw, .ref az, .ref au, .int kn, .long vP, .long vQ, .long vS, .long vT, .long vB, .long vM, .long vH, .ref ao, .ref ax, .int (nI np), .ref ay, .int (nI nl), .ref ad, .ref al, .int (nI sn), .ref ag, .int (nI ta), .int nb])), (am, .inl (km, 20, .inl (upd gm no a))), (aw, .inl (kw, 60, .inl (upd (upd gw (3 * no) b) ((3 * no) + 1) d))), (au, .inl (ku, 20, .inl gu))] H := hP
  have hD : va_D A [(h0, .inr (7, [.int th, .int (nI nm), .ref ap, .int (nI no), .ref am, .ref aw, .ref az, .ref au, .int kn, .long vP, .long vQ, .long vS, .long vT, .long vB, .long vM, .long vH, .ref ao, .ref ax, .int (nI np), .ref ay, .int (nI nl), .ref ad, .ref al, .int (nI sn), .ref ag, .int (nI ta), .int nb])), (am, .inl (km, 20, .inl (upd gm no a))), (aw, .inl (kw, 60, .inl (upd (upd gw (3 * no) b) ((3 * no) + 1) d))), (au, .inl (ku, 20, .inl gu))] := hD
  refine lv_aload_n hx hb d_MD_tell_36 rfl (lv_at hl 0 rfl) ?_
  refine va_get (D := (dC, dI)) (ci := 7) (v := .ref aw) (C := xR_MD) (T := xT_MD) (N := 27) hx hb hts (fun w h => List.mem_cons_of_mem _ (iw_MD w h)) hown hK hP 0 rfl rfl 5 (by decide) (hts _ (List.mem_cons_of_mem _ wm_702)) (fun _ h9 => h9) rfl d_MD_tell_37 ?_
  refine lv_iconst (v := 3) hx hb d_MD_tell_40 (by decide) ?_
  refine lv_aload_n hx hb d_MD_tell_41 rfl (lv_at hl 0 rfl) ?_
  refine va_get (D := (dC, dI)) (ci := 7) (v := .int (nI no)) (C := xR_MD) (T := xT_MD) (N := 27) hx hb hts (fun w h => List.mem_cons_of_mem _ (iw_MD w h)) hown hK hP 0 rfl rfl 3 (by decide) (hts _ (List.mem_cons_of_mem _ wm_700)) (fun _ h9 => h9) rfl d_MD_tell_42 ?_
  refine lv_imul hx hb d_MD_tell_45 ?_
  refine xv_i (y := nI (3 * no)) (pk_mul 3 _) ?_
  refine lv_iconst (v := 2) hx hb d_MD_tell_46 (by decide) ?_
  refine lv_iadd hx hb d_MD_tell_47 ?_
  refine xv_i (y := nI ((3 * no) + 2)) (nI_add _ 2) ?_
  refine lv_iload hx hb d_MD_tell_48 (lv_at hl 4 rfl) ?_
  refine xa_iast hx hb hK hP hD hS 2 1 rfl rfl ((3 * no) + 2) rfl (by omega) (by decide) d_MD_tell_50 (fun H locs hP hD hS => ?_)
  have hP : va_P (dC, dI) xCl [(h0, .inr (7, [.int th, .int (nI nm), .ref ap, .int (nI no), .ref am, .ref aw, .ref az, .ref au, .int kn, .long vP, .long vQ, .long vS, .long vT, .long vB, .long vM, .long vH, .ref ao, .ref ax, .int (nI np), .ref ay, .int (nI nl), .ref ad, .ref al, .int (nI sn), .ref ag, .int (nI ta), .int nb])), (am, .inl (km, 20, .inl (upd gm no a))), (aw, .inl (kw, 60, .inl (upd (upd (upd gw (3 * no) b) ((3 * no) + 1) d) ((3 * no) + 2) j4))), (au, .inl (ku, 20, .inl gu))] H := hP
  have hD : va_D A [(h0, .inr (7, [.int th, .int (nI nm), .ref ap, .int (nI no), .ref am, .ref aw, .ref az, .ref au, .int kn, .long vP, .long vQ, .long vS, .long vT, .long vB, .long vM, .long vH, .ref ao, .ref ax, .int (nI np), .ref ay, .int (nI nl), .ref ad, .ref al, .int (nI sn), .ref ag, .int (nI ta), .int nb])), (am, .inl (km, 20, .inl (upd gm no a))), (aw, .inl (kw, 60, .inl (upd (upd (upd gw (3 * no) b) ((3 * no) + 1) d) ((3 * no) + 2) j4))), (au, .inl (ku, 20, .inl gu))] := hD
  refine lv_aload_n hx hb d_MD_tell_51 rfl (lv_at hl 0 rfl) ?_
  refine va_get (D := (dC, dI)) (ci := 7) (v := .ref au) (C := xR_MD) (T := xT_MD) (N := 27) hx hb hts (fun w h => List.mem_cons_of_mem _ (iw_MD w h)) hown hK hP 0 rfl rfl 7 (by decide) (hts _ (List.mem_cons_of_mem _ wm_704)) (fun _ h9 => h9) rfl d_MD_tell_52 ?_
  refine lv_aload_n hx hb d_MD_tell_55 rfl (lv_at hl 0 rfl) ?_
  refine va_get (D := (dC, dI)) (ci := 7) (v := .int (nI no)) (C := xR_MD) (T := xT_MD) (N := 27) hx hb hts (fun w h => List.mem_cons_of_mem _ (iw_MD w h)) hown hK hP 0 rfl rfl 3 (by decide) (hts _ (List.mem_cons_of_mem _ wm_700)) (fun _ h9 => h9) rfl d_MD_tell_56 ?_
  refine lv_iconst (v := 1) hx hb d_MD_tell_59 (by decide) ?_
  refine xa_zast hx hb hK hP hD hS 3 2 rfl rfl no rfl (by omega) (by decide) rfl d_MD_tell_60 (fun H locs hP hD hS => ?_)
  have hP : va_P (dC, dI) xCl [(h0, .inr (7, [.int th, .int (nI nm), .ref ap, .int (nI no), .ref am, .ref aw, .ref az, .ref au, .int kn, .long vP, .long vQ, .long vS, .long vT, .long vB, .long vM, .long vH, .ref ao, .ref ax, .int (nI np), .ref ay, .int (nI nl), .ref ad, .ref al, .int (nI sn), .ref ag, .int (nI ta), .int nb])), (am, .inl (km, 20, .inl (upd gm no a))), (aw, .inl (kw, 60, .inl (upd (upd (upd gw (3 * no) b) ((3 * no) + 1) d) ((3 * no) + 2) j4))), (au, .inl (ku, 20, .inl (upd gu no 1)))] H := hP
  have hD : va_D A [(h0, .inr (7, [.int th, .int (nI nm), .ref ap, .int (nI no), .ref am, .ref aw, .ref az, .ref au, .int kn, .long vP, .long vQ, .long vS, .long vT, .long vB, .long vM, .long vH, .ref ao, .ref ax, .int (nI np), .ref ay, .int (nI nl), .ref ad, .ref al, .int (nI sn), .ref ag, .int (nI ta), .int nb])), (am, .inl (km, 20, .inl (upd gm no a))), (aw, .inl (kw, 60, .inl (upd (upd (upd gw (3 * no) b) ((3 * no) + 1) d) ((3 * no) + 2) j4))), (au, .inl (ku, 20, .inl (upd gu no 1)))] := hD
  refine lv_aload_n hx hb d_MD_tell_61 rfl (lv_at hl 0 rfl) ?_
  refine lv_dup hx hb d_MD_tell_62 rfl ?_
  refine va_get (D := (dC, dI)) (ci := 7) (v := .int (nI no)) (C := xR_MD) (T := xT_MD) (N := 27) hx hb hts (fun w h => List.mem_cons_of_mem _ (iw_MD w h)) hown hK hP 0 rfl rfl 3 (by decide) (hts _ (List.mem_cons_of_mem _ wm_700)) (fun _ h9 => h9) rfl d_MD_tell_63 ?_
  refine lv_iconst (v := 1) hx hb d_MD_tell_66 (by decide) ?_
  refine lv_iadd hx hb d_MD_tell_67 ?_
  refine xv_i (y := nI (no + 1)) (nI_1 _) ?_
  refine va_put (D := (dC, dI)) (ci := 7) (v := .int (nI (no + 1))) (ty := .int) (C := xR_MD) (T := xT_MD) (N := 27) hx hb hts (fun w h => List.mem_cons_of_mem _ (iw_MD w h)) xt_MD xt_MD_ok xn_MD_nm hown hK hP hD hS 0 rfl rfl 3 (by decide) (hts _ (List.mem_cons_of_mem _ wm_700)) (fun _ h9 => h9) rfl (by decide +kernel) rfl rfl (Nat.le_of_ble_eq_true rfl) d_MD_tell_68 (fun H locs hP hD hS => ?_)
  have hP : va_P (dC, dI) xCl [(h0, .inr (7, [.int th, .int (nI nm), .ref ap, .int (nI (no + 1)), .ref am, .ref aw, .ref az, .ref au, .int kn, .long vP, .long vQ, .long vS, .long vT, .long vB, .long vM, .long vH, .ref ao, .ref ax, .int (nI np), .ref ay, .int (nI nl), .ref ad, .ref al, .int (nI sn), .ref ag, .int (nI ta), .int nb])), (am, .inl (km, 20, .inl (upd gm no a))), (aw, .inl (kw, 60, .inl (upd (upd (upd gw (3 * no) b) ((3 * no) + 1) d) ((3 * no) + 2) j4))), (au, .inl (ku, 20, .inl (upd gu no 1)))] H := hP
  have hD : va_D A [(h0, .inr (7, [.int th, .int (nI nm), .ref ap, .int (nI (no + 1)), .ref am, .ref aw, .ref az, .ref au, .int kn, .long vP, .long vQ, .long vS, .long vT, .long vB, .long vM, .long vH, .ref ao, .ref ax, .int (nI np), .ref ay, .int (nI nl), .ref ad, .ref al, .int (nI sn), .ref ag, .int (nI ta), .int nb])), (am, .inl (km, 20, .inl (upd gm no a))), (aw, .inl (kw, 60, .inl (upd (upd (upd gw (3 * no) b) ((3 * no) + 1) d) ((3 * no) + 2) j4))), (au, .inl (ku, 20, .inl (upd gu no 1)))] := hD
  have hP9 := hP.sub (ws' := [(h0, .inr (7, [.int th, .int (nI nm), .ref ap, .int (nI (no + 1)), .ref am, .ref aw, .ref az, .ref au, .int kn, .long vP, .long vQ, .long vS, .long vT, .long vB, .long vM, .long vH, .ref ao, .ref ax, .int (nI np), .ref ay, .int (nI nl), .ref ad, .ref al, .int (nI sn), .ref ag, .int (nI ta), .int nb])), (am, .inl (km, 20, .inl (upd gm no a))), (aw, .inl (kw, 60, .inl (upd (upd (upd gw (3 * no) b) ((3 * no) + 1) d) ((3 * no) + 2) j4))), (au, .inl (ku, 20, .inl (upd gu no 1)))]) [0, 1, 2, 3] rfl
  have hD9 := hD.sub (ws' := [(h0, .inr (7, [.int th, .int (nI nm), .ref ap, .int (nI (no + 1)), .ref am, .ref aw, .ref az, .ref au, .int kn, .long vP, .long vQ, .long vS, .long vT, .long vB, .long vM, .long vH, .ref ao, .ref ax, .int (nI np), .ref ay, .int (nI nl), .ref ad, .ref al, .int (nI sn), .ref ag, .int (nI ta), .int nb])), (am, .inl (km, 20, .inl (upd gm no a))), (aw, .inl (kw, 60, .inl (upd (upd (upd gw (3 * no) b) ((3 * no) + 1) d) ((3 * no) + 2) j4))), (au, .inl (ku, 20, .inl (upd gu no 1)))]) [0, 1, 2, 3] (by decide) rfl
  have hK9 := hK.sub (tys' := [(km, .int), (kw, .int), (ku, .boolean)]) [0, 1, 2] rfl
  exact W.vret hx hb hr (fun t ht hW => ⟨⟨(), rfl, trivial, ⟨by rw [ht]; exact hP9, va_K.moved hW.alike hK9, by exact hD9⟩⟩, hS.F ht⟩) hS.2.2 d_MD_tell_71 hlocks
set_option maxHeartbeats 4000000 in
set_option maxRecDepth 100000 in
/-- usedNow -/
theorem c_MD_usedNow (l : Launch) (dC : Nat → ClassId) (dI : Nat → Nat → Nat) (h0 : Nat) (th : Int32) (nm : Nat) (ap : Nat) (no : Nat) (am : Nat) (aw : Nat) (az : Nat) (au : Nat) (kn : Int32) (vP : Int64) (vQ : Int64) (vS : Int64) (vT : Int64) (vB : Int64) (vM : Int64) (vH : Int64) (ao : Nat) (ax : Nat) (np : Nat) (ay : Nat) (nl : Nat) (ad : Nat) (al : Nat) (sn : Nat) (ag : Nat) (ta : Nat) (nb : Int32) (ku : ClassId) (gu : Nat → Int32) (hno : no ≤ 20) : Met l xy_MD_usedNow xw_MD_usedNow ({ frames := 0, cells := 0, slots := 0, locals := 0 }) (xp_r [.ref h0] (dC, dI) xCl [(h0, .inr (7, [.int th, .int (nI nm), .ref ap, .int (nI no), .ref am, .ref aw, .ref az, .ref au, .int kn, .long vP, .long vQ, .long vS, .long vT, .long vB, .long vM, .long vH, .ref ao, .ref ax, .int (nI np), .ref ay, .int (nI nl), .ref ad, .ref al, .int (nI sn), .ref ag, .int (nI ta), .int nb])), (au, .inl (ku, 20, .inl gu))] [(ku, .boolean)]) (xr_i (fun r => r = nI (sr_cu gu no))) 0 0 (fun _ => False) := by
  refine Met.ofW (cc := prog_9_method_13_code) (maxL := 3) (ret := (some .int)) (by decide) rfl ?_
  intro p e s m args below meth c s₁ B hml hv
  obtain ⟨rfl, hz, hP, hK⟩ := hv
  have hx := B.exec
  have hb := B.bytes
  have hr := B.returns
  have hts := atoms_spec (ws := xw_MD_usedNow) B.pre
  have hown : s.vm.findClass xR_MD = some m.cls := findClass_of_methodNamed B.named
  have hlocks := B.notSynchronized
  have hP : va_P (dC, dI) xCl [(h0, .inr (7, [.int th, .int (nI nm), .ref ap, .int (nI no), .ref am, .ref aw, .ref az, .ref au, .int kn, .long vP, .long vQ, .long vS, .long vT, .long vB, .long vM, .long vH, .ref ao, .ref ax, .int (nI np), .ref ay, .int (nI nl), .ref ad, .ref al, .int (nI sn), .ref ag, .int (nI ta), .int nb])), (au, .inl (ku, 20, .inl gu))] s.heap := hP
  have hl := lv_entry ([.ref h0]) (n := 3) (Nat.le_of_ble_eq_true rfl)
  rw [lg_entry_eq]
  generalize (lg_sl ([.ref h0]) ++ List.replicate (3 - (lg_sl ([.ref h0])).length) Slot.unset).toArray = ls at hl ⊢
  have hl : lv_has ls 3 [(0, .ref h0)] := hl
  refine lv_iconst (v := 0) hx hb d_MD_usedNow_0 (by decide) ?_
  refine lv_istore_n (lv' := [(1, .int 0), (0, .ref h0)]) hx hb d_MD_usedNow_1 rfl hl (by decide) rfl (fun ls hl => ?_)
  refine lv_iconst (v := 0) hx hb d_MD_usedNow_2 (by decide) ?_
  refine lv_istore_n (lv' := [(2, .int 0), (1, .int 0), (0, .ref h0)]) hx hb d_MD_usedNow_3 rfl hl (by decide) rfl (fun ls hl => ?_)
  have lp4 : ∀ (fuel : Nat) (i : Nat) (x1 : Int32), no - i < fuel → i ≤ no → x1 = nI (sr_cu gu i) → ∀ (ls : Array Slot), lv_has ls 3 [(0, .ref h0), (1, .int x1), (2, .int (nI i))] → W p l e (headSpec xw_MD_usedNow ({ frames := 0, cells := 0, slots := 0, locals := 0 })).room s m ([.ref h0] : List Value).toArray below meth c s.heap [] 0 0 (MQ below (xr_i (fun r => r = nI (sr_cu gu no))) ([.ref h0] : List Value).toArray s 0 0 (fun _ => False)) (F0 m 4 ls []) := by
    intro fuel
    induction fuel with
    | zero => intro i x1 hfu; exact absurd hfu (Nat.not_lt_zero _)
    | succ fuel ih =>
      intro i x1 hfu hi hx1 ls hl
      subst hx1
      refine lv_iload_n hx hb d_MD_usedNow_4 rfl (lv_at hl 2 rfl) ?_
      refine lv_aload_n hx hb d_MD_usedNow_5 rfl (lv_at hl 0 rfl) ?_
      refine va_get (D := (dC, dI)) (ci := 7) (v := .int (nI no)) (C := xR_MD) (T := xT_MD) (N := 27) hx hb hts (fun w h => List.mem_cons_of_mem _ (iw_MD w h)) hown hK hP 0 rfl rfl 3 (by decide) (hts _ (List.mem_cons_of_mem _ wm_700)) (fun _ h9 => h9) rfl d_MD_usedNow_6 ?_
      refine lv_icmp_ge (tgt := 35) hx hb d_MD_usedNow_9 (by decide) (fun c_1 => ?_) (fun c_1 => ?_)
      · have n_2 := xn_le (a := no) (b := i) c_1 rfl rfl (by omega) (by omega)
        refine lv_iload_n hx hb d_MD_usedNow_35 rfl (lv_at hl 1 rfl) ?_
        exact xr_iret (v := nI (sr_cu gu i)) hx hb hr (by exact (by rw [show i = no by omega])) d_MD_usedNow_36 hlocks
      · have n_3 := xn_nle (a := no) (b := i) c_1 rfl rfl (by omega) (by omega)
        refine lv_aload_n hx hb d_MD_usedNow_12 rfl (lv_at hl 0 rfl) ?_
        refine va_get (D := (dC, dI)) (ci := 7) (v := .ref au) (C := xR_MD) (T := xT_MD) (N := 27) hx hb hts (fun w h => List.mem_cons_of_mem _ (iw_MD w h)) hown hK hP 0 rfl rfl 7 (by decide) (hts _ (List.mem_cons_of_mem _ wm_704)) (fun _ h9 => h9) rfl d_MD_usedNow_13 ?_
        refine lv_iload_n hx hb d_MD_usedNow_16 rfl (lv_at hl 2 rfl) ?_
        refine xa_zald hx hb hK hP 1 0 rfl rfl i rfl (by omega) (by decide) d_MD_usedNow_17 ?_
        refine lv_if_eq (tgt := 27) hx hb d_MD_usedNow_18 (by decide) (fun c_4 => ?_) (fun c_4 => ?_)
        · refine lv_iload_n hx hb d_MD_usedNow_27 rfl (lv_at hl 1 rfl) ?_
          refine lv_istore_n (lv' := [(1, .int (nI (sr_cu gu i))), (0, .ref h0), (2, .int (nI i))]) hx hb d_MD_usedNow_28 rfl hl (by decide) rfl (fun ls hl => ?_)
          refine lv_iinc (v := nI (i + 1)) (lv' := [(2, .int (nI (i + 1))), (1, .int (nI (sr_cu gu i))), (0, .ref h0)]) hx hb d_MD_usedNow_29 hl (k := 2) rfl (nI_1 _) (by decide) rfl (fun ls hl => ?_)
          refine lv_goto (tgt := 4) hx hb d_MD_usedNow_32 (by decide) ?_
          exact ih  (i + 1) (nI (sr_cu gu i)) (by omega) (by omega) (congrArg nI (sr_cu_f c_4).symm) ls (lv_sub hl [2, 1, 0] rfl)
        · refine lv_iload_n hx hb d_MD_usedNow_21 rfl (lv_at hl 1 rfl) ?_
          refine lv_iconst (v := 1) hx hb d_MD_usedNow_22 (by decide) ?_
          refine lv_iadd hx hb d_MD_usedNow_23 ?_
          refine xv_i (y := nI ((sr_cu gu i) + 1)) (nI_1 _) ?_
          refine lv_goto (tgt := 28) hx hb d_MD_usedNow_24 (by decide) ?_
          refine lv_istore_n (lv' := [(1, .int (nI ((sr_cu gu i) + 1))), (0, .ref h0), (2, .int (nI i))]) hx hb d_MD_usedNow_28 rfl hl (by decide) rfl (fun ls hl => ?_)
          refine lv_iinc (v := nI (i + 1)) (lv' := [(2, .int (nI (i + 1))), (1, .int (nI ((sr_cu gu i) + 1))), (0, .ref h0)]) hx hb d_MD_usedNow_29 hl (k := 2) rfl (nI_1 _) (by decide) rfl (fun ls hl => ?_)
          refine lv_goto (tgt := 4) hx hb d_MD_usedNow_32 (by decide) ?_
          exact ih  (i + 1) (nI ((sr_cu gu i) + 1)) (by omega) (by omega) (congrArg nI (sr_cu_t c_4).symm) ls (lv_sub hl [2, 1, 0] rfl)
  exact lp4 (no - 0 + 1) 0 0 (by omega) (Nat.zero_le _) nI_0.symm ls (lv_sub hl [2, 1, 0] rfl)
set_option maxHeartbeats 4000000 in
set_option maxRecDepth 100000 in
/-- sets, which can not -/
theorem c_MD_sets_f (l : Launch) (dC : Nat → ClassId) (dI : Nat → Nat → Nat) (sz : Nat) (h0 : Nat) (th : Int32) (nm : Nat) (ap : Nat) (no : Nat) (am : Nat) (aw : Nat) (az : Nat) (au : Nat) (kn : Int32) (vP : Int64) (vQ : Int64) (vS : Int64) (vT : Int64) (vB : Int64) (vM : Int64) (vH : Int64) (ao : Nat) (ax : Nat) (np : Nat) (ay : Nat) (nl : Nat) (ad : Nat) (al : Nat) (sn : Nat) (ag : Nat) (ta : Nat) (nb : Int32) (kp : ClassId) (km : ClassId) (kw : ClassId) (kz : ClassId) (ku : ClassId) (ko : ClassId) (kx : ClassId) (mk : Nat → Nat) (gp : Nat → Int32) (gw : Nat → Int32) (gz : Nat → Int32) (gu : Nat → Int32) (ho : Nat → Int32) (hx_ : Nat → Int32) (hno : no ≤ 20) (hmk : ∀ o, o < no → mk o < 12) (hb01 : ∀ k, gu k = 0 ∨ gu k = 1) (hw0 : sr_spread ((nI (sr_cu gu no)).toInt64) (sr_sm gu (md_g4 gw) no) (sr_sm gu (md_g5 gw) no) (sr_sm gu (md_g6 gw) no) = 0) : Met l xy_MD_sets xw_MD_sets ({ frames := 1, cells := 0, slots := 0, locals := 22 }) (xp_w [.ref h0] sz (dC, dI) xCl [(h0, .inr (7, [.int th, .int (nI nm), .ref ap, .int (nI no), .ref am, .ref aw, .ref az, .ref au, .int kn, .long vP, .long vQ, .long vS, .long vT, .long vB, .long vM, .long vH, .ref ao, .ref ax, .int (nI np), .ref ay, .int (nI nl), .ref ad, .ref al, .int (nI sn), .ref ag, .int (nI ta), .int nb])), (ap, .inl (kp, 36, .inl gp)), (am, .inl (km, 20, .inl (md_mk mk))), (aw, .inl (kw, 60, .inl gw)), (az, .inl (kz, 20, .inl gz)), (au, .inl (ku, 20, .inl gu)), (ao, .inl (ko, 20, .inl ho)), (ax, .inl (kx, 20, .inl hx_))] [(kp, .int), (km, .int), (kw, .int), (kz, .int), (ku, .boolean), (ko, .int), (kx, .boolean)]) (va_Qi (fun (r : Int32) (_ : Unit) => r = 0) (fun _ t => xb_w (dC, dI) xCl [(h0, .inr (7, [.int th, .int (nI nm), .ref ap, .int (nI no), .ref am, .ref aw, .ref az, .ref au, .int kn, .long vP, .long vQ, .long vS, .long vT, .long vB, .long vM, .long vH, .ref ao, .ref ax, .int (nI np), .ref ay, .int (nI nl), .ref ad, .ref al, .int (nI sn), .ref ag, .int (nI ta), .int nb])), (ap, .inl (kp, 36, .inl gp)), (am, .inl (km, 20, .inl (md_mk mk))), (aw, .inl (kw, 60, .inl gw)), (az, .inl (kz, 20, .inl gz)), (au, .inl (ku, 20, .inl gu)), (ao, .inl (ko, 20, .inl ho)), (ax, .inl (kx, 20, .inl hx_))] [(kp, .int), (km, .int), (kw, .int), (kz, .int), (ku, .boolean), (ko, .int), (kx, .boolean)] (va_A [(h0, .inr (7, [.int th, .int (nI nm), .ref ap, .int (nI no), .ref am, .ref aw, .ref az, .ref au, .int kn, .long vP, .long vQ, .long vS, .long vT, .long vB, .long vM, .long vH, .ref ao, .ref ax, .int (nI np), .ref ay, .int (nI nl), .ref ad, .ref al, .int (nI sn), .ref ag, .int (nI ta), .int nb])), (ap, .inl (kp, 36, .inl gp)), (am, .inl (km, 20, .inl (md_mk mk))), (aw, .inl (kw, 60, .inl gw)), (az, .inl (kz, 20, .inl gz)), (au, .inl (ku, 20, .inl gu)), (ao, .inl (ko, 20, .inl ho)), (ax, .inl (kx, 20, .inl hx_))] sz) t) (va_A [(h0, .inr (7, [.int th, .int (nI nm), .ref ap, .int (nI no), .ref am, .ref aw, .ref az, .ref au, .int kn, .long vP, .long vQ, .long vS, .long vT, .long vB, .long vM, .long vH, .ref ao, .ref ax, .int (nI np), .ref ay, .int (nI nl), .ref ad, .ref al, .int (nI sn), .ref ag, .int (nI ta), .int nb])), (ap, .inl (kp, 36, .inl gp)), (am, .inl (km, 20, .inl (md_mk mk))), (aw, .inl (kw, 60, .inl gw)), (az, .inl (kz, 20, .inl gz)), (au, .inl (ku, 20, .inl gu)), (ao, .inl (ko, 20, .inl ho)), (ax, .inl (kx, 20, .inl hx_))] sz)) 0 0 (va_A [(h0, .inr (7, [.int th, .int (nI nm), .ref ap, .int (nI no), .ref am, .ref aw, .ref az, .ref au, .int kn, .long vP, .long vQ, .long vS, .long vT, .long vB, .long vM, .long vH, .ref ao, .ref ax, .int (nI np), .ref ay, .int (nI nl), .ref ad, .ref al, .int (nI sn), .ref ag, .int (nI ta), .int nb])), (ap, .inl (kp, 36, .inl gp)), (am, .inl (km, 20, .inl (md_mk mk))), (aw, .inl (kw, 60, .inl gw)), (az, .inl (kz, 20, .inl gz)), (au, .inl (ku, 20, .inl gu)), (ao, .inl (ko, 20, .inl ho)), (ax, .inl (kx, 20, .inl hx_))] sz) := by
  refine Met.ofW (cc := prog_9_method_14_code) (maxL := 28) (ret := (some .boolean)) (by decide) rfl ?_
  intro p e s m args below meth c s₁ B hml hv
  obtain ⟨rfl, hsz, hz, hP, hK, hD0⟩ := hv
  have hx := B.exec
  have hb := B.bytes
  have hr := B.returns
  have hts := atoms_spec (ws := xw_MD_sets) B.pre
  have hown : s.vm.findClass xR_MD = some m.cls := findClass_of_methodNamed B.named
  have hlocks := B.notSynchronized
  subst hsz
  have hD := hD0.self (sz := s.heap.size)
  generalize hAe : va_A [(h0, .inr (7, [.int th, .int (nI nm), .ref ap, .int (nI no), .ref am, .ref aw, .ref az, .ref au, .int kn, .long vP, .long vQ, .long vS, .long vT, .long vB, .long vM, .long vH, .ref ao, .ref ax, .int (nI np), .ref ay, .int (nI nl), .ref ad, .ref al, .int (nI sn), .ref ag, .int (nI ta), .int nb])), (ap, .inl (kp, 36, .inl gp)), (am, .inl (km, 20, .inl (md_mk mk))), (aw, .inl (kw, 60, .inl gw)), (az, .inl (kz, 20, .inl gz)), (au, .inl (ku, 20, .inl gu)), (ao, .inl (ko, 20, .inl ho)), (ax, .inl (kx, 20, .inl hx_))] s.heap.size = A at hD ⊢
  have hA : ∀ q : Nat, s.heap.size ≤ q → A q := fun q h => by rw [← hAe]; exact Or.inr h
  have hS : va_S A s.heap s.heap [] := va_S.rf
  have hP : va_P (dC, dI) xCl [(h0, .inr (7, [.int th, .int (nI nm), .ref ap, .int (nI no), .ref am, .ref aw, .ref az, .ref au, .int kn, .long vP, .long vQ, .long vS, .long vT, .long vB, .long vM, .long vH, .ref ao, .ref ax, .int (nI np), .ref ay, .int (nI nl), .ref ad, .ref al, .int (nI sn), .ref ag, .int (nI ta), .int nb])), (ap, .inl (kp, 36, .inl gp)), (am, .inl (km, 20, .inl (md_mk mk))), (aw, .inl (kw, 60, .inl gw)), (az, .inl (kz, 20, .inl gz)), (au, .inl (ku, 20, .inl gu)), (ao, .inl (ko, 20, .inl ho)), (ax, .inl (kx, 20, .inl hx_))] s.heap := hP
  have hl := lv_entry ([.ref h0]) (n := 28) (Nat.le_of_ble_eq_true rfl)
  rw [lg_entry_eq]
  generalize (lg_sl ([.ref h0]) ++ List.replicate (28 - (lg_sl ([.ref h0])).length) Slot.unset).toArray = ls at hl ⊢
  have hl : lv_has ls 28 [(0, .ref h0)] := hl
  refine lv_aload_n hx hb d_MD_sets_0 rfl (lv_at hl 0 rfl) ?_
  refine xr_calli (va_runV (As := []) (rest := []) ⟨hx, hb, hml, hown, hts⟩ (c_MD_usedNow l dC dI h0 th nm ap no am aw az au kn vP vQ vS vT vB vM vH ao ax np ay nl ad al sn ag ta nb ku gu (by first | assumption | omega | decide)) (cwV 0 hts (xgV wm_825 wm_827 wm_17 wm_34 wm_828) rfl rfl rfl (by decide +kernel) ⟨Nat.le_of_ble_eq_true rfl, Nat.le_of_ble_eq_true rfl⟩) ⟨xp_blind, va_recv hK hP (ci := 7) (q0 := 0) rfl rfl, fun U hU hW => ⟨rfl, hz.warm hW, by rw [hU]; exact hP.sub [0, 5] rfl, va_K.moved hW.alike (hK.sub [4] rfl)⟩⟩ rfl rfl hl.1 rfl (lv_room (Nat.le_of_ble_eq_true rfl)) d_MD_sets_1 ⟨Nat.le_of_ble_eq_true rfl, Nat.le_of_ble_eq_true rfl⟩) (fun r_1 h_2 => ?_)
  subst h_2
  refine lv_i2l (v := (nI (sr_cu gu no)).toInt64) hx hb d_MD_sets_4 rfl ?_
  refine lv_lstore_n (lv' := [(1, .long ((nI (sr_cu gu no)).toInt64)), (0, .ref h0)]) hx hb d_MD_sets_5 rfl hl (by decide) rfl (fun ls hl => ?_)
  refine lv_lconst (v := 0) hx hb d_MD_sets_6 (by decide) ?_
  refine lv_lstore_n (lv' := [(3, .long 0), (1, .long ((nI (sr_cu gu no)).toInt64)), (0, .ref h0)]) hx hb d_MD_sets_7 rfl hl (by decide) rfl (fun ls hl => ?_)
  refine lv_lconst (v := 0) hx hb d_MD_sets_8 (by decide) ?_
  refine lv_lstore (lv' := [(5, .long 0), (3, .long 0), (1, .long ((nI (sr_cu gu no)).toInt64)), (0, .ref h0)]) hx hb d_MD_sets_9 hl (by decide) rfl (fun ls hl => ?_)
  refine lv_lconst (v := 0) hx hb d_MD_sets_11 (by decide) ?_
  refine lv_lstore (lv' := [(7, .long 0), (5, .long 0), (3, .long 0), (1, .long ((nI (sr_cu gu no)).toInt64)), (0, .ref h0)]) hx hb d_MD_sets_12 hl (by decide) rfl (fun ls hl => ?_)
  refine lv_lconst (v := 0) hx hb d_MD_sets_14 (by decide) ?_
  refine lv_lstore (lv' := [(9, .long 0), (7, .long 0), (5, .long 0), (3, .long 0), (1, .long ((nI (sr_cu gu no)).toInt64)), (0, .ref h0)]) hx hb d_MD_sets_15 hl (by decide) rfl (fun ls hl => ?_)
  refine lv_lconst (v := 0) hx hb d_MD_sets_17 (by decide) ?_
  refine lv_lstore (lv' := [(11, .long 0), (9, .long 0), (7, .long 0), (5, .long 0), (3, .long 0), (1, .long ((nI (sr_cu gu no)).toInt64)), (0, .ref h0)]) hx hb d_MD_sets_18 hl (by decide) rfl (fun ls hl => ?_)
  refine lv_lconst (v := 0) hx hb d_MD_sets_20 (by decide) ?_
  refine lv_lstore (lv' := [(13, .long 0), (11, .long 0), (9, .long 0), (7, .long 0), (5, .long 0), (3, .long 0), (1, .long ((nI (sr_cu gu no)).toInt64)), (0, .ref h0)]) hx hb d_MD_sets_21 hl (by decide) rfl (fun ls hl => ?_)
  refine lv_lconst (v := 0) hx hb d_MD_sets_23 (by decide) ?_
  refine lv_lstore (lv' := [(15, .long 0), (13, .long 0), (11, .long 0), (9, .long 0), (7, .long 0), (5, .long 0), (3, .long 0), (1, .long ((nI (sr_cu gu no)).toInt64)), (0, .ref h0)]) hx hb d_MD_sets_24 hl (by decide) rfl (fun ls hl => ?_)
  refine lv_lconst (v := 0) hx hb d_MD_sets_26 (by decide) ?_
  refine lv_lstore (lv' := [(17, .long 0), (15, .long 0), (13, .long 0), (11, .long 0), (9, .long 0), (7, .long 0), (5, .long 0), (3, .long 0), (1, .long ((nI (sr_cu gu no)).toInt64)), (0, .ref h0)]) hx hb d_MD_sets_27 hl (by decide) rfl (fun ls hl => ?_)
  refine lv_iconst (v := 0) hx hb d_MD_sets_29 (by decide) ?_
  refine lv_istore (lv' := [(19, .int 0), (17, .long 0), (15, .long 0), (13, .long 0), (11, .long 0), (9, .long 0), (7, .long 0), (5, .long 0), (3, .long 0), (1, .long ((nI (sr_cu gu no)).toInt64)), (0, .ref h0)]) hx hb d_MD_sets_30 hl (by decide) rfl (fun ls hl => ?_)
  have lp32 : ∀ (fuel : Nat) (i : Nat) (y3 : Int64) (y5 : Int64) (y7 : Int64) (y9 : Int64) (y11 : Int64) (y13 : Int64) (y15 : Int64) (y17 : Int64), no - i < fuel → i ≤ no → y3 = sr_sm gu (md_g4 gw) i → y5 = sr_sm gu (md_g5 gw) i → y7 = sr_sm gu (md_g2 gp mk) i → y9 = sr_sm gu (md_g3 gp mk) i → y11 = sr_sm gu (md_g6 gw) i → y13 = sr_sm gu (md_g7 gp gw mk) i → y15 = sr_sm gu (md_g8 gp gw mk) i → y17 = sr_sm gu (md_g9 gp gw gz mk) i → ∀ (H : Heap) (locs : List Loc), va_P (dC, dI) xCl [(h0, .inr (7, [.int th, .int (nI nm), .ref ap, .int (nI no), .ref am, .ref aw, .ref az, .ref au, .int kn, .long vP, .long vQ, .long vS, .long vT, .long vB, .long vM, .long vH, .ref ao, .ref ax, .int (nI np), .ref ay, .int (nI nl), .ref ad, .ref al, .int (nI sn), .ref ag, .int (nI ta), .int nb])), (ap, .inl (kp, 36, .inl gp)), (am, .inl (km, 20, .inl (md_mk mk))), (aw, .inl (kw, 60, .inl gw)), (az, .inl (kz, 20, .inl gz)), (au, .inl (ku, 20, .inl gu)), (ao, .inl (ko, 20, .inl ho)), (ax, .inl (kx, 20, .inl hx_))] H → va_D A [(h0, .inr (7, [.int th, .int (nI nm), .ref ap, .int (nI no), .ref am, .ref aw, .ref az, .ref au, .int kn, .long vP, .long vQ, .long vS, .long vT, .long vB, .long vM, .long vH, .ref ao, .ref ax, .int (nI np), .ref ay, .int (nI nl), .ref ad, .ref al, .int (nI sn), .ref ag, .int (nI ta), .int nb])), (ap, .inl (kp, 36, .inl gp)), (am, .inl (km, 20, .inl (md_mk mk))), (aw, .inl (kw, 60, .inl gw)), (az, .inl (kz, 20, .inl gz)), (au, .inl (ku, 20, .inl gu)), (ao, .inl (ko, 20, .inl ho)), (ax, .inl (kx, 20, .inl hx_))] → va_S A s.heap H locs → ∀ (ls : Array Slot), lv_has ls 28 [(0, .ref h0), (1, .long ((nI (sr_cu gu no)).toInt64)), (3, .long y3), (5, .long y5), (7, .long y7), (9, .long y9), (11, .long y11), (13, .long y13), (15, .long y15), (17, .long y17), (19, .int (nI i))] → W p l e (headSpec xw_MD_sets ({ frames := 1, cells := 0, slots := 0, locals := 22 })).room s m ([.ref h0] : List Value).toArray below meth c H locs 0 0 (MQ below (va_Qi (fun (r : Int32) (_ : Unit) => r = 0) (fun _ t => xb_w (dC, dI) xCl [(h0, .inr (7, [.int th, .int (nI nm), .ref ap, .int (nI no), .ref am, .ref aw, .ref az, .ref au, .int kn, .long vP, .long vQ, .long vS, .long vT, .long vB, .long vM, .long vH, .ref ao, .ref ax, .int (nI np), .ref ay, .int (nI nl), .ref ad, .ref al, .int (nI sn), .ref ag, .int (nI ta), .int nb])), (ap, .inl (kp, 36, .inl gp)), (am, .inl (km, 20, .inl (md_mk mk))), (aw, .inl (kw, 60, .inl gw)), (az, .inl (kz, 20, .inl gz)), (au, .inl (ku, 20, .inl gu)), (ao, .inl (ko, 20, .inl ho)), (ax, .inl (kx, 20, .inl hx_))] [(kp, .int), (km, .int), (kw, .int), (kz, .int), (ku, .boolean), (ko, .int), (kx, .boolean)] A t) A) ([.ref h0] : List Value).toArray s 0 0 A) (F0 m 32 ls []) := by
    intro fuel
    induction fuel with
    | zero => intro i y3 y5 y7 y9 y11 y13 y15 y17 hfu; exact absurd hfu (Nat.not_lt_zero _)
    | succ fuel ih =>
      intro i y3 y5 y7 y9 y11 y13 y15 y17 hfu hi hy3 hy5 hy7 hy9 hy11 hy13 hy15 hy17 H locs hP hD hS ls hl
      subst hy3
      subst hy5
      subst hy7
      subst hy9
      subst hy11
      subst hy13
      subst hy15
      subst hy17
      refine lv_iload hx hb d_MD_sets_32 (lv_at hl 10 rfl) ?_
      refine lv_aload_n hx hb d_MD_sets_34 rfl (lv_at hl 0 rfl) ?_
      refine va_get (D := (dC, dI)) (ci := 7) (v := .int (nI no)) (C := xR_MD) (T := xT_MD) (N := 27) hx hb hts (fun w h => List.mem_cons_of_mem _ (iw_MD w h)) hown hK hP 0 rfl rfl 3 (by decide) (hts _ (List.mem_cons_of_mem _ wm_700)) (fun _ h9 => h9) rfl d_MD_sets_35 ?_
      refine lv_icmp_ge (tgt := 237) hx hb d_MD_sets_38 (by decide) (fun c_3 => ?_) (fun c_3 => ?_)
      · have n_4 := xn_le (a := no) (b := i) c_3 rfl rfl (by omega) (by omega)
        have e9 : i = no := by omega
        rw [e9] at hl
        have hl : lv_has ls 28 [(0, .ref h0), (1, .long ((nI (sr_cu gu no)).toInt64)), (3, .long (sr_sm gu (md_g4 gw) no)), (5, .long (sr_sm gu (md_g5 gw) no)), (7, .long (sr_sm gu (md_g2 gp mk) no)), (9, .long (sr_sm gu (md_g3 gp mk) no)), (11, .long (sr_sm gu (md_g6 gw) no)), (13, .long (sr_sm gu (md_g7 gp gw mk) no)), (15, .long (sr_sm gu (md_g8 gp gw mk) no)), (17, .long (sr_sm gu (md_g9 gp gw gz mk) no)), (19, .int (nI no))] := hl
        refine lv_lload_n hx hb d_MD_sets_237 rfl (lv_at hl 1 rfl) ?_
        refine lv_lload hx hb d_MD_sets_238 (lv_at hl 6 rfl) ?_
        refine lv_lmul hx hb d_MD_sets_240 ?_
        refine lv_lload_n hx hb d_MD_sets_241 rfl (lv_at hl 2 rfl) ?_
        refine lv_lload_n hx hb d_MD_sets_242 rfl (lv_at hl 2 rfl) ?_
        refine lv_lmul hx hb d_MD_sets_243 ?_
        refine lv_lsub hx hb d_MD_sets_244 ?_
        refine lv_lload hx hb d_MD_sets_245 (lv_at hl 3 rfl) ?_
        refine lv_lload hx hb d_MD_sets_247 (lv_at hl 3 rfl) ?_
        refine lv_lmul hx hb d_MD_sets_249 ?_
        refine lv_lsub hx hb d_MD_sets_250 ?_
        refine lv_lstore (lv' := [(19, .long (((((nI (sr_cu gu no)).toInt64) * (sr_sm gu (md_g6 gw) no)) - ((sr_sm gu (md_g4 gw) no) * (sr_sm gu (md_g4 gw) no))) - ((sr_sm gu (md_g5 gw) no) * (sr_sm gu (md_g5 gw) no)))), (0, .ref h0), (1, .long ((nI (sr_cu gu no)).toInt64)), (3, .long (sr_sm gu (md_g4 gw) no)), (5, .long (sr_sm gu (md_g5 gw) no)), (7, .long (sr_sm gu (md_g2 gp mk) no)), (9, .long (sr_sm gu (md_g3 gp mk) no)), (11, .long (sr_sm gu (md_g6 gw) no)), (13, .long (sr_sm gu (md_g7 gp gw mk) no)), (15, .long (sr_sm gu (md_g8 gp gw mk) no)), (17, .long (sr_sm gu (md_g9 gp gw gz mk) no))]) hx hb d_MD_sets_251 hl (by decide) rfl (fun ls hl => ?_)
        refine lv_lload hx hb d_MD_sets_253 (lv_at hl 0 rfl) ?_
        refine lv_lconst (v := 0) hx hb d_MD_sets_255 (by decide) ?_
        refine W.lcmp hx hb d_MD_sets_256 ?_
        refine lv_if_ne (tgt := 262) hx hb d_MD_sets_257 (by decide) (fun c_5 => ?_) (fun c_5 => ?_)
        · exact absurd (lc_eq.mpr hw0) c_5
        · have l_6 := lc_eq.mp c_5
          refine lv_iconst (v := 0) hx hb d_MD_sets_260 (by decide) ?_
          have hP9 := hP.sub (ws' := [(h0, .inr (7, [.int th, .int (nI nm), .ref ap, .int (nI no), .ref am, .ref aw, .ref az, .ref au, .int kn, .long vP, .long vQ, .long vS, .long vT, .long vB, .long vM, .long vH, .ref ao, .ref ax, .int (nI np), .ref ay, .int (nI nl), .ref ad, .ref al, .int (nI sn), .ref ag, .int (nI ta), .int nb])), (ap, .inl (kp, 36, .inl gp)), (am, .inl (km, 20, .inl (md_mk mk))), (aw, .inl (kw, 60, .inl gw)), (az, .inl (kz, 20, .inl gz)), (au, .inl (ku, 20, .inl gu)), (ao, .inl (ko, 20, .inl ho)), (ax, .inl (kx, 20, .inl hx_))]) [0, 1, 2, 3, 4, 5, 6, 7] rfl
          have hD9 := hD.sub (ws' := [(h0, .inr (7, [.int th, .int (nI nm), .ref ap, .int (nI no), .ref am, .ref aw, .ref az, .ref au, .int kn, .long vP, .long vQ, .long vS, .long vT, .long vB, .long vM, .long vH, .ref ao, .ref ax, .int (nI np), .ref ay, .int (nI nl), .ref ad, .ref al, .int (nI sn), .ref ag, .int (nI ta), .int nb])), (ap, .inl (kp, 36, .inl gp)), (am, .inl (km, 20, .inl (md_mk mk))), (aw, .inl (kw, 60, .inl gw)), (az, .inl (kz, 20, .inl gz)), (au, .inl (ku, 20, .inl gu)), (ao, .inl (ko, 20, .inl ho)), (ax, .inl (kx, 20, .inl hx_))]) [0, 1, 2, 3, 4, 5, 6, 7] (by decide) rfl
          have hK9 := hK.sub (tys' := [(kp, .int), (km, .int), (kw, .int), (kz, .int), (ku, .boolean), (ko, .int), (kx, .boolean)]) [0, 1, 2, 3, 4, 5, 6] rfl
          exact W.zret (v := 0) (ty := .boolean) hx hb hr (by exact rfl) (fun t ht hW => ⟨⟨0, (), rfl, rfl, ⟨by rw [ht]; exact hP9, va_K.moved hW.alike hK9, by exact hD9⟩⟩, hS.F ht⟩) hS.2.2 d_MD_sets_261 hlocks
      · have n_7 := xn_nle (a := no) (b := i) c_3 rfl rfl (by omega) (by omega)
        refine lv_aload_n hx hb d_MD_sets_41 rfl (lv_at hl 0 rfl) ?_
        refine va_get (D := (dC, dI)) (ci := 7) (v := .ref au) (C := xR_MD) (T := xT_MD) (N := 27) hx hb hts (fun w h => List.mem_cons_of_mem _ (iw_MD w h)) hown hK hP 0 rfl rfl 7 (by decide) (hts _ (List.mem_cons_of_mem _ wm_704)) (fun _ h9 => h9) rfl d_MD_sets_42 ?_
        refine lv_iload hx hb d_MD_sets_45 (lv_at hl 10 rfl) ?_
        refine xa_zald hx hb hK hP 5 4 rfl rfl i rfl (by omega) (by decide) d_MD_sets_47 ?_
        refine lv_if_eq (tgt := 231) hx hb d_MD_sets_48 (by decide) (fun c_8 => ?_) (fun c_8 => ?_)
        · refine lv_iinc (v := nI (i + 1)) (lv' := [(19, .int (nI (i + 1))), (0, .ref h0), (1, .long ((nI (sr_cu gu no)).toInt64)), (3, .long (sr_sm gu (md_g4 gw) i)), (5, .long (sr_sm gu (md_g5 gw) i)), (7, .long (sr_sm gu (md_g2 gp mk) i)), (9, .long (sr_sm gu (md_g3 gp mk) i)), (11, .long (sr_sm gu (md_g6 gw) i)), (13, .long (sr_sm gu (md_g7 gp gw mk) i)), (15, .long (sr_sm gu (md_g8 gp gw mk) i)), (17, .long (sr_sm gu (md_g9 gp gw gz mk) i))]) hx hb d_MD_sets_231 hl (k := 10) rfl (nI_1 _) (by decide) rfl (fun ls hl => ?_)
          refine lv_goto (tgt := 32) hx hb d_MD_sets_234 (by decide) ?_
          exact ih  (i + 1) (sr_sm gu (md_g4 gw) i) (sr_sm gu (md_g5 gw) i) (sr_sm gu (md_g2 gp mk) i) (sr_sm gu (md_g3 gp mk) i) (sr_sm gu (md_g6 gw) i) (sr_sm gu (md_g7 gp gw mk) i) (sr_sm gu (md_g8 gp gw mk) i) (sr_sm gu (md_g9 gp gw gz mk) i) (by omega) (by omega) ((sr_sm_f c_8).symm) ((sr_sm_f c_8).symm) ((sr_sm_f c_8).symm) ((sr_sm_f c_8).symm) ((sr_sm_f c_8).symm) ((sr_sm_f c_8).symm) ((sr_sm_f c_8).symm) ((sr_sm_f c_8).symm) _ _ (hP.sub [0, 1, 2, 3, 4, 5, 6, 7] rfl) (hD.sub [0, 1, 2, 3, 4, 5, 6, 7] (by decide) rfl) hS ls (lv_sub hl [1, 2, 3, 4, 5, 6, 7, 8, 9, 10, 0] rfl)
        · have hmi := hmk i (by omega)
          refine lv_aload_n hx hb d_MD_sets_51 rfl (lv_at hl 0 rfl) ?_
          refine va_get (D := (dC, dI)) (ci := 7) (v := .ref aw) (C := xR_MD) (T := xT_MD) (N := 27) hx hb hts (fun w h => List.mem_cons_of_mem _ (iw_MD w h)) hown hK hP 0 rfl rfl 5 (by decide) (hts _ (List.mem_cons_of_mem _ wm_702)) (fun _ h9 => h9) rfl d_MD_sets_52 ?_
          refine lv_iconst (v := 3) hx hb d_MD_sets_55 (by decide) ?_
          refine lv_iload hx hb d_MD_sets_56 (lv_at hl 10 rfl) ?_
          refine lv_imul hx hb d_MD_sets_58 ?_
          refine xv_i (y := nI (3 * i)) (pk_mul 3 _) ?_
          refine xa_iald hx hb hK hP 3 2 rfl rfl (3 * i) rfl (by omega) (by decide) d_MD_sets_59 ?_
          refine lv_i2l (v := (gw (3 * i)).toInt64) hx hb d_MD_sets_60 rfl ?_
          refine lv_lstore (lv' := [(20, .long ((gw (3 * i)).toInt64)), (0, .ref h0), (1, .long ((nI (sr_cu gu no)).toInt64)), (3, .long (sr_sm gu (md_g4 gw) i)), (5, .long (sr_sm gu (md_g5 gw) i)), (7, .long (sr_sm gu (md_g2 gp mk) i)), (9, .long (sr_sm gu (md_g3 gp mk) i)), (11, .long (sr_sm gu (md_g6 gw) i)), (13, .long (sr_sm gu (md_g7 gp gw mk) i)), (15, .long (sr_sm gu (md_g8 gp gw mk) i)), (17, .long (sr_sm gu (md_g9 gp gw gz mk) i)), (19, .int (nI i))]) hx hb d_MD_sets_61 hl (by decide) rfl (fun ls hl => ?_)
          refine lv_aload_n hx hb d_MD_sets_63 rfl (lv_at hl 1 rfl) ?_
          refine va_get (D := (dC, dI)) (ci := 7) (v := .ref aw) (C := xR_MD) (T := xT_MD) (N := 27) hx hb hts (fun w h => List.mem_cons_of_mem _ (iw_MD w h)) hown hK hP 0 rfl rfl 5 (by decide) (hts _ (List.mem_cons_of_mem _ wm_702)) (fun _ h9 => h9) rfl d_MD_sets_64 ?_
          refine lv_iconst (v := 3) hx hb d_MD_sets_67 (by decide) ?_
          refine lv_iload hx hb d_MD_sets_68 (lv_at hl 11 rfl) ?_
          refine lv_imul hx hb d_MD_sets_70 ?_
          refine xv_i (y := nI (3 * i)) (pk_mul 3 _) ?_
          refine lv_iconst (v := 1) hx hb d_MD_sets_71 (by decide) ?_
          refine lv_iadd hx hb d_MD_sets_72 ?_
          refine xv_i (y := nI ((3 * i) + 1)) (nI_1 _) ?_
          refine xa_iald hx hb hK hP 3 2 rfl rfl ((3 * i) + 1) rfl (by omega) (by decide) d_MD_sets_73 ?_
          refine lv_i2l (v := (gw ((3 * i) + 1)).toInt64) hx hb d_MD_sets_74 rfl ?_
          refine lv_lstore (lv' := [(22, .long ((gw ((3 * i) + 1)).toInt64)), (20, .long ((gw (3 * i)).toInt64)), (0, .ref h0), (1, .long ((nI (sr_cu gu no)).toInt64)), (3, .long (sr_sm gu (md_g4 gw) i)), (5, .long (sr_sm gu (md_g5 gw) i)), (7, .long (sr_sm gu (md_g2 gp mk) i)), (9, .long (sr_sm gu (md_g3 gp mk) i)), (11, .long (sr_sm gu (md_g6 gw) i)), (13, .long (sr_sm gu (md_g7 gp gw mk) i)), (15, .long (sr_sm gu (md_g8 gp gw mk) i)), (17, .long (sr_sm gu (md_g9 gp gw gz mk) i)), (19, .int (nI i))]) hx hb d_MD_sets_75 hl (by decide) rfl (fun ls hl => ?_)
          refine lv_aload_n hx hb d_MD_sets_77 rfl (lv_at hl 2 rfl) ?_
          refine va_get (D := (dC, dI)) (ci := 7) (v := .ref ap) (C := xR_MD) (T := xT_MD) (N := 27) hx hb hts (fun w h => List.mem_cons_of_mem _ (iw_MD w h)) hown hK hP 0 rfl rfl 2 (by decide) (hts _ (List.mem_cons_of_mem _ wm_699)) (fun _ h9 => h9) rfl d_MD_sets_78 ?_
          refine lv_iconst (v := 3) hx hb d_MD_sets_81 (by decide) ?_
          refine lv_aload_n hx hb d_MD_sets_82 rfl (lv_at hl 2 rfl) ?_
          refine va_get (D := (dC, dI)) (ci := 7) (v := .ref am) (C := xR_MD) (T := xT_MD) (N := 27) hx hb hts (fun w h => List.mem_cons_of_mem _ (iw_MD w h)) hown hK hP 0 rfl rfl 4 (by decide) (hts _ (List.mem_cons_of_mem _ wm_701)) (fun _ h9 => h9) rfl d_MD_sets_83 ?_
          refine lv_iload hx hb d_MD_sets_86 (lv_at hl 12 rfl) ?_
          refine xa_iald hx hb hK hP 2 1 rfl rfl i rfl (by omega) (by decide) d_MD_sets_88 ?_
          refine lv_imul hx hb d_MD_sets_89 ?_
          refine xv_i (y := nI (3 * (mk i))) (pk_mul 3 _) ?_
          refine xa_iald hx hb hK hP 1 0 rfl rfl (3 * (mk i)) rfl (by omega) (by decide) d_MD_sets_90 ?_
          refine lv_i2l (v := (gp (3 * (mk i))).toInt64) hx hb d_MD_sets_91 rfl ?_
          refine lv_lstore (lv' := [(24, .long ((gp (3 * (mk i))).toInt64)), (22, .long ((gw ((3 * i) + 1)).toInt64)), (20, .long ((gw (3 * i)).toInt64)), (0, .ref h0), (1, .long ((nI (sr_cu gu no)).toInt64)), (3, .long (sr_sm gu (md_g4 gw) i)), (5, .long (sr_sm gu (md_g5 gw) i)), (7, .long (sr_sm gu (md_g2 gp mk) i)), (9, .long (sr_sm gu (md_g3 gp mk) i)), (11, .long (sr_sm gu (md_g6 gw) i)), (13, .long (sr_sm gu (md_g7 gp gw mk) i)), (15, .long (sr_sm gu (md_g8 gp gw mk) i)), (17, .long (sr_sm gu (md_g9 gp gw gz mk) i)), (19, .int (nI i))]) hx hb d_MD_sets_92 hl (by decide) rfl (fun ls hl => ?_)
          refine lv_aload_n hx hb d_MD_sets_94 rfl (lv_at hl 3 rfl) ?_
          refine va_get (D := (dC, dI)) (ci := 7) (v := .ref ap) (C := xR_MD) (T := xT_MD) (N := 27) hx hb hts (fun w h => List.mem_cons_of_mem _ (iw_MD w h)) hown hK hP 0 rfl rfl 2 (by decide) (hts _ (List.mem_cons_of_mem _ wm_699)) (fun _ h9 => h9) rfl d_MD_sets_95 ?_
          refine lv_iconst (v := 3) hx hb d_MD_sets_98 (by decide) ?_
          refine lv_aload_n hx hb d_MD_sets_99 rfl (lv_at hl 3 rfl) ?_
          refine va_get (D := (dC, dI)) (ci := 7) (v := .ref am) (C := xR_MD) (T := xT_MD) (N := 27) hx hb hts (fun w h => List.mem_cons_of_mem _ (iw_MD w h)) hown hK hP 0 rfl rfl 4 (by decide) (hts _ (List.mem_cons_of_mem _ wm_701)) (fun _ h9 => h9) rfl d_MD_sets_100 ?_
          refine lv_iload hx hb d_MD_sets_103 (lv_at hl 13 rfl) ?_
          refine xa_iald hx hb hK hP 2 1 rfl rfl i rfl (by omega) (by decide) d_MD_sets_105 ?_
          refine lv_imul hx hb d_MD_sets_106 ?_
          refine xv_i (y := nI (3 * (mk i))) (pk_mul 3 _) ?_
          refine lv_iconst (v := 1) hx hb d_MD_sets_107 (by decide) ?_
          refine lv_iadd hx hb d_MD_sets_108 ?_
          refine xv_i (y := nI ((3 * (mk i)) + 1)) (nI_1 _) ?_
          refine xa_iald hx hb hK hP 1 0 rfl rfl ((3 * (mk i)) + 1) rfl (by omega) (by decide) d_MD_sets_109 ?_
          refine lv_i2l (v := (gp ((3 * (mk i)) + 1)).toInt64) hx hb d_MD_sets_110 rfl ?_
          refine lv_lstore (lv' := [(26, .long ((gp ((3 * (mk i)) + 1)).toInt64)), (24, .long ((gp (3 * (mk i))).toInt64)), (22, .long ((gw ((3 * i) + 1)).toInt64)), (20, .long ((gw (3 * i)).toInt64)), (0, .ref h0), (1, .long ((nI (sr_cu gu no)).toInt64)), (3, .long (sr_sm gu (md_g4 gw) i)), (5, .long (sr_sm gu (md_g5 gw) i)), (7, .long (sr_sm gu (md_g2 gp mk) i)), (9, .long (sr_sm gu (md_g3 gp mk) i)), (11, .long (sr_sm gu (md_g6 gw) i)), (13, .long (sr_sm gu (md_g7 gp gw mk) i)), (15, .long (sr_sm gu (md_g8 gp gw mk) i)), (17, .long (sr_sm gu (md_g9 gp gw gz mk) i)), (19, .int (nI i))]) hx hb d_MD_sets_111 hl (by decide) rfl (fun ls hl => ?_)
          refine lv_lload_n hx hb d_MD_sets_113 rfl (lv_at hl 6 rfl) ?_
          refine lv_lload hx hb d_MD_sets_114 (lv_at hl 3 rfl) ?_
          refine lv_ladd hx hb d_MD_sets_116 ?_
          refine lv_lstore_n (lv' := [(3, .long ((sr_sm gu (md_g4 gw) i) + ((gw (3 * i)).toInt64))), (26, .long ((gp ((3 * (mk i)) + 1)).toInt64)), (24, .long ((gp (3 * (mk i))).toInt64)), (22, .long ((gw ((3 * i) + 1)).toInt64)), (20, .long ((gw (3 * i)).toInt64)), (0, .ref h0), (1, .long ((nI (sr_cu gu no)).toInt64)), (5, .long (sr_sm gu (md_g5 gw) i)), (7, .long (sr_sm gu (md_g2 gp mk) i)), (9, .long (sr_sm gu (md_g3 gp mk) i)), (11, .long (sr_sm gu (md_g6 gw) i)), (13, .long (sr_sm gu (md_g7 gp gw mk) i)), (15, .long (sr_sm gu (md_g8 gp gw mk) i)), (17, .long (sr_sm gu (md_g9 gp gw gz mk) i)), (19, .int (nI i))]) hx hb d_MD_sets_117 rfl hl (by decide) rfl (fun ls hl => ?_)
          refine lv_lload hx hb d_MD_sets_118 (lv_at hl 7 rfl) ?_
          refine lv_lload hx hb d_MD_sets_120 (lv_at hl 3 rfl) ?_
          refine lv_ladd hx hb d_MD_sets_122 ?_
          refine lv_lstore (lv' := [(5, .long ((sr_sm gu (md_g5 gw) i) + ((gw ((3 * i) + 1)).toInt64))), (3, .long ((sr_sm gu (md_g4 gw) i) + ((gw (3 * i)).toInt64))), (26, .long ((gp ((3 * (mk i)) + 1)).toInt64)), (24, .long ((gp (3 * (mk i))).toInt64)), (22, .long ((gw ((3 * i) + 1)).toInt64)), (20, .long ((gw (3 * i)).toInt64)), (0, .ref h0), (1, .long ((nI (sr_cu gu no)).toInt64)), (7, .long (sr_sm gu (md_g2 gp mk) i)), (9, .long (sr_sm gu (md_g3 gp mk) i)), (11, .long (sr_sm gu (md_g6 gw) i)), (13, .long (sr_sm gu (md_g7 gp gw mk) i)), (15, .long (sr_sm gu (md_g8 gp gw mk) i)), (17, .long (sr_sm gu (md_g9 gp gw gz mk) i)), (19, .int (nI i))]) hx hb d_MD_sets_123 hl (by decide) rfl (fun ls hl => ?_)
          refine lv_lload hx hb d_MD_sets_125 (lv_at hl 8 rfl) ?_
          refine lv_lload hx hb d_MD_sets_127 (lv_at hl 3 rfl) ?_
          refine lv_ladd hx hb d_MD_sets_129 ?_
          refine lv_lstore (lv' := [(7, .long ((sr_sm gu (md_g2 gp mk) i) + ((gp (3 * (mk i))).toInt64))), (5, .long ((sr_sm gu (md_g5 gw) i) + ((gw ((3 * i) + 1)).toInt64))), (3, .long ((sr_sm gu (md_g4 gw) i) + ((gw (3 * i)).toInt64))), (26, .long ((gp ((3 * (mk i)) + 1)).toInt64)), (24, .long ((gp (3 * (mk i))).toInt64)), (22, .long ((gw ((3 * i) + 1)).toInt64)), (20, .long ((gw (3 * i)).toInt64)), (0, .ref h0), (1, .long ((nI (sr_cu gu no)).toInt64)), (9, .long (sr_sm gu (md_g3 gp mk) i)), (11, .long (sr_sm gu (md_g6 gw) i)), (13, .long (sr_sm gu (md_g7 gp gw mk) i)), (15, .long (sr_sm gu (md_g8 gp gw mk) i)), (17, .long (sr_sm gu (md_g9 gp gw gz mk) i)), (19, .int (nI i))]) hx hb d_MD_sets_130 hl (by decide) rfl (fun ls hl => ?_)
          refine lv_lload hx hb d_MD_sets_132 (lv_at hl 9 rfl) ?_
          refine lv_lload hx hb d_MD_sets_134 (lv_at hl 3 rfl) ?_
          refine lv_ladd hx hb d_MD_sets_136 ?_
          refine lv_lstore (lv' := [(9, .long ((sr_sm gu (md_g3 gp mk) i) + ((gp ((3 * (mk i)) + 1)).toInt64))), (7, .long ((sr_sm gu (md_g2 gp mk) i) + ((gp (3 * (mk i))).toInt64))), (5, .long ((sr_sm gu (md_g5 gw) i) + ((gw ((3 * i) + 1)).toInt64))), (3, .long ((sr_sm gu (md_g4 gw) i) + ((gw (3 * i)).toInt64))), (26, .long ((gp ((3 * (mk i)) + 1)).toInt64)), (24, .long ((gp (3 * (mk i))).toInt64)), (22, .long ((gw ((3 * i) + 1)).toInt64)), (20, .long ((gw (3 * i)).toInt64)), (0, .ref h0), (1, .long ((nI (sr_cu gu no)).toInt64)), (11, .long (sr_sm gu (md_g6 gw) i)), (13, .long (sr_sm gu (md_g7 gp gw mk) i)), (15, .long (sr_sm gu (md_g8 gp gw mk) i)), (17, .long (sr_sm gu (md_g9 gp gw gz mk) i)), (19, .int (nI i))]) hx hb d_MD_sets_137 hl (by decide) rfl (fun ls hl => ?_)
          refine lv_lload hx hb d_MD_sets_139 (lv_at hl 10 rfl) ?_
          refine lv_lload hx hb d_MD_sets_141 (lv_at hl 7 rfl) ?_
          refine lv_lload hx hb d_MD_sets_143 (lv_at hl 7 rfl) ?_
          refine lv_lmul hx hb d_MD_sets_145 ?_
          refine lv_ladd hx hb d_MD_sets_146 ?_
          refine lv_lload hx hb d_MD_sets_147 (lv_at hl 6 rfl) ?_
          refine lv_lload hx hb d_MD_sets_149 (lv_at hl 6 rfl) ?_
          refine lv_lmul hx hb d_MD_sets_151 ?_
          refine lv_ladd hx hb d_MD_sets_152 ?_
          refine lv_lstore (lv' := [(11, .long (((sr_sm gu (md_g6 gw) i) + (((gw (3 * i)).toInt64) * ((gw (3 * i)).toInt64))) + (((gw ((3 * i) + 1)).toInt64) * ((gw ((3 * i) + 1)).toInt64)))), (9, .long ((sr_sm gu (md_g3 gp mk) i) + ((gp ((3 * (mk i)) + 1)).toInt64))), (7, .long ((sr_sm gu (md_g2 gp mk) i) + ((gp (3 * (mk i))).toInt64))), (5, .long ((sr_sm gu (md_g5 gw) i) + ((gw ((3 * i) + 1)).toInt64))), (3, .long ((sr_sm gu (md_g4 gw) i) + ((gw (3 * i)).toInt64))), (26, .long ((gp ((3 * (mk i)) + 1)).toInt64)), (24, .long ((gp (3 * (mk i))).toInt64)), (22, .long ((gw ((3 * i) + 1)).toInt64)), (20, .long ((gw (3 * i)).toInt64)), (0, .ref h0), (1, .long ((nI (sr_cu gu no)).toInt64)), (13, .long (sr_sm gu (md_g7 gp gw mk) i)), (15, .long (sr_sm gu (md_g8 gp gw mk) i)), (17, .long (sr_sm gu (md_g9 gp gw gz mk) i)), (19, .int (nI i))]) hx hb d_MD_sets_153 hl (by decide) rfl (fun ls hl => ?_)
          refine lv_lload hx hb d_MD_sets_155 (lv_at hl 11 rfl) ?_
          refine lv_lload hx hb d_MD_sets_157 (lv_at hl 8 rfl) ?_
          refine lv_lload hx hb d_MD_sets_159 (lv_at hl 6 rfl) ?_
          refine lv_lmul hx hb d_MD_sets_161 ?_
          refine lv_ladd hx hb d_MD_sets_162 ?_
          refine lv_lload hx hb d_MD_sets_163 (lv_at hl 7 rfl) ?_
          refine lv_lload hx hb d_MD_sets_165 (lv_at hl 5 rfl) ?_
          refine lv_lmul hx hb d_MD_sets_167 ?_
          refine lv_ladd hx hb d_MD_sets_168 ?_
          refine lv_lstore (lv' := [(13, .long (((sr_sm gu (md_g7 gp gw mk) i) + (((gw (3 * i)).toInt64) * ((gp (3 * (mk i))).toInt64))) + (((gw ((3 * i) + 1)).toInt64) * ((gp ((3 * (mk i)) + 1)).toInt64)))), (11, .long (((sr_sm gu (md_g6 gw) i) + (((gw (3 * i)).toInt64) * ((gw (3 * i)).toInt64))) + (((gw ((3 * i) + 1)).toInt64) * ((gw ((3 * i) + 1)).toInt64)))), (9, .long ((sr_sm gu (md_g3 gp mk) i) + ((gp ((3 * (mk i)) + 1)).toInt64))), (7, .long ((sr_sm gu (md_g2 gp mk) i) + ((gp (3 * (mk i))).toInt64))), (5, .long ((sr_sm gu (md_g5 gw) i) + ((gw ((3 * i) + 1)).toInt64))), (3, .long ((sr_sm gu (md_g4 gw) i) + ((gw (3 * i)).toInt64))), (26, .long ((gp ((3 * (mk i)) + 1)).toInt64)), (24, .long ((gp (3 * (mk i))).toInt64)), (22, .long ((gw ((3 * i) + 1)).toInt64)), (20, .long ((gw (3 * i)).toInt64)), (0, .ref h0), (1, .long ((nI (sr_cu gu no)).toInt64)), (15, .long (sr_sm gu (md_g8 gp gw mk) i)), (17, .long (sr_sm gu (md_g9 gp gw gz mk) i)), (19, .int (nI i))]) hx hb d_MD_sets_169 hl (by decide) rfl (fun ls hl => ?_)
          refine lv_lload hx hb d_MD_sets_171 (lv_at hl 12 rfl) ?_
          refine lv_lload hx hb d_MD_sets_173 (lv_at hl 9 rfl) ?_
          refine lv_lload hx hb d_MD_sets_175 (lv_at hl 6 rfl) ?_
          refine lv_lmul hx hb d_MD_sets_177 ?_
          refine lv_ladd hx hb d_MD_sets_178 ?_
          refine lv_lload hx hb d_MD_sets_179 (lv_at hl 8 rfl) ?_
          refine lv_lload hx hb d_MD_sets_181 (lv_at hl 7 rfl) ?_
          refine lv_lmul hx hb d_MD_sets_183 ?_
          refine lv_lsub hx hb d_MD_sets_184 ?_
          refine lv_lstore (lv' := [(15, .long (((sr_sm gu (md_g8 gp gw mk) i) + (((gw (3 * i)).toInt64) * ((gp ((3 * (mk i)) + 1)).toInt64))) - (((gw ((3 * i) + 1)).toInt64) * ((gp (3 * (mk i))).toInt64)))), (13, .long (((sr_sm gu (md_g7 gp gw mk) i) + (((gw (3 * i)).toInt64) * ((gp (3 * (mk i))).toInt64))) + (((gw ((3 * i) + 1)).toInt64) * ((gp ((3 * (mk i)) + 1)).toInt64)))), (11, .long (((sr_sm gu (md_g6 gw) i) + (((gw (3 * i)).toInt64) * ((gw (3 * i)).toInt64))) + (((gw ((3 * i) + 1)).toInt64) * ((gw ((3 * i) + 1)).toInt64)))), (9, .long ((sr_sm gu (md_g3 gp mk) i) + ((gp ((3 * (mk i)) + 1)).toInt64))), (7, .long ((sr_sm gu (md_g2 gp mk) i) + ((gp (3 * (mk i))).toInt64))), (5, .long ((sr_sm gu (md_g5 gw) i) + ((gw ((3 * i) + 1)).toInt64))), (3, .long ((sr_sm gu (md_g4 gw) i) + ((gw (3 * i)).toInt64))), (26, .long ((gp ((3 * (mk i)) + 1)).toInt64)), (24, .long ((gp (3 * (mk i))).toInt64)), (22, .long ((gw ((3 * i) + 1)).toInt64)), (20, .long ((gw (3 * i)).toInt64)), (0, .ref h0), (1, .long ((nI (sr_cu gu no)).toInt64)), (17, .long (sr_sm gu (md_g9 gp gw gz mk) i)), (19, .int (nI i))]) hx hb d_MD_sets_185 hl (by decide) rfl (fun ls hl => ?_)
          refine lv_lload hx hb d_MD_sets_187 (lv_at hl 13 rfl) ?_
          refine lv_aload_n hx hb d_MD_sets_189 rfl (lv_at hl 11 rfl) ?_
          refine va_get (D := (dC, dI)) (ci := 7) (v := .ref ap) (C := xR_MD) (T := xT_MD) (N := 27) hx hb hts (fun w h => List.mem_cons_of_mem _ (iw_MD w h)) hown hK hP 0 rfl rfl 2 (by decide) (hts _ (List.mem_cons_of_mem _ wm_699)) (fun _ h9 => h9) rfl d_MD_sets_190 ?_
          refine lv_iconst (v := 3) hx hb d_MD_sets_193 (by decide) ?_
          refine lv_aload_n hx hb d_MD_sets_194 rfl (lv_at hl 11 rfl) ?_
          refine va_get (D := (dC, dI)) (ci := 7) (v := .ref am) (C := xR_MD) (T := xT_MD) (N := 27) hx hb hts (fun w h => List.mem_cons_of_mem _ (iw_MD w h)) hown hK hP 0 rfl rfl 4 (by decide) (hts _ (List.mem_cons_of_mem _ wm_701)) (fun _ h9 => h9) rfl d_MD_sets_195 ?_
          refine lv_iload hx hb d_MD_sets_198 (lv_at hl 14 rfl) ?_
          refine xa_iald hx hb hK hP 2 1 rfl rfl i rfl (by omega) (by decide) d_MD_sets_200 ?_
          refine lv_imul hx hb d_MD_sets_201 ?_
          refine xv_i (y := nI (3 * (mk i))) (pk_mul 3 _) ?_
          refine lv_iconst (v := 2) hx hb d_MD_sets_202 (by decide) ?_
          refine lv_iadd hx hb d_MD_sets_203 ?_
          refine xv_i (y := nI ((3 * (mk i)) + 2)) (nI_add _ 2) ?_
          refine xa_iald hx hb hK hP 1 0 rfl rfl ((3 * (mk i)) + 2) rfl (by omega) (by decide) d_MD_sets_204 ?_
          refine lv_i2l (v := (gp ((3 * (mk i)) + 2)).toInt64) hx hb d_MD_sets_205 rfl ?_
          refine lv_ladd hx hb d_MD_sets_206 ?_
          refine lv_aload_n hx hb d_MD_sets_207 rfl (lv_at hl 11 rfl) ?_
          refine va_get (D := (dC, dI)) (ci := 7) (v := .ref aw) (C := xR_MD) (T := xT_MD) (N := 27) hx hb hts (fun w h => List.mem_cons_of_mem _ (iw_MD w h)) hown hK hP 0 rfl rfl 5 (by decide) (hts _ (List.mem_cons_of_mem _ wm_702)) (fun _ h9 => h9) rfl d_MD_sets_208 ?_
          refine lv_iconst (v := 3) hx hb d_MD_sets_211 (by decide) ?_
          refine lv_iload hx hb d_MD_sets_212 (lv_at hl 14 rfl) ?_
          refine lv_imul hx hb d_MD_sets_214 ?_
          refine xv_i (y := nI (3 * i)) (pk_mul 3 _) ?_
          refine lv_iconst (v := 2) hx hb d_MD_sets_215 (by decide) ?_
          refine lv_iadd hx hb d_MD_sets_216 ?_
          refine xv_i (y := nI ((3 * i) + 2)) (nI_add _ 2) ?_
          refine xa_iald hx hb hK hP 3 2 rfl rfl ((3 * i) + 2) rfl (by omega) (by decide) d_MD_sets_217 ?_
          refine lv_i2l (v := (gw ((3 * i) + 2)).toInt64) hx hb d_MD_sets_218 rfl ?_
          refine lv_lsub hx hb d_MD_sets_219 ?_
          refine lv_aload_n hx hb d_MD_sets_220 rfl (lv_at hl 11 rfl) ?_
          refine va_get (D := (dC, dI)) (ci := 7) (v := .ref az) (C := xR_MD) (T := xT_MD) (N := 27) hx hb hts (fun w h => List.mem_cons_of_mem _ (iw_MD w h)) hown hK hP 0 rfl rfl 6 (by decide) (hts _ (List.mem_cons_of_mem _ wm_703)) (fun _ h9 => h9) rfl d_MD_sets_221 ?_
          refine lv_iload hx hb d_MD_sets_224 (lv_at hl 14 rfl) ?_
          refine xa_iald hx hb hK hP 4 3 rfl rfl i rfl (by omega) (by decide) d_MD_sets_226 ?_
          refine lv_i2l (v := (gz i).toInt64) hx hb d_MD_sets_227 rfl ?_
          refine lv_ladd hx hb d_MD_sets_228 ?_
          refine lv_lstore (lv' := [(17, .long ((((sr_sm gu (md_g9 gp gw gz mk) i) + ((gp ((3 * (mk i)) + 2)).toInt64)) - ((gw ((3 * i) + 2)).toInt64)) + ((gz i).toInt64))), (15, .long (((sr_sm gu (md_g8 gp gw mk) i) + (((gw (3 * i)).toInt64) * ((gp ((3 * (mk i)) + 1)).toInt64))) - (((gw ((3 * i) + 1)).toInt64) * ((gp (3 * (mk i))).toInt64)))), (13, .long (((sr_sm gu (md_g7 gp gw mk) i) + (((gw (3 * i)).toInt64) * ((gp (3 * (mk i))).toInt64))) + (((gw ((3 * i) + 1)).toInt64) * ((gp ((3 * (mk i)) + 1)).toInt64)))), (11, .long (((sr_sm gu (md_g6 gw) i) + (((gw (3 * i)).toInt64) * ((gw (3 * i)).toInt64))) + (((gw ((3 * i) + 1)).toInt64) * ((gw ((3 * i) + 1)).toInt64)))), (9, .long ((sr_sm gu (md_g3 gp mk) i) + ((gp ((3 * (mk i)) + 1)).toInt64))), (7, .long ((sr_sm gu (md_g2 gp mk) i) + ((gp (3 * (mk i))).toInt64))), (5, .long ((sr_sm gu (md_g5 gw) i) + ((gw ((3 * i) + 1)).toInt64))), (3, .long ((sr_sm gu (md_g4 gw) i) + ((gw (3 * i)).toInt64))), (26, .long ((gp ((3 * (mk i)) + 1)).toInt64)), (24, .long ((gp (3 * (mk i))).toInt64)), (22, .long ((gw ((3 * i) + 1)).toInt64)), (20, .long ((gw (3 * i)).toInt64)), (0, .ref h0), (1, .long ((nI (sr_cu gu no)).toInt64)), (19, .int (nI i))]) hx hb d_MD_sets_229 hl (by decide) rfl (fun ls hl => ?_)
          refine lv_iinc (v := nI (i + 1)) (lv' := [(19, .int (nI (i + 1))), (17, .long ((((sr_sm gu (md_g9 gp gw gz mk) i) + ((gp ((3 * (mk i)) + 2)).toInt64)) - ((gw ((3 * i) + 2)).toInt64)) + ((gz i).toInt64))), (15, .long (((sr_sm gu (md_g8 gp gw mk) i) + (((gw (3 * i)).toInt64) * ((gp ((3 * (mk i)) + 1)).toInt64))) - (((gw ((3 * i) + 1)).toInt64) * ((gp (3 * (mk i))).toInt64)))), (13, .long (((sr_sm gu (md_g7 gp gw mk) i) + (((gw (3 * i)).toInt64) * ((gp (3 * (mk i))).toInt64))) + (((gw ((3 * i) + 1)).toInt64) * ((gp ((3 * (mk i)) + 1)).toInt64)))), (11, .long (((sr_sm gu (md_g6 gw) i) + (((gw (3 * i)).toInt64) * ((gw (3 * i)).toInt64))) + (((gw ((3 * i) + 1)).toInt64) * ((gw ((3 * i) + 1)).toInt64)))), (9, .long ((sr_sm gu (md_g3 gp mk) i) + ((gp ((3 * (mk i)) + 1)).toInt64))), (7, .long ((sr_sm gu (md_g2 gp mk) i) + ((gp (3 * (mk i))).toInt64))), (5, .long ((sr_sm gu (md_g5 gw) i) + ((gw ((3 * i) + 1)).toInt64))), (3, .long ((sr_sm gu (md_g4 gw) i) + ((gw (3 * i)).toInt64))), (26, .long ((gp ((3 * (mk i)) + 1)).toInt64)), (24, .long ((gp (3 * (mk i))).toInt64)), (22, .long ((gw ((3 * i) + 1)).toInt64)), (20, .long ((gw (3 * i)).toInt64)), (0, .ref h0), (1, .long ((nI (sr_cu gu no)).toInt64))]) hx hb d_MD_sets_231 hl (k := 14) rfl (nI_1 _) (by decide) rfl (fun ls hl => ?_)
          refine lv_goto (tgt := 32) hx hb d_MD_sets_234 (by decide) ?_
          exact ih  (i + 1) ((sr_sm gu (md_g4 gw) i) + ((gw (3 * i)).toInt64)) ((sr_sm gu (md_g5 gw) i) + ((gw ((3 * i) + 1)).toInt64)) ((sr_sm gu (md_g2 gp mk) i) + ((gp (3 * (mk i))).toInt64)) ((sr_sm gu (md_g3 gp mk) i) + ((gp ((3 * (mk i)) + 1)).toInt64)) (((sr_sm gu (md_g6 gw) i) + (((gw (3 * i)).toInt64) * ((gw (3 * i)).toInt64))) + (((gw ((3 * i) + 1)).toInt64) * ((gw ((3 * i) + 1)).toInt64))) (((sr_sm gu (md_g7 gp gw mk) i) + (((gw (3 * i)).toInt64) * ((gp (3 * (mk i))).toInt64))) + (((gw ((3 * i) + 1)).toInt64) * ((gp ((3 * (mk i)) + 1)).toInt64))) (((sr_sm gu (md_g8 gp gw mk) i) + (((gw (3 * i)).toInt64) * ((gp ((3 * (mk i)) + 1)).toInt64))) - (((gw ((3 * i) + 1)).toInt64) * ((gp (3 * (mk i))).toInt64))) ((((sr_sm gu (md_g9 gp gw gz mk) i) + ((gp ((3 * (mk i)) + 2)).toInt64)) - ((gw ((3 * i) + 2)).toInt64)) + ((gz i).toInt64)) (by omega) (by omega) ((sr_sm_t c_8).symm) ((sr_sm_t c_8).symm) ((sr_sm_t c_8).symm) ((sr_sm_t c_8).symm) (by rw [sr_sm_t c_8]; exact md_a11 _ _ _ _ _) (by rw [sr_sm_t c_8]; exact md_a13 _ _ _ _ _) (by rw [sr_sm_t c_8]; exact md_a15 _ _ _ _ _) (by rw [sr_sm_t c_8]; exact md_a17 _ _ _ _) _ _ (hP.sub [0, 1, 2, 3, 4, 5, 6, 7] rfl) (hD.sub [0, 1, 2, 3, 4, 5, 6, 7] (by decide) rfl) hS ls (lv_sub hl [13, 14, 8, 7, 6, 5, 4, 3, 2, 1, 0] rfl)
  exact lp32 (no - 0 + 1) 0 0 0 0 0 0 0 0 0 (by omega) (Nat.zero_le _) rfl rfl rfl rfl rfl rfl rfl rfl _ _ (hP.sub [0, 1, 2, 3, 4, 5, 6, 7] rfl) (hD.sub [0, 1, 2, 3, 4, 5, 6, 7] (by decide) rfl) hS ls (lv_sub hl [10, 9, 8, 7, 6, 5, 4, 3, 2, 1, 0] rfl)
set_option maxHeartbeats 4000000 in
set_option maxRecDepth 100000 in
/-- sets -/
theorem c_MD_sets_t (l : Launch) (dC : Nat → ClassId) (dI : Nat → Nat → Nat) (sz : Nat) (h0 : Nat) (th : Int32) (nm : Nat) (ap : Nat) (no : Nat) (am : Nat) (aw : Nat) (az : Nat) (au : Nat) (kn : Int32) (vP : Int64) (vQ : Int64) (vS : Int64) (vT : Int64) (vB : Int64) (vM : Int64) (vH : Int64) (ao : Nat) (ax : Nat) (np : Nat) (ay : Nat) (nl : Nat) (ad : Nat) (al : Nat) (sn : Nat) (ag : Nat) (ta : Nat) (nb : Int32) (kp : ClassId) (km : ClassId) (kw : ClassId) (kz : ClassId) (ku : ClassId) (ko : ClassId) (kx : ClassId) (mk : Nat → Nat) (gp : Nat → Int32) (gw : Nat → Int32) (gz : Nat → Int32) (gu : Nat → Int32) (ho : Nat → Int32) (hx_ : Nat → Int32) (hno : no ≤ 20) (hmk : ∀ o, o < no → mk o < 12) (hb01 : ∀ k, gu k = 0 ∨ gu k = 1) (hw0 : ¬ sr_spread ((nI (sr_cu gu no)).toInt64) (sr_sm gu (md_g4 gw) no) (sr_sm gu (md_g5 gw) no) (sr_sm gu (md_g6 gw) no) = 0) (hn0 : 0 < (nI (sr_cu gu no)).toInt64) : Met l xy_MD_sets xw_MD_sets ({ frames := 1, cells := 0, slots := 0, locals := 25 }) (xp_w [.ref h0] sz (dC, dI) xCl [(h0, .inr (7, [.int th, .int (nI nm), .ref ap, .int (nI no), .ref am, .ref aw, .ref az, .ref au, .int kn, .long vP, .long vQ, .long vS, .long vT, .long vB, .long vM, .long vH, .ref ao, .ref ax, .int (nI np), .ref ay, .int (nI nl), .ref ad, .ref al, .int (nI sn), .ref ag, .int (nI ta), .int nb])), (ap, .inl (kp, 36, .inl gp)), (am, .inl (km, 20, .inl (md_mk mk))), (aw, .inl (kw, 60, .inl gw)), (az, .inl (kz, 20, .inl gz)), (au, .inl (ku, 20, .inl gu)), (ao, .inl (ko, 20, .inl ho)), (ax, .inl (kx, 20, .inl hx_))] [(kp, .int), (km, .int), (kw, .int), (kz, .int), (ku, .boolean), (ko, .int), (kx, .boolean)]) (va_Qi (fun (r : Int32) (_ : Unit) => r = 1) (fun _ t => xb_w (dC, dI) xCl [(h0, .inr (7, [.int th, .int (nI nm), .ref ap, .int (nI no), .ref am, .ref aw, .ref az, .ref au, .int (nI no), .long (sr_cosine ((nI (sr_cu gu no)).toInt64) (sr_sm gu (md_g2 gp mk) no) (sr_sm gu (md_g3 gp mk) no) (sr_sm gu (md_g4 gw) no) (sr_sm gu (md_g5 gw) no) (sr_sm gu (md_g7 gp gw mk) no)), .long (sr_sine ((nI (sr_cu gu no)).toInt64) (sr_sm gu (md_g2 gp mk) no) (sr_sm gu (md_g3 gp mk) no) (sr_sm gu (md_g4 gw) no) (sr_sm gu (md_g5 gw) no) (sr_sm gu (md_g8 gp gw mk) no)), .long (sr_sm gu (md_g2 gp mk) no * sr_spread ((nI (sr_cu gu no)).toInt64) (sr_sm gu (md_g4 gw) no) (sr_sm gu (md_g5 gw) no) (sr_sm gu (md_g6 gw) no) - sr_cosine ((nI (sr_cu gu no)).toInt64) (sr_sm gu (md_g2 gp mk) no) (sr_sm gu (md_g3 gp mk) no) (sr_sm gu (md_g4 gw) no) (sr_sm gu (md_g5 gw) no) (sr_sm gu (md_g7 gp gw mk) no) * sr_sm gu (md_g4 gw) no + sr_sine ((nI (sr_cu gu no)).toInt64) (sr_sm gu (md_g2 gp mk) no) (sr_sm gu (md_g3 gp mk) no) (sr_sm gu (md_g4 gw) no) (sr_sm gu (md_g5 gw) no) (sr_sm gu (md_g8 gp gw mk) no) * sr_sm gu (md_g5 gw) no), .long (sr_sm gu (md_g3 gp mk) no * sr_spread ((nI (sr_cu gu no)).toInt64) (sr_sm gu (md_g4 gw) no) (sr_sm gu (md_g5 gw) no) (sr_sm gu (md_g6 gw) no) - sr_sine ((nI (sr_cu gu no)).toInt64) (sr_sm gu (md_g2 gp mk) no) (sr_sm gu (md_g3 gp mk) no) (sr_sm gu (md_g4 gw) no) (sr_sm gu (md_g5 gw) no) (sr_sm gu (md_g8 gp gw mk) no) * sr_sm gu (md_g4 gw) no - sr_cosine ((nI (sr_cu gu no)).toInt64) (sr_sm gu (md_g2 gp mk) no) (sr_sm gu (md_g3 gp mk) no) (sr_sm gu (md_g4 gw) no) (sr_sm gu (md_g5 gw) no) (sr_sm gu (md_g7 gp gw mk) no) * sr_sm gu (md_g5 gw) no), .long (sr_spread ((nI (sr_cu gu no)).toInt64) (sr_sm gu (md_g4 gw) no) (sr_sm gu (md_g5 gw) no) (sr_sm gu (md_g6 gw) no)), .long ((nI (sr_cu gu no)).toInt64), .long (sr_fd (sr_sm gu (md_g9 gp gw gz mk) no) ((nI (sr_cu gu no)).toInt64)), .ref ao, .ref ax, .int (nI np), .ref ay, .int (nI nl), .ref ad, .ref al, .int (nI sn), .ref ag, .int (nI ta), .int nb])), (ap, .inl (kp, 36, .inl gp)), (am, .inl (km, 20, .inl (md_mk mk))), (aw, .inl (kw, 60, .inl gw)), (az, .inl (kz, 20, .inl gz)), (au, .inl (ku, 20, .inl gu)), (ao, .inl (ko, 20, .inl (sr_cp 20 gz ho))), (ax, .inl (kx, 20, .inl (sr_cp 20 gu hx_)))] [(kp, .int), (km, .int), (kw, .int), (kz, .int), (ku, .boolean), (ko, .int), (kx, .boolean)] (va_A [(h0, .inr (7, [.int th, .int (nI nm), .ref ap, .int (nI no), .ref am, .ref aw, .ref az, .ref au, .int kn, .long vP, .long vQ, .long vS, .long vT, .long vB, .long vM, .long vH, .ref ao, .ref ax, .int (nI np), .ref ay, .int (nI nl), .ref ad, .ref al, .int (nI sn), .ref ag, .int (nI ta), .int nb])), (ap, .inl (kp, 36, .inl gp)), (am, .inl (km, 20, .inl (md_mk mk))), (aw, .inl (kw, 60, .inl gw)), (az, .inl (kz, 20, .inl gz)), (au, .inl (ku, 20, .inl gu)), (ao, .inl (ko, 20, .inl ho)), (ax, .inl (kx, 20, .inl hx_))] sz) t) (va_A [(h0, .inr (7, [.int th, .int (nI nm), .ref ap, .int (nI no), .ref am, .ref aw, .ref az, .ref au, .int kn, .long vP, .long vQ, .long vS, .long vT, .long vB, .long vM, .long vH, .ref ao, .ref ax, .int (nI np), .ref ay, .int (nI nl), .ref ad, .ref al, .int (nI sn), .ref ag, .int (nI ta), .int nb])), (ap, .inl (kp, 36, .inl gp)), (am, .inl (km, 20, .inl (md_mk mk))), (aw, .inl (kw, 60, .inl gw)), (az, .inl (kz, 20, .inl gz)), (au, .inl (ku, 20, .inl gu)), (ao, .inl (ko, 20, .inl ho)), (ax, .inl (kx, 20, .inl hx_))] sz)) 0 0 (va_A [(h0, .inr (7, [.int th, .int (nI nm), .ref ap, .int (nI no), .ref am, .ref aw, .ref az, .ref au, .int kn, .long vP, .long vQ, .long vS, .long vT, .long vB, .long vM, .long vH, .ref ao, .ref ax, .int (nI np), .ref ay, .int (nI nl), .ref ad, .ref al, .int (nI sn), .ref ag, .int (nI ta), .int nb])), (ap, .inl (kp, 36, .inl gp)), (am, .inl (km, 20, .inl (md_mk mk))), (aw, .inl (kw, 60, .inl gw)), (az, .inl (kz, 20, .inl gz)), (au, .inl (ku, 20, .inl gu)), (ao, .inl (ko, 20, .inl ho)), (ax, .inl (kx, 20, .inl hx_))] sz) := by
  refine Met.ofW (cc := prog_9_method_14_code) (maxL := 28) (ret := (some .boolean)) (by decide) rfl ?_
  intro p e s m args below meth c s₁ B hml hv
  obtain ⟨rfl, hsz, hz, hP, hK, hD0⟩ := hv
  have hx := B.exec
  have hb := B.bytes
  have hr := B.returns
  have hts := atoms_spec (ws := xw_MD_sets) B.pre
  have hown : s.vm.findClass xR_MD = some m.cls := findClass_of_methodNamed B.named
  have hlocks := B.notSynchronized
  subst hsz
  have hD := hD0.self (sz := s.heap.size)
  generalize hAe : va_A [(h0, .inr (7, [.int th, .int (nI nm), .ref ap, .int (nI no), .ref am, .ref aw, .ref az, .ref au, .int kn, .long vP, .long vQ, .long vS, .long vT, .long vB, .long vM, .long vH, .ref ao, .ref ax, .int (nI np), .ref ay, .int (nI nl), .ref ad, .ref al, .int (nI sn), .ref ag, .int (nI ta), .int nb])), (ap, .inl (kp, 36, .inl gp)), (am, .inl (km, 20, .inl (md_mk mk))), (aw, .inl (kw, 60, .inl gw)), (az, .inl (kz, 20, .inl gz)), (au, .inl (ku, 20, .inl gu)), (ao, .inl (ko, 20, .inl ho)), (ax, .inl (kx, 20, .inl hx_))] s.heap.size = A at hD ⊢
  have hA : ∀ q : Nat, s.heap.size ≤ q → A q := fun q h => by rw [← hAe]; exact Or.inr h
  have hS : va_S A s.heap s.heap [] := va_S.rf
  have hP : va_P (dC, dI) xCl [(h0, .inr (7, [.int th, .int (nI nm), .ref ap, .int (nI no), .ref am, .ref aw, .ref az, .ref au, .int kn, .long vP, .long vQ, .long vS, .long vT, .long vB, .long vM, .long vH, .ref ao, .ref ax, .int (nI np), .ref ay, .int (nI nl), .ref ad, .ref al, .int (nI sn), .ref ag, .int (nI ta), .int nb])), (ap, .inl (kp, 36, .inl gp)), (am, .inl (km, 20, .inl (md_mk mk))), (aw, .inl (kw, 60, .inl gw)), (az, .inl (kz, 20, .inl gz)), (au, .inl (ku, 20, .inl gu)), (ao, .inl (ko, 20, .inl ho)), (ax, .inl (kx, 20, .inl hx_))] s.heap := hP
  have hl := lv_entry ([.ref h0]) (n := 28) (Nat.le_of_ble_eq_true rfl)
  rw [lg_entry_eq]
  generalize (lg_sl ([.ref h0]) ++ List.replicate (28 - (lg_sl ([.ref h0])).length) Slot.unset).toArray = ls at hl ⊢
  have hl : lv_has ls 28 [(0, .ref h0)] := hl
  refine lv_aload_n hx hb d_MD_sets_0 rfl (lv_at hl 0 rfl) ?_
  refine xr_calli (va_runV (As := []) (rest := []) ⟨hx, hb, hml, hown, hts⟩ (c_MD_usedNow l dC dI h0 th nm ap no am aw az au kn vP vQ vS vT vB vM vH ao ax np ay nl ad al sn ag ta nb ku gu (by first | assumption | omega | decide)) (cwV 0 hts (xgV wm_825 wm_827 wm_17 wm_34 wm_828) rfl rfl rfl (by decide +kernel) ⟨Nat.le_of_ble_eq_true rfl, Nat.le_of_ble_eq_true rfl⟩) ⟨xp_blind, va_recv hK hP (ci := 7) (q0 := 0) rfl rfl, fun U hU hW => ⟨rfl, hz.warm hW, by rw [hU]; exact hP.sub [0, 5] rfl, va_K.moved hW.alike (hK.sub [4] rfl)⟩⟩ rfl rfl hl.1 rfl (lv_room (Nat.le_of_ble_eq_true rfl)) d_MD_sets_1 ⟨Nat.le_of_ble_eq_true rfl, Nat.le_of_ble_eq_true rfl⟩) (fun r_1 h_2 => ?_)
  subst h_2
  refine lv_i2l (v := (nI (sr_cu gu no)).toInt64) hx hb d_MD_sets_4 rfl ?_
  refine lv_lstore_n (lv' := [(1, .long ((nI (sr_cu gu no)).toInt64)), (0, .ref h0)]) hx hb d_MD_sets_5 rfl hl (by decide) rfl (fun ls hl => ?_)
  refine lv_lconst (v := 0) hx hb d_MD_sets_6 (by decide) ?_
  refine lv_lstore_n (lv' := [(3, .long 0), (1, .long ((nI (sr_cu gu no)).toInt64)), (0, .ref h0)]) hx hb d_MD_sets_7 rfl hl (by decide) rfl (fun ls hl => ?_)
  refine lv_lconst (v := 0) hx hb d_MD_sets_8 (by decide) ?_
  refine lv_lstore (lv' := [(5, .long 0), (3, .long 0), (1, .long ((nI (sr_cu gu no)).toInt64)), (0, .ref h0)]) hx hb d_MD_sets_9 hl (by decide) rfl (fun ls hl => ?_)
  refine lv_lconst (v := 0) hx hb d_MD_sets_11 (by decide) ?_
  refine lv_lstore (lv' := [(7, .long 0), (5, .long 0), (3, .long 0), (1, .long ((nI (sr_cu gu no)).toInt64)), (0, .ref h0)]) hx hb d_MD_sets_12 hl (by decide) rfl (fun ls hl => ?_)
  refine lv_lconst (v := 0) hx hb d_MD_sets_14 (by decide) ?_
  refine lv_lstore (lv' := [(9, .long 0), (7, .long 0), (5, .long 0), (3, .long 0), (1, .long ((nI (sr_cu gu no)).toInt64)), (0, .ref h0)]) hx hb d_MD_sets_15 hl (by decide) rfl (fun ls hl => ?_)
  refine lv_lconst (v := 0) hx hb d_MD_sets_17 (by decide) ?_
  refine lv_lstore (lv' := [(11, .long 0), (9, .long 0), (7, .long 0), (5, .long 0), (3, .long 0), (1, .long ((nI (sr_cu gu no)).toInt64)), (0, .ref h0)]) hx hb d_MD_sets_18 hl (by decide) rfl (fun ls hl => ?_)
  refine lv_lconst (v := 0) hx hb d_MD_sets_20 (by decide) ?_
  refine lv_lstore (lv' := [(13, .long 0), (11, .long 0), (9, .long 0), (7, .long 0), (5, .long 0), (3, .long 0), (1, .long ((nI (sr_cu gu no)).toInt64)), (0, .ref h0)]) hx hb d_MD_sets_21 hl (by decide) rfl (fun ls hl => ?_)
  refine lv_lconst (v := 0) hx hb d_MD_sets_23 (by decide) ?_
  refine lv_lstore (lv' := [(15, .long 0), (13, .long 0), (11, .long 0), (9, .long 0), (7, .long 0), (5, .long 0), (3, .long 0), (1, .long ((nI (sr_cu gu no)).toInt64)), (0, .ref h0)]) hx hb d_MD_sets_24 hl (by decide) rfl (fun ls hl => ?_)
  refine lv_lconst (v := 0) hx hb d_MD_sets_26 (by decide) ?_
  refine lv_lstore (lv' := [(17, .long 0), (15, .long 0), (13, .long 0), (11, .long 0), (9, .long 0), (7, .long 0), (5, .long 0), (3, .long 0), (1, .long ((nI (sr_cu gu no)).toInt64)), (0, .ref h0)]) hx hb d_MD_sets_27 hl (by decide) rfl (fun ls hl => ?_)
  refine lv_iconst (v := 0) hx hb d_MD_sets_29 (by decide) ?_
  refine lv_istore (lv' := [(19, .int 0), (17, .long 0), (15, .long 0), (13, .long 0), (11, .long 0), (9, .long 0), (7, .long 0), (5, .long 0), (3, .long 0), (1, .long ((nI (sr_cu gu no)).toInt64)), (0, .ref h0)]) hx hb d_MD_sets_30 hl (by decide) rfl (fun ls hl => ?_)
  have lp32 : ∀ (fuel : Nat) (i : Nat) (y3 : Int64) (y5 : Int64) (y7 : Int64) (y9 : Int64) (y11 : Int64) (y13 : Int64) (y15 : Int64) (y17 : Int64), no - i < fuel → i ≤ no → y3 = sr_sm gu (md_g4 gw) i → y5 = sr_sm gu (md_g5 gw) i → y7 = sr_sm gu (md_g2 gp mk) i → y9 = sr_sm gu (md_g3 gp mk) i → y11 = sr_sm gu (md_g6 gw) i → y13 = sr_sm gu (md_g7 gp gw mk) i → y15 = sr_sm gu (md_g8 gp gw mk) i → y17 = sr_sm gu (md_g9 gp gw gz mk) i → ∀ (H : Heap) (locs : List Loc), va_P (dC, dI) xCl [(h0, .inr (7, [.int th, .int (nI nm), .ref ap, .int (nI no), .ref am, .ref aw, .ref az, .ref au, .int kn, .long vP, .long vQ, .long vS, .long vT, .long vB, .long vM, .long vH, .ref ao, .ref ax, .int (nI np), .ref ay, .int (nI nl), .ref ad, .ref al, .int (nI sn), .ref ag, .int (nI ta), .int nb])), (ap, .inl (kp, 36, .inl gp)), (am, .inl (km, 20, .inl (md_mk mk))), (aw, .inl (kw, 60, .inl gw)), (az, .inl (kz, 20, .inl gz)), (au, .inl (ku, 20, .inl gu)), (ao, .inl (ko, 20, .inl ho)), (ax, .inl (kx, 20, .inl hx_))] H → va_D A [(h0, .inr (7, [.int th, .int (nI nm), .ref ap, .int (nI no), .ref am, .ref aw, .ref az, .ref au, .int kn, .long vP, .long vQ, .long vS, .long vT, .long vB, .long vM, .long vH, .ref ao, .ref ax, .int (nI np), .ref ay, .int (nI nl), .ref ad, .ref al, .int (nI sn), .ref ag, .int (nI ta), .int nb])), (ap, .inl (kp, 36, .inl gp)), (am, .inl (km, 20, .inl (md_mk mk))), (aw, .inl (kw, 60, .inl gw)), (az, .inl (kz, 20, .inl gz)), (au, .inl (ku, 20, .inl gu)), (ao, .inl (ko, 20, .inl ho)), (ax, .inl (kx, 20, .inl hx_))] → va_S A s.heap H locs → ∀ (ls : Array Slot), lv_has ls 28 [(0, .ref h0), (1, .long ((nI (sr_cu gu no)).toInt64)), (3, .long y3), (5, .long y5), (7, .long y7), (9, .long y9), (11, .long y11), (13, .long y13), (15, .long y15), (17, .long y17), (19, .int (nI i))] → W p l e (headSpec xw_MD_sets ({ frames := 1, cells := 0, slots := 0, locals := 25 })).room s m ([.ref h0] : List Value).toArray below meth c H locs 0 0 (MQ below (va_Qi (fun (r : Int32) (_ : Unit) => r = 1) (fun _ t => xb_w (dC, dI) xCl [(h0, .inr (7, [.int th, .int (nI nm), .ref ap, .int (nI no), .ref am, .ref aw, .ref az, .ref au, .int (nI no), .long (sr_cosine ((nI (sr_cu gu no)).toInt64) (sr_sm gu (md_g2 gp mk) no) (sr_sm gu (md_g3 gp mk) no) (sr_sm gu (md_g4 gw) no) (sr_sm gu (md_g5 gw) no) (sr_sm gu (md_g7 gp gw mk) no)), .long (sr_sine ((nI (sr_cu gu no)).toInt64) (sr_sm gu (md_g2 gp mk) no) (sr_sm gu (md_g3 gp mk) no) (sr_sm gu (md_g4 gw) no) (sr_sm gu (md_g5 gw) no) (sr_sm gu (md_g8 gp gw mk) no)), .long (sr_sm gu (md_g2 gp mk) no * sr_spread ((nI (sr_cu gu no)).toInt64) (sr_sm gu (md_g4 gw) no) (sr_sm gu (md_g5 gw) no) (sr_sm gu (md_g6 gw) no) - sr_cosine ((nI (sr_cu gu no)).toInt64) (sr_sm gu (md_g2 gp mk) no) (sr_sm gu (md_g3 gp mk) no) (sr_sm gu (md_g4 gw) no) (sr_sm gu (md_g5 gw) no) (sr_sm gu (md_g7 gp gw mk) no) * sr_sm gu (md_g4 gw) no + sr_sine ((nI (sr_cu gu no)).toInt64) (sr_sm gu (md_g2 gp mk) no) (sr_sm gu (md_g3 gp mk) no) (sr_sm gu (md_g4 gw) no) (sr_sm gu (md_g5 gw) no) (sr_sm gu (md_g8 gp gw mk) no) * sr_sm gu (md_g5 gw) no), .long (sr_sm gu (md_g3 gp mk) no * sr_spread ((nI (sr_cu gu no)).toInt64) (sr_sm gu (md_g4 gw) no) (sr_sm gu (md_g5 gw) no) (sr_sm gu (md_g6 gw) no) - sr_sine ((nI (sr_cu gu no)).toInt64) (sr_sm gu (md_g2 gp mk) no) (sr_sm gu (md_g3 gp mk) no) (sr_sm gu (md_g4 gw) no) (sr_sm gu (md_g5 gw) no) (sr_sm gu (md_g8 gp gw mk) no) * sr_sm gu (md_g4 gw) no - sr_cosine ((nI (sr_cu gu no)).toInt64) (sr_sm gu (md_g2 gp mk) no) (sr_sm gu (md_g3 gp mk) no) (sr_sm gu (md_g4 gw) no) (sr_sm gu (md_g5 gw) no) (sr_sm gu (md_g7 gp gw mk) no) * sr_sm gu (md_g5 gw) no), .long (sr_spread ((nI (sr_cu gu no)).toInt64) (sr_sm gu (md_g4 gw) no) (sr_sm gu (md_g5 gw) no) (sr_sm gu (md_g6 gw) no)), .long ((nI (sr_cu gu no)).toInt64), .long (sr_fd (sr_sm gu (md_g9 gp gw gz mk) no) ((nI (sr_cu gu no)).toInt64)), .ref ao, .ref ax, .int (nI np), .ref ay, .int (nI nl), .ref ad, .ref al, .int (nI sn), .ref ag, .int (nI ta), .int nb])), (ap, .inl (kp, 36, .inl gp)), (am, .inl (km, 20, .inl (md_mk mk))), (aw, .inl (kw, 60, .inl gw)), (az, .inl (kz, 20, .inl gz)), (au, .inl (ku, 20, .inl gu)), (ao, .inl (ko, 20, .inl (sr_cp 20 gz ho))), (ax, .inl (kx, 20, .inl (sr_cp 20 gu hx_)))] [(kp, .int), (km, .int), (kw, .int), (kz, .int), (ku, .boolean), (ko, .int), (kx, .boolean)] A t) A) ([.ref h0] : List Value).toArray s 0 0 A) (F0 m 32 ls []) := by
    intro fuel
    induction fuel with
    | zero => intro i y3 y5 y7 y9 y11 y13 y15 y17 hfu; exact absurd hfu (Nat.not_lt_zero _)
    | succ fuel ih =>
      intro i y3 y5 y7 y9 y11 y13 y15 y17 hfu hi hy3 hy5 hy7 hy9 hy11 hy13 hy15 hy17 H locs hP hD hS ls hl
      subst hy3
      subst hy5
      subst hy7
      subst hy9
      subst hy11
      subst hy13
      subst hy15
      subst hy17
      refine lv_iload hx hb d_MD_sets_32 (lv_at hl 10 rfl) ?_
      refine lv_aload_n hx hb d_MD_sets_34 rfl (lv_at hl 0 rfl) ?_
      refine va_get (D := (dC, dI)) (ci := 7) (v := .int (nI no)) (C := xR_MD) (T := xT_MD) (N := 27) hx hb hts (fun w h => List.mem_cons_of_mem _ (iw_MD w h)) hown hK hP 0 rfl rfl 3 (by decide) (hts _ (List.mem_cons_of_mem _ wm_700)) (fun _ h9 => h9) rfl d_MD_sets_35 ?_
      refine lv_icmp_ge (tgt := 237) hx hb d_MD_sets_38 (by decide) (fun c_3 => ?_) (fun c_3 => ?_)
      · have n_4 := xn_le (a := no) (b := i) c_3 rfl rfl (by omega) (by omega)
        have e9 : i = no := by omega
        rw [e9] at hl
        have hl : lv_has ls 28 [(0, .ref h0), (1, .long ((nI (sr_cu gu no)).toInt64)), (3, .long (sr_sm gu (md_g4 gw) no)), (5, .long (sr_sm gu (md_g5 gw) no)), (7, .long (sr_sm gu (md_g2 gp mk) no)), (9, .long (sr_sm gu (md_g3 gp mk) no)), (11, .long (sr_sm gu (md_g6 gw) no)), (13, .long (sr_sm gu (md_g7 gp gw mk) no)), (15, .long (sr_sm gu (md_g8 gp gw mk) no)), (17, .long (sr_sm gu (md_g9 gp gw gz mk) no)), (19, .int (nI no))] := hl
        refine lv_lload_n hx hb d_MD_sets_237 rfl (lv_at hl 1 rfl) ?_
        refine lv_lload hx hb d_MD_sets_238 (lv_at hl 6 rfl) ?_
        refine lv_lmul hx hb d_MD_sets_240 ?_
        refine lv_lload_n hx hb d_MD_sets_241 rfl (lv_at hl 2 rfl) ?_
        refine lv_lload_n hx hb d_MD_sets_242 rfl (lv_at hl 2 rfl) ?_
        refine lv_lmul hx hb d_MD_sets_243 ?_
        refine lv_lsub hx hb d_MD_sets_244 ?_
        refine lv_lload hx hb d_MD_sets_245 (lv_at hl 3 rfl) ?_
        refine lv_lload hx hb d_MD_sets_247 (lv_at hl 3 rfl) ?_
        refine lv_lmul hx hb d_MD_sets_249 ?_
        refine lv_lsub hx hb d_MD_sets_250 ?_
        refine lv_lstore (lv' := [(19, .long (((((nI (sr_cu gu no)).toInt64) * (sr_sm gu (md_g6 gw) no)) - ((sr_sm gu (md_g4 gw) no) * (sr_sm gu (md_g4 gw) no))) - ((sr_sm gu (md_g5 gw) no) * (sr_sm gu (md_g5 gw) no)))), (0, .ref h0), (1, .long ((nI (sr_cu gu no)).toInt64)), (3, .long (sr_sm gu (md_g4 gw) no)), (5, .long (sr_sm gu (md_g5 gw) no)), (7, .long (sr_sm gu (md_g2 gp mk) no)), (9, .long (sr_sm gu (md_g3 gp mk) no)), (11, .long (sr_sm gu (md_g6 gw) no)), (13, .long (sr_sm gu (md_g7 gp gw mk) no)), (15, .long (sr_sm gu (md_g8 gp gw mk) no)), (17, .long (sr_sm gu (md_g9 gp gw gz mk) no))]) hx hb d_MD_sets_251 hl (by decide) rfl (fun ls hl => ?_)
        refine lv_lload hx hb d_MD_sets_253 (lv_at hl 0 rfl) ?_
        refine lv_lconst (v := 0) hx hb d_MD_sets_255 (by decide) ?_
        refine W.lcmp hx hb d_MD_sets_256 ?_
        refine lv_if_ne (tgt := 262) hx hb d_MD_sets_257 (by decide) (fun c_5 => ?_) (fun c_5 => ?_)
        · have l_6 := fun q => c_5 (lc_eq.mpr q)
          refine lv_aload_n hx hb d_MD_sets_262 rfl (lv_at hl 1 rfl) ?_
          refine lv_lload hx hb d_MD_sets_263 (lv_at hl 0 rfl) ?_
          refine va_put (D := (dC, dI)) (ci := 7) (v := .long (((((nI (sr_cu gu no)).toInt64) * (sr_sm gu (md_g6 gw) no)) - ((sr_sm gu (md_g4 gw) no) * (sr_sm gu (md_g4 gw) no))) - ((sr_sm gu (md_g5 gw) no) * (sr_sm gu (md_g5 gw) no)))) (ty := .long) (C := xR_MD) (T := xT_MD) (N := 27) hx hb hts (fun w h => List.mem_cons_of_mem _ (iw_MD w h)) xt_MD xt_MD_ok xn_MD_nm hown hK hP hD hS 0 rfl rfl 13 (by decide) (hts _ (List.mem_cons_of_mem _ wm_710)) (fun _ h9 => h9) rfl (by decide +kernel) rfl rfl (Nat.le_of_ble_eq_true rfl) d_MD_sets_265 (fun H locs hP hD hS => ?_)
          have hP : va_P (dC, dI) xCl [(h0, .inr (7, [.int th, .int (nI nm), .ref ap, .int (nI no), .ref am, .ref aw, .ref az, .ref au, .int kn, .long vP, .long vQ, .long vS, .long vT, .long (((((nI (sr_cu gu no)).toInt64) * (sr_sm gu (md_g6 gw) no)) - ((sr_sm gu (md_g4 gw) no) * (sr_sm gu (md_g4 gw) no))) - ((sr_sm gu (md_g5 gw) no) * (sr_sm gu (md_g5 gw) no))), .long vM, .long vH, .ref ao, .ref ax, .int (nI np), .ref ay, .int (nI nl), .ref ad, .ref al, .int (nI sn), .ref ag, .int (nI ta), .int nb])), (ap, .inl (kp, 36, .inl gp)), (am, .inl (km, 20, .inl (md_mk mk))), (aw, .inl (kw, 60, .inl gw)), (az, .inl (kz, 20, .inl gz)), (au, .inl (ku, 20, .inl gu)), (ao, .inl (ko, 20, .inl ho)), (ax, .inl (kx, 20, .inl hx_))] H := hP
          have hD : va_D A [(h0, .inr (7, [.int th, .int (nI nm), .ref ap, .int (nI no), .ref am, .ref aw, .ref az, .ref au, .int kn, .long vP, .long vQ, .long vS, .long vT, .long (((((nI (sr_cu gu no)).toInt64) * (sr_sm gu (md_g6 gw) no)) - ((sr_sm gu (md_g4 gw) no) * (sr_sm gu (md_g4 gw) no))) - ((sr_sm gu (md_g5 gw) no) * (sr_sm gu (md_g5 gw) no))), .long vM, .long vH, .ref ao, .ref ax, .int (nI np), .ref ay, .int (nI nl), .ref ad, .ref al, .int (nI sn), .ref ag, .int (nI ta), .int nb])), (ap, .inl (kp, 36, .inl gp)), (am, .inl (km, 20, .inl (md_mk mk))), (aw, .inl (kw, 60, .inl gw)), (az, .inl (kz, 20, .inl gz)), (au, .inl (ku, 20, .inl gu)), (ao, .inl (ko, 20, .inl ho)), (ax, .inl (kx, 20, .inl hx_))] := hD
          refine lv_aload_n hx hb d_MD_sets_268 rfl (lv_at hl 1 rfl) ?_
          refine lv_lload_n hx hb d_MD_sets_269 rfl (lv_at hl 2 rfl) ?_
          refine va_put (D := (dC, dI)) (ci := 7) (v := .long ((nI (sr_cu gu no)).toInt64)) (ty := .long) (C := xR_MD) (T := xT_MD) (N := 27) hx hb hts (fun w h => List.mem_cons_of_mem _ (iw_MD w h)) xt_MD xt_MD_ok xn_MD_nm hown hK hP hD hS 0 rfl rfl 14 (by decide) (hts _ (List.mem_cons_of_mem _ wm_711)) (fun _ h9 => h9) rfl (by decide +kernel) rfl rfl (Nat.le_of_ble_eq_true rfl) d_MD_sets_270 (fun H locs hP hD hS => ?_)
          have hP : va_P (dC, dI) xCl [(h0, .inr (7, [.int th, .int (nI nm), .ref ap, .int (nI no), .ref am, .ref aw, .ref az, .ref au, .int kn, .long vP, .long vQ, .long vS, .long vT, .long (((((nI (sr_cu gu no)).toInt64) * (sr_sm gu (md_g6 gw) no)) - ((sr_sm gu (md_g4 gw) no) * (sr_sm gu (md_g4 gw) no))) - ((sr_sm gu (md_g5 gw) no) * (sr_sm gu (md_g5 gw) no))), .long ((nI (sr_cu gu no)).toInt64), .long vH, .ref ao, .ref ax, .int (nI np), .ref ay, .int (nI nl), .ref ad, .ref al, .int (nI sn), .ref ag, .int (nI ta), .int nb])), (ap, .inl (kp, 36, .inl gp)), (am, .inl (km, 20, .inl (md_mk mk))), (aw, .inl (kw, 60, .inl gw)), (az, .inl (kz, 20, .inl gz)), (au, .inl (ku, 20, .inl gu)), (ao, .inl (ko, 20, .inl ho)), (ax, .inl (kx, 20, .inl hx_))] H := hP
          have hD : va_D A [(h0, .inr (7, [.int th, .int (nI nm), .ref ap, .int (nI no), .ref am, .ref aw, .ref az, .ref au, .int kn, .long vP, .long vQ, .long vS, .long vT, .long (((((nI (sr_cu gu no)).toInt64) * (sr_sm gu (md_g6 gw) no)) - ((sr_sm gu (md_g4 gw) no) * (sr_sm gu (md_g4 gw) no))) - ((sr_sm gu (md_g5 gw) no) * (sr_sm gu (md_g5 gw) no))), .long ((nI (sr_cu gu no)).toInt64), .long vH, .ref ao, .ref ax, .int (nI np), .ref ay, .int (nI nl), .ref ad, .ref al, .int (nI sn), .ref ag, .int (nI ta), .int nb])), (ap, .inl (kp, 36, .inl gp)), (am, .inl (km, 20, .inl (md_mk mk))), (aw, .inl (kw, 60, .inl gw)), (az, .inl (kz, 20, .inl gz)), (au, .inl (ku, 20, .inl gu)), (ao, .inl (ko, 20, .inl ho)), (ax, .inl (kx, 20, .inl hx_))] := hD
          refine lv_aload_n hx hb d_MD_sets_273 rfl (lv_at hl 1 rfl) ?_
          refine lv_lload_n hx hb d_MD_sets_274 rfl (lv_at hl 2 rfl) ?_
          refine lv_lload hx hb d_MD_sets_275 (lv_at hl 8 rfl) ?_
          refine lv_lmul hx hb d_MD_sets_277 ?_
          refine lv_lload_n hx hb d_MD_sets_278 rfl (lv_at hl 3 rfl) ?_
          refine lv_lload hx hb d_MD_sets_279 (lv_at hl 5 rfl) ?_
          refine lv_lmul hx hb d_MD_sets_281 ?_
          refine lv_lsub hx hb d_MD_sets_282 ?_
          refine lv_lload hx hb d_MD_sets_283 (lv_at hl 4 rfl) ?_
          refine lv_lload hx hb d_MD_sets_285 (lv_at hl 6 rfl) ?_
          refine lv_lmul hx hb d_MD_sets_287 ?_
          refine lv_lsub hx hb d_MD_sets_288 ?_
          refine va_put (D := (dC, dI)) (ci := 7) (v := .long (((((nI (sr_cu gu no)).toInt64) * (sr_sm gu (md_g7 gp gw mk) no)) - ((sr_sm gu (md_g4 gw) no) * (sr_sm gu (md_g2 gp mk) no))) - ((sr_sm gu (md_g5 gw) no) * (sr_sm gu (md_g3 gp mk) no)))) (ty := .long) (C := xR_MD) (T := xT_MD) (N := 27) hx hb hts (fun w h => List.mem_cons_of_mem _ (iw_MD w h)) xt_MD xt_MD_ok xn_MD_nm hown hK hP hD hS 0 rfl rfl 9 (by decide) (hts _ (List.mem_cons_of_mem _ wm_706)) (fun _ h9 => h9) rfl (by decide +kernel) rfl rfl (Nat.le_of_ble_eq_true rfl) d_MD_sets_289 (fun H locs hP hD hS => ?_)
          have hP : va_P (dC, dI) xCl [(h0, .inr (7, [.int th, .int (nI nm), .ref ap, .int (nI no), .ref am, .ref aw, .ref az, .ref au, .int kn, .long (((((nI (sr_cu gu no)).toInt64) * (sr_sm gu (md_g7 gp gw mk) no)) - ((sr_sm gu (md_g4 gw) no) * (sr_sm gu (md_g2 gp mk) no))) - ((sr_sm gu (md_g5 gw) no) * (sr_sm gu (md_g3 gp mk) no))), .long vQ, .long vS, .long vT, .long (((((nI (sr_cu gu no)).toInt64) * (sr_sm gu (md_g6 gw) no)) - ((sr_sm gu (md_g4 gw) no) * (sr_sm gu (md_g4 gw) no))) - ((sr_sm gu (md_g5 gw) no) * (sr_sm gu (md_g5 gw) no))), .long ((nI (sr_cu gu no)).toInt64), .long vH, .ref ao, .ref ax, .int (nI np), .ref ay, .int (nI nl), .ref ad, .ref al, .int (nI sn), .ref ag, .int (nI ta), .int nb])), (ap, .inl (kp, 36, .inl gp)), (am, .inl (km, 20, .inl (md_mk mk))), (aw, .inl (kw, 60, .inl gw)), (az, .inl (kz, 20, .inl gz)), (au, .inl (ku, 20, .inl gu)), (ao, .inl (ko, 20, .inl ho)), (ax, .inl (kx, 20, .inl hx_))] H := hP
          have hD : va_D A [(h0, .inr (7, [.int th, .int (nI nm), .ref ap, .int (nI no), .ref am, .ref aw, .ref az, .ref au, .int kn, .long (((((nI (sr_cu gu no)).toInt64) * (sr_sm gu (md_g7 gp gw mk) no)) - ((sr_sm gu (md_g4 gw) no) * (sr_sm gu (md_g2 gp mk) no))) - ((sr_sm gu (md_g5 gw) no) * (sr_sm gu (md_g3 gp mk) no))), .long vQ, .long vS, .long vT, .long (((((nI (sr_cu gu no)).toInt64) * (sr_sm gu (md_g6 gw) no)) - ((sr_sm gu (md_g4 gw) no) * (sr_sm gu (md_g4 gw) no))) - ((sr_sm gu (md_g5 gw) no) * (sr_sm gu (md_g5 gw) no))), .long ((nI (sr_cu gu no)).toInt64), .long vH, .ref ao, .ref ax, .int (nI np), .ref ay, .int (nI nl), .ref ad, .ref al, .int (nI sn), .ref ag, .int (nI ta), .int nb])), (ap, .inl (kp, 36, .inl gp)), (am, .inl (km, 20, .inl (md_mk mk))), (aw, .inl (kw, 60, .inl gw)), (az, .inl (kz, 20, .inl gz)), (au, .inl (ku, 20, .inl gu)), (ao, .inl (ko, 20, .inl ho)), (ax, .inl (kx, 20, .inl hx_))] := hD
          refine lv_aload_n hx hb d_MD_sets_292 rfl (lv_at hl 1 rfl) ?_
          refine lv_lload_n hx hb d_MD_sets_293 rfl (lv_at hl 2 rfl) ?_
          refine lv_lload hx hb d_MD_sets_294 (lv_at hl 9 rfl) ?_
          refine lv_lmul hx hb d_MD_sets_296 ?_
          refine lv_lload_n hx hb d_MD_sets_297 rfl (lv_at hl 3 rfl) ?_
          refine lv_lload hx hb d_MD_sets_298 (lv_at hl 6 rfl) ?_
          refine lv_lmul hx hb d_MD_sets_300 ?_
          refine lv_lsub hx hb d_MD_sets_301 ?_
          refine lv_lload hx hb d_MD_sets_302 (lv_at hl 4 rfl) ?_
          refine lv_lload hx hb d_MD_sets_304 (lv_at hl 5 rfl) ?_
          refine lv_lmul hx hb d_MD_sets_306 ?_
          refine lv_ladd hx hb d_MD_sets_307 ?_
          refine va_put (D := (dC, dI)) (ci := 7) (v := .long (((((nI (sr_cu gu no)).toInt64) * (sr_sm gu (md_g8 gp gw mk) no)) - ((sr_sm gu (md_g4 gw) no) * (sr_sm gu (md_g3 gp mk) no))) + ((sr_sm gu (md_g5 gw) no) * (sr_sm gu (md_g2 gp mk) no)))) (ty := .long) (C := xR_MD) (T := xT_MD) (N := 27) hx hb hts (fun w h => List.mem_cons_of_mem _ (iw_MD w h)) xt_MD xt_MD_ok xn_MD_nm hown hK hP hD hS 0 rfl rfl 10 (by decide) (hts _ (List.mem_cons_of_mem _ wm_707)) (fun _ h9 => h9) rfl (by decide +kernel) rfl rfl (Nat.le_of_ble_eq_true rfl) d_MD_sets_308 (fun H locs hP hD hS => ?_)
          have hP : va_P (dC, dI) xCl [(h0, .inr (7, [.int th, .int (nI nm), .ref ap, .int (nI no), .ref am, .ref aw, .ref az, .ref au, .int kn, .long (((((nI (sr_cu gu no)).toInt64) * (sr_sm gu (md_g7 gp gw mk) no)) - ((sr_sm gu (md_g4 gw) no) * (sr_sm gu (md_g2 gp mk) no))) - ((sr_sm gu (md_g5 gw) no) * (sr_sm gu (md_g3 gp mk) no))), .long (((((nI (sr_cu gu no)).toInt64) * (sr_sm gu (md_g8 gp gw mk) no)) - ((sr_sm gu (md_g4 gw) no) * (sr_sm gu (md_g3 gp mk) no))) + ((sr_sm gu (md_g5 gw) no) * (sr_sm gu (md_g2 gp mk) no))), .long vS, .long vT, .long (((((nI (sr_cu gu no)).toInt64) * (sr_sm gu (md_g6 gw) no)) - ((sr_sm gu (md_g4 gw) no) * (sr_sm gu (md_g4 gw) no))) - ((sr_sm gu (md_g5 gw) no) * (sr_sm gu (md_g5 gw) no))), .long ((nI (sr_cu gu no)).toInt64), .long vH, .ref ao, .ref ax, .int (nI np), .ref ay, .int (nI nl), .ref ad, .ref al, .int (nI sn), .ref ag, .int (nI ta), .int nb])), (ap, .inl (kp, 36, .inl gp)), (am, .inl (km, 20, .inl (md_mk mk))), (aw, .inl (kw, 60, .inl gw)), (az, .inl (kz, 20, .inl gz)), (au, .inl (ku, 20, .inl gu)), (ao, .inl (ko, 20, .inl ho)), (ax, .inl (kx, 20, .inl hx_))] H := hP
          have hD : va_D A [(h0, .inr (7, [.int th, .int (nI nm), .ref ap, .int (nI no), .ref am, .ref aw, .ref az, .ref au, .int kn, .long (((((nI (sr_cu gu no)).toInt64) * (sr_sm gu (md_g7 gp gw mk) no)) - ((sr_sm gu (md_g4 gw) no) * (sr_sm gu (md_g2 gp mk) no))) - ((sr_sm gu (md_g5 gw) no) * (sr_sm gu (md_g3 gp mk) no))), .long (((((nI (sr_cu gu no)).toInt64) * (sr_sm gu (md_g8 gp gw mk) no)) - ((sr_sm gu (md_g4 gw) no) * (sr_sm gu (md_g3 gp mk) no))) + ((sr_sm gu (md_g5 gw) no) * (sr_sm gu (md_g2 gp mk) no))), .long vS, .long vT, .long (((((nI (sr_cu gu no)).toInt64) * (sr_sm gu (md_g6 gw) no)) - ((sr_sm gu (md_g4 gw) no) * (sr_sm gu (md_g4 gw) no))) - ((sr_sm gu (md_g5 gw) no) * (sr_sm gu (md_g5 gw) no))), .long ((nI (sr_cu gu no)).toInt64), .long vH, .ref ao, .ref ax, .int (nI np), .ref ay, .int (nI nl), .ref ad, .ref al, .int (nI sn), .ref ag, .int (nI ta), .int nb])), (ap, .inl (kp, 36, .inl gp)), (am, .inl (km, 20, .inl (md_mk mk))), (aw, .inl (kw, 60, .inl gw)), (az, .inl (kz, 20, .inl gz)), (au, .inl (ku, 20, .inl gu)), (ao, .inl (ko, 20, .inl ho)), (ax, .inl (kx, 20, .inl hx_))] := hD
          refine lv_aload_n hx hb d_MD_sets_311 rfl (lv_at hl 1 rfl) ?_
          refine lv_lload hx hb d_MD_sets_312 (lv_at hl 5 rfl) ?_
          refine lv_lload hx hb d_MD_sets_314 (lv_at hl 0 rfl) ?_
          refine lv_lmul hx hb d_MD_sets_316 ?_
          refine lv_aload_n hx hb d_MD_sets_317 rfl (lv_at hl 1 rfl) ?_
          refine va_get (D := (dC, dI)) (ci := 7) (v := .long (((((nI (sr_cu gu no)).toInt64) * (sr_sm gu (md_g7 gp gw mk) no)) - ((sr_sm gu (md_g4 gw) no) * (sr_sm gu (md_g2 gp mk) no))) - ((sr_sm gu (md_g5 gw) no) * (sr_sm gu (md_g3 gp mk) no)))) (C := xR_MD) (T := xT_MD) (N := 27) hx hb hts (fun w h => List.mem_cons_of_mem _ (iw_MD w h)) hown hK hP 0 rfl rfl 9 (by decide) (hts _ (List.mem_cons_of_mem _ wm_706)) (fun _ h9 => h9) rfl d_MD_sets_318 ?_
          refine lv_lload_n hx hb d_MD_sets_321 rfl (lv_at hl 3 rfl) ?_
          refine lv_lmul hx hb d_MD_sets_322 ?_
          refine lv_lsub hx hb d_MD_sets_323 ?_
          refine lv_aload_n hx hb d_MD_sets_324 rfl (lv_at hl 1 rfl) ?_
          refine va_get (D := (dC, dI)) (ci := 7) (v := .long (((((nI (sr_cu gu no)).toInt64) * (sr_sm gu (md_g8 gp gw mk) no)) - ((sr_sm gu (md_g4 gw) no) * (sr_sm gu (md_g3 gp mk) no))) + ((sr_sm gu (md_g5 gw) no) * (sr_sm gu (md_g2 gp mk) no)))) (C := xR_MD) (T := xT_MD) (N := 27) hx hb hts (fun w h => List.mem_cons_of_mem _ (iw_MD w h)) hown hK hP 0 rfl rfl 10 (by decide) (hts _ (List.mem_cons_of_mem _ wm_707)) (fun _ h9 => h9) rfl d_MD_sets_325 ?_
          refine lv_lload hx hb d_MD_sets_328 (lv_at hl 4 rfl) ?_
          refine lv_lmul hx hb d_MD_sets_330 ?_
          refine lv_ladd hx hb d_MD_sets_331 ?_
          refine va_put (D := (dC, dI)) (ci := 7) (v := .long ((((sr_sm gu (md_g2 gp mk) no) * (((((nI (sr_cu gu no)).toInt64) * (sr_sm gu (md_g6 gw) no)) - ((sr_sm gu (md_g4 gw) no) * (sr_sm gu (md_g4 gw) no))) - ((sr_sm gu (md_g5 gw) no) * (sr_sm gu (md_g5 gw) no)))) - ((((((nI (sr_cu gu no)).toInt64) * (sr_sm gu (md_g7 gp gw mk) no)) - ((sr_sm gu (md_g4 gw) no) * (sr_sm gu (md_g2 gp mk) no))) - ((sr_sm gu (md_g5 gw) no) * (sr_sm gu (md_g3 gp mk) no))) * (sr_sm gu (md_g4 gw) no))) + ((((((nI (sr_cu gu no)).toInt64) * (sr_sm gu (md_g8 gp gw mk) no)) - ((sr_sm gu (md_g4 gw) no) * (sr_sm gu (md_g3 gp mk) no))) + ((sr_sm gu (md_g5 gw) no) * (sr_sm gu (md_g2 gp mk) no))) * (sr_sm gu (md_g5 gw) no)))) (ty := .long) (C := xR_MD) (T := xT_MD) (N := 27) hx hb hts (fun w h => List.mem_cons_of_mem _ (iw_MD w h)) xt_MD xt_MD_ok xn_MD_nm hown hK hP hD hS 0 rfl rfl 11 (by decide) (hts _ (List.mem_cons_of_mem _ wm_708)) (fun _ h9 => h9) rfl (by decide +kernel) rfl rfl (Nat.le_of_ble_eq_true rfl) d_MD_sets_332 (fun H locs hP hD hS => ?_)
          have hP : va_P (dC, dI) xCl [(h0, .inr (7, [.int th, .int (nI nm), .ref ap, .int (nI no), .ref am, .ref aw, .ref az, .ref au, .int kn, .long (((((nI (sr_cu gu no)).toInt64) * (sr_sm gu (md_g7 gp gw mk) no)) - ((sr_sm gu (md_g4 gw) no) * (sr_sm gu (md_g2 gp mk) no))) - ((sr_sm gu (md_g5 gw) no) * (sr_sm gu (md_g3 gp mk) no))), .long (((((nI (sr_cu gu no)).toInt64) * (sr_sm gu (md_g8 gp gw mk) no)) - ((sr_sm gu (md_g4 gw) no) * (sr_sm gu (md_g3 gp mk) no))) + ((sr_sm gu (md_g5 gw) no) * (sr_sm gu (md_g2 gp mk) no))), .long ((((sr_sm gu (md_g2 gp mk) no) * (((((nI (sr_cu gu no)).toInt64) * (sr_sm gu (md_g6 gw) no)) - ((sr_sm gu (md_g4 gw) no) * (sr_sm gu (md_g4 gw) no))) - ((sr_sm gu (md_g5 gw) no) * (sr_sm gu (md_g5 gw) no)))) - ((((((nI (sr_cu gu no)).toInt64) * (sr_sm gu (md_g7 gp gw mk) no)) - ((sr_sm gu (md_g4 gw) no) * (sr_sm gu (md_g2 gp mk) no))) - ((sr_sm gu (md_g5 gw) no) * (sr_sm gu (md_g3 gp mk) no))) * (sr_sm gu (md_g4 gw) no))) + ((((((nI (sr_cu gu no)).toInt64) * (sr_sm gu (md_g8 gp gw mk) no)) - ((sr_sm gu (md_g4 gw) no) * (sr_sm gu (md_g3 gp mk) no))) + ((sr_sm gu (md_g5 gw) no) * (sr_sm gu (md_g2 gp mk) no))) * (sr_sm gu (md_g5 gw) no))), .long vT, .long (((((nI (sr_cu gu no)).toInt64) * (sr_sm gu (md_g6 gw) no)) - ((sr_sm gu (md_g4 gw) no) * (sr_sm gu (md_g4 gw) no))) - ((sr_sm gu (md_g5 gw) no) * (sr_sm gu (md_g5 gw) no))), .long ((nI (sr_cu gu no)).toInt64), .long vH, .ref ao, .ref ax, .int (nI np), .ref ay, .int (nI nl), .ref ad, .ref al, .int (nI sn), .ref ag, .int (nI ta), .int nb])), (ap, .inl (kp, 36, .inl gp)), (am, .inl (km, 20, .inl (md_mk mk))), (aw, .inl (kw, 60, .inl gw)), (az, .inl (kz, 20, .inl gz)), (au, .inl (ku, 20, .inl gu)), (ao, .inl (ko, 20, .inl ho)), (ax, .inl (kx, 20, .inl hx_))] H := hP
          have hD : va_D A [(h0, .inr (7, [.int th, .int (nI nm), .ref ap, .int (nI no), .ref am, .ref aw, .ref az, .ref au, .int kn, .long (((((nI (sr_cu gu no)).toInt64) * (sr_sm gu (md_g7 gp gw mk) no)) - ((sr_sm gu (md_g4 gw) no) * (sr_sm gu (md_g2 gp mk) no))) - ((sr_sm gu (md_g5 gw) no) * (sr_sm gu (md_g3 gp mk) no))), .long (((((nI (sr_cu gu no)).toInt64) * (sr_sm gu (md_g8 gp gw mk) no)) - ((sr_sm gu (md_g4 gw) no) * (sr_sm gu (md_g3 gp mk) no))) + ((sr_sm gu (md_g5 gw) no) * (sr_sm gu (md_g2 gp mk) no))), .long ((((sr_sm gu (md_g2 gp mk) no) * (((((nI (sr_cu gu no)).toInt64) * (sr_sm gu (md_g6 gw) no)) - ((sr_sm gu (md_g4 gw) no) * (sr_sm gu (md_g4 gw) no))) - ((sr_sm gu (md_g5 gw) no) * (sr_sm gu (md_g5 gw) no)))) - ((((((nI (sr_cu gu no)).toInt64) * (sr_sm gu (md_g7 gp gw mk) no)) - ((sr_sm gu (md_g4 gw) no) * (sr_sm gu (md_g2 gp mk) no))) - ((sr_sm gu (md_g5 gw) no) * (sr_sm gu (md_g3 gp mk) no))) * (sr_sm gu (md_g4 gw) no))) + ((((((nI (sr_cu gu no)).toInt64) * (sr_sm gu (md_g8 gp gw mk) no)) - ((sr_sm gu (md_g4 gw) no) * (sr_sm gu (md_g3 gp mk) no))) + ((sr_sm gu (md_g5 gw) no) * (sr_sm gu (md_g2 gp mk) no))) * (sr_sm gu (md_g5 gw) no))), .long vT, .long (((((nI (sr_cu gu no)).toInt64) * (sr_sm gu (md_g6 gw) no)) - ((sr_sm gu (md_g4 gw) no) * (sr_sm gu (md_g4 gw) no))) - ((sr_sm gu (md_g5 gw) no) * (sr_sm gu (md_g5 gw) no))), .long ((nI (sr_cu gu no)).toInt64), .long vH, .ref ao, .ref ax, .int (nI np), .ref ay, .int (nI nl), .ref ad, .ref al, .int (nI sn), .ref ag, .int (nI ta), .int nb])), (ap, .inl (kp, 36, .inl gp)), (am, .inl (km, 20, .inl (md_mk mk))), (aw, .inl (kw, 60, .inl gw)), (az, .inl (kz, 20, .inl gz)), (au, .inl (ku, 20, .inl gu)), (ao, .inl (ko, 20, .inl ho)), (ax, .inl (kx, 20, .inl hx_))] := hD
          refine lv_aload_n hx hb d_MD_sets_335 rfl (lv_at hl 1 rfl) ?_
          refine lv_lload hx hb d_MD_sets_336 (lv_at hl 6 rfl) ?_
          refine lv_lload hx hb d_MD_sets_338 (lv_at hl 0 rfl) ?_
          refine lv_lmul hx hb d_MD_sets_340 ?_
          refine lv_aload_n hx hb d_MD_sets_341 rfl (lv_at hl 1 rfl) ?_
          refine va_get (D := (dC, dI)) (ci := 7) (v := .long (((((nI (sr_cu gu no)).toInt64) * (sr_sm gu (md_g8 gp gw mk) no)) - ((sr_sm gu (md_g4 gw) no) * (sr_sm gu (md_g3 gp mk) no))) + ((sr_sm gu (md_g5 gw) no) * (sr_sm gu (md_g2 gp mk) no)))) (C := xR_MD) (T := xT_MD) (N := 27) hx hb hts (fun w h => List.mem_cons_of_mem _ (iw_MD w h)) hown hK hP 0 rfl rfl 10 (by decide) (hts _ (List.mem_cons_of_mem _ wm_707)) (fun _ h9 => h9) rfl d_MD_sets_342 ?_
          refine lv_lload_n hx hb d_MD_sets_345 rfl (lv_at hl 3 rfl) ?_
          refine lv_lmul hx hb d_MD_sets_346 ?_
          refine lv_lsub hx hb d_MD_sets_347 ?_
          refine lv_aload_n hx hb d_MD_sets_348 rfl (lv_at hl 1 rfl) ?_
          refine va_get (D := (dC, dI)) (ci := 7) (v := .long (((((nI (sr_cu gu no)).toInt64) * (sr_sm gu (md_g7 gp gw mk) no)) - ((sr_sm gu (md_g4 gw) no) * (sr_sm gu (md_g2 gp mk) no))) - ((sr_sm gu (md_g5 gw) no) * (sr_sm gu (md_g3 gp mk) no)))) (C := xR_MD) (T := xT_MD) (N := 27) hx hb hts (fun w h => List.mem_cons_of_mem _ (iw_MD w h)) hown hK hP 0 rfl rfl 9 (by decide) (hts _ (List.mem_cons_of_mem _ wm_706)) (fun _ h9 => h9) rfl d_MD_sets_349 ?_
          refine lv_lload hx hb d_MD_sets_352 (lv_at hl 4 rfl) ?_
          refine lv_lmul hx hb d_MD_sets_354 ?_
          refine lv_lsub hx hb d_MD_sets_355 ?_
          refine va_put (D := (dC, dI)) (ci := 7) (v := .long ((((sr_sm gu (md_g3 gp mk) no) * (((((nI (sr_cu gu no)).toInt64) * (sr_sm gu (md_g6 gw) no)) - ((sr_sm gu (md_g4 gw) no) * (sr_sm gu (md_g4 gw) no))) - ((sr_sm gu (md_g5 gw) no) * (sr_sm gu (md_g5 gw) no)))) - ((((((nI (sr_cu gu no)).toInt64) * (sr_sm gu (md_g8 gp gw mk) no)) - ((sr_sm gu (md_g4 gw) no) * (sr_sm gu (md_g3 gp mk) no))) + ((sr_sm gu (md_g5 gw) no) * (sr_sm gu (md_g2 gp mk) no))) * (sr_sm gu (md_g4 gw) no))) - ((((((nI (sr_cu gu no)).toInt64) * (sr_sm gu (md_g7 gp gw mk) no)) - ((sr_sm gu (md_g4 gw) no) * (sr_sm gu (md_g2 gp mk) no))) - ((sr_sm gu (md_g5 gw) no) * (sr_sm gu (md_g3 gp mk) no))) * (sr_sm gu (md_g5 gw) no)))) (ty := .long) (C := xR_MD) (T := xT_MD) (N := 27) hx hb hts (fun w h => List.mem_cons_of_mem _ (iw_MD w h)) xt_MD xt_MD_ok xn_MD_nm hown hK hP hD hS 0 rfl rfl 12 (by decide) (hts _ (List.mem_cons_of_mem _ wm_709)) (fun _ h9 => h9) rfl (by decide +kernel) rfl rfl (Nat.le_of_ble_eq_true rfl) d_MD_sets_356 (fun H locs hP hD hS => ?_)
          have hP : va_P (dC, dI) xCl [(h0, .inr (7, [.int th, .int (nI nm), .ref ap, .int (nI no), .ref am, .ref aw, .ref az, .ref au, .int kn, .long (((((nI (sr_cu gu no)).toInt64) * (sr_sm gu (md_g7 gp gw mk) no)) - ((sr_sm gu (md_g4 gw) no) * (sr_sm gu (md_g2 gp mk) no))) - ((sr_sm gu (md_g5 gw) no) * (sr_sm gu (md_g3 gp mk) no))), .long (((((nI (sr_cu gu no)).toInt64) * (sr_sm gu (md_g8 gp gw mk) no)) - ((sr_sm gu (md_g4 gw) no) * (sr_sm gu (md_g3 gp mk) no))) + ((sr_sm gu (md_g5 gw) no) * (sr_sm gu (md_g2 gp mk) no))), .long ((((sr_sm gu (md_g2 gp mk) no) * (((((nI (sr_cu gu no)).toInt64) * (sr_sm gu (md_g6 gw) no)) - ((sr_sm gu (md_g4 gw) no) * (sr_sm gu (md_g4 gw) no))) - ((sr_sm gu (md_g5 gw) no) * (sr_sm gu (md_g5 gw) no)))) - ((((((nI (sr_cu gu no)).toInt64) * (sr_sm gu (md_g7 gp gw mk) no)) - ((sr_sm gu (md_g4 gw) no) * (sr_sm gu (md_g2 gp mk) no))) - ((sr_sm gu (md_g5 gw) no) * (sr_sm gu (md_g3 gp mk) no))) * (sr_sm gu (md_g4 gw) no))) + ((((((nI (sr_cu gu no)).toInt64) * (sr_sm gu (md_g8 gp gw mk) no)) - ((sr_sm gu (md_g4 gw) no) * (sr_sm gu (md_g3 gp mk) no))) + ((sr_sm gu (md_g5 gw) no) * (sr_sm gu (md_g2 gp mk) no))) * (sr_sm gu (md_g5 gw) no))), .long ((((sr_sm gu (md_g3 gp mk) no) * (((((nI (sr_cu gu no)).toInt64) * (sr_sm gu (md_g6 gw) no)) - ((sr_sm gu (md_g4 gw) no) * (sr_sm gu (md_g4 gw) no))) - ((sr_sm gu (md_g5 gw) no) * (sr_sm gu (md_g5 gw) no)))) - ((((((nI (sr_cu gu no)).toInt64) * (sr_sm gu (md_g8 gp gw mk) no)) - ((sr_sm gu (md_g4 gw) no) * (sr_sm gu (md_g3 gp mk) no))) + ((sr_sm gu (md_g5 gw) no) * (sr_sm gu (md_g2 gp mk) no))) * (sr_sm gu (md_g4 gw) no))) - ((((((nI (sr_cu gu no)).toInt64) * (sr_sm gu (md_g7 gp gw mk) no)) - ((sr_sm gu (md_g4 gw) no) * (sr_sm gu (md_g2 gp mk) no))) - ((sr_sm gu (md_g5 gw) no) * (sr_sm gu (md_g3 gp mk) no))) * (sr_sm gu (md_g5 gw) no))), .long (((((nI (sr_cu gu no)).toInt64) * (sr_sm gu (md_g6 gw) no)) - ((sr_sm gu (md_g4 gw) no) * (sr_sm gu (md_g4 gw) no))) - ((sr_sm gu (md_g5 gw) no) * (sr_sm gu (md_g5 gw) no))), .long ((nI (sr_cu gu no)).toInt64), .long vH, .ref ao, .ref ax, .int (nI np), .ref ay, .int (nI nl), .ref ad, .ref al, .int (nI sn), .ref ag, .int (nI ta), .int nb])), (ap, .inl (kp, 36, .inl gp)), (am, .inl (km, 20, .inl (md_mk mk))), (aw, .inl (kw, 60, .inl gw)), (az, .inl (kz, 20, .inl gz)), (au, .inl (ku, 20, .inl gu)), (ao, .inl (ko, 20, .inl ho)), (ax, .inl (kx, 20, .inl hx_))] H := hP
          have hD : va_D A [(h0, .inr (7, [.int th, .int (nI nm), .ref ap, .int (nI no), .ref am, .ref aw, .ref az, .ref au, .int kn, .long (((((nI (sr_cu gu no)).toInt64) * (sr_sm gu (md_g7 gp gw mk) no)) - ((sr_sm gu (md_g4 gw) no) * (sr_sm gu (md_g2 gp mk) no))) - ((sr_sm gu (md_g5 gw) no) * (sr_sm gu (md_g3 gp mk) no))), .long (((((nI (sr_cu gu no)).toInt64) * (sr_sm gu (md_g8 gp gw mk) no)) - ((sr_sm gu (md_g4 gw) no) * (sr_sm gu (md_g3 gp mk) no))) + ((sr_sm gu (md_g5 gw) no) * (sr_sm gu (md_g2 gp mk) no))), .long ((((sr_sm gu (md_g2 gp mk) no) * (((((nI (sr_cu gu no)).toInt64) * (sr_sm gu (md_g6 gw) no)) - ((sr_sm gu (md_g4 gw) no) * (sr_sm gu (md_g4 gw) no))) - ((sr_sm gu (md_g5 gw) no) * (sr_sm gu (md_g5 gw) no)))) - ((((((nI (sr_cu gu no)).toInt64) * (sr_sm gu (md_g7 gp gw mk) no)) - ((sr_sm gu (md_g4 gw) no) * (sr_sm gu (md_g2 gp mk) no))) - ((sr_sm gu (md_g5 gw) no) * (sr_sm gu (md_g3 gp mk) no))) * (sr_sm gu (md_g4 gw) no))) + ((((((nI (sr_cu gu no)).toInt64) * (sr_sm gu (md_g8 gp gw mk) no)) - ((sr_sm gu (md_g4 gw) no) * (sr_sm gu (md_g3 gp mk) no))) + ((sr_sm gu (md_g5 gw) no) * (sr_sm gu (md_g2 gp mk) no))) * (sr_sm gu (md_g5 gw) no))), .long ((((sr_sm gu (md_g3 gp mk) no) * (((((nI (sr_cu gu no)).toInt64) * (sr_sm gu (md_g6 gw) no)) - ((sr_sm gu (md_g4 gw) no) * (sr_sm gu (md_g4 gw) no))) - ((sr_sm gu (md_g5 gw) no) * (sr_sm gu (md_g5 gw) no)))) - ((((((nI (sr_cu gu no)).toInt64) * (sr_sm gu (md_g8 gp gw mk) no)) - ((sr_sm gu (md_g4 gw) no) * (sr_sm gu (md_g3 gp mk) no))) + ((sr_sm gu (md_g5 gw) no) * (sr_sm gu (md_g2 gp mk) no))) * (sr_sm gu (md_g4 gw) no))) - ((((((nI (sr_cu gu no)).toInt64) * (sr_sm gu (md_g7 gp gw mk) no)) - ((sr_sm gu (md_g4 gw) no) * (sr_sm gu (md_g2 gp mk) no))) - ((sr_sm gu (md_g5 gw) no) * (sr_sm gu (md_g3 gp mk) no))) * (sr_sm gu (md_g5 gw) no))), .long (((((nI (sr_cu gu no)).toInt64) * (sr_sm gu (md_g6 gw) no)) - ((sr_sm gu (md_g4 gw) no) * (sr_sm gu (md_g4 gw) no))) - ((sr_sm gu (md_g5 gw) no) * (sr_sm gu (md_g5 gw) no))), .long ((nI (sr_cu gu no)).toInt64), .long vH, .ref ao, .ref ax, .int (nI np), .ref ay, .int (nI nl), .ref ad, .ref al, .int (nI sn), .ref ag, .int (nI ta), .int nb])), (ap, .inl (kp, 36, .inl gp)), (am, .inl (km, 20, .inl (md_mk mk))), (aw, .inl (kw, 60, .inl gw)), (az, .inl (kz, 20, .inl gz)), (au, .inl (ku, 20, .inl gu)), (ao, .inl (ko, 20, .inl ho)), (ax, .inl (kx, 20, .inl hx_))] := hD
          refine lv_aload_n hx hb d_MD_sets_359 rfl (lv_at hl 1 rfl) ?_
          refine lv_lload hx hb d_MD_sets_360 (lv_at hl 10 rfl) ?_
          refine lv_lload_n hx hb d_MD_sets_362 rfl (lv_at hl 2 rfl) ?_
          refine xr_calll (va_runS (As := [.long (sr_sm gu (md_g9 gp gw gz mk) no), .long ((nI (sr_cu gu no)).toInt64)]) (rest := [.ref h0]) ⟨hx, hb, hml, hown, hts⟩ (c_MD_down l dC dI (sr_sm gu (md_g9 gp gw gz mk) no) ((nI (sr_cu gu no)).toInt64) (by first | assumption | omega | decide)) (va_cwS 2 hts (xgS wm_829 wm_830 wm_34 wm_831) rfl rfl rfl (by decide +kernel) ⟨Nat.le_of_ble_eq_true rfl, Nat.le_of_ble_eq_true rfl⟩) ⟨xp_blind, fun U hU hW => ⟨rfl, hz.warm hW, by rw [hU]; exact hP.sub [] rfl, va_K.moved hW.alike (hK.sub [] rfl)⟩⟩ rfl rfl hl.1 rfl (lv_room (Nat.le_of_ble_eq_true rfl)) d_MD_sets_363 ⟨Nat.le_of_ble_eq_true rfl, Nat.le_of_ble_eq_true rfl⟩) (fun r_7 h_8 => ?_)
          subst h_8
          refine va_put (D := (dC, dI)) (ci := 7) (v := .long (sr_fd (sr_sm gu (md_g9 gp gw gz mk) no) ((nI (sr_cu gu no)).toInt64))) (ty := .long) (C := xR_MD) (T := xT_MD) (N := 27) hx hb hts (fun w h => List.mem_cons_of_mem _ (iw_MD w h)) xt_MD xt_MD_ok xn_MD_nm hown hK hP hD hS 0 rfl rfl 15 (by decide) (hts _ (List.mem_cons_of_mem _ wm_712)) (fun _ h9 => h9) rfl (by decide +kernel) rfl rfl (Nat.le_of_ble_eq_true rfl) d_MD_sets_366 (fun H locs hP hD hS => ?_)
          have hP : va_P (dC, dI) xCl [(h0, .inr (7, [.int th, .int (nI nm), .ref ap, .int (nI no), .ref am, .ref aw, .ref az, .ref au, .int kn, .long (((((nI (sr_cu gu no)).toInt64) * (sr_sm gu (md_g7 gp gw mk) no)) - ((sr_sm gu (md_g4 gw) no) * (sr_sm gu (md_g2 gp mk) no))) - ((sr_sm gu (md_g5 gw) no) * (sr_sm gu (md_g3 gp mk) no))), .long (((((nI (sr_cu gu no)).toInt64) * (sr_sm gu (md_g8 gp gw mk) no)) - ((sr_sm gu (md_g4 gw) no) * (sr_sm gu (md_g3 gp mk) no))) + ((sr_sm gu (md_g5 gw) no) * (sr_sm gu (md_g2 gp mk) no))), .long ((((sr_sm gu (md_g2 gp mk) no) * (((((nI (sr_cu gu no)).toInt64) * (sr_sm gu (md_g6 gw) no)) - ((sr_sm gu (md_g4 gw) no) * (sr_sm gu (md_g4 gw) no))) - ((sr_sm gu (md_g5 gw) no) * (sr_sm gu (md_g5 gw) no)))) - ((((((nI (sr_cu gu no)).toInt64) * (sr_sm gu (md_g7 gp gw mk) no)) - ((sr_sm gu (md_g4 gw) no) * (sr_sm gu (md_g2 gp mk) no))) - ((sr_sm gu (md_g5 gw) no) * (sr_sm gu (md_g3 gp mk) no))) * (sr_sm gu (md_g4 gw) no))) + ((((((nI (sr_cu gu no)).toInt64) * (sr_sm gu (md_g8 gp gw mk) no)) - ((sr_sm gu (md_g4 gw) no) * (sr_sm gu (md_g3 gp mk) no))) + ((sr_sm gu (md_g5 gw) no) * (sr_sm gu (md_g2 gp mk) no))) * (sr_sm gu (md_g5 gw) no))), .long ((((sr_sm gu (md_g3 gp mk) no) * (((((nI (sr_cu gu no)).toInt64) * (sr_sm gu (md_g6 gw) no)) - ((sr_sm gu (md_g4 gw) no) * (sr_sm gu (md_g4 gw) no))) - ((sr_sm gu (md_g5 gw) no) * (sr_sm gu (md_g5 gw) no)))) - ((((((nI (sr_cu gu no)).toInt64) * (sr_sm gu (md_g8 gp gw mk) no)) - ((sr_sm gu (md_g4 gw) no) * (sr_sm gu (md_g3 gp mk) no))) + ((sr_sm gu (md_g5 gw) no) * (sr_sm gu (md_g2 gp mk) no))) * (sr_sm gu (md_g4 gw) no))) - ((((((nI (sr_cu gu no)).toInt64) * (sr_sm gu (md_g7 gp gw mk) no)) - ((sr_sm gu (md_g4 gw) no) * (sr_sm gu (md_g2 gp mk) no))) - ((sr_sm gu (md_g5 gw) no) * (sr_sm gu (md_g3 gp mk) no))) * (sr_sm gu (md_g5 gw) no))), .long (((((nI (sr_cu gu no)).toInt64) * (sr_sm gu (md_g6 gw) no)) - ((sr_sm gu (md_g4 gw) no) * (sr_sm gu (md_g4 gw) no))) - ((sr_sm gu (md_g5 gw) no) * (sr_sm gu (md_g5 gw) no))), .long ((nI (sr_cu gu no)).toInt64), .long (sr_fd (sr_sm gu (md_g9 gp gw gz mk) no) ((nI (sr_cu gu no)).toInt64)), .ref ao, .ref ax, .int (nI np), .ref ay, .int (nI nl), .ref ad, .ref al, .int (nI sn), .ref ag, .int (nI ta), .int nb])), (ap, .inl (kp, 36, .inl gp)), (am, .inl (km, 20, .inl (md_mk mk))), (aw, .inl (kw, 60, .inl gw)), (az, .inl (kz, 20, .inl gz)), (au, .inl (ku, 20, .inl gu)), (ao, .inl (ko, 20, .inl ho)), (ax, .inl (kx, 20, .inl hx_))] H := hP
          have hD : va_D A [(h0, .inr (7, [.int th, .int (nI nm), .ref ap, .int (nI no), .ref am, .ref aw, .ref az, .ref au, .int kn, .long (((((nI (sr_cu gu no)).toInt64) * (sr_sm gu (md_g7 gp gw mk) no)) - ((sr_sm gu (md_g4 gw) no) * (sr_sm gu (md_g2 gp mk) no))) - ((sr_sm gu (md_g5 gw) no) * (sr_sm gu (md_g3 gp mk) no))), .long (((((nI (sr_cu gu no)).toInt64) * (sr_sm gu (md_g8 gp gw mk) no)) - ((sr_sm gu (md_g4 gw) no) * (sr_sm gu (md_g3 gp mk) no))) + ((sr_sm gu (md_g5 gw) no) * (sr_sm gu (md_g2 gp mk) no))), .long ((((sr_sm gu (md_g2 gp mk) no) * (((((nI (sr_cu gu no)).toInt64) * (sr_sm gu (md_g6 gw) no)) - ((sr_sm gu (md_g4 gw) no) * (sr_sm gu (md_g4 gw) no))) - ((sr_sm gu (md_g5 gw) no) * (sr_sm gu (md_g5 gw) no)))) - ((((((nI (sr_cu gu no)).toInt64) * (sr_sm gu (md_g7 gp gw mk) no)) - ((sr_sm gu (md_g4 gw) no) * (sr_sm gu (md_g2 gp mk) no))) - ((sr_sm gu (md_g5 gw) no) * (sr_sm gu (md_g3 gp mk) no))) * (sr_sm gu (md_g4 gw) no))) + ((((((nI (sr_cu gu no)).toInt64) * (sr_sm gu (md_g8 gp gw mk) no)) - ((sr_sm gu (md_g4 gw) no) * (sr_sm gu (md_g3 gp mk) no))) + ((sr_sm gu (md_g5 gw) no) * (sr_sm gu (md_g2 gp mk) no))) * (sr_sm gu (md_g5 gw) no))), .long ((((sr_sm gu (md_g3 gp mk) no) * (((((nI (sr_cu gu no)).toInt64) * (sr_sm gu (md_g6 gw) no)) - ((sr_sm gu (md_g4 gw) no) * (sr_sm gu (md_g4 gw) no))) - ((sr_sm gu (md_g5 gw) no) * (sr_sm gu (md_g5 gw) no)))) - ((((((nI (sr_cu gu no)).toInt64) * (sr_sm gu (md_g8 gp gw mk) no)) - ((sr_sm gu (md_g4 gw) no) * (sr_sm gu (md_g3 gp mk) no))) + ((sr_sm gu (md_g5 gw) no) * (sr_sm gu (md_g2 gp mk) no))) * (sr_sm gu (md_g4 gw) no))) - ((((((nI (sr_cu gu no)).toInt64) * (sr_sm gu (md_g7 gp gw mk) no)) - ((sr_sm gu (md_g4 gw) no) * (sr_sm gu (md_g2 gp mk) no))) - ((sr_sm gu (md_g5 gw) no) * (sr_sm gu (md_g3 gp mk) no))) * (sr_sm gu (md_g5 gw) no))), .long (((((nI (sr_cu gu no)).toInt64) * (sr_sm gu (md_g6 gw) no)) - ((sr_sm gu (md_g4 gw) no) * (sr_sm gu (md_g4 gw) no))) - ((sr_sm gu (md_g5 gw) no) * (sr_sm gu (md_g5 gw) no))), .long ((nI (sr_cu gu no)).toInt64), .long (sr_fd (sr_sm gu (md_g9 gp gw gz mk) no) ((nI (sr_cu gu no)).toInt64)), .ref ao, .ref ax, .int (nI np), .ref ay, .int (nI nl), .ref ad, .ref al, .int (nI sn), .ref ag, .int (nI ta), .int nb])), (ap, .inl (kp, 36, .inl gp)), (am, .inl (km, 20, .inl (md_mk mk))), (aw, .inl (kw, 60, .inl gw)), (az, .inl (kz, 20, .inl gz)), (au, .inl (ku, 20, .inl gu)), (ao, .inl (ko, 20, .inl ho)), (ax, .inl (kx, 20, .inl hx_))] := hD
          refine lv_aload_n hx hb d_MD_sets_369 rfl (lv_at hl 1 rfl) ?_
          refine lv_aload_n hx hb d_MD_sets_370 rfl (lv_at hl 1 rfl) ?_
          refine va_get (D := (dC, dI)) (ci := 7) (v := .int (nI no)) (C := xR_MD) (T := xT_MD) (N := 27) hx hb hts (fun w h => List.mem_cons_of_mem _ (iw_MD w h)) hown hK hP 0 rfl rfl 3 (by decide) (hts _ (List.mem_cons_of_mem _ wm_700)) (fun _ h9 => h9) rfl d_MD_sets_371 ?_
          refine va_put (D := (dC, dI)) (ci := 7) (v := .int (nI no)) (ty := .int) (C := xR_MD) (T := xT_MD) (N := 27) hx hb hts (fun w h => List.mem_cons_of_mem _ (iw_MD w h)) xt_MD xt_MD_ok xn_MD_nm hown hK hP hD hS 0 rfl rfl 8 (by decide) (hts _ (List.mem_cons_of_mem _ wm_705)) (fun _ h9 => h9) rfl (by decide +kernel) rfl rfl (Nat.le_of_ble_eq_true rfl) d_MD_sets_374 (fun H locs hP hD hS => ?_)
          have hP : va_P (dC, dI) xCl [(h0, .inr (7, [.int th, .int (nI nm), .ref ap, .int (nI no), .ref am, .ref aw, .ref az, .ref au, .int (nI no), .long (((((nI (sr_cu gu no)).toInt64) * (sr_sm gu (md_g7 gp gw mk) no)) - ((sr_sm gu (md_g4 gw) no) * (sr_sm gu (md_g2 gp mk) no))) - ((sr_sm gu (md_g5 gw) no) * (sr_sm gu (md_g3 gp mk) no))), .long (((((nI (sr_cu gu no)).toInt64) * (sr_sm gu (md_g8 gp gw mk) no)) - ((sr_sm gu (md_g4 gw) no) * (sr_sm gu (md_g3 gp mk) no))) + ((sr_sm gu (md_g5 gw) no) * (sr_sm gu (md_g2 gp mk) no))), .long ((((sr_sm gu (md_g2 gp mk) no) * (((((nI (sr_cu gu no)).toInt64) * (sr_sm gu (md_g6 gw) no)) - ((sr_sm gu (md_g4 gw) no) * (sr_sm gu (md_g4 gw) no))) - ((sr_sm gu (md_g5 gw) no) * (sr_sm gu (md_g5 gw) no)))) - ((((((nI (sr_cu gu no)).toInt64) * (sr_sm gu (md_g7 gp gw mk) no)) - ((sr_sm gu (md_g4 gw) no) * (sr_sm gu (md_g2 gp mk) no))) - ((sr_sm gu (md_g5 gw) no) * (sr_sm gu (md_g3 gp mk) no))) * (sr_sm gu (md_g4 gw) no))) + ((((((nI (sr_cu gu no)).toInt64) * (sr_sm gu (md_g8 gp gw mk) no)) - ((sr_sm gu (md_g4 gw) no) * (sr_sm gu (md_g3 gp mk) no))) + ((sr_sm gu (md_g5 gw) no) * (sr_sm gu (md_g2 gp mk) no))) * (sr_sm gu (md_g5 gw) no))), .long ((((sr_sm gu (md_g3 gp mk) no) * (((((nI (sr_cu gu no)).toInt64) * (sr_sm gu (md_g6 gw) no)) - ((sr_sm gu (md_g4 gw) no) * (sr_sm gu (md_g4 gw) no))) - ((sr_sm gu (md_g5 gw) no) * (sr_sm gu (md_g5 gw) no)))) - ((((((nI (sr_cu gu no)).toInt64) * (sr_sm gu (md_g8 gp gw mk) no)) - ((sr_sm gu (md_g4 gw) no) * (sr_sm gu (md_g3 gp mk) no))) + ((sr_sm gu (md_g5 gw) no) * (sr_sm gu (md_g2 gp mk) no))) * (sr_sm gu (md_g4 gw) no))) - ((((((nI (sr_cu gu no)).toInt64) * (sr_sm gu (md_g7 gp gw mk) no)) - ((sr_sm gu (md_g4 gw) no) * (sr_sm gu (md_g2 gp mk) no))) - ((sr_sm gu (md_g5 gw) no) * (sr_sm gu (md_g3 gp mk) no))) * (sr_sm gu (md_g5 gw) no))), .long (((((nI (sr_cu gu no)).toInt64) * (sr_sm gu (md_g6 gw) no)) - ((sr_sm gu (md_g4 gw) no) * (sr_sm gu (md_g4 gw) no))) - ((sr_sm gu (md_g5 gw) no) * (sr_sm gu (md_g5 gw) no))), .long ((nI (sr_cu gu no)).toInt64), .long (sr_fd (sr_sm gu (md_g9 gp gw gz mk) no) ((nI (sr_cu gu no)).toInt64)), .ref ao, .ref ax, .int (nI np), .ref ay, .int (nI nl), .ref ad, .ref al, .int (nI sn), .ref ag, .int (nI ta), .int nb])), (ap, .inl (kp, 36, .inl gp)), (am, .inl (km, 20, .inl (md_mk mk))), (aw, .inl (kw, 60, .inl gw)), (az, .inl (kz, 20, .inl gz)), (au, .inl (ku, 20, .inl gu)), (ao, .inl (ko, 20, .inl ho)), (ax, .inl (kx, 20, .inl hx_))] H := hP
          have hD : va_D A [(h0, .inr (7, [.int th, .int (nI nm), .ref ap, .int (nI no), .ref am, .ref aw, .ref az, .ref au, .int (nI no), .long (((((nI (sr_cu gu no)).toInt64) * (sr_sm gu (md_g7 gp gw mk) no)) - ((sr_sm gu (md_g4 gw) no) * (sr_sm gu (md_g2 gp mk) no))) - ((sr_sm gu (md_g5 gw) no) * (sr_sm gu (md_g3 gp mk) no))), .long (((((nI (sr_cu gu no)).toInt64) * (sr_sm gu (md_g8 gp gw mk) no)) - ((sr_sm gu (md_g4 gw) no) * (sr_sm gu (md_g3 gp mk) no))) + ((sr_sm gu (md_g5 gw) no) * (sr_sm gu (md_g2 gp mk) no))), .long ((((sr_sm gu (md_g2 gp mk) no) * (((((nI (sr_cu gu no)).toInt64) * (sr_sm gu (md_g6 gw) no)) - ((sr_sm gu (md_g4 gw) no) * (sr_sm gu (md_g4 gw) no))) - ((sr_sm gu (md_g5 gw) no) * (sr_sm gu (md_g5 gw) no)))) - ((((((nI (sr_cu gu no)).toInt64) * (sr_sm gu (md_g7 gp gw mk) no)) - ((sr_sm gu (md_g4 gw) no) * (sr_sm gu (md_g2 gp mk) no))) - ((sr_sm gu (md_g5 gw) no) * (sr_sm gu (md_g3 gp mk) no))) * (sr_sm gu (md_g4 gw) no))) + ((((((nI (sr_cu gu no)).toInt64) * (sr_sm gu (md_g8 gp gw mk) no)) - ((sr_sm gu (md_g4 gw) no) * (sr_sm gu (md_g3 gp mk) no))) + ((sr_sm gu (md_g5 gw) no) * (sr_sm gu (md_g2 gp mk) no))) * (sr_sm gu (md_g5 gw) no))), .long ((((sr_sm gu (md_g3 gp mk) no) * (((((nI (sr_cu gu no)).toInt64) * (sr_sm gu (md_g6 gw) no)) - ((sr_sm gu (md_g4 gw) no) * (sr_sm gu (md_g4 gw) no))) - ((sr_sm gu (md_g5 gw) no) * (sr_sm gu (md_g5 gw) no)))) - ((((((nI (sr_cu gu no)).toInt64) * (sr_sm gu (md_g8 gp gw mk) no)) - ((sr_sm gu (md_g4 gw) no) * (sr_sm gu (md_g3 gp mk) no))) + ((sr_sm gu (md_g5 gw) no) * (sr_sm gu (md_g2 gp mk) no))) * (sr_sm gu (md_g4 gw) no))) - ((((((nI (sr_cu gu no)).toInt64) * (sr_sm gu (md_g7 gp gw mk) no)) - ((sr_sm gu (md_g4 gw) no) * (sr_sm gu (md_g2 gp mk) no))) - ((sr_sm gu (md_g5 gw) no) * (sr_sm gu (md_g3 gp mk) no))) * (sr_sm gu (md_g5 gw) no))), .long (((((nI (sr_cu gu no)).toInt64) * (sr_sm gu (md_g6 gw) no)) - ((sr_sm gu (md_g4 gw) no) * (sr_sm gu (md_g4 gw) no))) - ((sr_sm gu (md_g5 gw) no) * (sr_sm gu (md_g5 gw) no))), .long ((nI (sr_cu gu no)).toInt64), .long (sr_fd (sr_sm gu (md_g9 gp gw gz mk) no) ((nI (sr_cu gu no)).toInt64)), .ref ao, .ref ax, .int (nI np), .ref ay, .int (nI nl), .ref ad, .ref al, .int (nI sn), .ref ag, .int (nI ta), .int nb])), (ap, .inl (kp, 36, .inl gp)), (am, .inl (km, 20, .inl (md_mk mk))), (aw, .inl (kw, 60, .inl gw)), (az, .inl (kz, 20, .inl gz)), (au, .inl (ku, 20, .inl gu)), (ao, .inl (ko, 20, .inl ho)), (ax, .inl (kx, 20, .inl hx_))] := hD
          refine lv_iconst (v := 0) hx hb d_MD_sets_377 (by decide) ?_
          refine lv_istore (lv' := [(21, .int 0), (19, .long (((((nI (sr_cu gu no)).toInt64) * (sr_sm gu (md_g6 gw) no)) - ((sr_sm gu (md_g4 gw) no) * (sr_sm gu (md_g4 gw) no))) - ((sr_sm gu (md_g5 gw) no) * (sr_sm gu (md_g5 gw) no)))), (0, .ref h0), (1, .long ((nI (sr_cu gu no)).toInt64)), (3, .long (sr_sm gu (md_g4 gw) no)), (5, .long (sr_sm gu (md_g5 gw) no)), (7, .long (sr_sm gu (md_g2 gp mk) no)), (9, .long (sr_sm gu (md_g3 gp mk) no)), (11, .long (sr_sm gu (md_g6 gw) no)), (13, .long (sr_sm gu (md_g7 gp gw mk) no)), (15, .long (sr_sm gu (md_g8 gp gw mk) no)), (17, .long (sr_sm gu (md_g9 gp gw gz mk) no))]) hx hb d_MD_sets_378 hl (by decide) rfl (fun ls hl => ?_)
          have lp380 : ∀ (fuel : Nat) (j : Nat) (z1 : Nat → Int32) (z2 : Nat → Int32), 20 - j < fuel → j ≤ 20 → z1 = sr_cp j gz ho → z2 = sr_cp j gu hx_ → ∀ (H : Heap) (locs : List Loc), va_P (dC, dI) xCl [(h0, .inr (7, [.int th, .int (nI nm), .ref ap, .int (nI no), .ref am, .ref aw, .ref az, .ref au, .int (nI no), .long (sr_cosine ((nI (sr_cu gu no)).toInt64) (sr_sm gu (md_g2 gp mk) no) (sr_sm gu (md_g3 gp mk) no) (sr_sm gu (md_g4 gw) no) (sr_sm gu (md_g5 gw) no) (sr_sm gu (md_g7 gp gw mk) no)), .long (sr_sine ((nI (sr_cu gu no)).toInt64) (sr_sm gu (md_g2 gp mk) no) (sr_sm gu (md_g3 gp mk) no) (sr_sm gu (md_g4 gw) no) (sr_sm gu (md_g5 gw) no) (sr_sm gu (md_g8 gp gw mk) no)), .long (sr_sm gu (md_g2 gp mk) no * sr_spread ((nI (sr_cu gu no)).toInt64) (sr_sm gu (md_g4 gw) no) (sr_sm gu (md_g5 gw) no) (sr_sm gu (md_g6 gw) no) - sr_cosine ((nI (sr_cu gu no)).toInt64) (sr_sm gu (md_g2 gp mk) no) (sr_sm gu (md_g3 gp mk) no) (sr_sm gu (md_g4 gw) no) (sr_sm gu (md_g5 gw) no) (sr_sm gu (md_g7 gp gw mk) no) * sr_sm gu (md_g4 gw) no + sr_sine ((nI (sr_cu gu no)).toInt64) (sr_sm gu (md_g2 gp mk) no) (sr_sm gu (md_g3 gp mk) no) (sr_sm gu (md_g4 gw) no) (sr_sm gu (md_g5 gw) no) (sr_sm gu (md_g8 gp gw mk) no) * sr_sm gu (md_g5 gw) no), .long (sr_sm gu (md_g3 gp mk) no * sr_spread ((nI (sr_cu gu no)).toInt64) (sr_sm gu (md_g4 gw) no) (sr_sm gu (md_g5 gw) no) (sr_sm gu (md_g6 gw) no) - sr_sine ((nI (sr_cu gu no)).toInt64) (sr_sm gu (md_g2 gp mk) no) (sr_sm gu (md_g3 gp mk) no) (sr_sm gu (md_g4 gw) no) (sr_sm gu (md_g5 gw) no) (sr_sm gu (md_g8 gp gw mk) no) * sr_sm gu (md_g4 gw) no - sr_cosine ((nI (sr_cu gu no)).toInt64) (sr_sm gu (md_g2 gp mk) no) (sr_sm gu (md_g3 gp mk) no) (sr_sm gu (md_g4 gw) no) (sr_sm gu (md_g5 gw) no) (sr_sm gu (md_g7 gp gw mk) no) * sr_sm gu (md_g5 gw) no), .long (sr_spread ((nI (sr_cu gu no)).toInt64) (sr_sm gu (md_g4 gw) no) (sr_sm gu (md_g5 gw) no) (sr_sm gu (md_g6 gw) no)), .long ((nI (sr_cu gu no)).toInt64), .long (sr_fd (sr_sm gu (md_g9 gp gw gz mk) no) ((nI (sr_cu gu no)).toInt64)), .ref ao, .ref ax, .int (nI np), .ref ay, .int (nI nl), .ref ad, .ref al, .int (nI sn), .ref ag, .int (nI ta), .int nb])), (ap, .inl (kp, 36, .inl gp)), (am, .inl (km, 20, .inl (md_mk mk))), (aw, .inl (kw, 60, .inl gw)), (az, .inl (kz, 20, .inl gz)), (au, .inl (ku, 20, .inl gu)), (ao, .inl (ko, 20, .inl z1)), (ax, .inl (kx, 20, .inl z2))] H → va_D A [(h0, .inr (7, [.int th, .int (nI nm), .ref ap, .int (nI no), .ref am, .ref aw, .ref az, .ref au, .int (nI no), .long (sr_cosine ((nI (sr_cu gu no)).toInt64) (sr_sm gu (md_g2 gp mk) no) (sr_sm gu (md_g3 gp mk) no) (sr_sm gu (md_g4 gw) no) (sr_sm gu (md_g5 gw) no) (sr_sm gu (md_g7 gp gw mk) no)), .long (sr_sine ((nI (sr_cu gu no)).toInt64) (sr_sm gu (md_g2 gp mk) no) (sr_sm gu (md_g3 gp mk) no) (sr_sm gu (md_g4 gw) no) (sr_sm gu (md_g5 gw) no) (sr_sm gu (md_g8 gp gw mk) no)), .long (sr_sm gu (md_g2 gp mk) no * sr_spread ((nI (sr_cu gu no)).toInt64) (sr_sm gu (md_g4 gw) no) (sr_sm gu (md_g5 gw) no) (sr_sm gu (md_g6 gw) no) - sr_cosine ((nI (sr_cu gu no)).toInt64) (sr_sm gu (md_g2 gp mk) no) (sr_sm gu (md_g3 gp mk) no) (sr_sm gu (md_g4 gw) no) (sr_sm gu (md_g5 gw) no) (sr_sm gu (md_g7 gp gw mk) no) * sr_sm gu (md_g4 gw) no + sr_sine ((nI (sr_cu gu no)).toInt64) (sr_sm gu (md_g2 gp mk) no) (sr_sm gu (md_g3 gp mk) no) (sr_sm gu (md_g4 gw) no) (sr_sm gu (md_g5 gw) no) (sr_sm gu (md_g8 gp gw mk) no) * sr_sm gu (md_g5 gw) no), .long (sr_sm gu (md_g3 gp mk) no * sr_spread ((nI (sr_cu gu no)).toInt64) (sr_sm gu (md_g4 gw) no) (sr_sm gu (md_g5 gw) no) (sr_sm gu (md_g6 gw) no) - sr_sine ((nI (sr_cu gu no)).toInt64) (sr_sm gu (md_g2 gp mk) no) (sr_sm gu (md_g3 gp mk) no) (sr_sm gu (md_g4 gw) no) (sr_sm gu (md_g5 gw) no) (sr_sm gu (md_g8 gp gw mk) no) * sr_sm gu (md_g4 gw) no - sr_cosine ((nI (sr_cu gu no)).toInt64) (sr_sm gu (md_g2 gp mk) no) (sr_sm gu (md_g3 gp mk) no) (sr_sm gu (md_g4 gw) no) (sr_sm gu (md_g5 gw) no) (sr_sm gu (md_g7 gp gw mk) no) * sr_sm gu (md_g5 gw) no), .long (sr_spread ((nI (sr_cu gu no)).toInt64) (sr_sm gu (md_g4 gw) no) (sr_sm gu (md_g5 gw) no) (sr_sm gu (md_g6 gw) no)), .long ((nI (sr_cu gu no)).toInt64), .long (sr_fd (sr_sm gu (md_g9 gp gw gz mk) no) ((nI (sr_cu gu no)).toInt64)), .ref ao, .ref ax, .int (nI np), .ref ay, .int (nI nl), .ref ad, .ref al, .int (nI sn), .ref ag, .int (nI ta), .int nb])), (ap, .inl (kp, 36, .inl gp)), (am, .inl (km, 20, .inl (md_mk mk))), (aw, .inl (kw, 60, .inl gw)), (az, .inl (kz, 20, .inl gz)), (au, .inl (ku, 20, .inl gu)), (ao, .inl (ko, 20, .inl z1)), (ax, .inl (kx, 20, .inl z2))] → va_S A s.heap H locs → ∀ (ls : Array Slot), lv_has ls 28 [(0, .ref h0), (21, .int (nI j))] → W p l e (headSpec xw_MD_sets ({ frames := 1, cells := 0, slots := 0, locals := 25 })).room s m ([.ref h0] : List Value).toArray below meth c H locs 0 0 (MQ below (va_Qi (fun (r : Int32) (_ : Unit) => r = 1) (fun _ t => xb_w (dC, dI) xCl [(h0, .inr (7, [.int th, .int (nI nm), .ref ap, .int (nI no), .ref am, .ref aw, .ref az, .ref au, .int (nI no), .long (sr_cosine ((nI (sr_cu gu no)).toInt64) (sr_sm gu (md_g2 gp mk) no) (sr_sm gu (md_g3 gp mk) no) (sr_sm gu (md_g4 gw) no) (sr_sm gu (md_g5 gw) no) (sr_sm gu (md_g7 gp gw mk) no)), .long (sr_sine ((nI (sr_cu gu no)).toInt64) (sr_sm gu (md_g2 gp mk) no) (sr_sm gu (md_g3 gp mk) no) (sr_sm gu (md_g4 gw) no) (sr_sm gu (md_g5 gw) no) (sr_sm gu (md_g8 gp gw mk) no)), .long (sr_sm gu (md_g2 gp mk) no * sr_spread ((nI (sr_cu gu no)).toInt64) (sr_sm gu (md_g4 gw) no) (sr_sm gu (md_g5 gw) no) (sr_sm gu (md_g6 gw) no) - sr_cosine ((nI (sr_cu gu no)).toInt64) (sr_sm gu (md_g2 gp mk) no) (sr_sm gu (md_g3 gp mk) no) (sr_sm gu (md_g4 gw) no) (sr_sm gu (md_g5 gw) no) (sr_sm gu (md_g7 gp gw mk) no) * sr_sm gu (md_g4 gw) no + sr_sine ((nI (sr_cu gu no)).toInt64) (sr_sm gu (md_g2 gp mk) no) (sr_sm gu (md_g3 gp mk) no) (sr_sm gu (md_g4 gw) no) (sr_sm gu (md_g5 gw) no) (sr_sm gu (md_g8 gp gw mk) no) * sr_sm gu (md_g5 gw) no), .long (sr_sm gu (md_g3 gp mk) no * sr_spread ((nI (sr_cu gu no)).toInt64) (sr_sm gu (md_g4 gw) no) (sr_sm gu (md_g5 gw) no) (sr_sm gu (md_g6 gw) no) - sr_sine ((nI (sr_cu gu no)).toInt64) (sr_sm gu (md_g2 gp mk) no) (sr_sm gu (md_g3 gp mk) no) (sr_sm gu (md_g4 gw) no) (sr_sm gu (md_g5 gw) no) (sr_sm gu (md_g8 gp gw mk) no) * sr_sm gu (md_g4 gw) no - sr_cosine ((nI (sr_cu gu no)).toInt64) (sr_sm gu (md_g2 gp mk) no) (sr_sm gu (md_g3 gp mk) no) (sr_sm gu (md_g4 gw) no) (sr_sm gu (md_g5 gw) no) (sr_sm gu (md_g7 gp gw mk) no) * sr_sm gu (md_g5 gw) no), .long (sr_spread ((nI (sr_cu gu no)).toInt64) (sr_sm gu (md_g4 gw) no) (sr_sm gu (md_g5 gw) no) (sr_sm gu (md_g6 gw) no)), .long ((nI (sr_cu gu no)).toInt64), .long (sr_fd (sr_sm gu (md_g9 gp gw gz mk) no) ((nI (sr_cu gu no)).toInt64)), .ref ao, .ref ax, .int (nI np), .ref ay, .int (nI nl), .ref ad, .ref al, .int (nI sn), .ref ag, .int (nI ta), .int nb])), (ap, .inl (kp, 36, .inl gp)), (am, .inl (km, 20, .inl (md_mk mk))), (aw, .inl (kw, 60, .inl gw)), (az, .inl (kz, 20, .inl gz)), (au, .inl (ku, 20, .inl gu)), (ao, .inl (ko, 20, .inl (sr_cp 20 gz ho))), (ax, .inl (kx, 20, .inl (sr_cp 20 gu hx_)))] [(kp, .int), (km, .int), (kw, .int), (kz, .int), (ku, .boolean), (ko, .int), (kx, .boolean)] A t) A) ([.ref h0] : List Value).toArray s 0 0 A) (F0 m 380 ls []) := by
            intro fuel
            induction fuel with
            | zero => intro j z1 z2 hfu; exact absurd hfu (Nat.not_lt_zero _)
            | succ fuel ih380 =>
              intro j z1 z2 hfu hj hz1 hz2 H locs hP hD hS ls hl
              subst hz1
              subst hz2
              refine lv_iload hx hb d_MD_sets_380 (lv_at hl 1 rfl) ?_
              refine lv_bipush (v := 20) hx hb d_MD_sets_382 (by decide) ?_
              refine lv_icmp_ge (tgt := 421) hx hb d_MD_sets_384 (by decide) (fun c_9 => ?_) (fun c_9 => ?_)
              · have n_10 := xn_le (a := 20) (b := j) c_9 (by decide) rfl (by omega) (by omega)
                refine lv_iconst (v := 1) hx hb d_MD_sets_421 (by decide) ?_
                have e9 : j = 20 := by omega
                rw [e9] at hP hD
                have hP9 := hP.sub (ws' := [(h0, .inr (7, [.int th, .int (nI nm), .ref ap, .int (nI no), .ref am, .ref aw, .ref az, .ref au, .int (nI no), .long (sr_cosine ((nI (sr_cu gu no)).toInt64) (sr_sm gu (md_g2 gp mk) no) (sr_sm gu (md_g3 gp mk) no) (sr_sm gu (md_g4 gw) no) (sr_sm gu (md_g5 gw) no) (sr_sm gu (md_g7 gp gw mk) no)), .long (sr_sine ((nI (sr_cu gu no)).toInt64) (sr_sm gu (md_g2 gp mk) no) (sr_sm gu (md_g3 gp mk) no) (sr_sm gu (md_g4 gw) no) (sr_sm gu (md_g5 gw) no) (sr_sm gu (md_g8 gp gw mk) no)), .long (sr_sm gu (md_g2 gp mk) no * sr_spread ((nI (sr_cu gu no)).toInt64) (sr_sm gu (md_g4 gw) no) (sr_sm gu (md_g5 gw) no) (sr_sm gu (md_g6 gw) no) - sr_cosine ((nI (sr_cu gu no)).toInt64) (sr_sm gu (md_g2 gp mk) no) (sr_sm gu (md_g3 gp mk) no) (sr_sm gu (md_g4 gw) no) (sr_sm gu (md_g5 gw) no) (sr_sm gu (md_g7 gp gw mk) no) * sr_sm gu (md_g4 gw) no + sr_sine ((nI (sr_cu gu no)).toInt64) (sr_sm gu (md_g2 gp mk) no) (sr_sm gu (md_g3 gp mk) no) (sr_sm gu (md_g4 gw) no) (sr_sm gu (md_g5 gw) no) (sr_sm gu (md_g8 gp gw mk) no) * sr_sm gu (md_g5 gw) no), .long (sr_sm gu (md_g3 gp mk) no * sr_spread ((nI (sr_cu gu no)).toInt64) (sr_sm gu (md_g4 gw) no) (sr_sm gu (md_g5 gw) no) (sr_sm gu (md_g6 gw) no) - sr_sine ((nI (sr_cu gu no)).toInt64) (sr_sm gu (md_g2 gp mk) no) (sr_sm gu (md_g3 gp mk) no) (sr_sm gu (md_g4 gw) no) (sr_sm gu (md_g5 gw) no) (sr_sm gu (md_g8 gp gw mk) no) * sr_sm gu (md_g4 gw) no - sr_cosine ((nI (sr_cu gu no)).toInt64) (sr_sm gu (md_g2 gp mk) no) (sr_sm gu (md_g3 gp mk) no) (sr_sm gu (md_g4 gw) no) (sr_sm gu (md_g5 gw) no) (sr_sm gu (md_g7 gp gw mk) no) * sr_sm gu (md_g5 gw) no), .long (sr_spread ((nI (sr_cu gu no)).toInt64) (sr_sm gu (md_g4 gw) no) (sr_sm gu (md_g5 gw) no) (sr_sm gu (md_g6 gw) no)), .long ((nI (sr_cu gu no)).toInt64), .long (sr_fd (sr_sm gu (md_g9 gp gw gz mk) no) ((nI (sr_cu gu no)).toInt64)), .ref ao, .ref ax, .int (nI np), .ref ay, .int (nI nl), .ref ad, .ref al, .int (nI sn), .ref ag, .int (nI ta), .int nb])), (ap, .inl (kp, 36, .inl gp)), (am, .inl (km, 20, .inl (md_mk mk))), (aw, .inl (kw, 60, .inl gw)), (az, .inl (kz, 20, .inl gz)), (au, .inl (ku, 20, .inl gu)), (ao, .inl (ko, 20, .inl (sr_cp 20 gz ho))), (ax, .inl (kx, 20, .inl (sr_cp 20 gu hx_)))]) [0, 1, 2, 3, 4, 5, 6, 7] rfl
                have hD9 := hD.sub (ws' := [(h0, .inr (7, [.int th, .int (nI nm), .ref ap, .int (nI no), .ref am, .ref aw, .ref az, .ref au, .int (nI no), .long (sr_cosine ((nI (sr_cu gu no)).toInt64) (sr_sm gu (md_g2 gp mk) no) (sr_sm gu (md_g3 gp mk) no) (sr_sm gu (md_g4 gw) no) (sr_sm gu (md_g5 gw) no) (sr_sm gu (md_g7 gp gw mk) no)), .long (sr_sine ((nI (sr_cu gu no)).toInt64) (sr_sm gu (md_g2 gp mk) no) (sr_sm gu (md_g3 gp mk) no) (sr_sm gu (md_g4 gw) no) (sr_sm gu (md_g5 gw) no) (sr_sm gu (md_g8 gp gw mk) no)), .long (sr_sm gu (md_g2 gp mk) no * sr_spread ((nI (sr_cu gu no)).toInt64) (sr_sm gu (md_g4 gw) no) (sr_sm gu (md_g5 gw) no) (sr_sm gu (md_g6 gw) no) - sr_cosine ((nI (sr_cu gu no)).toInt64) (sr_sm gu (md_g2 gp mk) no) (sr_sm gu (md_g3 gp mk) no) (sr_sm gu (md_g4 gw) no) (sr_sm gu (md_g5 gw) no) (sr_sm gu (md_g7 gp gw mk) no) * sr_sm gu (md_g4 gw) no + sr_sine ((nI (sr_cu gu no)).toInt64) (sr_sm gu (md_g2 gp mk) no) (sr_sm gu (md_g3 gp mk) no) (sr_sm gu (md_g4 gw) no) (sr_sm gu (md_g5 gw) no) (sr_sm gu (md_g8 gp gw mk) no) * sr_sm gu (md_g5 gw) no), .long (sr_sm gu (md_g3 gp mk) no * sr_spread ((nI (sr_cu gu no)).toInt64) (sr_sm gu (md_g4 gw) no) (sr_sm gu (md_g5 gw) no) (sr_sm gu (md_g6 gw) no) - sr_sine ((nI (sr_cu gu no)).toInt64) (sr_sm gu (md_g2 gp mk) no) (sr_sm gu (md_g3 gp mk) no) (sr_sm gu (md_g4 gw) no) (sr_sm gu (md_g5 gw) no) (sr_sm gu (md_g8 gp gw mk) no) * sr_sm gu (md_g4 gw) no - sr_cosine ((nI (sr_cu gu no)).toInt64) (sr_sm gu (md_g2 gp mk) no) (sr_sm gu (md_g3 gp mk) no) (sr_sm gu (md_g4 gw) no) (sr_sm gu (md_g5 gw) no) (sr_sm gu (md_g7 gp gw mk) no) * sr_sm gu (md_g5 gw) no), .long (sr_spread ((nI (sr_cu gu no)).toInt64) (sr_sm gu (md_g4 gw) no) (sr_sm gu (md_g5 gw) no) (sr_sm gu (md_g6 gw) no)), .long ((nI (sr_cu gu no)).toInt64), .long (sr_fd (sr_sm gu (md_g9 gp gw gz mk) no) ((nI (sr_cu gu no)).toInt64)), .ref ao, .ref ax, .int (nI np), .ref ay, .int (nI nl), .ref ad, .ref al, .int (nI sn), .ref ag, .int (nI ta), .int nb])), (ap, .inl (kp, 36, .inl gp)), (am, .inl (km, 20, .inl (md_mk mk))), (aw, .inl (kw, 60, .inl gw)), (az, .inl (kz, 20, .inl gz)), (au, .inl (ku, 20, .inl gu)), (ao, .inl (ko, 20, .inl (sr_cp 20 gz ho))), (ax, .inl (kx, 20, .inl (sr_cp 20 gu hx_)))]) [0, 1, 2, 3, 4, 5, 6, 7] (by decide) rfl
                have hK9 := hK.sub (tys' := [(kp, .int), (km, .int), (kw, .int), (kz, .int), (ku, .boolean), (ko, .int), (kx, .boolean)]) [0, 1, 2, 3, 4, 5, 6] rfl
                exact W.zret (v := 1) (ty := .boolean) hx hb hr (by exact rfl) (fun t ht hW => ⟨⟨1, (), rfl, rfl, ⟨by rw [ht]; exact hP9, va_K.moved hW.alike hK9, by exact hD9⟩⟩, hS.F ht⟩) hS.2.2 d_MD_sets_422 hlocks
              · have n_11 := xn_nle (a := 20) (b := j) c_9 (by decide) rfl (by omega) (by omega)
                refine lv_aload_n hx hb d_MD_sets_387 rfl (lv_at hl 0 rfl) ?_
                refine va_get (D := (dC, dI)) (ci := 7) (v := .ref ao) (C := xR_MD) (T := xT_MD) (N := 27) hx hb hts (fun w h => List.mem_cons_of_mem _ (iw_MD w h)) hown hK hP 0 rfl rfl 16 (by decide) (hts _ (List.mem_cons_of_mem _ wm_713)) (fun _ h9 => h9) rfl d_MD_sets_388 ?_
                refine lv_iload hx hb d_MD_sets_391 (lv_at hl 1 rfl) ?_
                refine lv_aload_n hx hb d_MD_sets_393 rfl (lv_at hl 0 rfl) ?_
                refine va_get (D := (dC, dI)) (ci := 7) (v := .ref az) (C := xR_MD) (T := xT_MD) (N := 27) hx hb hts (fun w h => List.mem_cons_of_mem _ (iw_MD w h)) hown hK hP 0 rfl rfl 6 (by decide) (hts _ (List.mem_cons_of_mem _ wm_703)) (fun _ h9 => h9) rfl d_MD_sets_394 ?_
                refine lv_iload hx hb d_MD_sets_397 (lv_at hl 1 rfl) ?_
                refine xa_iald hx hb hK hP 4 3 rfl rfl j rfl (by omega) (by decide) d_MD_sets_399 ?_
                refine xa_iast hx hb hK hP hD hS 6 5 rfl rfl j rfl (by omega) (by decide) d_MD_sets_400 (fun H locs hP hD hS => ?_)
                have hP : va_P (dC, dI) xCl [(h0, .inr (7, [.int th, .int (nI nm), .ref ap, .int (nI no), .ref am, .ref aw, .ref az, .ref au, .int (nI no), .long (sr_cosine ((nI (sr_cu gu no)).toInt64) (sr_sm gu (md_g2 gp mk) no) (sr_sm gu (md_g3 gp mk) no) (sr_sm gu (md_g4 gw) no) (sr_sm gu (md_g5 gw) no) (sr_sm gu (md_g7 gp gw mk) no)), .long (sr_sine ((nI (sr_cu gu no)).toInt64) (sr_sm gu (md_g2 gp mk) no) (sr_sm gu (md_g3 gp mk) no) (sr_sm gu (md_g4 gw) no) (sr_sm gu (md_g5 gw) no) (sr_sm gu (md_g8 gp gw mk) no)), .long (sr_sm gu (md_g2 gp mk) no * sr_spread ((nI (sr_cu gu no)).toInt64) (sr_sm gu (md_g4 gw) no) (sr_sm gu (md_g5 gw) no) (sr_sm gu (md_g6 gw) no) - sr_cosine ((nI (sr_cu gu no)).toInt64) (sr_sm gu (md_g2 gp mk) no) (sr_sm gu (md_g3 gp mk) no) (sr_sm gu (md_g4 gw) no) (sr_sm gu (md_g5 gw) no) (sr_sm gu (md_g7 gp gw mk) no) * sr_sm gu (md_g4 gw) no + sr_sine ((nI (sr_cu gu no)).toInt64) (sr_sm gu (md_g2 gp mk) no) (sr_sm gu (md_g3 gp mk) no) (sr_sm gu (md_g4 gw) no) (sr_sm gu (md_g5 gw) no) (sr_sm gu (md_g8 gp gw mk) no) * sr_sm gu (md_g5 gw) no), .long (sr_sm gu (md_g3 gp mk) no * sr_spread ((nI (sr_cu gu no)).toInt64) (sr_sm gu (md_g4 gw) no) (sr_sm gu (md_g5 gw) no) (sr_sm gu (md_g6 gw) no) - sr_sine ((nI (sr_cu gu no)).toInt64) (sr_sm gu (md_g2 gp mk) no) (sr_sm gu (md_g3 gp mk) no) (sr_sm gu (md_g4 gw) no) (sr_sm gu (md_g5 gw) no) (sr_sm gu (md_g8 gp gw mk) no) * sr_sm gu (md_g4 gw) no - sr_cosine ((nI (sr_cu gu no)).toInt64) (sr_sm gu (md_g2 gp mk) no) (sr_sm gu (md_g3 gp mk) no) (sr_sm gu (md_g4 gw) no) (sr_sm gu (md_g5 gw) no) (sr_sm gu (md_g7 gp gw mk) no) * sr_sm gu (md_g5 gw) no), .long (sr_spread ((nI (sr_cu gu no)).toInt64) (sr_sm gu (md_g4 gw) no) (sr_sm gu (md_g5 gw) no) (sr_sm gu (md_g6 gw) no)), .long ((nI (sr_cu gu no)).toInt64), .long (sr_fd (sr_sm gu (md_g9 gp gw gz mk) no) ((nI (sr_cu gu no)).toInt64)), .ref ao, .ref ax, .int (nI np), .ref ay, .int (nI nl), .ref ad, .ref al, .int (nI sn), .ref ag, .int (nI ta), .int nb])), (ap, .inl (kp, 36, .inl gp)), (am, .inl (km, 20, .inl (md_mk mk))), (aw, .inl (kw, 60, .inl gw)), (az, .inl (kz, 20, .inl gz)), (au, .inl (ku, 20, .inl gu)), (ao, .inl (ko, 20, .inl (upd (sr_cp j gz ho) j (gz j)))), (ax, .inl (kx, 20, .inl (sr_cp j gu hx_)))] H := hP
                have hD : va_D A [(h0, .inr (7, [.int th, .int (nI nm), .ref ap, .int (nI no), .ref am, .ref aw, .ref az, .ref au, .int (nI no), .long (sr_cosine ((nI (sr_cu gu no)).toInt64) (sr_sm gu (md_g2 gp mk) no) (sr_sm gu (md_g3 gp mk) no) (sr_sm gu (md_g4 gw) no) (sr_sm gu (md_g5 gw) no) (sr_sm gu (md_g7 gp gw mk) no)), .long (sr_sine ((nI (sr_cu gu no)).toInt64) (sr_sm gu (md_g2 gp mk) no) (sr_sm gu (md_g3 gp mk) no) (sr_sm gu (md_g4 gw) no) (sr_sm gu (md_g5 gw) no) (sr_sm gu (md_g8 gp gw mk) no)), .long (sr_sm gu (md_g2 gp mk) no * sr_spread ((nI (sr_cu gu no)).toInt64) (sr_sm gu (md_g4 gw) no) (sr_sm gu (md_g5 gw) no) (sr_sm gu (md_g6 gw) no) - sr_cosine ((nI (sr_cu gu no)).toInt64) (sr_sm gu (md_g2 gp mk) no) (sr_sm gu (md_g3 gp mk) no) (sr_sm gu (md_g4 gw) no) (sr_sm gu (md_g5 gw) no) (sr_sm gu (md_g7 gp gw mk) no) * sr_sm gu (md_g4 gw) no + sr_sine ((nI (sr_cu gu no)).toInt64) (sr_sm gu (md_g2 gp mk) no) (sr_sm gu (md_g3 gp mk) no) (sr_sm gu (md_g4 gw) no) (sr_sm gu (md_g5 gw) no) (sr_sm gu (md_g8 gp gw mk) no) * sr_sm gu (md_g5 gw) no), .long (sr_sm gu (md_g3 gp mk) no * sr_spread ((nI (sr_cu gu no)).toInt64) (sr_sm gu (md_g4 gw) no) (sr_sm gu (md_g5 gw) no) (sr_sm gu (md_g6 gw) no) - sr_sine ((nI (sr_cu gu no)).toInt64) (sr_sm gu (md_g2 gp mk) no) (sr_sm gu (md_g3 gp mk) no) (sr_sm gu (md_g4 gw) no) (sr_sm gu (md_g5 gw) no) (sr_sm gu (md_g8 gp gw mk) no) * sr_sm gu (md_g4 gw) no - sr_cosine ((nI (sr_cu gu no)).toInt64) (sr_sm gu (md_g2 gp mk) no) (sr_sm gu (md_g3 gp mk) no) (sr_sm gu (md_g4 gw) no) (sr_sm gu (md_g5 gw) no) (sr_sm gu (md_g7 gp gw mk) no) * sr_sm gu (md_g5 gw) no), .long (sr_spread ((nI (sr_cu gu no)).toInt64) (sr_sm gu (md_g4 gw) no) (sr_sm gu (md_g5 gw) no) (sr_sm gu (md_g6 gw) no)), .long ((nI (sr_cu gu no)).toInt64), .long (sr_fd (sr_sm gu (md_g9 gp gw gz mk) no) ((nI (sr_cu gu no)).toInt64)), .ref ao, .ref ax, .int (nI np), .ref ay, .int (nI nl), .ref ad, .ref al, .int (nI sn), .ref ag, .int (nI ta), .int nb])), (ap, .inl (kp, 36, .inl gp)), (am, .inl (km, 20, .inl (md_mk mk))), (aw, .inl (kw, 60, .inl gw)), (az, .inl (kz, 20, .inl gz)), (au, .inl (ku, 20, .inl gu)), (ao, .inl (ko, 20, .inl (upd (sr_cp j gz ho) j (gz j)))), (ax, .inl (kx, 20, .inl (sr_cp j gu hx_)))] := hD
                refine lv_aload_n hx hb d_MD_sets_401 rfl (lv_at hl 0 rfl) ?_
                refine va_get (D := (dC, dI)) (ci := 7) (v := .ref ax) (C := xR_MD) (T := xT_MD) (N := 27) hx hb hts (fun w h => List.mem_cons_of_mem _ (iw_MD w h)) hown hK hP 0 rfl rfl 17 (by decide) (hts _ (List.mem_cons_of_mem _ wm_714)) (fun _ h9 => h9) rfl d_MD_sets_402 ?_
                refine lv_iload hx hb d_MD_sets_405 (lv_at hl 1 rfl) ?_
                refine lv_aload_n hx hb d_MD_sets_407 rfl (lv_at hl 0 rfl) ?_
                refine va_get (D := (dC, dI)) (ci := 7) (v := .ref au) (C := xR_MD) (T := xT_MD) (N := 27) hx hb hts (fun w h => List.mem_cons_of_mem _ (iw_MD w h)) hown hK hP 0 rfl rfl 7 (by decide) (hts _ (List.mem_cons_of_mem _ wm_704)) (fun _ h9 => h9) rfl d_MD_sets_408 ?_
                refine lv_iload hx hb d_MD_sets_411 (lv_at hl 1 rfl) ?_
                refine xa_zald hx hb hK hP 5 4 rfl rfl j rfl (by omega) (by decide) d_MD_sets_413 ?_
                refine xa_zast hx hb hK hP hD hS 7 6 rfl rfl j rfl (by omega) (by decide) (sr_nar01 (hb01 j)) d_MD_sets_414 (fun H locs hP hD hS => ?_)
                have hP : va_P (dC, dI) xCl [(h0, .inr (7, [.int th, .int (nI nm), .ref ap, .int (nI no), .ref am, .ref aw, .ref az, .ref au, .int (nI no), .long (sr_cosine ((nI (sr_cu gu no)).toInt64) (sr_sm gu (md_g2 gp mk) no) (sr_sm gu (md_g3 gp mk) no) (sr_sm gu (md_g4 gw) no) (sr_sm gu (md_g5 gw) no) (sr_sm gu (md_g7 gp gw mk) no)), .long (sr_sine ((nI (sr_cu gu no)).toInt64) (sr_sm gu (md_g2 gp mk) no) (sr_sm gu (md_g3 gp mk) no) (sr_sm gu (md_g4 gw) no) (sr_sm gu (md_g5 gw) no) (sr_sm gu (md_g8 gp gw mk) no)), .long (sr_sm gu (md_g2 gp mk) no * sr_spread ((nI (sr_cu gu no)).toInt64) (sr_sm gu (md_g4 gw) no) (sr_sm gu (md_g5 gw) no) (sr_sm gu (md_g6 gw) no) - sr_cosine ((nI (sr_cu gu no)).toInt64) (sr_sm gu (md_g2 gp mk) no) (sr_sm gu (md_g3 gp mk) no) (sr_sm gu (md_g4 gw) no) (sr_sm gu (md_g5 gw) no) (sr_sm gu (md_g7 gp gw mk) no) * sr_sm gu (md_g4 gw) no + sr_sine ((nI (sr_cu gu no)).toInt64) (sr_sm gu (md_g2 gp mk) no) (sr_sm gu (md_g3 gp mk) no) (sr_sm gu (md_g4 gw) no) (sr_sm gu (md_g5 gw) no) (sr_sm gu (md_g8 gp gw mk) no) * sr_sm gu (md_g5 gw) no), .long (sr_sm gu (md_g3 gp mk) no * sr_spread ((nI (sr_cu gu no)).toInt64) (sr_sm gu (md_g4 gw) no) (sr_sm gu (md_g5 gw) no) (sr_sm gu (md_g6 gw) no) - sr_sine ((nI (sr_cu gu no)).toInt64) (sr_sm gu (md_g2 gp mk) no) (sr_sm gu (md_g3 gp mk) no) (sr_sm gu (md_g4 gw) no) (sr_sm gu (md_g5 gw) no) (sr_sm gu (md_g8 gp gw mk) no) * sr_sm gu (md_g4 gw) no - sr_cosine ((nI (sr_cu gu no)).toInt64) (sr_sm gu (md_g2 gp mk) no) (sr_sm gu (md_g3 gp mk) no) (sr_sm gu (md_g4 gw) no) (sr_sm gu (md_g5 gw) no) (sr_sm gu (md_g7 gp gw mk) no) * sr_sm gu (md_g5 gw) no), .long (sr_spread ((nI (sr_cu gu no)).toInt64) (sr_sm gu (md_g4 gw) no) (sr_sm gu (md_g5 gw) no) (sr_sm gu (md_g6 gw) no)), .long ((nI (sr_cu gu no)).toInt64), .long (sr_fd (sr_sm gu (md_g9 gp gw gz mk) no) ((nI (sr_cu gu no)).toInt64)), .ref ao, .ref ax, .int (nI np), .ref ay, .int (nI nl), .ref ad, .ref al, .int (nI sn), .ref ag, .int (nI ta), .int nb])), (ap, .inl (kp, 36, .inl gp)), (am, .inl (km, 20, .inl (md_mk mk))), (aw, .inl (kw, 60, .inl gw)), (az, .inl (kz, 20, .inl gz)), (au, .inl (ku, 20, .inl gu)), (ao, .inl (ko, 20, .inl (upd (sr_cp j gz ho) j (gz j)))), (ax, .inl (kx, 20, .inl (upd (sr_cp j gu hx_) j (gu j))))] H := hP
                have hD : va_D A [(h0, .inr (7, [.int th, .int (nI nm), .ref ap, .int (nI no), .ref am, .ref aw, .ref az, .ref au, .int (nI no), .long (sr_cosine ((nI (sr_cu gu no)).toInt64) (sr_sm gu (md_g2 gp mk) no) (sr_sm gu (md_g3 gp mk) no) (sr_sm gu (md_g4 gw) no) (sr_sm gu (md_g5 gw) no) (sr_sm gu (md_g7 gp gw mk) no)), .long (sr_sine ((nI (sr_cu gu no)).toInt64) (sr_sm gu (md_g2 gp mk) no) (sr_sm gu (md_g3 gp mk) no) (sr_sm gu (md_g4 gw) no) (sr_sm gu (md_g5 gw) no) (sr_sm gu (md_g8 gp gw mk) no)), .long (sr_sm gu (md_g2 gp mk) no * sr_spread ((nI (sr_cu gu no)).toInt64) (sr_sm gu (md_g4 gw) no) (sr_sm gu (md_g5 gw) no) (sr_sm gu (md_g6 gw) no) - sr_cosine ((nI (sr_cu gu no)).toInt64) (sr_sm gu (md_g2 gp mk) no) (sr_sm gu (md_g3 gp mk) no) (sr_sm gu (md_g4 gw) no) (sr_sm gu (md_g5 gw) no) (sr_sm gu (md_g7 gp gw mk) no) * sr_sm gu (md_g4 gw) no + sr_sine ((nI (sr_cu gu no)).toInt64) (sr_sm gu (md_g2 gp mk) no) (sr_sm gu (md_g3 gp mk) no) (sr_sm gu (md_g4 gw) no) (sr_sm gu (md_g5 gw) no) (sr_sm gu (md_g8 gp gw mk) no) * sr_sm gu (md_g5 gw) no), .long (sr_sm gu (md_g3 gp mk) no * sr_spread ((nI (sr_cu gu no)).toInt64) (sr_sm gu (md_g4 gw) no) (sr_sm gu (md_g5 gw) no) (sr_sm gu (md_g6 gw) no) - sr_sine ((nI (sr_cu gu no)).toInt64) (sr_sm gu (md_g2 gp mk) no) (sr_sm gu (md_g3 gp mk) no) (sr_sm gu (md_g4 gw) no) (sr_sm gu (md_g5 gw) no) (sr_sm gu (md_g8 gp gw mk) no) * sr_sm gu (md_g4 gw) no - sr_cosine ((nI (sr_cu gu no)).toInt64) (sr_sm gu (md_g2 gp mk) no) (sr_sm gu (md_g3 gp mk) no) (sr_sm gu (md_g4 gw) no) (sr_sm gu (md_g5 gw) no) (sr_sm gu (md_g7 gp gw mk) no) * sr_sm gu (md_g5 gw) no), .long (sr_spread ((nI (sr_cu gu no)).toInt64) (sr_sm gu (md_g4 gw) no) (sr_sm gu (md_g5 gw) no) (sr_sm gu (md_g6 gw) no)), .long ((nI (sr_cu gu no)).toInt64), .long (sr_fd (sr_sm gu (md_g9 gp gw gz mk) no) ((nI (sr_cu gu no)).toInt64)), .ref ao, .ref ax, .int (nI np), .ref ay, .int (nI nl), .ref ad, .ref al, .int (nI sn), .ref ag, .int (nI ta), .int nb])), (ap, .inl (kp, 36, .inl gp)), (am, .inl (km, 20, .inl (md_mk mk))), (aw, .inl (kw, 60, .inl gw)), (az, .inl (kz, 20, .inl gz)), (au, .inl (ku, 20, .inl gu)), (ao, .inl (ko, 20, .inl (upd (sr_cp j gz ho) j (gz j)))), (ax, .inl (kx, 20, .inl (upd (sr_cp j gu hx_) j (gu j))))] := hD
                refine lv_iinc (v := nI (j + 1)) (lv' := [(21, .int (nI (j + 1))), (0, .ref h0)]) hx hb d_MD_sets_415 hl (k := 1) rfl (nI_1 _) (by decide) rfl (fun ls hl => ?_)
                refine lv_goto (tgt := 380) hx hb d_MD_sets_418 (by decide) ?_
                exact ih380  (j + 1) (upd (sr_cp j gz ho) j (gz j)) (upd (sr_cp j gu hx_) j (gu j)) (by omega) (by omega) (sr_cp_s _ _ _).symm (sr_cp_s _ _ _).symm _ _ (hP.sub [0, 1, 2, 3, 4, 5, 6, 7] rfl) (hD.sub [0, 1, 2, 3, 4, 5, 6, 7] (by decide) rfl) hS ls (lv_sub hl [1, 0] rfl)
          exact lp380 (20 - 0 + 1) 0 ho hx_ (by omega) (by omega) (sr_cp_0 _ _).symm (sr_cp_0 _ _).symm _ _ (hP.sub [0, 1, 2, 3, 4, 5, 6, 7] rfl) (hD.sub [0, 1, 2, 3, 4, 5, 6, 7] (by decide) rfl) hS ls (lv_sub hl [2, 0] rfl)
        · exact absurd (lc_eq.mp c_5) hw0
      · have n_12 := xn_nle (a := no) (b := i) c_3 rfl rfl (by omega) (by omega)
        refine lv_aload_n hx hb d_MD_sets_41 rfl (lv_at hl 0 rfl) ?_
        refine va_get (D := (dC, dI)) (ci := 7) (v := .ref au) (C := xR_MD) (T := xT_MD) (N := 27) hx hb hts (fun w h => List.mem_cons_of_mem _ (iw_MD w h)) hown hK hP 0 rfl rfl 7 (by decide) (hts _ (List.mem_cons_of_mem _ wm_704)) (fun _ h9 => h9) rfl d_MD_sets_42 ?_
        refine lv_iload hx hb d_MD_sets_45 (lv_at hl 10 rfl) ?_
        refine xa_zald hx hb hK hP 5 4 rfl rfl i rfl (by omega) (by decide) d_MD_sets_47 ?_
        refine lv_if_eq (tgt := 231) hx hb d_MD_sets_48 (by decide) (fun c_13 => ?_) (fun c_13 => ?_)
        · refine lv_iinc (v := nI (i + 1)) (lv' := [(19, .int (nI (i + 1))), (0, .ref h0), (1, .long ((nI (sr_cu gu no)).toInt64)), (3, .long (sr_sm gu (md_g4 gw) i)), (5, .long (sr_sm gu (md_g5 gw) i)), (7, .long (sr_sm gu (md_g2 gp mk) i)), (9, .long (sr_sm gu (md_g3 gp mk) i)), (11, .long (sr_sm gu (md_g6 gw) i)), (13, .long (sr_sm gu (md_g7 gp gw mk) i)), (15, .long (sr_sm gu (md_g8 gp gw mk) i)), (17, .long (sr_sm gu (md_g9 gp gw gz mk) i))]) hx hb d_MD_sets_231 hl (k := 10) rfl (nI_1 _) (by decide) rfl (fun ls hl => ?_)
          refine lv_goto (tgt := 32) hx hb d_MD_sets_234 (by decide) ?_
          exact ih  (i + 1) (sr_sm gu (md_g4 gw) i) (sr_sm gu (md_g5 gw) i) (sr_sm gu (md_g2 gp mk) i) (sr_sm gu (md_g3 gp mk) i) (sr_sm gu (md_g6 gw) i) (sr_sm gu (md_g7 gp gw mk) i) (sr_sm gu (md_g8 gp gw mk) i) (sr_sm gu (md_g9 gp gw gz mk) i) (by omega) (by omega) ((sr_sm_f c_13).symm) ((sr_sm_f c_13).symm) ((sr_sm_f c_13).symm) ((sr_sm_f c_13).symm) ((sr_sm_f c_13).symm) ((sr_sm_f c_13).symm) ((sr_sm_f c_13).symm) ((sr_sm_f c_13).symm) _ _ (hP.sub [0, 1, 2, 3, 4, 5, 6, 7] rfl) (hD.sub [0, 1, 2, 3, 4, 5, 6, 7] (by decide) rfl) hS ls (lv_sub hl [1, 2, 3, 4, 5, 6, 7, 8, 9, 10, 0] rfl)
        · have hmi := hmk i (by omega)
          refine lv_aload_n hx hb d_MD_sets_51 rfl (lv_at hl 0 rfl) ?_
          refine va_get (D := (dC, dI)) (ci := 7) (v := .ref aw) (C := xR_MD) (T := xT_MD) (N := 27) hx hb hts (fun w h => List.mem_cons_of_mem _ (iw_MD w h)) hown hK hP 0 rfl rfl 5 (by decide) (hts _ (List.mem_cons_of_mem _ wm_702)) (fun _ h9 => h9) rfl d_MD_sets_52 ?_
          refine lv_iconst (v := 3) hx hb d_MD_sets_55 (by decide) ?_
          refine lv_iload hx hb d_MD_sets_56 (lv_at hl 10 rfl) ?_
          refine lv_imul hx hb d_MD_sets_58 ?_
          refine xv_i (y := nI (3 * i)) (pk_mul 3 _) ?_
          refine xa_iald hx hb hK hP 3 2 rfl rfl (3 * i) rfl (by omega) (by decide) d_MD_sets_59 ?_
          refine lv_i2l (v := (gw (3 * i)).toInt64) hx hb d_MD_sets_60 rfl ?_
          refine lv_lstore (lv' := [(20, .long ((gw (3 * i)).toInt64)), (0, .ref h0), (1, .long ((nI (sr_cu gu no)).toInt64)), (3, .long (sr_sm gu (md_g4 gw) i)), (5, .long (sr_sm gu (md_g5 gw) i)), (7, .long (sr_sm gu (md_g2 gp mk) i)), (9, .long (sr_sm gu (md_g3 gp mk) i)), (11, .long (sr_sm gu (md_g6 gw) i)), (13, .long (sr_sm gu (md_g7 gp gw mk) i)), (15, .long (sr_sm gu (md_g8 gp gw mk) i)), (17, .long (sr_sm gu (md_g9 gp gw gz mk) i)), (19, .int (nI i))]) hx hb d_MD_sets_61 hl (by decide) rfl (fun ls hl => ?_)
          refine lv_aload_n hx hb d_MD_sets_63 rfl (lv_at hl 1 rfl) ?_
          refine va_get (D := (dC, dI)) (ci := 7) (v := .ref aw) (C := xR_MD) (T := xT_MD) (N := 27) hx hb hts (fun w h => List.mem_cons_of_mem _ (iw_MD w h)) hown hK hP 0 rfl rfl 5 (by decide) (hts _ (List.mem_cons_of_mem _ wm_702)) (fun _ h9 => h9) rfl d_MD_sets_64 ?_
          refine lv_iconst (v := 3) hx hb d_MD_sets_67 (by decide) ?_
          refine lv_iload hx hb d_MD_sets_68 (lv_at hl 11 rfl) ?_
          refine lv_imul hx hb d_MD_sets_70 ?_
          refine xv_i (y := nI (3 * i)) (pk_mul 3 _) ?_
          refine lv_iconst (v := 1) hx hb d_MD_sets_71 (by decide) ?_
          refine lv_iadd hx hb d_MD_sets_72 ?_
          refine xv_i (y := nI ((3 * i) + 1)) (nI_1 _) ?_
          refine xa_iald hx hb hK hP 3 2 rfl rfl ((3 * i) + 1) rfl (by omega) (by decide) d_MD_sets_73 ?_
          refine lv_i2l (v := (gw ((3 * i) + 1)).toInt64) hx hb d_MD_sets_74 rfl ?_
          refine lv_lstore (lv' := [(22, .long ((gw ((3 * i) + 1)).toInt64)), (20, .long ((gw (3 * i)).toInt64)), (0, .ref h0), (1, .long ((nI (sr_cu gu no)).toInt64)), (3, .long (sr_sm gu (md_g4 gw) i)), (5, .long (sr_sm gu (md_g5 gw) i)), (7, .long (sr_sm gu (md_g2 gp mk) i)), (9, .long (sr_sm gu (md_g3 gp mk) i)), (11, .long (sr_sm gu (md_g6 gw) i)), (13, .long (sr_sm gu (md_g7 gp gw mk) i)), (15, .long (sr_sm gu (md_g8 gp gw mk) i)), (17, .long (sr_sm gu (md_g9 gp gw gz mk) i)), (19, .int (nI i))]) hx hb d_MD_sets_75 hl (by decide) rfl (fun ls hl => ?_)
          refine lv_aload_n hx hb d_MD_sets_77 rfl (lv_at hl 2 rfl) ?_
          refine va_get (D := (dC, dI)) (ci := 7) (v := .ref ap) (C := xR_MD) (T := xT_MD) (N := 27) hx hb hts (fun w h => List.mem_cons_of_mem _ (iw_MD w h)) hown hK hP 0 rfl rfl 2 (by decide) (hts _ (List.mem_cons_of_mem _ wm_699)) (fun _ h9 => h9) rfl d_MD_sets_78 ?_
          refine lv_iconst (v := 3) hx hb d_MD_sets_81 (by decide) ?_
          refine lv_aload_n hx hb d_MD_sets_82 rfl (lv_at hl 2 rfl) ?_
          refine va_get (D := (dC, dI)) (ci := 7) (v := .ref am) (C := xR_MD) (T := xT_MD) (N := 27) hx hb hts (fun w h => List.mem_cons_of_mem _ (iw_MD w h)) hown hK hP 0 rfl rfl 4 (by decide) (hts _ (List.mem_cons_of_mem _ wm_701)) (fun _ h9 => h9) rfl d_MD_sets_83 ?_
          refine lv_iload hx hb d_MD_sets_86 (lv_at hl 12 rfl) ?_
          refine xa_iald hx hb hK hP 2 1 rfl rfl i rfl (by omega) (by decide) d_MD_sets_88 ?_
          refine lv_imul hx hb d_MD_sets_89 ?_
          refine xv_i (y := nI (3 * (mk i))) (pk_mul 3 _) ?_
          refine xa_iald hx hb hK hP 1 0 rfl rfl (3 * (mk i)) rfl (by omega) (by decide) d_MD_sets_90 ?_
          refine lv_i2l (v := (gp (3 * (mk i))).toInt64) hx hb d_MD_sets_91 rfl ?_
          refine lv_lstore (lv' := [(24, .long ((gp (3 * (mk i))).toInt64)), (22, .long ((gw ((3 * i) + 1)).toInt64)), (20, .long ((gw (3 * i)).toInt64)), (0, .ref h0), (1, .long ((nI (sr_cu gu no)).toInt64)), (3, .long (sr_sm gu (md_g4 gw) i)), (5, .long (sr_sm gu (md_g5 gw) i)), (7, .long (sr_sm gu (md_g2 gp mk) i)), (9, .long (sr_sm gu (md_g3 gp mk) i)), (11, .long (sr_sm gu (md_g6 gw) i)), (13, .long (sr_sm gu (md_g7 gp gw mk) i)), (15, .long (sr_sm gu (md_g8 gp gw mk) i)), (17, .long (sr_sm gu (md_g9 gp gw gz mk) i)), (19, .int (nI i))]) hx hb d_MD_sets_92 hl (by decide) rfl (fun ls hl => ?_)
          refine lv_aload_n hx hb d_MD_sets_94 rfl (lv_at hl 3 rfl) ?_
          refine va_get (D := (dC, dI)) (ci := 7) (v := .ref ap) (C := xR_MD) (T := xT_MD) (N := 27) hx hb hts (fun w h => List.mem_cons_of_mem _ (iw_MD w h)) hown hK hP 0 rfl rfl 2 (by decide) (hts _ (List.mem_cons_of_mem _ wm_699)) (fun _ h9 => h9) rfl d_MD_sets_95 ?_
          refine lv_iconst (v := 3) hx hb d_MD_sets_98 (by decide) ?_
          refine lv_aload_n hx hb d_MD_sets_99 rfl (lv_at hl 3 rfl) ?_
          refine va_get (D := (dC, dI)) (ci := 7) (v := .ref am) (C := xR_MD) (T := xT_MD) (N := 27) hx hb hts (fun w h => List.mem_cons_of_mem _ (iw_MD w h)) hown hK hP 0 rfl rfl 4 (by decide) (hts _ (List.mem_cons_of_mem _ wm_701)) (fun _ h9 => h9) rfl d_MD_sets_100 ?_
          refine lv_iload hx hb d_MD_sets_103 (lv_at hl 13 rfl) ?_
          refine xa_iald hx hb hK hP 2 1 rfl rfl i rfl (by omega) (by decide) d_MD_sets_105 ?_
          refine lv_imul hx hb d_MD_sets_106 ?_
          refine xv_i (y := nI (3 * (mk i))) (pk_mul 3 _) ?_
          refine lv_iconst (v := 1) hx hb d_MD_sets_107 (by decide) ?_
          refine lv_iadd hx hb d_MD_sets_108 ?_
          refine xv_i (y := nI ((3 * (mk i)) + 1)) (nI_1 _) ?_
          refine xa_iald hx hb hK hP 1 0 rfl rfl ((3 * (mk i)) + 1) rfl (by omega) (by decide) d_MD_sets_109 ?_
          refine lv_i2l (v := (gp ((3 * (mk i)) + 1)).toInt64) hx hb d_MD_sets_110 rfl ?_
          refine lv_lstore (lv' := [(26, .long ((gp ((3 * (mk i)) + 1)).toInt64)), (24, .long ((gp (3 * (mk i))).toInt64)), (22, .long ((gw ((3 * i) + 1)).toInt64)), (20, .long ((gw (3 * i)).toInt64)), (0, .ref h0), (1, .long ((nI (sr_cu gu no)).toInt64)), (3, .long (sr_sm gu (md_g4 gw) i)), (5, .long (sr_sm gu (md_g5 gw) i)), (7, .long (sr_sm gu (md_g2 gp mk) i)), (9, .long (sr_sm gu (md_g3 gp mk) i)), (11, .long (sr_sm gu (md_g6 gw) i)), (13, .long (sr_sm gu (md_g7 gp gw mk) i)), (15, .long (sr_sm gu (md_g8 gp gw mk) i)), (17, .long (sr_sm gu (md_g9 gp gw gz mk) i)), (19, .int (nI i))]) hx hb d_MD_sets_111 hl (by decide) rfl (fun ls hl => ?_)
          refine lv_lload_n hx hb d_MD_sets_113 rfl (lv_at hl 6 rfl) ?_
          refine lv_lload hx hb d_MD_sets_114 (lv_at hl 3 rfl) ?_
          refine lv_ladd hx hb d_MD_sets_116 ?_
          refine lv_lstore_n (lv' := [(3, .long ((sr_sm gu (md_g4 gw) i) + ((gw (3 * i)).toInt64))), (26, .long ((gp ((3 * (mk i)) + 1)).toInt64)), (24, .long ((gp (3 * (mk i))).toInt64)), (22, .long ((gw ((3 * i) + 1)).toInt64)), (20, .long ((gw (3 * i)).toInt64)), (0, .ref h0), (1, .long ((nI (sr_cu gu no)).toInt64)), (5, .long (sr_sm gu (md_g5 gw) i)), (7, .long (sr_sm gu (md_g2 gp mk) i)), (9, .long (sr_sm gu (md_g3 gp mk) i)), (11, .long (sr_sm gu (md_g6 gw) i)), (13, .long (sr_sm gu (md_g7 gp gw mk) i)), (15, .long (sr_sm gu (md_g8 gp gw mk) i)), (17, .long (sr_sm gu (md_g9 gp gw gz mk) i)), (19, .int (nI i))]) hx hb d_MD_sets_117 rfl hl (by decide) rfl (fun ls hl => ?_)
          refine lv_lload hx hb d_MD_sets_118 (lv_at hl 7 rfl) ?_
          refine lv_lload hx hb d_MD_sets_120 (lv_at hl 3 rfl) ?_
          refine lv_ladd hx hb d_MD_sets_122 ?_
          refine lv_lstore (lv' := [(5, .long ((sr_sm gu (md_g5 gw) i) + ((gw ((3 * i) + 1)).toInt64))), (3, .long ((sr_sm gu (md_g4 gw) i) + ((gw (3 * i)).toInt64))), (26, .long ((gp ((3 * (mk i)) + 1)).toInt64)), (24, .long ((gp (3 * (mk i))).toInt64)), (22, .long ((gw ((3 * i) + 1)).toInt64)), (20, .long ((gw (3 * i)).toInt64)), (0, .ref h0), (1, .long ((nI (sr_cu gu no)).toInt64)), (7, .long (sr_sm gu (md_g2 gp mk) i)), (9, .long (sr_sm gu (md_g3 gp mk) i)), (11, .long (sr_sm gu (md_g6 gw) i)), (13, .long (sr_sm gu (md_g7 gp gw mk) i)), (15, .long (sr_sm gu (md_g8 gp gw mk) i)), (17, .long (sr_sm gu (md_g9 gp gw gz mk) i)), (19, .int (nI i))]) hx hb d_MD_sets_123 hl (by decide) rfl (fun ls hl => ?_)
          refine lv_lload hx hb d_MD_sets_125 (lv_at hl 8 rfl) ?_
          refine lv_lload hx hb d_MD_sets_127 (lv_at hl 3 rfl) ?_
          refine lv_ladd hx hb d_MD_sets_129 ?_
          refine lv_lstore (lv' := [(7, .long ((sr_sm gu (md_g2 gp mk) i) + ((gp (3 * (mk i))).toInt64))), (5, .long ((sr_sm gu (md_g5 gw) i) + ((gw ((3 * i) + 1)).toInt64))), (3, .long ((sr_sm gu (md_g4 gw) i) + ((gw (3 * i)).toInt64))), (26, .long ((gp ((3 * (mk i)) + 1)).toInt64)), (24, .long ((gp (3 * (mk i))).toInt64)), (22, .long ((gw ((3 * i) + 1)).toInt64)), (20, .long ((gw (3 * i)).toInt64)), (0, .ref h0), (1, .long ((nI (sr_cu gu no)).toInt64)), (9, .long (sr_sm gu (md_g3 gp mk) i)), (11, .long (sr_sm gu (md_g6 gw) i)), (13, .long (sr_sm gu (md_g7 gp gw mk) i)), (15, .long (sr_sm gu (md_g8 gp gw mk) i)), (17, .long (sr_sm gu (md_g9 gp gw gz mk) i)), (19, .int (nI i))]) hx hb d_MD_sets_130 hl (by decide) rfl (fun ls hl => ?_)
          refine lv_lload hx hb d_MD_sets_132 (lv_at hl 9 rfl) ?_
          refine lv_lload hx hb d_MD_sets_134 (lv_at hl 3 rfl) ?_
          refine lv_ladd hx hb d_MD_sets_136 ?_
          refine lv_lstore (lv' := [(9, .long ((sr_sm gu (md_g3 gp mk) i) + ((gp ((3 * (mk i)) + 1)).toInt64))), (7, .long ((sr_sm gu (md_g2 gp mk) i) + ((gp (3 * (mk i))).toInt64))), (5, .long ((sr_sm gu (md_g5 gw) i) + ((gw ((3 * i) + 1)).toInt64))), (3, .long ((sr_sm gu (md_g4 gw) i) + ((gw (3 * i)).toInt64))), (26, .long ((gp ((3 * (mk i)) + 1)).toInt64)), (24, .long ((gp (3 * (mk i))).toInt64)), (22, .long ((gw ((3 * i) + 1)).toInt64)), (20, .long ((gw (3 * i)).toInt64)), (0, .ref h0), (1, .long ((nI (sr_cu gu no)).toInt64)), (11, .long (sr_sm gu (md_g6 gw) i)), (13, .long (sr_sm gu (md_g7 gp gw mk) i)), (15, .long (sr_sm gu (md_g8 gp gw mk) i)), (17, .long (sr_sm gu (md_g9 gp gw gz mk) i)), (19, .int (nI i))]) hx hb d_MD_sets_137 hl (by decide) rfl (fun ls hl => ?_)
          refine lv_lload hx hb d_MD_sets_139 (lv_at hl 10 rfl) ?_
          refine lv_lload hx hb d_MD_sets_141 (lv_at hl 7 rfl) ?_
          refine lv_lload hx hb d_MD_sets_143 (lv_at hl 7 rfl) ?_
          refine lv_lmul hx hb d_MD_sets_145 ?_
          refine lv_ladd hx hb d_MD_sets_146 ?_
          refine lv_lload hx hb d_MD_sets_147 (lv_at hl 6 rfl) ?_
          refine lv_lload hx hb d_MD_sets_149 (lv_at hl 6 rfl) ?_
          refine lv_lmul hx hb d_MD_sets_151 ?_
          refine lv_ladd hx hb d_MD_sets_152 ?_
          refine lv_lstore (lv' := [(11, .long (((sr_sm gu (md_g6 gw) i) + (((gw (3 * i)).toInt64) * ((gw (3 * i)).toInt64))) + (((gw ((3 * i) + 1)).toInt64) * ((gw ((3 * i) + 1)).toInt64)))), (9, .long ((sr_sm gu (md_g3 gp mk) i) + ((gp ((3 * (mk i)) + 1)).toInt64))), (7, .long ((sr_sm gu (md_g2 gp mk) i) + ((gp (3 * (mk i))).toInt64))), (5, .long ((sr_sm gu (md_g5 gw) i) + ((gw ((3 * i) + 1)).toInt64))), (3, .long ((sr_sm gu (md_g4 gw) i) + ((gw (3 * i)).toInt64))), (26, .long ((gp ((3 * (mk i)) + 1)).toInt64)), (24, .long ((gp (3 * (mk i))).toInt64)), (22, .long ((gw ((3 * i) + 1)).toInt64)), (20, .long ((gw (3 * i)).toInt64)), (0, .ref h0), (1, .long ((nI (sr_cu gu no)).toInt64)), (13, .long (sr_sm gu (md_g7 gp gw mk) i)), (15, .long (sr_sm gu (md_g8 gp gw mk) i)), (17, .long (sr_sm gu (md_g9 gp gw gz mk) i)), (19, .int (nI i))]) hx hb d_MD_sets_153 hl (by decide) rfl (fun ls hl => ?_)
          refine lv_lload hx hb d_MD_sets_155 (lv_at hl 11 rfl) ?_
          refine lv_lload hx hb d_MD_sets_157 (lv_at hl 8 rfl) ?_
          refine lv_lload hx hb d_MD_sets_159 (lv_at hl 6 rfl) ?_
          refine lv_lmul hx hb d_MD_sets_161 ?_
          refine lv_ladd hx hb d_MD_sets_162 ?_
          refine lv_lload hx hb d_MD_sets_163 (lv_at hl 7 rfl) ?_
          refine lv_lload hx hb d_MD_sets_165 (lv_at hl 5 rfl) ?_
          refine lv_lmul hx hb d_MD_sets_167 ?_
          refine lv_ladd hx hb d_MD_sets_168 ?_
          refine lv_lstore (lv' := [(13, .long (((sr_sm gu (md_g7 gp gw mk) i) + (((gw (3 * i)).toInt64) * ((gp (3 * (mk i))).toInt64))) + (((gw ((3 * i) + 1)).toInt64) * ((gp ((3 * (mk i)) + 1)).toInt64)))), (11, .long (((sr_sm gu (md_g6 gw) i) + (((gw (3 * i)).toInt64) * ((gw (3 * i)).toInt64))) + (((gw ((3 * i) + 1)).toInt64) * ((gw ((3 * i) + 1)).toInt64)))), (9, .long ((sr_sm gu (md_g3 gp mk) i) + ((gp ((3 * (mk i)) + 1)).toInt64))), (7, .long ((sr_sm gu (md_g2 gp mk) i) + ((gp (3 * (mk i))).toInt64))), (5, .long ((sr_sm gu (md_g5 gw) i) + ((gw ((3 * i) + 1)).toInt64))), (3, .long ((sr_sm gu (md_g4 gw) i) + ((gw (3 * i)).toInt64))), (26, .long ((gp ((3 * (mk i)) + 1)).toInt64)), (24, .long ((gp (3 * (mk i))).toInt64)), (22, .long ((gw ((3 * i) + 1)).toInt64)), (20, .long ((gw (3 * i)).toInt64)), (0, .ref h0), (1, .long ((nI (sr_cu gu no)).toInt64)), (15, .long (sr_sm gu (md_g8 gp gw mk) i)), (17, .long (sr_sm gu (md_g9 gp gw gz mk) i)), (19, .int (nI i))]) hx hb d_MD_sets_169 hl (by decide) rfl (fun ls hl => ?_)
          refine lv_lload hx hb d_MD_sets_171 (lv_at hl 12 rfl) ?_
          refine lv_lload hx hb d_MD_sets_173 (lv_at hl 9 rfl) ?_
          refine lv_lload hx hb d_MD_sets_175 (lv_at hl 6 rfl) ?_
          refine lv_lmul hx hb d_MD_sets_177 ?_
          refine lv_ladd hx hb d_MD_sets_178 ?_
          refine lv_lload hx hb d_MD_sets_179 (lv_at hl 8 rfl) ?_
          refine lv_lload hx hb d_MD_sets_181 (lv_at hl 7 rfl) ?_
          refine lv_lmul hx hb d_MD_sets_183 ?_
          refine lv_lsub hx hb d_MD_sets_184 ?_
          refine lv_lstore (lv' := [(15, .long (((sr_sm gu (md_g8 gp gw mk) i) + (((gw (3 * i)).toInt64) * ((gp ((3 * (mk i)) + 1)).toInt64))) - (((gw ((3 * i) + 1)).toInt64) * ((gp (3 * (mk i))).toInt64)))), (13, .long (((sr_sm gu (md_g7 gp gw mk) i) + (((gw (3 * i)).toInt64) * ((gp (3 * (mk i))).toInt64))) + (((gw ((3 * i) + 1)).toInt64) * ((gp ((3 * (mk i)) + 1)).toInt64)))), (11, .long (((sr_sm gu (md_g6 gw) i) + (((gw (3 * i)).toInt64) * ((gw (3 * i)).toInt64))) + (((gw ((3 * i) + 1)).toInt64) * ((gw ((3 * i) + 1)).toInt64)))), (9, .long ((sr_sm gu (md_g3 gp mk) i) + ((gp ((3 * (mk i)) + 1)).toInt64))), (7, .long ((sr_sm gu (md_g2 gp mk) i) + ((gp (3 * (mk i))).toInt64))), (5, .long ((sr_sm gu (md_g5 gw) i) + ((gw ((3 * i) + 1)).toInt64))), (3, .long ((sr_sm gu (md_g4 gw) i) + ((gw (3 * i)).toInt64))), (26, .long ((gp ((3 * (mk i)) + 1)).toInt64)), (24, .long ((gp (3 * (mk i))).toInt64)), (22, .long ((gw ((3 * i) + 1)).toInt64)), (20, .long ((gw (3 * i)).toInt64)), (0, .ref h0), (1, .long ((nI (sr_cu gu no)).toInt64)), (17, .long (sr_sm gu (md_g9 gp gw gz mk) i)), (19, .int (nI i))]) hx hb d_MD_sets_185 hl (by decide) rfl (fun ls hl => ?_)
          refine lv_lload hx hb d_MD_sets_187 (lv_at hl 13 rfl) ?_
          refine lv_aload_n hx hb d_MD_sets_189 rfl (lv_at hl 11 rfl) ?_
          refine va_get (D := (dC, dI)) (ci := 7) (v := .ref ap) (C := xR_MD) (T := xT_MD) (N := 27) hx hb hts (fun w h => List.mem_cons_of_mem _ (iw_MD w h)) hown hK hP 0 rfl rfl 2 (by decide) (hts _ (List.mem_cons_of_mem _ wm_699)) (fun _ h9 => h9) rfl d_MD_sets_190 ?_
          refine lv_iconst (v := 3) hx hb d_MD_sets_193 (by decide) ?_
          refine lv_aload_n hx hb d_MD_sets_194 rfl (lv_at hl 11 rfl) ?_
          refine va_get (D := (dC, dI)) (ci := 7) (v := .ref am) (C := xR_MD) (T := xT_MD) (N := 27) hx hb hts (fun w h => List.mem_cons_of_mem _ (iw_MD w h)) hown hK hP 0 rfl rfl 4 (by decide) (hts _ (List.mem_cons_of_mem _ wm_701)) (fun _ h9 => h9) rfl d_MD_sets_195 ?_
          refine lv_iload hx hb d_MD_sets_198 (lv_at hl 14 rfl) ?_
          refine xa_iald hx hb hK hP 2 1 rfl rfl i rfl (by omega) (by decide) d_MD_sets_200 ?_
          refine lv_imul hx hb d_MD_sets_201 ?_
          refine xv_i (y := nI (3 * (mk i))) (pk_mul 3 _) ?_
          refine lv_iconst (v := 2) hx hb d_MD_sets_202 (by decide) ?_
          refine lv_iadd hx hb d_MD_sets_203 ?_
          refine xv_i (y := nI ((3 * (mk i)) + 2)) (nI_add _ 2) ?_
          refine xa_iald hx hb hK hP 1 0 rfl rfl ((3 * (mk i)) + 2) rfl (by omega) (by decide) d_MD_sets_204 ?_
          refine lv_i2l (v := (gp ((3 * (mk i)) + 2)).toInt64) hx hb d_MD_sets_205 rfl ?_
          refine lv_ladd hx hb d_MD_sets_206 ?_
          refine lv_aload_n hx hb d_MD_sets_207 rfl (lv_at hl 11 rfl) ?_
          refine va_get (D := (dC, dI)) (ci := 7) (v := .ref aw) (C := xR_MD) (T := xT_MD) (N := 27) hx hb hts (fun w h => List.mem_cons_of_mem _ (iw_MD w h)) hown hK hP 0 rfl rfl 5 (by decide) (hts _ (List.mem_cons_of_mem _ wm_702)) (fun _ h9 => h9) rfl d_MD_sets_208 ?_
          refine lv_iconst (v := 3) hx hb d_MD_sets_211 (by decide) ?_
          refine lv_iload hx hb d_MD_sets_212 (lv_at hl 14 rfl) ?_
          refine lv_imul hx hb d_MD_sets_214 ?_
          refine xv_i (y := nI (3 * i)) (pk_mul 3 _) ?_
          refine lv_iconst (v := 2) hx hb d_MD_sets_215 (by decide) ?_
          refine lv_iadd hx hb d_MD_sets_216 ?_
          refine xv_i (y := nI ((3 * i) + 2)) (nI_add _ 2) ?_
          refine xa_iald hx hb hK hP 3 2 rfl rfl ((3 * i) + 2) rfl (by omega) (by decide) d_MD_sets_217 ?_
          refine lv_i2l (v := (gw ((3 * i) + 2)).toInt64) hx hb d_MD_sets_218 rfl ?_
          refine lv_lsub hx hb d_MD_sets_219 ?_
          refine lv_aload_n hx hb d_MD_sets_220 rfl (lv_at hl 11 rfl) ?_
          refine va_get (D := (dC, dI)) (ci := 7) (v := .ref az) (C := xR_MD) (T := xT_MD) (N := 27) hx hb hts (fun w h => List.mem_cons_of_mem _ (iw_MD w h)) hown hK hP 0 rfl rfl 6 (by decide) (hts _ (List.mem_cons_of_mem _ wm_703)) (fun _ h9 => h9) rfl d_MD_sets_221 ?_
          refine lv_iload hx hb d_MD_sets_224 (lv_at hl 14 rfl) ?_
          refine xa_iald hx hb hK hP 4 3 rfl rfl i rfl (by omega) (by decide) d_MD_sets_226 ?_
          refine lv_i2l (v := (gz i).toInt64) hx hb d_MD_sets_227 rfl ?_
          refine lv_ladd hx hb d_MD_sets_228 ?_
          refine lv_lstore (lv' := [(17, .long ((((sr_sm gu (md_g9 gp gw gz mk) i) + ((gp ((3 * (mk i)) + 2)).toInt64)) - ((gw ((3 * i) + 2)).toInt64)) + ((gz i).toInt64))), (15, .long (((sr_sm gu (md_g8 gp gw mk) i) + (((gw (3 * i)).toInt64) * ((gp ((3 * (mk i)) + 1)).toInt64))) - (((gw ((3 * i) + 1)).toInt64) * ((gp (3 * (mk i))).toInt64)))), (13, .long (((sr_sm gu (md_g7 gp gw mk) i) + (((gw (3 * i)).toInt64) * ((gp (3 * (mk i))).toInt64))) + (((gw ((3 * i) + 1)).toInt64) * ((gp ((3 * (mk i)) + 1)).toInt64)))), (11, .long (((sr_sm gu (md_g6 gw) i) + (((gw (3 * i)).toInt64) * ((gw (3 * i)).toInt64))) + (((gw ((3 * i) + 1)).toInt64) * ((gw ((3 * i) + 1)).toInt64)))), (9, .long ((sr_sm gu (md_g3 gp mk) i) + ((gp ((3 * (mk i)) + 1)).toInt64))), (7, .long ((sr_sm gu (md_g2 gp mk) i) + ((gp (3 * (mk i))).toInt64))), (5, .long ((sr_sm gu (md_g5 gw) i) + ((gw ((3 * i) + 1)).toInt64))), (3, .long ((sr_sm gu (md_g4 gw) i) + ((gw (3 * i)).toInt64))), (26, .long ((gp ((3 * (mk i)) + 1)).toInt64)), (24, .long ((gp (3 * (mk i))).toInt64)), (22, .long ((gw ((3 * i) + 1)).toInt64)), (20, .long ((gw (3 * i)).toInt64)), (0, .ref h0), (1, .long ((nI (sr_cu gu no)).toInt64)), (19, .int (nI i))]) hx hb d_MD_sets_229 hl (by decide) rfl (fun ls hl => ?_)
          refine lv_iinc (v := nI (i + 1)) (lv' := [(19, .int (nI (i + 1))), (17, .long ((((sr_sm gu (md_g9 gp gw gz mk) i) + ((gp ((3 * (mk i)) + 2)).toInt64)) - ((gw ((3 * i) + 2)).toInt64)) + ((gz i).toInt64))), (15, .long (((sr_sm gu (md_g8 gp gw mk) i) + (((gw (3 * i)).toInt64) * ((gp ((3 * (mk i)) + 1)).toInt64))) - (((gw ((3 * i) + 1)).toInt64) * ((gp (3 * (mk i))).toInt64)))), (13, .long (((sr_sm gu (md_g7 gp gw mk) i) + (((gw (3 * i)).toInt64) * ((gp (3 * (mk i))).toInt64))) + (((gw ((3 * i) + 1)).toInt64) * ((gp ((3 * (mk i)) + 1)).toInt64)))), (11, .long (((sr_sm gu (md_g6 gw) i) + (((gw (3 * i)).toInt64) * ((gw (3 * i)).toInt64))) + (((gw ((3 * i) + 1)).toInt64) * ((gw ((3 * i) + 1)).toInt64)))), (9, .long ((sr_sm gu (md_g3 gp mk) i) + ((gp ((3 * (mk i)) + 1)).toInt64))), (7, .long ((sr_sm gu (md_g2 gp mk) i) + ((gp (3 * (mk i))).toInt64))), (5, .long ((sr_sm gu (md_g5 gw) i) + ((gw ((3 * i) + 1)).toInt64))), (3, .long ((sr_sm gu (md_g4 gw) i) + ((gw (3 * i)).toInt64))), (26, .long ((gp ((3 * (mk i)) + 1)).toInt64)), (24, .long ((gp (3 * (mk i))).toInt64)), (22, .long ((gw ((3 * i) + 1)).toInt64)), (20, .long ((gw (3 * i)).toInt64)), (0, .ref h0), (1, .long ((nI (sr_cu gu no)).toInt64))]) hx hb d_MD_sets_231 hl (k := 14) rfl (nI_1 _) (by decide) rfl (fun ls hl => ?_)
          refine lv_goto (tgt := 32) hx hb d_MD_sets_234 (by decide) ?_
          exact ih  (i + 1) ((sr_sm gu (md_g4 gw) i) + ((gw (3 * i)).toInt64)) ((sr_sm gu (md_g5 gw) i) + ((gw ((3 * i) + 1)).toInt64)) ((sr_sm gu (md_g2 gp mk) i) + ((gp (3 * (mk i))).toInt64)) ((sr_sm gu (md_g3 gp mk) i) + ((gp ((3 * (mk i)) + 1)).toInt64)) (((sr_sm gu (md_g6 gw) i) + (((gw (3 * i)).toInt64) * ((gw (3 * i)).toInt64))) + (((gw ((3 * i) + 1)).toInt64) * ((gw ((3 * i) + 1)).toInt64))) (((sr_sm gu (md_g7 gp gw mk) i) + (((gw (3 * i)).toInt64) * ((gp (3 * (mk i))).toInt64))) + (((gw ((3 * i) + 1)).toInt64) * ((gp ((3 * (mk i)) + 1)).toInt64))) (((sr_sm gu (md_g8 gp gw mk) i) + (((gw (3 * i)).toInt64) * ((gp ((3 * (mk i)) + 1)).toInt64))) - (((gw ((3 * i) + 1)).toInt64) * ((gp (3 * (mk i))).toInt64))) ((((sr_sm gu (md_g9 gp gw gz mk) i) + ((gp ((3 * (mk i)) + 2)).toInt64)) - ((gw ((3 * i) + 2)).toInt64)) + ((gz i).toInt64)) (by omega) (by omega) ((sr_sm_t c_13).symm) ((sr_sm_t c_13).symm) ((sr_sm_t c_13).symm) ((sr_sm_t c_13).symm) (by rw [sr_sm_t c_13]; exact md_a11 _ _ _ _ _) (by rw [sr_sm_t c_13]; exact md_a13 _ _ _ _ _) (by rw [sr_sm_t c_13]; exact md_a15 _ _ _ _ _) (by rw [sr_sm_t c_13]; exact md_a17 _ _ _ _) _ _ (hP.sub [0, 1, 2, 3, 4, 5, 6, 7] rfl) (hD.sub [0, 1, 2, 3, 4, 5, 6, 7] (by decide) rfl) hS ls (lv_sub hl [13, 14, 8, 7, 6, 5, 4, 3, 2, 1, 0] rfl)
  exact lp32 (no - 0 + 1) 0 0 0 0 0 0 0 0 0 (by omega) (Nat.zero_le _) rfl rfl rfl rfl rfl rfl rfl rfl _ _ (hP.sub [0, 1, 2, 3, 4, 5, 6, 7] rfl) (hD.sub [0, 1, 2, 3, 4, 5, 6, 7] (by decide) rfl) hS ls (lv_sub hl [10, 9, 8, 7, 6, 5, 4, 3, 2, 1, 0] rfl)
