theorem d_MD_shared_0 : decode prog_9_method_27_code 0 = .ok (.lconst 0, 1) := by decide +kernel
theorem d_MD_shared_1 : decode prog_9_method_27_code 1 = .ok (.lstore_n 2, 1) := by decide +kernel
theorem d_MD_shared_2 : decode prog_9_method_27_code 2 = .ok (.lconst 0, 1) := by decide +kernel
theorem d_MD_shared_3 : decode prog_9_method_27_code 3 = .ok (.lstore 4, 2) := by decide +kernel
theorem d_MD_shared_5 : decode prog_9_method_27_code 5 = .ok (.lconst 0, 1) := by decide +kernel
theorem d_MD_shared_6 : decode prog_9_method_27_code 6 = .ok (.lstore 6, 2) := by decide +kernel
theorem d_MD_shared_8 : decode prog_9_method_27_code 8 = .ok (.iconst 0, 1) := by decide +kernel
theorem d_MD_shared_9 : decode prog_9_method_27_code 9 = .ok (.istore 8, 2) := by decide +kernel
theorem d_MD_shared_11 : decode prog_9_method_27_code 11 = .ok (.iload 8, 2) := by decide +kernel
theorem d_MD_shared_13 : decode prog_9_method_27_code 13 = .ok (.aload_n 0, 1) := by decide +kernel
theorem d_MD_shared_14 : decode prog_9_method_27_code 14 = .ok (.getfield 131, 3) := by decide +kernel
theorem d_MD_shared_17 : decode prog_9_method_27_code 17 = .ok (.if_icmp .ge 57, 3) := by decide +kernel
theorem d_MD_shared_20 : decode prog_9_method_27_code 20 = .ok (.lload_n 2, 1) := by decide +kernel
theorem d_MD_shared_21 : decode prog_9_method_27_code 21 = .ok (.aload_n 0, 1) := by decide +kernel
theorem d_MD_shared_22 : decode prog_9_method_27_code 22 = .ok (.getfield 39, 3) := by decide +kernel
theorem d_MD_shared_25 : decode prog_9_method_27_code 25 = .ok (.iload 8, 2) := by decide +kernel
theorem d_MD_shared_27 : decode prog_9_method_27_code 27 = .ok (.iaload, 1) := by decide +kernel
theorem d_MD_shared_28 : decode prog_9_method_27_code 28 = .ok (.i2l, 1) := by decide +kernel
theorem d_MD_shared_29 : decode prog_9_method_27_code 29 = .ok (.ladd, 1) := by decide +kernel
theorem d_MD_shared_30 : decode prog_9_method_27_code 30 = .ok (.lstore_n 2, 1) := by decide +kernel
theorem d_MD_shared_31 : decode prog_9_method_27_code 31 = .ok (.lload 4, 2) := by decide +kernel
theorem d_MD_shared_33 : decode prog_9_method_27_code 33 = .ok (.aload_n 0, 1) := by decide +kernel
theorem d_MD_shared_34 : decode prog_9_method_27_code 34 = .ok (.getfield 42, 3) := by decide +kernel
theorem d_MD_shared_37 : decode prog_9_method_27_code 37 = .ok (.iload 8, 2) := by decide +kernel
theorem d_MD_shared_39 : decode prog_9_method_27_code 39 = .ok (.iaload, 1) := by decide +kernel
theorem d_MD_shared_40 : decode prog_9_method_27_code 40 = .ok (.i2l, 1) := by decide +kernel
theorem d_MD_shared_41 : decode prog_9_method_27_code 41 = .ok (.ladd, 1) := by decide +kernel
theorem d_MD_shared_42 : decode prog_9_method_27_code 42 = .ok (.lstore 4, 2) := by decide +kernel
theorem d_MD_shared_44 : decode prog_9_method_27_code 44 = .ok (.iload 8, 2) := by decide +kernel
theorem d_MD_shared_46 : decode prog_9_method_27_code 46 = .ok (.iload_n 1, 1) := by decide +kernel
theorem d_MD_shared_47 : decode prog_9_method_27_code 47 = .ok (.if_icmp .gt 17, 3) := by decide +kernel
theorem d_MD_shared_50 : decode prog_9_method_27_code 50 = .ok (.lload 6, 2) := by decide +kernel
theorem d_MD_shared_52 : decode prog_9_method_27_code 52 = .ok (.aload_n 0, 1) := by decide +kernel
theorem d_MD_shared_53 : decode prog_9_method_27_code 53 = .ok (.getfield 42, 3) := by decide +kernel
theorem d_MD_shared_56 : decode prog_9_method_27_code 56 = .ok (.iload 8, 2) := by decide +kernel
theorem d_MD_shared_58 : decode prog_9_method_27_code 58 = .ok (.iaload, 1) := by decide +kernel
theorem d_MD_shared_59 : decode prog_9_method_27_code 59 = .ok (.i2l, 1) := by decide +kernel
theorem d_MD_shared_60 : decode prog_9_method_27_code 60 = .ok (.ladd, 1) := by decide +kernel
theorem d_MD_shared_61 : decode prog_9_method_27_code 61 = .ok (.goto 5, 3) := by decide +kernel
theorem d_MD_shared_64 : decode prog_9_method_27_code 64 = .ok (.lload 6, 2) := by decide +kernel
theorem d_MD_shared_66 : decode prog_9_method_27_code 66 = .ok (.lstore 6, 2) := by decide +kernel
theorem d_MD_shared_68 : decode prog_9_method_27_code 68 = .ok (.iinc 8 1, 3) := by decide +kernel
theorem d_MD_shared_71 : decode prog_9_method_27_code 71 = .ok (.goto (-60), 3) := by decide +kernel
theorem d_MD_shared_74 : decode prog_9_method_27_code 74 = .ok (.lload_n 2, 1) := by decide +kernel
theorem d_MD_shared_75 : decode prog_9_method_27_code 75 = .ok (.lload 6, 2) := by decide +kernel
theorem d_MD_shared_77 : decode prog_9_method_27_code 77 = .ok (.lmul, 1) := by decide +kernel
theorem d_MD_shared_78 : decode prog_9_method_27_code 78 = .ok (.lload 4, 2) := by decide +kernel
theorem d_MD_shared_80 : decode prog_9_method_27_code 80 = .ok (.invokestatic 99, 3) := by decide +kernel
theorem d_MD_shared_83 : decode prog_9_method_27_code 83 = .ok (.l2i, 1) := by decide +kernel
theorem d_MD_shared_84 : decode prog_9_method_27_code 84 = .ok (.ireturn, 1) := by decide +kernel
theorem d_MD_closed_0 : decode prog_9_method_28_code 0 = .ok (.aload_n 0, 1) := by decide +kernel
theorem d_MD_closed_1 : decode prog_9_method_28_code 1 = .ok (.iload_n 1, 1) := by decide +kernel
theorem d_MD_closed_2 : decode prog_9_method_28_code 2 = .ok (.iconst (-1), 1) := by decide +kernel
theorem d_MD_closed_3 : decode prog_9_method_28_code 3 = .ok (.aload_n 0, 1) := by decide +kernel
theorem d_MD_closed_4 : decode prog_9_method_28_code 4 = .ok (.getfield 131, 3) := by decide +kernel
theorem d_MD_closed_7 : decode prog_9_method_28_code 7 = .ok (.iconst 1, 1) := by decide +kernel
theorem d_MD_closed_8 : decode prog_9_method_28_code 8 = .ok (.isub, 1) := by decide +kernel
theorem d_MD_closed_9 : decode prog_9_method_28_code 9 = .ok (.invokestatic 51, 3) := by decide +kernel
theorem d_MD_closed_12 : decode prog_9_method_28_code 12 = .ok (.iconst 1, 1) := by decide +kernel
theorem d_MD_closed_13 : decode prog_9_method_28_code 13 = .ok (.iconst 1, 1) := by decide +kernel
theorem d_MD_closed_14 : decode prog_9_method_28_code 14 = .ok (.invokevirtual 64, 3) := by decide +kernel
theorem d_MD_closed_17 : decode prog_9_method_28_code 17 = .ok (.ifCond .ne 5, 3) := by decide +kernel
theorem d_MD_closed_20 : decode prog_9_method_28_code 20 = .ok (.iconst 0, 1) := by decide +kernel
theorem d_MD_closed_21 : decode prog_9_method_28_code 21 = .ok (.ireturn, 1) := by decide +kernel
theorem d_MD_closed_22 : decode prog_9_method_28_code 22 = .ok (.iconst 0, 1) := by decide +kernel
theorem d_MD_closed_23 : decode prog_9_method_28_code 23 = .ok (.istore_n 2, 1) := by decide +kernel
theorem d_MD_closed_24 : decode prog_9_method_28_code 24 = .ok (.iconst 0, 1) := by decide +kernel
theorem d_MD_closed_25 : decode prog_9_method_28_code 25 = .ok (.istore_n 3, 1) := by decide +kernel
theorem d_MD_closed_26 : decode prog_9_method_28_code 26 = .ok (.iload_n 3, 1) := by decide +kernel
theorem d_MD_closed_27 : decode prog_9_method_28_code 27 = .ok (.aload_n 0, 1) := by decide +kernel
theorem d_MD_closed_28 : decode prog_9_method_28_code 28 = .ok (.getfield 131, 3) := by decide +kernel
theorem d_MD_closed_31 : decode prog_9_method_28_code 31 = .ok (.if_icmp .ge 18, 3) := by decide +kernel
theorem d_MD_closed_34 : decode prog_9_method_28_code 34 = .ok (.iload_n 2, 1) := by decide +kernel
theorem d_MD_closed_35 : decode prog_9_method_28_code 35 = .ok (.aload_n 0, 1) := by decide +kernel
theorem d_MD_closed_36 : decode prog_9_method_28_code 36 = .ok (.getfield 39, 3) := by decide +kernel
theorem d_MD_closed_39 : decode prog_9_method_28_code 39 = .ok (.iload_n 3, 1) := by decide +kernel
theorem d_MD_closed_40 : decode prog_9_method_28_code 40 = .ok (.iaload, 1) := by decide +kernel
theorem d_MD_closed_41 : decode prog_9_method_28_code 41 = .ok (.iadd, 1) := by decide +kernel
theorem d_MD_closed_42 : decode prog_9_method_28_code 42 = .ok (.istore_n 2, 1) := by decide +kernel
theorem d_MD_closed_43 : decode prog_9_method_28_code 43 = .ok (.iinc 3 1, 3) := by decide +kernel
theorem d_MD_closed_46 : decode prog_9_method_28_code 46 = .ok (.goto (-20), 3) := by decide +kernel
theorem d_MD_closed_49 : decode prog_9_method_28_code 49 = .ok (.iload_n 1, 1) := by decide +kernel
theorem d_MD_closed_50 : decode prog_9_method_28_code 50 = .ok (.iconst (-1), 1) := by decide +kernel
theorem d_MD_closed_51 : decode prog_9_method_28_code 51 = .ok (.if_icmp .ne 7, 3) := by decide +kernel
theorem d_MD_closed_54 : decode prog_9_method_28_code 54 = .ok (.iload_n 2, 1) := by decide +kernel
theorem d_MD_closed_55 : decode prog_9_method_28_code 55 = .ok (.goto 31, 3) := by decide +kernel
theorem d_MD_closed_58 : decode prog_9_method_28_code 58 = .ok (.aload_n 0, 1) := by decide +kernel
theorem d_MD_closed_59 : decode prog_9_method_28_code 59 = .ok (.getfield 39, 3) := by decide +kernel
theorem d_MD_closed_62 : decode prog_9_method_28_code 62 = .ok (.iload_n 1, 1) := by decide +kernel
theorem d_MD_closed_63 : decode prog_9_method_28_code 63 = .ok (.iaload, 1) := by decide +kernel
theorem d_MD_closed_64 : decode prog_9_method_28_code 64 = .ok (.aload_n 0, 1) := by decide +kernel
theorem d_MD_closed_65 : decode prog_9_method_28_code 65 = .ok (.iload_n 1, 1) := by decide +kernel
theorem d_MD_closed_66 : decode prog_9_method_28_code 66 = .ok (.invokevirtual 135, 3) := by decide +kernel
theorem d_MD_closed_69 : decode prog_9_method_28_code 69 = .ok (.isub, 1) := by decide +kernel
theorem d_MD_closed_70 : decode prog_9_method_28_code 70 = .ok (.iload_n 1, 1) := by decide +kernel
theorem d_MD_closed_71 : decode prog_9_method_28_code 71 = .ok (.ifCond .ne 7, 3) := by decide +kernel
theorem d_MD_closed_74 : decode prog_9_method_28_code 74 = .ok (.iconst 0, 1) := by decide +kernel
theorem d_MD_closed_75 : decode prog_9_method_28_code 75 = .ok (.goto 10, 3) := by decide +kernel
theorem d_MD_closed_78 : decode prog_9_method_28_code 78 = .ok (.aload_n 0, 1) := by decide +kernel
theorem d_MD_closed_79 : decode prog_9_method_28_code 79 = .ok (.iload_n 1, 1) := by decide +kernel
theorem d_MD_closed_80 : decode prog_9_method_28_code 80 = .ok (.iconst 1, 1) := by decide +kernel
theorem d_MD_closed_81 : decode prog_9_method_28_code 81 = .ok (.isub, 1) := by decide +kernel
theorem d_MD_closed_82 : decode prog_9_method_28_code 82 = .ok (.invokevirtual 135, 3) := by decide +kernel
theorem d_MD_closed_85 : decode prog_9_method_28_code 85 = .ok (.iadd, 1) := by decide +kernel
theorem d_MD_closed_86 : decode prog_9_method_28_code 86 = .ok (.ireturn, 1) := by decide +kernel
theorem d_MD_signsOf_0 : decode prog_9_method_30_code 0 = .ok (.iconst 0, 1) := by decide +kernel
theorem d_MD_signsOf_1 : decode prog_9_method_30_code 1 = .ok (.istore_n 1, 1) := by decide +kernel
theorem d_MD_signsOf_2 : decode prog_9_method_30_code 2 = .ok (.iconst 0, 1) := by decide +kernel
theorem d_MD_signsOf_3 : decode prog_9_method_30_code 3 = .ok (.istore_n 2, 1) := by decide +kernel
theorem d_MD_signsOf_4 : decode prog_9_method_30_code 4 = .ok (.iload_n 2, 1) := by decide +kernel
theorem d_MD_signsOf_5 : decode prog_9_method_30_code 5 = .ok (.iconst 4, 1) := by decide +kernel
theorem d_MD_signsOf_6 : decode prog_9_method_30_code 6 = .ok (.if_icmp .ge 30, 3) := by decide +kernel
theorem d_MD_signsOf_9 : decode prog_9_method_30_code 9 = .ok (.iload_n 0, 1) := by decide +kernel
theorem d_MD_signsOf_10 : decode prog_9_method_30_code 10 = .ok (.bipush 8, 2) := by decide +kernel
theorem d_MD_signsOf_12 : decode prog_9_method_30_code 12 = .ok (.iload_n 2, 1) := by decide +kernel
theorem d_MD_signsOf_13 : decode prog_9_method_30_code 13 = .ok (.imul, 1) := by decide +kernel
theorem d_MD_signsOf_14 : decode prog_9_method_30_code 14 = .ok (.iushr, 1) := by decide +kernel
theorem d_MD_signsOf_15 : decode prog_9_method_30_code 15 = .ok (.sipush 255, 3) := by decide +kernel
theorem d_MD_signsOf_18 : decode prog_9_method_30_code 18 = .ok (.iand, 1) := by decide +kernel
theorem d_MD_signsOf_19 : decode prog_9_method_30_code 19 = .ok (.ifCond .eq 9, 3) := by decide +kernel
theorem d_MD_signsOf_22 : decode prog_9_method_30_code 22 = .ok (.iload_n 1, 1) := by decide +kernel
theorem d_MD_signsOf_23 : decode prog_9_method_30_code 23 = .ok (.iconst 1, 1) := by decide +kernel
theorem d_MD_signsOf_24 : decode prog_9_method_30_code 24 = .ok (.iadd, 1) := by decide +kernel
theorem d_MD_signsOf_25 : decode prog_9_method_30_code 25 = .ok (.goto 4, 3) := by decide +kernel
theorem d_MD_signsOf_28 : decode prog_9_method_30_code 28 = .ok (.iload_n 1, 1) := by decide +kernel
theorem d_MD_signsOf_29 : decode prog_9_method_30_code 29 = .ok (.istore_n 1, 1) := by decide +kernel
theorem d_MD_signsOf_30 : decode prog_9_method_30_code 30 = .ok (.iinc 2 1, 3) := by decide +kernel
theorem d_MD_signsOf_33 : decode prog_9_method_30_code 33 = .ok (.goto (-29), 3) := by decide +kernel
theorem d_MD_signsOf_36 : decode prog_9_method_30_code 36 = .ok (.iload_n 1, 1) := by decide +kernel
theorem d_MD_signsOf_37 : decode prog_9_method_30_code 37 = .ok (.ireturn, 1) := by decide +kernel
theorem d_MD_isPlain_0 : decode prog_9_method_31_code 0 = .ok (.iconst 1, 1) := by decide +kernel
theorem d_MD_isPlain_1 : decode prog_9_method_31_code 1 = .ok (.istore_n 1, 1) := by decide +kernel
theorem d_MD_isPlain_2 : decode prog_9_method_31_code 2 = .ok (.iconst 0, 1) := by decide +kernel
theorem d_MD_isPlain_3 : decode prog_9_method_31_code 3 = .ok (.istore_n 2, 1) := by decide +kernel
theorem d_MD_isPlain_4 : decode prog_9_method_31_code 4 = .ok (.iload_n 2, 1) := by decide +kernel
theorem d_MD_isPlain_5 : decode prog_9_method_31_code 5 = .ok (.iconst 4, 1) := by decide +kernel
theorem d_MD_isPlain_6 : decode prog_9_method_31_code 6 = .ok (.if_icmp .ge 63, 3) := by decide +kernel
theorem d_MD_isPlain_9 : decode prog_9_method_31_code 9 = .ok (.iload_n 0, 1) := by decide +kernel
theorem d_MD_isPlain_10 : decode prog_9_method_31_code 10 = .ok (.bipush 8, 2) := by decide +kernel
theorem d_MD_isPlain_12 : decode prog_9_method_31_code 12 = .ok (.iload_n 2, 1) := by decide +kernel
theorem d_MD_isPlain_13 : decode prog_9_method_31_code 13 = .ok (.imul, 1) := by decide +kernel
theorem d_MD_isPlain_14 : decode prog_9_method_31_code 14 = .ok (.iushr, 1) := by decide +kernel
theorem d_MD_isPlain_15 : decode prog_9_method_31_code 15 = .ok (.sipush 255, 3) := by decide +kernel
theorem d_MD_isPlain_18 : decode prog_9_method_31_code 18 = .ok (.iand, 1) := by decide +kernel
theorem d_MD_isPlain_19 : decode prog_9_method_31_code 19 = .ok (.istore_n 3, 1) := by decide +kernel
theorem d_MD_isPlain_20 : decode prog_9_method_31_code 20 = .ok (.iload_n 1, 1) := by decide +kernel
theorem d_MD_isPlain_21 : decode prog_9_method_31_code 21 = .ok (.ifCond .eq 40, 3) := by decide +kernel
theorem d_MD_isPlain_24 : decode prog_9_method_31_code 24 = .ok (.iload_n 3, 1) := by decide +kernel
theorem d_MD_isPlain_25 : decode prog_9_method_31_code 25 = .ok (.ifCond .eq 32, 3) := by decide +kernel
theorem d_MD_isPlain_28 : decode prog_9_method_31_code 28 = .ok (.iload_n 3, 1) := by decide +kernel
theorem d_MD_isPlain_29 : decode prog_9_method_31_code 29 = .ok (.bipush 48, 2) := by decide +kernel
theorem d_MD_isPlain_31 : decode prog_9_method_31_code 31 = .ok (.bipush 57, 2) := by decide +kernel
theorem d_MD_isPlain_33 : decode prog_9_method_31_code 33 = .ok (.invokestatic 51, 3) := by decide +kernel
theorem d_MD_isPlain_36 : decode prog_9_method_31_code 36 = .ok (.ifCond .ne 21, 3) := by decide +kernel
theorem d_MD_isPlain_39 : decode prog_9_method_31_code 39 = .ok (.iload_n 3, 1) := by decide +kernel
theorem d_MD_isPlain_40 : decode prog_9_method_31_code 40 = .ok (.bipush 45, 2) := by decide +kernel
theorem d_MD_isPlain_42 : decode prog_9_method_31_code 42 = .ok (.if_icmp .eq 15, 3) := by decide +kernel
theorem d_MD_isPlain_45 : decode prog_9_method_31_code 45 = .ok (.iload_n 3, 1) := by decide +kernel
theorem d_MD_isPlain_46 : decode prog_9_method_31_code 46 = .ok (.bipush 32, 2) := by decide +kernel
theorem d_MD_isPlain_48 : decode prog_9_method_31_code 48 = .ok (.if_icmp .eq 9, 3) := by decide +kernel
theorem d_MD_isPlain_51 : decode prog_9_method_31_code 51 = .ok (.iload_n 3, 1) := by decide +kernel
theorem d_MD_isPlain_52 : decode prog_9_method_31_code 52 = .ok (.bipush 59, 2) := by decide +kernel
theorem d_MD_isPlain_54 : decode prog_9_method_31_code 54 = .ok (.if_icmp .ne 7, 3) := by decide +kernel
theorem d_MD_isPlain_57 : decode prog_9_method_31_code 57 = .ok (.iconst 1, 1) := by decide +kernel
theorem d_MD_isPlain_58 : decode prog_9_method_31_code 58 = .ok (.goto 4, 3) := by decide +kernel
theorem d_MD_isPlain_61 : decode prog_9_method_31_code 61 = .ok (.iconst 0, 1) := by decide +kernel
theorem d_MD_isPlain_62 : decode prog_9_method_31_code 62 = .ok (.istore_n 1, 1) := by decide +kernel
theorem d_MD_isPlain_63 : decode prog_9_method_31_code 63 = .ok (.iinc 2 1, 3) := by decide +kernel
theorem d_MD_isPlain_66 : decode prog_9_method_31_code 66 = .ok (.goto (-62), 3) := by decide +kernel
theorem d_MD_isPlain_69 : decode prog_9_method_31_code 69 = .ok (.iload_n 1, 1) := by decide +kernel
theorem d_MD_isPlain_70 : decode prog_9_method_31_code 70 = .ok (.ireturn, 1) := by decide +kernel
theorem d_MD_push_0 : decode prog_9_method_32_code 0 = .ok (.iconst 0, 1) := by decide +kernel
theorem d_MD_push_1 : decode prog_9_method_32_code 1 = .ok (.istore_n 2, 1) := by decide +kernel
theorem d_MD_push_2 : decode prog_9_method_32_code 2 = .ok (.iload_n 2, 1) := by decide +kernel
theorem d_MD_push_3 : decode prog_9_method_32_code 3 = .ok (.iconst 4, 1) := by decide +kernel
theorem d_MD_push_4 : decode prog_9_method_32_code 4 = .ok (.if_icmp .ge 44, 3) := by decide +kernel
theorem d_MD_push_7 : decode prog_9_method_32_code 7 = .ok (.iload_n 1, 1) := by decide +kernel
theorem d_MD_push_8 : decode prog_9_method_32_code 8 = .ok (.bipush 8, 2) := by decide +kernel
theorem d_MD_push_10 : decode prog_9_method_32_code 10 = .ok (.iload_n 2, 1) := by decide +kernel
theorem d_MD_push_11 : decode prog_9_method_32_code 11 = .ok (.imul, 1) := by decide +kernel
theorem d_MD_push_12 : decode prog_9_method_32_code 12 = .ok (.iushr, 1) := by decide +kernel
theorem d_MD_push_13 : decode prog_9_method_32_code 13 = .ok (.sipush 255, 3) := by decide +kernel
theorem d_MD_push_16 : decode prog_9_method_32_code 16 = .ok (.iand, 1) := by decide +kernel
theorem d_MD_push_17 : decode prog_9_method_32_code 17 = .ok (.istore_n 3, 1) := by decide +kernel
theorem d_MD_push_18 : decode prog_9_method_32_code 18 = .ok (.iload_n 3, 1) := by decide +kernel
theorem d_MD_push_19 : decode prog_9_method_32_code 19 = .ok (.ifCond .eq 23, 3) := by decide +kernel
theorem d_MD_push_22 : decode prog_9_method_32_code 22 = .ok (.aload_n 0, 1) := by decide +kernel
theorem d_MD_push_23 : decode prog_9_method_32_code 23 = .ok (.getfield 45, 3) := by decide +kernel
theorem d_MD_push_26 : decode prog_9_method_32_code 26 = .ok (.aload_n 0, 1) := by decide +kernel
theorem d_MD_push_27 : decode prog_9_method_32_code 27 = .ok (.getfield 139, 3) := by decide +kernel
theorem d_MD_push_30 : decode prog_9_method_32_code 30 = .ok (.iload_n 3, 1) := by decide +kernel
theorem d_MD_push_31 : decode prog_9_method_32_code 31 = .ok (.iastore, 1) := by decide +kernel
theorem d_MD_push_32 : decode prog_9_method_32_code 32 = .ok (.aload_n 0, 1) := by decide +kernel
theorem d_MD_push_33 : decode prog_9_method_32_code 33 = .ok (.dup, 1) := by decide +kernel
theorem d_MD_push_34 : decode prog_9_method_32_code 34 = .ok (.getfield 139, 3) := by decide +kernel
theorem d_MD_push_37 : decode prog_9_method_32_code 37 = .ok (.iconst 1, 1) := by decide +kernel
theorem d_MD_push_38 : decode prog_9_method_32_code 38 = .ok (.iadd, 1) := by decide +kernel
theorem d_MD_push_39 : decode prog_9_method_32_code 39 = .ok (.putfield 139, 3) := by decide +kernel
theorem d_MD_push_42 : decode prog_9_method_32_code 42 = .ok (.iinc 2 1, 3) := by decide +kernel
theorem d_MD_push_45 : decode prog_9_method_32_code 45 = .ok (.goto (-43), 3) := by decide +kernel
theorem d_MD_push_48 : decode prog_9_method_32_code 48 = .ok (.return_, 1) := by decide +kernel
theorem d_MD_unit_0 : decode prog_9_method_33_code 0 = .ok (.aload_n 0, 1) := by decide +kernel
theorem d_MD_unit_1 : decode prog_9_method_33_code 1 = .ok (.aload_n 0, 1) := by decide +kernel
theorem d_MD_unit_2 : decode prog_9_method_33_code 2 = .ok (.getfield 139, 3) := by decide +kernel
theorem d_MD_unit_5 : decode prog_9_method_33_code 5 = .ok (.iload_n 1, 1) := by decide +kernel
theorem d_MD_unit_6 : decode prog_9_method_33_code 6 = .ok (.invokestatic 142, 3) := by decide +kernel
theorem d_MD_unit_9 : decode prog_9_method_33_code 9 = .ok (.iadd, 1) := by decide +kernel
theorem d_MD_unit_10 : decode prog_9_method_33_code 10 = .ok (.iload_n 2, 1) := by decide +kernel
theorem d_MD_unit_11 : decode prog_9_method_33_code 11 = .ok (.invokestatic 142, 3) := by decide +kernel
theorem d_MD_unit_14 : decode prog_9_method_33_code 14 = .ok (.iadd, 1) := by decide +kernel
theorem d_MD_unit_15 : decode prog_9_method_33_code 15 = .ok (.sipush 200, 3) := by decide +kernel
theorem d_MD_unit_18 : decode prog_9_method_33_code 18 = .ok (.if_icmp .gt 7, 3) := by decide +kernel
theorem d_MD_unit_21 : decode prog_9_method_33_code 21 = .ok (.iconst 1, 1) := by decide +kernel
theorem d_MD_unit_22 : decode prog_9_method_33_code 22 = .ok (.goto 4, 3) := by decide +kernel
theorem d_MD_unit_25 : decode prog_9_method_33_code 25 = .ok (.iconst 0, 1) := by decide +kernel
theorem d_MD_unit_26 : decode prog_9_method_33_code 26 = .ok (.iload_n 1, 1) := by decide +kernel
theorem d_MD_unit_27 : decode prog_9_method_33_code 27 = .ok (.invokestatic 145, 3) := by decide +kernel
theorem d_MD_unit_30 : decode prog_9_method_33_code 30 = .ok (.ifCond .eq 14, 3) := by decide +kernel
theorem d_MD_unit_33 : decode prog_9_method_33_code 33 = .ok (.iload_n 2, 1) := by decide +kernel
theorem d_MD_unit_34 : decode prog_9_method_33_code 34 = .ok (.invokestatic 145, 3) := by decide +kernel
theorem d_MD_unit_37 : decode prog_9_method_33_code 37 = .ok (.ifCond .eq 7, 3) := by decide +kernel
theorem d_MD_unit_40 : decode prog_9_method_33_code 40 = .ok (.iconst 1, 1) := by decide +kernel
theorem d_MD_unit_41 : decode prog_9_method_33_code 41 = .ok (.goto 4, 3) := by decide +kernel
theorem d_MD_unit_44 : decode prog_9_method_33_code 44 = .ok (.iconst 0, 1) := by decide +kernel
theorem d_MD_unit_45 : decode prog_9_method_33_code 45 = .ok (.iconst 1, 1) := by decide +kernel
theorem d_MD_unit_46 : decode prog_9_method_33_code 46 = .ok (.invokevirtual 64, 3) := by decide +kernel
theorem d_MD_unit_49 : decode prog_9_method_33_code 49 = .ok (.ifCond .ne 5, 3) := by decide +kernel
theorem d_MD_unit_52 : decode prog_9_method_33_code 52 = .ok (.iconst 0, 1) := by decide +kernel
theorem d_MD_unit_53 : decode prog_9_method_33_code 53 = .ok (.ireturn, 1) := by decide +kernel
theorem d_MD_unit_54 : decode prog_9_method_33_code 54 = .ok (.aload_n 0, 1) := by decide +kernel
theorem d_MD_unit_55 : decode prog_9_method_33_code 55 = .ok (.iload_n 1, 1) := by decide +kernel
theorem d_MD_unit_56 : decode prog_9_method_33_code 56 = .ok (.invokevirtual 148, 3) := by decide +kernel
theorem d_MD_unit_59 : decode prog_9_method_33_code 59 = .ok (.aload_n 0, 1) := by decide +kernel
theorem d_MD_unit_60 : decode prog_9_method_33_code 60 = .ok (.iload_n 2, 1) := by decide +kernel
theorem d_MD_unit_61 : decode prog_9_method_33_code 61 = .ok (.invokevirtual 148, 3) := by decide +kernel
theorem d_MD_unit_64 : decode prog_9_method_33_code 64 = .ok (.aload_n 0, 1) := by decide +kernel
theorem d_MD_unit_65 : decode prog_9_method_33_code 65 = .ok (.getfield 139, 3) := by decide +kernel
theorem d_MD_unit_68 : decode prog_9_method_33_code 68 = .ok (.ireturn, 1) := by decide +kernel
theorem d_MD_count_0 : decode prog_9_method_37_code 0 = .ok (.aload_n 0, 1) := by decide +kernel
theorem d_MD_count_1 : decode prog_9_method_37_code 1 = .ok (.iload_n 1, 1) := by decide +kernel
theorem d_MD_count_2 : decode prog_9_method_37_code 2 = .ok (.iconst 0, 1) := by decide +kernel
theorem d_MD_count_3 : decode prog_9_method_37_code 3 = .ok (.iconst 5, 1) := by decide +kernel
theorem d_MD_count_4 : decode prog_9_method_37_code 4 = .ok (.invokestatic 51, 3) := by decide +kernel
theorem d_MD_count_7 : decode prog_9_method_37_code 7 = .ok (.iconst 1, 1) := by decide +kernel
theorem d_MD_count_8 : decode prog_9_method_37_code 8 = .ok (.iconst 1, 1) := by decide +kernel
theorem d_MD_count_9 : decode prog_9_method_37_code 9 = .ok (.invokevirtual 64, 3) := by decide +kernel
theorem d_MD_count_12 : decode prog_9_method_37_code 12 = .ok (.ifCond .ne 5, 3) := by decide +kernel
theorem d_MD_count_15 : decode prog_9_method_37_code 15 = .ok (.iconst 0, 1) := by decide +kernel
theorem d_MD_count_16 : decode prog_9_method_37_code 16 = .ok (.ireturn, 1) := by decide +kernel
theorem d_MD_count_17 : decode prog_9_method_37_code 17 = .ok (.iload_n 1, 1) := by decide +kernel
theorem d_MD_count_18 : decode prog_9_method_37_code 18 = .ok (.tableswitch 59 0 4 #[34, 39, 44, 49, 54], 34) := by decide +kernel
theorem d_MD_count_52 : decode prog_9_method_37_code 52 = .ok (.aload_n 0, 1) := by decide +kernel
theorem d_MD_count_53 : decode prog_9_method_37_code 53 = .ok (.getfield 58, 3) := by decide +kernel
theorem d_MD_count_56 : decode prog_9_method_37_code 56 = .ok (.ireturn, 1) := by decide +kernel
theorem d_MD_count_57 : decode prog_9_method_37_code 57 = .ok (.aload_n 0, 1) := by decide +kernel
theorem d_MD_count_58 : decode prog_9_method_37_code 58 = .ok (.getfield 55, 3) := by decide +kernel
theorem d_MD_count_61 : decode prog_9_method_37_code 61 = .ok (.ireturn, 1) := by decide +kernel
theorem d_MD_count_62 : decode prog_9_method_37_code 62 = .ok (.aload_n 0, 1) := by decide +kernel
theorem d_MD_count_63 : decode prog_9_method_37_code 63 = .ok (.invokevirtual 76, 3) := by decide +kernel
theorem d_MD_count_66 : decode prog_9_method_37_code 66 = .ok (.ireturn, 1) := by decide +kernel
theorem d_MD_count_67 : decode prog_9_method_37_code 67 = .ok (.aload_n 0, 1) := by decide +kernel
theorem d_MD_count_68 : decode prog_9_method_37_code 68 = .ok (.getfield 128, 3) := by decide +kernel
theorem d_MD_count_71 : decode prog_9_method_37_code 71 = .ok (.ireturn, 1) := by decide +kernel
theorem d_MD_count_72 : decode prog_9_method_37_code 72 = .ok (.aload_n 0, 1) := by decide +kernel
theorem d_MD_count_73 : decode prog_9_method_37_code 73 = .ok (.getfield 131, 3) := by decide +kernel
theorem d_MD_count_76 : decode prog_9_method_37_code 76 = .ok (.ireturn, 1) := by decide +kernel
theorem d_MD_count_77 : decode prog_9_method_37_code 77 = .ok (.aload_n 0, 1) := by decide +kernel
theorem d_MD_count_78 : decode prog_9_method_37_code 78 = .ok (.getfield 139, 3) := by decide +kernel
theorem d_MD_count_81 : decode prog_9_method_37_code 81 = .ok (.ireturn, 1) := by decide +kernel
set_option maxHeartbeats 4000000 in
set_option maxRecDepth 100000 in
/-- shared -/
theorem c_MD_shared (l : Launch) (dC : Nat → ClassId) (dI : Nat → Nat → Nat) (h0 : Nat) (th : Int32) (nm : Nat) (ap : Nat) (no : Nat) (am : Nat) (aw : Nat) (az : Nat) (au : Nat) (kn : Int32) (vP : Int64) (vQ : Int64) (vS : Int64) (vT : Int64) (vB : Int64) (vM : Int64) (vH : Int64) (ao : Nat) (ax : Nat) (np : Nat) (ay : Nat) (nl : Nat) (ad : Nat) (al : Nat) (sn : Nat) (ag : Nat) (ta : Nat) (nb : Int32) (kd : ClassId) (kl : ClassId) (gd : Nat → Int32) (gl : Nat → Int32) (k : Nat) (hc : nl ≤ 12) (hk : k < 12) (hp : 0 < sr_sl gl nl) : Met l xy_MD_shared xw_MD_shared ({ frames := 1, cells := 0, slots := 0, locals := 25 }) (xp_r [.ref h0, .int (nI k)] (dC, dI) xCl [(h0, .inr (7, [.int th, .int (nI nm), .ref ap, .int (nI no), .ref am, .ref aw, .ref az, .ref au, .int kn, .long vP, .long vQ, .long vS, .long vT, .long vB, .long vM, .long vH, .ref ao, .ref ax, .int (nI np), .ref ay, .int (nI nl), .ref ad, .ref al, .int (nI sn), .ref ag, .int (nI ta), .int nb])), (ad, .inl (kd, 12, .inl gd)), (al, .inl (kl, 12, .inl gl))] [(kd, .int), (kl, .int)]) (xr_i (fun r => r = md_sh gd gl nl k)) 0 0 (fun _ => False) := by
  refine Met.ofW (cc := prog_9_method_27_code) (maxL := 9) (ret := (some .int)) (by decide) rfl ?_
  intro p e s m args below meth c s₁ B hml hv
  obtain ⟨rfl, hz, hP, hK⟩ := hv
  have hx := B.exec
  have hb := B.bytes
  have hr := B.returns
  have hts := atoms_spec (ws := xw_MD_shared) B.pre
  have hown : s.vm.findClass xR_MD = some m.cls := findClass_of_methodNamed B.named
  have hlocks := B.notSynchronized
  have hP : va_P (dC, dI) xCl [(h0, .inr (7, [.int th, .int (nI nm), .ref ap, .int (nI no), .ref am, .ref aw, .ref az, .ref au, .int kn, .long vP, .long vQ, .long vS, .long vT, .long vB, .long vM, .long vH, .ref ao, .ref ax, .int (nI np), .ref ay, .int (nI nl), .ref ad, .ref al, .int (nI sn), .ref ag, .int (nI ta), .int nb])), (ad, .inl (kd, 12, .inl gd)), (al, .inl (kl, 12, .inl gl))] s.heap := hP
  have hl := lv_entry ([.ref h0, .int (nI k)]) (n := 9) (Nat.le_of_ble_eq_true rfl)
  rw [lg_entry_eq]
  generalize (lg_sl ([.ref h0, .int (nI k)]) ++ List.replicate (9 - (lg_sl ([.ref h0, .int (nI k)])).length) Slot.unset).toArray = ls at hl ⊢
  have hl : lv_has ls 9 [(0, .ref h0), (1, .int (nI k))] := hl
  refine lv_lconst (v := 0) hx hb d_MD_shared_0 (by decide) ?_
  refine lv_lstore_n (lv' := [(2, .long 0), (0, .ref h0), (1, .int (nI k))]) hx hb d_MD_shared_1 rfl hl (by decide) rfl (fun ls hl => ?_)
  refine lv_lconst (v := 0) hx hb d_MD_shared_2 (by decide) ?_
  refine lv_lstore (lv' := [(4, .long 0), (2, .long 0), (0, .ref h0), (1, .int (nI k))]) hx hb d_MD_shared_3 hl (by decide) rfl (fun ls hl => ?_)
  refine lv_lconst (v := 0) hx hb d_MD_shared_5 (by decide) ?_
  refine lv_lstore (lv' := [(6, .long 0), (4, .long 0), (2, .long 0), (0, .ref h0), (1, .int (nI k))]) hx hb d_MD_shared_6 hl (by decide) rfl (fun ls hl => ?_)
  refine lv_iconst (v := 0) hx hb d_MD_shared_8 (by decide) ?_
  refine lv_istore (lv' := [(8, .int 0), (6, .long 0), (4, .long 0), (2, .long 0), (0, .ref h0), (1, .int (nI k))]) hx hb d_MD_shared_9 hl (by decide) rfl (fun ls hl => ?_)
  have lp11 : ∀ (fuel : Nat) (i : Nat) (y2 : Int64) (y4 : Int64) (y6 : Int64), nl - i < fuel → i ≤ nl → y2 = sr_sl gd i → y4 = sr_sl gl i → y6 = sr_sl gl (min i (k + 1)) → ∀ (ls : Array Slot), lv_has ls 9 [(0, .ref h0), (1, .int (nI k)), (2, .long y2), (4, .long y4), (6, .long y6), (8, .int (nI i))] → W p l e (headSpec xw_MD_shared ({ frames := 1, cells := 0, slots := 0, locals := 25 })).room s m ([.ref h0, .int (nI k)] : List Value).toArray below meth c s.heap [] 0 0 (MQ below (xr_i (fun r => r = md_sh gd gl nl k)) ([.ref h0, .int (nI k)] : List Value).toArray s 0 0 (fun _ => False)) (F0 m 11 ls []) := by
    intro fuel
    induction fuel with
    | zero => intro i y2 y4 y6 hfu; exact absurd hfu (Nat.not_lt_zero _)
    | succ fuel ih =>
      intro i y2 y4 y6 hfu hi hy2 hy4 hy6 ls hl
      subst hy2
      subst hy4
      subst hy6
      refine lv_iload hx hb d_MD_shared_11 (lv_at hl 5 rfl) ?_
      refine lv_aload_n hx hb d_MD_shared_13 rfl (lv_at hl 0 rfl) ?_
      refine va_get (D := (dC, dI)) (ci := 7) (v := .int (nI nl)) (C := xR_MD) (T := xT_MD) (N := 27) hx hb hts (fun w h => List.mem_cons_of_mem _ (iw_MD w h)) hown hK hP 0 rfl rfl 20 (by decide) (hts _ (List.mem_cons_of_mem _ wm_717)) (fun _ h9 => h9) rfl d_MD_shared_14 ?_
      refine lv_icmp_ge (tgt := 74) hx hb d_MD_shared_17 (by decide) (fun c_1 => ?_) (fun c_1 => ?_)
      · have n_2 := xn_le (a := nl) (b := i) c_1 rfl rfl (by omega) (by omega)
        have e9 : i = nl := by omega
        rw [e9] at hl
        have hl : lv_has ls 9 [(0, .ref h0), (1, .int (nI k)), (2, .long (sr_sl gd nl)), (4, .long (sr_sl gl nl)), (6, .long (sr_sl gl (min nl (k + 1)))), (8, .int (nI nl))] := hl
        refine lv_lload_n hx hb d_MD_shared_74 rfl (lv_at hl 2 rfl) ?_
        refine lv_lload hx hb d_MD_shared_75 (lv_at hl 4 rfl) ?_
        refine lv_lmul hx hb d_MD_shared_77 ?_
        refine lv_lload hx hb d_MD_shared_78 (lv_at hl 3 rfl) ?_
        refine xr_calll (va_runS (As := [.long ((sr_sl gd nl) * (sr_sl gl (min nl (k + 1)))), .long (sr_sl gl nl)]) (rest := []) ⟨hx, hb, hml, hown, hts⟩ (c_MD_down l dC dI ((sr_sl gd nl) * (sr_sl gl (min nl (k + 1)))) (sr_sl gl nl) (by first | assumption | omega | decide)) (va_cwS 2 hts (xgS wm_829 wm_830 wm_34 wm_831) rfl rfl rfl (by decide +kernel) ⟨Nat.le_of_ble_eq_true rfl, Nat.le_of_ble_eq_true rfl⟩) ⟨xp_blind, fun U hU hW => ⟨rfl, hz.warm hW, by rw [hU]; exact hP.sub [] rfl, va_K.moved hW.alike (hK.sub [] rfl)⟩⟩ rfl rfl hl.1 rfl (lv_room (Nat.le_of_ble_eq_true rfl)) d_MD_shared_80 ⟨Nat.le_of_ble_eq_true rfl, Nat.le_of_ble_eq_true rfl⟩) (fun r_3 h_4 => ?_)
        subst h_4
        refine lv_l2i (v := (sr_fd ((sr_sl gd nl) * (sr_sl gl (min nl (k + 1)))) (sr_sl gl nl)).toInt32) hx hb d_MD_shared_83 rfl ?_
        exact xr_iret (v := (sr_fd ((sr_sl gd nl) * (sr_sl gl (min nl (k + 1)))) (sr_sl gl nl)).toInt32) hx hb hr (by exact rfl) d_MD_shared_84 hlocks
      · have n_5 := xn_nle (a := nl) (b := i) c_1 rfl rfl (by omega) (by omega)
        refine lv_lload_n hx hb d_MD_shared_20 rfl (lv_at hl 2 rfl) ?_
        refine lv_aload_n hx hb d_MD_shared_21 rfl (lv_at hl 0 rfl) ?_
        refine va_get (D := (dC, dI)) (ci := 7) (v := .ref ad) (C := xR_MD) (T := xT_MD) (N := 27) hx hb hts (fun w h => List.mem_cons_of_mem _ (iw_MD w h)) hown hK hP 0 rfl rfl 21 (by decide) (hts _ (List.mem_cons_of_mem _ wm_718)) (fun _ h9 => h9) rfl d_MD_shared_22 ?_
        refine lv_iload hx hb d_MD_shared_25 (lv_at hl 5 rfl) ?_
        refine xa_iald hx hb hK hP 1 0 rfl rfl i rfl (by omega) (by decide) d_MD_shared_27 ?_
        refine lv_i2l (v := (gd i).toInt64) hx hb d_MD_shared_28 rfl ?_
        refine lv_ladd hx hb d_MD_shared_29 ?_
        refine lv_lstore_n (lv' := [(2, .long ((sr_sl gd i) + ((gd i).toInt64))), (0, .ref h0), (1, .int (nI k)), (4, .long (sr_sl gl i)), (6, .long (sr_sl gl (min i (k + 1)))), (8, .int (nI i))]) hx hb d_MD_shared_30 rfl hl (by decide) rfl (fun ls hl => ?_)
        refine lv_lload hx hb d_MD_shared_31 (lv_at hl 3 rfl) ?_
        refine lv_aload_n hx hb d_MD_shared_33 rfl (lv_at hl 1 rfl) ?_
        refine va_get (D := (dC, dI)) (ci := 7) (v := .ref al) (C := xR_MD) (T := xT_MD) (N := 27) hx hb hts (fun w h => List.mem_cons_of_mem _ (iw_MD w h)) hown hK hP 0 rfl rfl 22 (by decide) (hts _ (List.mem_cons_of_mem _ wm_719)) (fun _ h9 => h9) rfl d_MD_shared_34 ?_
        refine lv_iload hx hb d_MD_shared_37 (lv_at hl 5 rfl) ?_
        refine xa_iald hx hb hK hP 2 1 rfl rfl i rfl (by omega) (by decide) d_MD_shared_39 ?_
        refine lv_i2l (v := (gl i).toInt64) hx hb d_MD_shared_40 rfl ?_
        refine lv_ladd hx hb d_MD_shared_41 ?_
        refine lv_lstore (lv' := [(4, .long ((sr_sl gl i) + ((gl i).toInt64))), (2, .long ((sr_sl gd i) + ((gd i).toInt64))), (0, .ref h0), (1, .int (nI k)), (6, .long (sr_sl gl (min i (k + 1)))), (8, .int (nI i))]) hx hb d_MD_shared_42 hl (by decide) rfl (fun ls hl => ?_)
        refine lv_iload hx hb d_MD_shared_44 (lv_at hl 5 rfl) ?_
        refine lv_iload_n hx hb d_MD_shared_46 rfl (lv_at hl 3 rfl) ?_
        refine lv_icmp_gt (tgt := 64) hx hb d_MD_shared_47 (by decide) (fun c_6 => ?_) (fun c_6 => ?_)
        · have n_7 := xn_lt (a := k) (b := i) c_6 rfl rfl (by omega) (by omega)
          refine lv_lload hx hb d_MD_shared_64 (lv_at hl 4 rfl) ?_
          refine lv_lstore (lv' := [(6, .long (sr_sl gl (min i (k + 1)))), (4, .long ((sr_sl gl i) + ((gl i).toInt64))), (2, .long ((sr_sl gd i) + ((gd i).toInt64))), (0, .ref h0), (1, .int (nI k)), (8, .int (nI i))]) hx hb d_MD_shared_66 hl (by decide) rfl (fun ls hl => ?_)
          refine lv_iinc (v := nI (i + 1)) (lv' := [(8, .int (nI (i + 1))), (6, .long (sr_sl gl (min i (k + 1)))), (4, .long ((sr_sl gl i) + ((gl i).toInt64))), (2, .long ((sr_sl gd i) + ((gd i).toInt64))), (0, .ref h0), (1, .int (nI k))]) hx hb d_MD_shared_68 hl (k := 5) rfl (nI_1 _) (by decide) rfl (fun ls hl => ?_)
          refine lv_goto (tgt := 11) hx hb d_MD_shared_71 (by decide) ?_
          exact ih  (i + 1) ((sr_sl gd i) + ((gd i).toInt64)) ((sr_sl gl i) + ((gl i).toInt64)) (sr_sl gl (min i (k + 1))) (by omega) (by omega) rfl rfl (md_up_f n_7) ls (lv_sub hl [4, 5, 3, 2, 1, 0] rfl)
        · have n_8 := xn_nlt (a := k) (b := i) c_6 rfl rfl (by omega) (by omega)
          refine lv_lload hx hb d_MD_shared_50 (lv_at hl 4 rfl) ?_
          refine lv_aload_n hx hb d_MD_shared_52 rfl (lv_at hl 2 rfl) ?_
          refine va_get (D := (dC, dI)) (ci := 7) (v := .ref al) (C := xR_MD) (T := xT_MD) (N := 27) hx hb hts (fun w h => List.mem_cons_of_mem _ (iw_MD w h)) hown hK hP 0 rfl rfl 22 (by decide) (hts _ (List.mem_cons_of_mem _ wm_719)) (fun _ h9 => h9) rfl d_MD_shared_53 ?_
          refine lv_iload hx hb d_MD_shared_56 (lv_at hl 5 rfl) ?_
          refine xa_iald hx hb hK hP 2 1 rfl rfl i rfl (by omega) (by decide) d_MD_shared_58 ?_
          refine lv_i2l (v := (gl i).toInt64) hx hb d_MD_shared_59 rfl ?_
          refine lv_ladd hx hb d_MD_shared_60 ?_
          refine lv_goto (tgt := 66) hx hb d_MD_shared_61 (by decide) ?_
          refine lv_lstore (lv' := [(6, .long ((sr_sl gl (min i (k + 1))) + ((gl i).toInt64))), (4, .long ((sr_sl gl i) + ((gl i).toInt64))), (2, .long ((sr_sl gd i) + ((gd i).toInt64))), (0, .ref h0), (1, .int (nI k)), (8, .int (nI i))]) hx hb d_MD_shared_66 hl (by decide) rfl (fun ls hl => ?_)
          refine lv_iinc (v := nI (i + 1)) (lv' := [(8, .int (nI (i + 1))), (6, .long ((sr_sl gl (min i (k + 1))) + ((gl i).toInt64))), (4, .long ((sr_sl gl i) + ((gl i).toInt64))), (2, .long ((sr_sl gd i) + ((gd i).toInt64))), (0, .ref h0), (1, .int (nI k))]) hx hb d_MD_shared_68 hl (k := 5) rfl (nI_1 _) (by decide) rfl (fun ls hl => ?_)
          refine lv_goto (tgt := 11) hx hb d_MD_shared_71 (by decide) ?_
          exact ih  (i + 1) ((sr_sl gd i) + ((gd i).toInt64)) ((sr_sl gl i) + ((gl i).toInt64)) ((sr_sl gl (min i (k + 1))) + ((gl i).toInt64)) (by omega) (by omega) rfl rfl (md_up_t n_8) ls (lv_sub hl [4, 5, 3, 2, 1, 0] rfl)
  exact lp11 (nl - 0 + 1) 0 0 0 0 (by omega) (by omega) rfl rfl (by rw [Nat.zero_min]; rfl) ls (lv_sub hl [4, 5, 3, 2, 1, 0] rfl)
set_option maxHeartbeats 4000000 in
set_option maxRecDepth 100000 in
/-- closed(-1) -/
theorem c_MD_closed_m (l : Launch) (dC : Nat → ClassId) (dI : Nat → Nat → Nat) (sz : Nat) (h0 : Nat) (th : Int32) (nm : Nat) (ap : Nat) (no : Nat) (am : Nat) (aw : Nat) (az : Nat) (au : Nat) (kn : Int32) (vP : Int64) (vQ : Int64) (vS : Int64) (vT : Int64) (vB : Int64) (vM : Int64) (vH : Int64) (ao : Nat) (ax : Nat) (np : Nat) (ay : Nat) (nl : Nat) (ad : Nat) (al : Nat) (sn : Nat) (ag : Nat) (ta : Nat) (nb : Int32) (kd : ClassId) (kl : ClassId) (gd : Nat → Int32) (gl : Nat → Int32) (hw : md_win (-1) (-1) (nI nl - 1)) (hc : nl ≤ 12) : Met l xy_MD_closed xw_MD_closed ({ frames := 1, cells := 0, slots := 0, locals := 23 }) (xp_w [.ref h0, .int (-1)] sz (dC, dI) xCl [(h0, .inr (7, [.int th, .int (nI nm), .ref ap, .int (nI no), .ref am, .ref aw, .ref az, .ref au, .int kn, .long vP, .long vQ, .long vS, .long vT, .long vB, .long vM, .long vH, .ref ao, .ref ax, .int (nI np), .ref ay, .int (nI nl), .ref ad, .ref al, .int (nI sn), .ref ag, .int (nI ta), .int nb])), (ad, .inl (kd, 12, .inl gd)), (al, .inl (kl, 12, .inl gl))] [(kd, .int), (kl, .int)]) (va_Qi (fun (r : Int32) (_ : Unit) => r = sr_su gd nl) (fun _ t => xb_w (dC, dI) xCl [(h0, .inr (7, [.int 0, .int (nI nm), .ref ap, .int (nI no), .ref am, .ref aw, .ref az, .ref au, .int kn, .long vP, .long vQ, .long vS, .long vT, .long vB, .long vM, .long vH, .ref ao, .ref ax, .int (nI np), .ref ay, .int (nI nl), .ref ad, .ref al, .int (nI sn), .ref ag, .int (nI ta), .int nb])), (ad, .inl (kd, 12, .inl gd)), (al, .inl (kl, 12, .inl gl))] [(kd, .int), (kl, .int)] (va_A [(h0, .inr (7, [.int th, .int (nI nm), .ref ap, .int (nI no), .ref am, .ref aw, .ref az, .ref au, .int kn, .long vP, .long vQ, .long vS, .long vT, .long vB, .long vM, .long vH, .ref ao, .ref ax, .int (nI np), .ref ay, .int (nI nl), .ref ad, .ref al, .int (nI sn), .ref ag, .int (nI ta), .int nb])), (ad, .inl (kd, 12, .inl gd)), (al, .inl (kl, 12, .inl gl))] sz) t) (va_A [(h0, .inr (7, [.int th, .int (nI nm), .ref ap, .int (nI no), .ref am, .ref aw, .ref az, .ref au, .int kn, .long vP, .long vQ, .long vS, .long vT, .long vB, .long vM, .long vH, .ref ao, .ref ax, .int (nI np), .ref ay, .int (nI nl), .ref ad, .ref al, .int (nI sn), .ref ag, .int (nI ta), .int nb])), (ad, .inl (kd, 12, .inl gd)), (al, .inl (kl, 12, .inl gl))] sz)) 0 0 (va_A [(h0, .inr (7, [.int th, .int (nI nm), .ref ap, .int (nI no), .ref am, .ref aw, .ref az, .ref au, .int kn, .long vP, .long vQ, .long vS, .long vT, .long vB, .long vM, .long vH, .ref ao, .ref ax, .int (nI np), .ref ay, .int (nI nl), .ref ad, .ref al, .int (nI sn), .ref ag, .int (nI ta), .int nb])), (ad, .inl (kd, 12, .inl gd)), (al, .inl (kl, 12, .inl gl))] sz) := by
  refine Met.ofW (cc := prog_9_method_28_code) (maxL := 4) (ret := (some .int)) (by decide) rfl ?_
  intro p e s m args below meth c s₁ B hml hv
  obtain ⟨rfl, hsz, hz, hP, hK, hD0⟩ := hv
  have hx := B.exec
  have hb := B.bytes
  have hr := B.returns
  have hts := atoms_spec (ws := xw_MD_closed) B.pre
  have hown : s.vm.findClass xR_MD = some m.cls := findClass_of_methodNamed B.named
  have hlocks := B.notSynchronized
  subst hsz
  have hD := hD0.self (sz := s.heap.size)
  generalize hAe : va_A [(h0, .inr (7, [.int th, .int (nI nm), .ref ap, .int (nI no), .ref am, .ref aw, .ref az, .ref au, .int kn, .long vP, .long vQ, .long vS, .long vT, .long vB, .long vM, .long vH, .ref ao, .ref ax, .int (nI np), .ref ay, .int (nI nl), .ref ad, .ref al, .int (nI sn), .ref ag, .int (nI ta), .int nb])), (ad, .inl (kd, 12, .inl gd)), (al, .inl (kl, 12, .inl gl))] s.heap.size = A at hD ⊢
  have hA : ∀ q : Nat, s.heap.size ≤ q → A q := fun q h => by rw [← hAe]; exact Or.inr h
  have hS : va_S A s.heap s.heap [] := va_S.rf
  have hP : va_P (dC, dI) xCl [(h0, .inr (7, [.int th, .int (nI nm), .ref ap, .int (nI no), .ref am, .ref aw, .ref az, .ref au, .int kn, .long vP, .long vQ, .long vS, .long vT, .long vB, .long vM, .long vH, .ref ao, .ref ax, .int (nI np), .ref ay, .int (nI nl), .ref ad, .ref al, .int (nI sn), .ref ag, .int (nI ta), .int nb])), (ad, .inl (kd, 12, .inl gd)), (al, .inl (kl, 12, .inl gl))] s.heap := hP
  have hl := lv_entry ([.ref h0, .int (-1)]) (n := 4) (Nat.le_of_ble_eq_true rfl)
  rw [lg_entry_eq]
  generalize (lg_sl ([.ref h0, .int (-1)]) ++ List.replicate (4 - (lg_sl ([.ref h0, .int (-1)])).length) Slot.unset).toArray = ls at hl ⊢
  have hl : lv_has ls 4 [(0, .ref h0), (1, .int (-1))] := hl
  refine lv_aload_n hx hb d_MD_closed_0 rfl (lv_at hl 0 rfl) ?_
  refine lv_iload_n hx hb d_MD_closed_1 rfl (lv_at hl 1 rfl) ?_
  refine lv_iconst (v := (-1)) hx hb d_MD_closed_2 (by decide) ?_
  refine lv_aload_n hx hb d_MD_closed_3 rfl (lv_at hl 0 rfl) ?_
  refine va_get (D := (dC, dI)) (ci := 7) (v := .int (nI nl)) (C := xR_MD) (T := xT_MD) (N := 27) hx hb hts (fun w h => List.mem_cons_of_mem _ (iw_MD w h)) hown hK hP 0 rfl rfl 20 (by decide) (hts _ (List.mem_cons_of_mem _ wm_717)) (fun _ h9 => h9) rfl d_MD_closed_4 ?_
  refine lv_iconst (v := 1) hx hb d_MD_closed_7 (by decide) ?_
  refine lv_isub hx hb d_MD_closed_8 ?_
  refine xr_calli (va_runS (As := [.int (-1), .int (-1), .int ((nI nl) - 1)]) (rest := [.ref h0]) ⟨hx, hb, hml, hown, hts⟩ (c_MD_within l dC dI (-1) (-1) ((nI nl) - 1)) (va_cwS 3 hts (xgS wm_790 wm_791 wm_34 wm_792) rfl rfl rfl (by decide +kernel) ⟨Nat.le_of_ble_eq_true rfl, Nat.le_of_ble_eq_true rfl⟩) ⟨xp_blind, fun U hU hW => ⟨rfl, hz.warm hW, by rw [hU]; exact hP.sub [] rfl, va_K.moved hW.alike (hK.sub [] rfl)⟩⟩ rfl rfl hl.1 rfl (lv_room (Nat.le_of_ble_eq_true rfl)) d_MD_closed_9 ⟨Nat.le_of_ble_eq_true rfl, Nat.le_of_ble_eq_true rfl⟩) (fun r_1 h_2 => ?_)
  subst h_2
  refine lv_iconst (v := 1) hx hb d_MD_closed_12 (by decide) ?_
  refine lv_iconst (v := 1) hx hb d_MD_closed_13 (by decide) ?_
  have hPc := hP.sub (ws' := [(h0, .inr (7, [.int th, .int (nI nm), .ref ap, .int (nI no), .ref am, .ref aw, .ref az, .ref au, .int kn, .long vP, .long vQ, .long vS, .long vT, .long vB, .long vM, .long vH, .ref ao, .ref ax, .int (nI np), .ref ay, .int (nI nl), .ref ad, .ref al, .int (nI sn), .ref ag, .int (nI ta), .int nb]))]) [0] rfl
  have hDc := hD.sub (ws' := [(h0, .inr (7, [.int th, .int (nI nm), .ref ap, .int (nI no), .ref am, .ref aw, .ref az, .ref au, .int kn, .long vP, .long vQ, .long vS, .long vT, .long vB, .long vM, .long vH, .ref ao, .ref ax, .int (nI np), .ref ay, .int (nI nl), .ref ad, .ref al, .int (nI sn), .ref ag, .int (nI ta), .int nb]))]) [0] (by decide) rfl
  have hKc := hK.sub (tys' := []) [] rfl
  have hFc := va_free (wc := [(h0, .inr (7, [.int th, .int (nI nm), .ref ap, .int (nI no), .ref am, .ref aw, .ref az, .ref au, .int kn, .long vP, .long vQ, .long vS, .long vT, .long vB, .long vM, .long vH, .ref ao, .ref ax, .int (nI np), .ref ay, .int (nI nl), .ref ad, .ref al, .int (nI sn), .ref ag, .int (nI ta), .int nb]))]) hD hS hA [0] rfl
  refine va_calli (va_runV (As := [.int (bI (md_win (-1) (-1) ((nI nl) - 1))), .int 1, .int 1]) (rest := []) ⟨hx, hb, hml, hown, hts⟩ (c_MD_goes l dC dI s.heap.size h0 th nm ap no am aw az au kn vP vQ vS vT vB vM vH ao ax np ay nl ad al sn ag ta nb (bI (md_win (-1) (-1) ((nI nl) - 1))) 1 1) (cwV 3 hts (xgV wm_793 wm_795 wm_13 wm_34 wm_796) rfl rfl rfl (by decide +kernel) ⟨Nat.le_of_ble_eq_true rfl, Nat.le_of_ble_eq_true rfl⟩) ⟨xw_blind, va_recv hKc hPc (ci := 7) (q0 := 0) rfl rfl, fun U hU hW => ⟨rfl, by rw [hU], hz.warm hW, by rw [hU]; exact hPc, va_K.moved hW.alike hKc, hDc.weaken (fun _ _ _ _ => trivial)⟩⟩ rfl rfl hl.1 rfl (lv_room (Nat.le_of_ble_eq_true rfl)) d_MD_closed_14 ⟨Nat.le_of_ble_eq_true rfl, Nat.le_of_ble_eq_true rfl⟩) hS (fun q _ h => hFc q h) hFc (fun r_3 _ t H1 locs ht hvm hw_4 hB hz1 hk1 hS => ?_)
  obtain ⟨hP1, hK1, hD1⟩ := hB
  rw [ht] at hP1
  have hK1 := va_K.moved hvm.symm hK1
  obtain ⟨hP, hD⟩ := va_join (wr := [(ad, .inl (kd, 12, .inl gd)), (al, .inl (kl, 12, .inl gl))]) (w1 := [(h0, .inr (7, [.int (md_th (bI (md_win (-1) (-1) ((nI nl) - 1))) 1 1), .int (nI nm), .ref ap, .int (nI no), .ref am, .ref aw, .ref az, .ref au, .int kn, .long vP, .long vQ, .long vS, .long vT, .long vB, .long vM, .long vH, .ref ao, .ref ax, .int (nI np), .ref ay, .int (nI nl), .ref ad, .ref al, .int (nI sn), .ref ag, .int (nI ta), .int nb]))]) hP hD [0] [1, 2] rfl rfl (by decide) (by decide) hk1 hFc hP1 hD1
  generalize H1 = H at hP hS ⊢
  have hP : va_P (dC, dI) xCl [(ad, .inl (kd, 12, .inl gd)), (al, .inl (kl, 12, .inl gl)), (h0, .inr (7, [.int (md_th (bI (md_win (-1) (-1) ((nI nl) - 1))) 1 1), .int (nI nm), .ref ap, .int (nI no), .ref am, .ref aw, .ref az, .ref au, .int kn, .long vP, .long vQ, .long vS, .long vT, .long vB, .long vM, .long vH, .ref ao, .ref ax, .int (nI np), .ref ay, .int (nI nl), .ref ad, .ref al, .int (nI sn), .ref ag, .int (nI ta), .int nb]))] H := hP
  have hD : va_D A [(ad, .inl (kd, 12, .inl gd)), (al, .inl (kl, 12, .inl gl)), (h0, .inr (7, [.int (md_th (bI (md_win (-1) (-1) ((nI nl) - 1))) 1 1), .int (nI nm), .ref ap, .int (nI no), .ref am, .ref aw, .ref az, .ref au, .int kn, .long vP, .long vQ, .long vS, .long vT, .long vB, .long vM, .long vH, .ref ao, .ref ax, .int (nI np), .ref ay, .int (nI nl), .ref ad, .ref al, .int (nI sn), .ref ag, .int (nI ta), .int nb]))] := hD
  subst hw_4
  refine lv_if_ne (tgt := 22) hx hb d_MD_closed_17 (by decide) (fun c_5 => ?_) (fun c_5 => ?_)
  · have b_6 := bI_t (rfl : bI (md_th (bI (md_win (-1) (-1) ((nI nl) - 1))) 1 1 = 0) = _) c_5
    refine lv_iconst (v := 0) hx hb d_MD_closed_22 (by decide) ?_
    refine lv_istore_n (lv' := [(2, .int 0), (0, .ref h0), (1, .int (-1))]) hx hb d_MD_closed_23 rfl hl (by decide) rfl (fun ls hl => ?_)
    refine lv_iconst (v := 0) hx hb d_MD_closed_24 (by decide) ?_
    refine lv_istore_n (lv' := [(3, .int 0), (2, .int 0), (0, .ref h0), (1, .int (-1))]) hx hb d_MD_closed_25 rfl hl (by decide) rfl (fun ls hl => ?_)
    have lp26 : ∀ (fuel : Nat) (i : Nat) (x2 : Int32), nl - i < fuel → i ≤ nl → x2 = sr_su gd i → ∀ (H : Heap) (locs : List Loc), va_P (dC, dI) xCl [(ad, .inl (kd, 12, .inl gd)), (al, .inl (kl, 12, .inl gl)), (h0, .inr (7, [.int (md_th (bI (md_win (-1) (-1) ((nI nl) - 1))) 1 1), .int (nI nm), .ref ap, .int (nI no), .ref am, .ref aw, .ref az, .ref au, .int kn, .long vP, .long vQ, .long vS, .long vT, .long vB, .long vM, .long vH, .ref ao, .ref ax, .int (nI np), .ref ay, .int (nI nl), .ref ad, .ref al, .int (nI sn), .ref ag, .int (nI ta), .int nb]))] H → va_D A [(ad, .inl (kd, 12, .inl gd)), (al, .inl (kl, 12, .inl gl)), (h0, .inr (7, [.int (md_th (bI (md_win (-1) (-1) ((nI nl) - 1))) 1 1), .int (nI nm), .ref ap, .int (nI no), .ref am, .ref aw, .ref az, .ref au, .int kn, .long vP, .long vQ, .long vS, .long vT, .long vB, .long vM, .long vH, .ref ao, .ref ax, .int (nI np), .ref ay, .int (nI nl), .ref ad, .ref al, .int (nI sn), .ref ag, .int (nI ta), .int nb]))] → va_S A s.heap H locs → ∀ (ls : Array Slot), lv_has ls 4 [(0, .ref h0), (1, .int (-1)), (2, .int x2), (3, .int (nI i))] → W p l e (headSpec xw_MD_closed ({ frames := 1, cells := 0, slots := 0, locals := 23 })).room s m ([.ref h0, .int (-1)] : List Value).toArray below meth c H locs 0 0 (MQ below (va_Qi (fun (r : Int32) (_ : Unit) => r = sr_su gd nl) (fun _ t => xb_w (dC, dI) xCl [(h0, .inr (7, [.int 0, .int (nI nm), .ref ap, .int (nI no), .ref am, .ref aw, .ref az, .ref au, .int kn, .long vP, .long vQ, .long vS, .long vT, .long vB, .long vM, .long vH, .ref ao, .ref ax, .int (nI np), .ref ay, .int (nI nl), .ref ad, .ref al, .int (nI sn), .ref ag, .int (nI ta), .int nb])), (ad, .inl (kd, 12, .inl gd)), (al, .inl (kl, 12, .inl gl))] [(kd, .int), (kl, .int)] A t) A) ([.ref h0, .int (-1)] : List Value).toArray s 0 0 A) (F0 m 26 ls []) := by
      intro fuel
      induction fuel with
      | zero => intro i x2 hfu; exact absurd hfu (Nat.not_lt_zero _)
      | succ fuel ih =>
        intro i x2 hfu hi hx2 H locs hP hD hS ls hl
        subst hx2
        refine lv_iload_n hx hb d_MD_closed_26 rfl (lv_at hl 3 rfl) ?_
        refine lv_aload_n hx hb d_MD_closed_27 rfl (lv_at hl 0 rfl) ?_
        refine va_get (D := (dC, dI)) (ci := 7) (v := .int (nI nl)) (C := xR_MD) (T := xT_MD) (N := 27) hx hb hts (fun w h => List.mem_cons_of_mem _ (iw_MD w h)) hown hK hP 2 rfl rfl 20 (by decide) (hts _ (List.mem_cons_of_mem _ wm_717)) (fun _ h9 => h9) rfl d_MD_closed_28 ?_
        refine lv_icmp_ge (tgt := 49) hx hb d_MD_closed_31 (by decide) (fun c_7 => ?_) (fun c_7 => ?_)
        · have n_8 := xn_le (a := nl) (b := i) c_7 rfl rfl (by omega) (by omega)
          refine lv_iload_n hx hb d_MD_closed_49 rfl (lv_at hl 1 rfl) ?_
          refine lv_iconst (v := (-1)) hx hb d_MD_closed_50 (by decide) ?_
          refine lv_icmp_ne (tgt := 58) hx hb d_MD_closed_51 (by decide) (fun c_9 => ?_) (fun c_9 => ?_)
          · exact absurd c_9 (by decide)
          · refine lv_iload_n hx hb d_MD_closed_54 rfl (lv_at hl 2 rfl) ?_
            refine lv_goto (tgt := 86) hx hb d_MD_closed_55 (by decide) ?_
            rw [md_th_0 (bI_ne hw) (by decide) (by decide)] at hP hD
            have hP9 := hP.sub (ws' := [(h0, .inr (7, [.int 0, .int (nI nm), .ref ap, .int (nI no), .ref am, .ref aw, .ref az, .ref au, .int kn, .long vP, .long vQ, .long vS, .long vT, .long vB, .long vM, .long vH, .ref ao, .ref ax, .int (nI np), .ref ay, .int (nI nl), .ref ad, .ref al, .int (nI sn), .ref ag, .int (nI ta), .int nb])), (ad, .inl (kd, 12, .inl gd)), (al, .inl (kl, 12, .inl gl))]) [2, 0, 1] rfl
            have hD9 := hD.sub (ws' := [(h0, .inr (7, [.int 0, .int (nI nm), .ref ap, .int (nI no), .ref am, .ref aw, .ref az, .ref au, .int kn, .long vP, .long vQ, .long vS, .long vT, .long vB, .long vM, .long vH, .ref ao, .ref ax, .int (nI np), .ref ay, .int (nI nl), .ref ad, .ref al, .int (nI sn), .ref ag, .int (nI ta), .int nb])), (ad, .inl (kd, 12, .inl gd)), (al, .inl (kl, 12, .inl gl))]) [2, 0, 1] (by decide) rfl
            have hK9 := hK.sub (tys' := [(kd, .int), (kl, .int)]) [0, 1] rfl
            exact W.iret (v := sr_su gd i) hx hb hr (fun t ht hW => ⟨⟨sr_su gd i, (), rfl, (by rw [show i = nl by omega]), ⟨by rw [ht]; exact hP9, va_K.moved hW.alike hK9, by exact hD9⟩⟩, hS.F ht⟩) hS.2.2 d_MD_closed_86 hlocks
        · have n_10 := xn_nle (a := nl) (b := i) c_7 rfl rfl (by omega) (by omega)
          refine lv_iload_n hx hb d_MD_closed_34 rfl (lv_at hl 2 rfl) ?_
          refine lv_aload_n hx hb d_MD_closed_35 rfl (lv_at hl 0 rfl) ?_
          refine va_get (D := (dC, dI)) (ci := 7) (v := .ref ad) (C := xR_MD) (T := xT_MD) (N := 27) hx hb hts (fun w h => List.mem_cons_of_mem _ (iw_MD w h)) hown hK hP 2 rfl rfl 21 (by decide) (hts _ (List.mem_cons_of_mem _ wm_718)) (fun _ h9 => h9) rfl d_MD_closed_36 ?_
          refine lv_iload_n hx hb d_MD_closed_39 rfl (lv_at hl 3 rfl) ?_
          refine xa_iald hx hb hK hP 0 0 rfl rfl i rfl (by omega) (by decide) d_MD_closed_40 ?_
          refine lv_iadd hx hb d_MD_closed_41 ?_
          refine lv_istore_n (lv' := [(2, .int ((sr_su gd i) + (gd i))), (0, .ref h0), (1, .int (-1)), (3, .int (nI i))]) hx hb d_MD_closed_42 rfl hl (by decide) rfl (fun ls hl => ?_)
          refine lv_iinc (v := nI (i + 1)) (lv' := [(3, .int (nI (i + 1))), (2, .int ((sr_su gd i) + (gd i))), (0, .ref h0), (1, .int (-1))]) hx hb d_MD_closed_43 hl (k := 3) rfl (nI_1 _) (by decide) rfl (fun ls hl => ?_)
          refine lv_goto (tgt := 26) hx hb d_MD_closed_46 (by decide) ?_
          exact ih  (i + 1) ((sr_su gd i) + (gd i)) (by omega) (by omega) rfl _ _ (hP.sub [0, 1, 2] rfl) (hD.sub [0, 1, 2] (by decide) rfl) hS ls (lv_sub hl [2, 3, 1, 0] rfl)
    exact lp26 (nl - 0 + 1) 0 0 (by omega) (by omega) rfl _ _ (hP.sub [0, 1, 2] rfl) (hD.sub [0, 1, 2] (by decide) rfl) hS ls (lv_sub hl [2, 3, 1, 0] rfl)
  · exact absurd (md_th_0 (bI_ne hw) (by decide) (by decide)) (bI_f rfl c_5)
set_option maxHeartbeats 4000000 in
set_option maxRecDepth 100000 in
/-- closed(0) -/
theorem c_MD_closed_0 (l : Launch) (dC : Nat → ClassId) (dI : Nat → Nat → Nat) (sz : Nat) (h0 : Nat) (th : Int32) (nm : Nat) (ap : Nat) (no : Nat) (am : Nat) (aw : Nat) (az : Nat) (au : Nat) (kn : Int32) (vP : Int64) (vQ : Int64) (vS : Int64) (vT : Int64) (vB : Int64) (vM : Int64) (vH : Int64) (ao : Nat) (ax : Nat) (np : Nat) (ay : Nat) (nl : Nat) (ad : Nat) (al : Nat) (sn : Nat) (ag : Nat) (ta : Nat) (nb : Int32) (kd : ClassId) (kl : ClassId) (gd : Nat → Int32) (gl : Nat → Int32) (hw : md_win 0 (-1) (nI nl - 1)) (hc : nl ≤ 12) (hl0 : 0 < nl) (hp : 0 < sr_sl gl nl) : Met l xy_MD_closed xw_MD_closed ({ frames := 2, cells := 0, slots := 0, locals := 53 }) (xp_w [.ref h0, .int 0] sz (dC, dI) xCl [(h0, .inr (7, [.int th, .int (nI nm), .ref ap, .int (nI no), .ref am, .ref aw, .ref az, .ref au, .int kn, .long vP, .long vQ, .long vS, .long vT, .long vB, .long vM, .long vH, .ref ao, .ref ax, .int (nI np), .ref ay, .int (nI nl), .ref ad, .ref al, .int (nI sn), .ref ag, .int (nI ta), .int nb])), (ad, .inl (kd, 12, .inl gd)), (al, .inl (kl, 12, .inl gl))] [(kd, .int), (kl, .int)]) (va_Qi (fun (r : Int32) (_ : Unit) => r = gd 0 - md_sh gd gl nl 0 + 0) (fun _ t => xb_w (dC, dI) xCl [(h0, .inr (7, [.int 0, .int (nI nm), .ref ap, .int (nI no), .ref am, .ref aw, .ref az, .ref au, .int kn, .long vP, .long vQ, .long vS, .long vT, .long vB, .long vM, .long vH, .ref ao, .ref ax, .int (nI np), .ref ay, .int (nI nl), .ref ad, .ref al, .int (nI sn), .ref ag, .int (nI ta), .int nb])), (ad, .inl (kd, 12, .inl gd)), (al, .inl (kl, 12, .inl gl))] [(kd, .int), (kl, .int)] (va_A [(h0, .inr (7, [.int th, .int (nI nm), .ref ap, .int (nI no), .ref am, .ref aw, .ref az, .ref au, .int kn, .long vP, .long vQ, .long vS, .long vT, .long vB, .long vM, .long vH, .ref ao, .ref ax, .int (nI np), .ref ay, .int (nI nl), .ref ad, .ref al, .int (nI sn), .ref ag, .int (nI ta), .int nb])), (ad, .inl (kd, 12, .inl gd)), (al, .inl (kl, 12, .inl gl))] sz) t) (va_A [(h0, .inr (7, [.int th, .int (nI nm), .ref ap, .int (nI no), .ref am, .ref aw, .ref az, .ref au, .int kn, .long vP, .long vQ, .long vS, .long vT, .long vB, .long vM, .long vH, .ref ao, .ref ax, .int (nI np), .ref ay, .int (nI nl), .ref ad, .ref al, .int (nI sn), .ref ag, .int (nI ta), .int nb])), (ad, .inl (kd, 12, .inl gd)), (al, .inl (kl, 12, .inl gl))] sz)) 0 0 (va_A [(h0, .inr (7, [.int th, .int (nI nm), .ref ap, .int (nI no), .ref am, .ref aw, .ref az, .ref au, .int kn, .long vP, .long vQ, .long vS, .long vT, .long vB, .long vM, .long vH, .ref ao, .ref ax, .int (nI np), .ref ay, .int (nI nl), .ref ad, .ref al, .int (nI sn), .ref ag, .int (nI ta), .int nb])), (ad, .inl (kd, 12, .inl gd)), (al, .inl (kl, 12, .inl gl))] sz) := by
  refine Met.ofW (cc := prog_9_method_28_code) (maxL := 4) (ret := (some .int)) (by decide) rfl ?_
  intro p e s m args below meth c s₁ B hml hv
  obtain ⟨rfl, hsz, hz, hP, hK, hD0⟩ := hv
  have hx := B.exec
  have hb := B.bytes
  have hr := B.returns
  have hts := atoms_spec (ws := xw_MD_closed) B.pre
  have hown : s.vm.findClass xR_MD = some m.cls := findClass_of_methodNamed B.named
  have hlocks := B.notSynchronized
  subst hsz
  have hD := hD0.self (sz := s.heap.size)
  generalize hAe : va_A [(h0, .inr (7, [.int th, .int (nI nm), .ref ap, .int (nI no), .ref am, .ref aw, .ref az, .ref au, .int kn, .long vP, .long vQ, .long vS, .long vT, .long vB, .long vM, .long vH, .ref ao, .ref ax, .int (nI np), .ref ay, .int (nI nl), .ref ad, .ref al, .int (nI sn), .ref ag, .int (nI ta), .int nb])), (ad, .inl (kd, 12, .inl gd)), (al, .inl (kl, 12, .inl gl))] s.heap.size = A at hD ⊢
  have hA : ∀ q : Nat, s.heap.size ≤ q → A q := fun q h => by rw [← hAe]; exact Or.inr h
  have hS : va_S A s.heap s.heap [] := va_S.rf
  have hP : va_P (dC, dI) xCl [(h0, .inr (7, [.int th, .int (nI nm), .ref ap, .int (nI no), .ref am, .ref aw, .ref az, .ref au, .int kn, .long vP, .long vQ, .long vS, .long vT, .long vB, .long vM, .long vH, .ref ao, .ref ax, .int (nI np), .ref ay, .int (nI nl), .ref ad, .ref al, .int (nI sn), .ref ag, .int (nI ta), .int nb])), (ad, .inl (kd, 12, .inl gd)), (al, .inl (kl, 12, .inl gl))] s.heap := hP
  have hl := lv_entry ([.ref h0, .int 0]) (n := 4) (Nat.le_of_ble_eq_true rfl)
  rw [lg_entry_eq]
  generalize (lg_sl ([.ref h0, .int 0]) ++ List.replicate (4 - (lg_sl ([.ref h0, .int 0])).length) Slot.unset).toArray = ls at hl ⊢
  have hl : lv_has ls 4 [(0, .ref h0), (1, .int 0)] := hl
  refine lv_aload_n hx hb d_MD_closed_0 rfl (lv_at hl 0 rfl) ?_
  refine lv_iload_n hx hb d_MD_closed_1 rfl (lv_at hl 1 rfl) ?_
  refine lv_iconst (v := (-1)) hx hb d_MD_closed_2 (by decide) ?_
  refine lv_aload_n hx hb d_MD_closed_3 rfl (lv_at hl 0 rfl) ?_
  refine va_get (D := (dC, dI)) (ci := 7) (v := .int (nI nl)) (C := xR_MD) (T := xT_MD) (N := 27) hx hb hts (fun w h => List.mem_cons_of_mem _ (iw_MD w h)) hown hK hP 0 rfl rfl 20 (by decide) (hts _ (List.mem_cons_of_mem _ wm_717)) (fun _ h9 => h9) rfl d_MD_closed_4 ?_
  refine lv_iconst (v := 1) hx hb d_MD_closed_7 (by decide) ?_
  refine lv_isub hx hb d_MD_closed_8 ?_
  refine xr_calli (va_runS (As := [.int 0, .int (-1), .int ((nI nl) - 1)]) (rest := [.ref h0]) ⟨hx, hb, hml, hown, hts⟩ (c_MD_within l dC dI 0 (-1) ((nI nl) - 1)) (va_cwS 3 hts (xgS wm_790 wm_791 wm_34 wm_792) rfl rfl rfl (by decide +kernel) ⟨Nat.le_of_ble_eq_true rfl, Nat.le_of_ble_eq_true rfl⟩) ⟨xp_blind, fun U hU hW => ⟨rfl, hz.warm hW, by rw [hU]; exact hP.sub [] rfl, va_K.moved hW.alike (hK.sub [] rfl)⟩⟩ rfl rfl hl.1 rfl (lv_room (Nat.le_of_ble_eq_true rfl)) d_MD_closed_9 ⟨Nat.le_of_ble_eq_true rfl, Nat.le_of_ble_eq_true rfl⟩) (fun r_1 h_2 => ?_)
  subst h_2
  refine lv_iconst (v := 1) hx hb d_MD_closed_12 (by decide) ?_
  refine lv_iconst (v := 1) hx hb d_MD_closed_13 (by decide) ?_
  have hPc := hP.sub (ws' := [(h0, .inr (7, [.int th, .int (nI nm), .ref ap, .int (nI no), .ref am, .ref aw, .ref az, .ref au, .int kn, .long vP, .long vQ, .long vS, .long vT, .long vB, .long vM, .long vH, .ref ao, .ref ax, .int (nI np), .ref ay, .int (nI nl), .ref ad, .ref al, .int (nI sn), .ref ag, .int (nI ta), .int nb]))]) [0] rfl
  have hDc := hD.sub (ws' := [(h0, .inr (7, [.int th, .int (nI nm), .ref ap, .int (nI no), .ref am, .ref aw, .ref az, .ref au, .int kn, .long vP, .long vQ, .long vS, .long vT, .long vB, .long vM, .long vH, .ref ao, .ref ax, .int (nI np), .ref ay, .int (nI nl), .ref ad, .ref al, .int (nI sn), .ref ag, .int (nI ta), .int nb]))]) [0] (by decide) rfl
  have hKc := hK.sub (tys' := []) [] rfl
  have hFc := va_free (wc := [(h0, .inr (7, [.int th, .int (nI nm), .ref ap, .int (nI no), .ref am, .ref aw, .ref az, .ref au, .int kn, .long vP, .long vQ, .long vS, .long vT, .long vB, .long vM, .long vH, .ref ao, .ref ax, .int (nI np), .ref ay, .int (nI nl), .ref ad, .ref al, .int (nI sn), .ref ag, .int (nI ta), .int nb]))]) hD hS hA [0] rfl
  refine va_calli (va_runV (As := [.int (bI (md_win 0 (-1) ((nI nl) - 1))), .int 1, .int 1]) (rest := []) ⟨hx, hb, hml, hown, hts⟩ (c_MD_goes l dC dI s.heap.size h0 th nm ap no am aw az au kn vP vQ vS vT vB vM vH ao ax np ay nl ad al sn ag ta nb (bI (md_win 0 (-1) ((nI nl) - 1))) 1 1) (cwV 3 hts (xgV wm_793 wm_795 wm_13 wm_34 wm_796) rfl rfl rfl (by decide +kernel) ⟨Nat.le_of_ble_eq_true rfl, Nat.le_of_ble_eq_true rfl⟩) ⟨xw_blind, va_recv hKc hPc (ci := 7) (q0 := 0) rfl rfl, fun U hU hW => ⟨rfl, by rw [hU], hz.warm hW, by rw [hU]; exact hPc, va_K.moved hW.alike hKc, hDc.weaken (fun _ _ _ _ => trivial)⟩⟩ rfl rfl hl.1 rfl (lv_room (Nat.le_of_ble_eq_true rfl)) d_MD_closed_14 ⟨Nat.le_of_ble_eq_true rfl, Nat.le_of_ble_eq_true rfl⟩) hS (fun q _ h => hFc q h) hFc (fun r_3 _ t H1 locs ht hvm hw_4 hB hz1 hk1 hS => ?_)
  obtain ⟨hP1, hK1, hD1⟩ := hB
  rw [ht] at hP1
  have hK1 := va_K.moved hvm.symm hK1
  obtain ⟨hP, hD⟩ := va_join (wr := [(ad, .inl (kd, 12, .inl gd)), (al, .inl (kl, 12, .inl gl))]) (w1 := [(h0, .inr (7, [.int (md_th (bI (md_win 0 (-1) ((nI nl) - 1))) 1 1), .int (nI nm), .ref ap, .int (nI no), .ref am, .ref aw, .ref az, .ref au, .int kn, .long vP, .long vQ, .long vS, .long vT, .long vB, .long vM, .long vH, .ref ao, .ref ax, .int (nI np), .ref ay, .int (nI nl), .ref ad, .ref al, .int (nI sn), .ref ag, .int (nI ta), .int nb]))]) hP hD [0] [1, 2] rfl rfl (by decide) (by decide) hk1 hFc hP1 hD1
  generalize H1 = H at hP hS ⊢
  have hP : va_P (dC, dI) xCl [(ad, .inl (kd, 12, .inl gd)), (al, .inl (kl, 12, .inl gl)), (h0, .inr (7, [.int (md_th (bI (md_win 0 (-1) ((nI nl) - 1))) 1 1), .int (nI nm), .ref ap, .int (nI no), .ref am, .ref aw, .ref az, .ref au, .int kn, .long vP, .long vQ, .long vS, .long vT, .long vB, .long vM, .long vH, .ref ao, .ref ax, .int (nI np), .ref ay, .int (nI nl), .ref ad, .ref al, .int (nI sn), .ref ag, .int (nI ta), .int nb]))] H := hP
  have hD : va_D A [(ad, .inl (kd, 12, .inl gd)), (al, .inl (kl, 12, .inl gl)), (h0, .inr (7, [.int (md_th (bI (md_win 0 (-1) ((nI nl) - 1))) 1 1), .int (nI nm), .ref ap, .int (nI no), .ref am, .ref aw, .ref az, .ref au, .int kn, .long vP, .long vQ, .long vS, .long vT, .long vB, .long vM, .long vH, .ref ao, .ref ax, .int (nI np), .ref ay, .int (nI nl), .ref ad, .ref al, .int (nI sn), .ref ag, .int (nI ta), .int nb]))] := hD
  subst hw_4
  refine lv_if_ne (tgt := 22) hx hb d_MD_closed_17 (by decide) (fun c_5 => ?_) (fun c_5 => ?_)
  · have b_6 := bI_t (rfl : bI (md_th (bI (md_win 0 (-1) ((nI nl) - 1))) 1 1 = 0) = _) c_5
    refine lv_iconst (v := 0) hx hb d_MD_closed_22 (by decide) ?_
    refine lv_istore_n (lv' := [(2, .int 0), (0, .ref h0), (1, .int 0)]) hx hb d_MD_closed_23 rfl hl (by decide) rfl (fun ls hl => ?_)
    refine lv_iconst (v := 0) hx hb d_MD_closed_24 (by decide) ?_
    refine lv_istore_n (lv' := [(3, .int 0), (2, .int 0), (0, .ref h0), (1, .int 0)]) hx hb d_MD_closed_25 rfl hl (by decide) rfl (fun ls hl => ?_)
    have lp26 : ∀ (fuel : Nat) (i : Nat) (x2 : Int32), nl - i < fuel → i ≤ nl → x2 = sr_su gd i → ∀ (H : Heap) (locs : List Loc), va_P (dC, dI) xCl [(ad, .inl (kd, 12, .inl gd)), (al, .inl (kl, 12, .inl gl)), (h0, .inr (7, [.int (md_th (bI (md_win 0 (-1) ((nI nl) - 1))) 1 1), .int (nI nm), .ref ap, .int (nI no), .ref am, .ref aw, .ref az, .ref au, .int kn, .long vP, .long vQ, .long vS, .long vT, .long vB, .long vM, .long vH, .ref ao, .ref ax, .int (nI np), .ref ay, .int (nI nl), .ref ad, .ref al, .int (nI sn), .ref ag, .int (nI ta), .int nb]))] H → va_D A [(ad, .inl (kd, 12, .inl gd)), (al, .inl (kl, 12, .inl gl)), (h0, .inr (7, [.int (md_th (bI (md_win 0 (-1) ((nI nl) - 1))) 1 1), .int (nI nm), .ref ap, .int (nI no), .ref am, .ref aw, .ref az, .ref au, .int kn, .long vP, .long vQ, .long vS, .long vT, .long vB, .long vM, .long vH, .ref ao, .ref ax, .int (nI np), .ref ay, .int (nI nl), .ref ad, .ref al, .int (nI sn), .ref ag, .int (nI ta), .int nb]))] → va_S A s.heap H locs → ∀ (ls : Array Slot), lv_has ls 4 [(0, .ref h0), (1, .int 0), (2, .int x2), (3, .int (nI i))] → W p l e (headSpec xw_MD_closed ({ frames := 2, cells := 0, slots := 0, locals := 53 })).room s m ([.ref h0, .int 0] : List Value).toArray below meth c H locs 0 0 (MQ below (va_Qi (fun (r : Int32) (_ : Unit) => r = gd 0 - md_sh gd gl nl 0 + 0) (fun _ t => xb_w (dC, dI) xCl [(h0, .inr (7, [.int 0, .int (nI nm), .ref ap, .int (nI no), .ref am, .ref aw, .ref az, .ref au, .int kn, .long vP, .long vQ, .long vS, .long vT, .long vB, .long vM, .long vH, .ref ao, .ref ax, .int (nI np), .ref ay, .int (nI nl), .ref ad, .ref al, .int (nI sn), .ref ag, .int (nI ta), .int nb])), (ad, .inl (kd, 12, .inl gd)), (al, .inl (kl, 12, .inl gl))] [(kd, .int), (kl, .int)] A t) A) ([.ref h0, .int 0] : List Value).toArray s 0 0 A) (F0 m 26 ls []) := by
      intro fuel
      induction fuel with
      | zero => intro i x2 hfu; exact absurd hfu (Nat.not_lt_zero _)
      | succ fuel ih =>
        intro i x2 hfu hi hx2 H locs hP hD hS ls hl
        subst hx2
        refine lv_iload_n hx hb d_MD_closed_26 rfl (lv_at hl 3 rfl) ?_
        refine lv_aload_n hx hb d_MD_closed_27 rfl (lv_at hl 0 rfl) ?_
        refine va_get (D := (dC, dI)) (ci := 7) (v := .int (nI nl)) (C := xR_MD) (T := xT_MD) (N := 27) hx hb hts (fun w h => List.mem_cons_of_mem _ (iw_MD w h)) hown hK hP 2 rfl rfl 20 (by decide) (hts _ (List.mem_cons_of_mem _ wm_717)) (fun _ h9 => h9) rfl d_MD_closed_28 ?_
        refine lv_icmp_ge (tgt := 49) hx hb d_MD_closed_31 (by decide) (fun c_7 => ?_) (fun c_7 => ?_)
        · have n_8 := xn_le (a := nl) (b := i) c_7 rfl rfl (by omega) (by omega)
          refine lv_iload_n hx hb d_MD_closed_49 rfl (lv_at hl 1 rfl) ?_
          refine lv_iconst (v := (-1)) hx hb d_MD_closed_50 (by decide) ?_
          refine lv_icmp_ne (tgt := 58) hx hb d_MD_closed_51 (by decide) (fun c_9 => ?_) (fun c_9 => ?_)
          · refine lv_aload_n hx hb d_MD_closed_58 rfl (lv_at hl 0 rfl) ?_
            refine va_get (D := (dC, dI)) (ci := 7) (v := .ref ad) (C := xR_MD) (T := xT_MD) (N := 27) hx hb hts (fun w h => List.mem_cons_of_mem _ (iw_MD w h)) hown hK hP 2 rfl rfl 21 (by decide) (hts _ (List.mem_cons_of_mem _ wm_718)) (fun _ h9 => h9) rfl d_MD_closed_59 ?_
            refine lv_iload_n hx hb d_MD_closed_62 rfl (lv_at hl 1 rfl) ?_
            refine xa_iald hx hb hK hP 0 0 rfl rfl 0 (by decide) (by decide) (by decide) d_MD_closed_63 ?_
            refine lv_aload_n hx hb d_MD_closed_64 rfl (lv_at hl 0 rfl) ?_
            refine lv_iload_n hx hb d_MD_closed_65 rfl (lv_at hl 1 rfl) ?_
            refine xr_calli (va_runV (As := [.int 0]) (rest := [.int (gd 0)]) ⟨hx, hb, hml, hown, hts⟩ (c_MD_shared l dC dI h0 (md_th (bI (md_win 0 (-1) ((nI nl) - 1))) 1 1) nm ap no am aw az au kn vP vQ vS vT vB vM vH ao ax np ay nl ad al sn ag ta nb kd kl gd gl 0 (by first | assumption | omega | decide) (by first | assumption | omega | decide) (by first | assumption | omega | decide)) (cwV 1 hts (xgV wm_882 wm_884 wm_21 wm_34 wm_885) rfl rfl rfl (by decide +kernel) ⟨Nat.le_of_ble_eq_true rfl, Nat.le_of_ble_eq_true rfl⟩) ⟨xp_blind, va_recv hK hP (ci := 7) (q0 := 2) rfl rfl, fun U hU hW => ⟨rfl, hz.warm hW, by rw [hU]; exact hP.sub [2, 0, 1] rfl, va_K.moved hW.alike (hK.sub [0, 1] rfl)⟩⟩ rfl rfl hl.1 rfl (lv_room (Nat.le_of_ble_eq_true rfl)) d_MD_closed_66 ⟨Nat.le_of_ble_eq_true rfl, Nat.le_of_ble_eq_true rfl⟩) (fun r_10 h_11 => ?_)
            subst h_11
            refine lv_isub hx hb d_MD_closed_69 ?_
            refine lv_iload_n hx hb d_MD_closed_70 rfl (lv_at hl 1 rfl) ?_
            refine lv_if_ne (tgt := 78) hx hb d_MD_closed_71 (by decide) (fun c_12 => ?_) (fun c_12 => ?_)
            · exact absurd c_12 (by decide)
            · refine lv_iconst (v := 0) hx hb d_MD_closed_74 (by decide) ?_
              refine lv_goto (tgt := 85) hx hb d_MD_closed_75 (by decide) ?_
              refine lv_iadd hx hb d_MD_closed_85 ?_
              rw [md_th_0 (bI_ne hw) (by decide) (by decide)] at hP hD
              have hP9 := hP.sub (ws' := [(h0, .inr (7, [.int 0, .int (nI nm), .ref ap, .int (nI no), .ref am, .ref aw, .ref az, .ref au, .int kn, .long vP, .long vQ, .long vS, .long vT, .long vB, .long vM, .long vH, .ref ao, .ref ax, .int (nI np), .ref ay, .int (nI nl), .ref ad, .ref al, .int (nI sn), .ref ag, .int (nI ta), .int nb])), (ad, .inl (kd, 12, .inl gd)), (al, .inl (kl, 12, .inl gl))]) [2, 0, 1] rfl
              have hD9 := hD.sub (ws' := [(h0, .inr (7, [.int 0, .int (nI nm), .ref ap, .int (nI no), .ref am, .ref aw, .ref az, .ref au, .int kn, .long vP, .long vQ, .long vS, .long vT, .long vB, .long vM, .long vH, .ref ao, .ref ax, .int (nI np), .ref ay, .int (nI nl), .ref ad, .ref al, .int (nI sn), .ref ag, .int (nI ta), .int nb])), (ad, .inl (kd, 12, .inl gd)), (al, .inl (kl, 12, .inl gl))]) [2, 0, 1] (by decide) rfl
              have hK9 := hK.sub (tys' := [(kd, .int), (kl, .int)]) [0, 1] rfl
              exact W.iret (v := ((gd 0) - (md_sh gd gl nl 0)) + 0) hx hb hr (fun t ht hW => ⟨⟨((gd 0) - (md_sh gd gl nl 0)) + 0, (), rfl, rfl, ⟨by rw [ht]; exact hP9, va_K.moved hW.alike hK9, by exact hD9⟩⟩, hS.F ht⟩) hS.2.2 d_MD_closed_86 hlocks
          · exact absurd c_9 (by decide)
        · have n_13 := xn_nle (a := nl) (b := i) c_7 rfl rfl (by omega) (by omega)
          refine lv_iload_n hx hb d_MD_closed_34 rfl (lv_at hl 2 rfl) ?_
          refine lv_aload_n hx hb d_MD_closed_35 rfl (lv_at hl 0 rfl) ?_
          refine va_get (D := (dC, dI)) (ci := 7) (v := .ref ad) (C := xR_MD) (T := xT_MD) (N := 27) hx hb hts (fun w h => List.mem_cons_of_mem _ (iw_MD w h)) hown hK hP 2 rfl rfl 21 (by decide) (hts _ (List.mem_cons_of_mem _ wm_718)) (fun _ h9 => h9) rfl d_MD_closed_36 ?_
          refine lv_iload_n hx hb d_MD_closed_39 rfl (lv_at hl 3 rfl) ?_
          refine xa_iald hx hb hK hP 0 0 rfl rfl i rfl (by omega) (by decide) d_MD_closed_40 ?_
          refine lv_iadd hx hb d_MD_closed_41 ?_
          refine lv_istore_n (lv' := [(2, .int ((sr_su gd i) + (gd i))), (0, .ref h0), (1, .int 0), (3, .int (nI i))]) hx hb d_MD_closed_42 rfl hl (by decide) rfl (fun ls hl => ?_)
          refine lv_iinc (v := nI (i + 1)) (lv' := [(3, .int (nI (i + 1))), (2, .int ((sr_su gd i) + (gd i))), (0, .ref h0), (1, .int 0)]) hx hb d_MD_closed_43 hl (k := 3) rfl (nI_1 _) (by decide) rfl (fun ls hl => ?_)
          refine lv_goto (tgt := 26) hx hb d_MD_closed_46 (by decide) ?_
          exact ih  (i + 1) ((sr_su gd i) + (gd i)) (by omega) (by omega) rfl _ _ (hP.sub [0, 1, 2] rfl) (hD.sub [0, 1, 2] (by decide) rfl) hS ls (lv_sub hl [2, 3, 1, 0] rfl)
    exact lp26 (nl - 0 + 1) 0 0 (by omega) (by omega) rfl _ _ (hP.sub [0, 1, 2] rfl) (hD.sub [0, 1, 2] (by decide) rfl) hS ls (lv_sub hl [2, 3, 1, 0] rfl)
  · exact absurd (md_th_0 (bI_ne hw) (by decide) (by decide)) (bI_f rfl c_5)
set_option maxHeartbeats 4000000 in
set_option maxRecDepth 100000 in
/-- closed -/
theorem c_MD_closed_s (l : Launch) (dC : Nat → ClassId) (dI : Nat → Nat → Nat) (sz : Nat) (h0 : Nat) (th : Int32) (nm : Nat) (ap : Nat) (no : Nat) (am : Nat) (aw : Nat) (az : Nat) (au : Nat) (kn : Int32) (vP : Int64) (vQ : Int64) (vS : Int64) (vT : Int64) (vB : Int64) (vM : Int64) (vH : Int64) (ao : Nat) (ax : Nat) (np : Nat) (ay : Nat) (nl : Nat) (ad : Nat) (al : Nat) (sn : Nat) (ag : Nat) (ta : Nat) (nb : Int32) (kd : ClassId) (kl : ClassId) (gd : Nat → Int32) (gl : Nat → Int32) (k : Nat) (hw : md_win (nI (k + 1)) (-1) (nI nl - 1)) (hc : nl ≤ 12) (hk : k + 1 < nl) (hp : 0 < sr_sl gl nl) : Met l xy_MD_closed xw_MD_closed ({ frames := 2, cells := 0, slots := 0, locals := 53 }) (xp_w [.ref h0, .int (nI (k + 1))] sz (dC, dI) xCl [(h0, .inr (7, [.int th, .int (nI nm), .ref ap, .int (nI no), .ref am, .ref aw, .ref az, .ref au, .int kn, .long vP, .long vQ, .long vS, .long vT, .long vB, .long vM, .long vH, .ref ao, .ref ax, .int (nI np), .ref ay, .int (nI nl), .ref ad, .ref al, .int (nI sn), .ref ag, .int (nI ta), .int nb])), (ad, .inl (kd, 12, .inl gd)), (al, .inl (kl, 12, .inl gl))] [(kd, .int), (kl, .int)]) (va_Qi (fun (r : Int32) (_ : Unit) => r = gd (k + 1) - md_sh gd gl nl (k + 1) + md_sh gd gl nl k) (fun _ t => xb_w (dC, dI) xCl [(h0, .inr (7, [.int 0, .int (nI nm), .ref ap, .int (nI no), .ref am, .ref aw, .ref az, .ref au, .int kn, .long vP, .long vQ, .long vS, .long vT, .long vB, .long vM, .long vH, .ref ao, .ref ax, .int (nI np), .ref ay, .int (nI nl), .ref ad, .ref al, .int (nI sn), .ref ag, .int (nI ta), .int nb])), (ad, .inl (kd, 12, .inl gd)), (al, .inl (kl, 12, .inl gl))] [(kd, .int), (kl, .int)] (va_A [(h0, .inr (7, [.int th, .int (nI nm), .ref ap, .int (nI no), .ref am, .ref aw, .ref az, .ref au, .int kn, .long vP, .long vQ, .long vS, .long vT, .long vB, .long vM, .long vH, .ref ao, .ref ax, .int (nI np), .ref ay, .int (nI nl), .ref ad, .ref al, .int (nI sn), .ref ag, .int (nI ta), .int nb])), (ad, .inl (kd, 12, .inl gd)), (al, .inl (kl, 12, .inl gl))] sz) t) (va_A [(h0, .inr (7, [.int th, .int (nI nm), .ref ap, .int (nI no), .ref am, .ref aw, .ref az, .ref au, .int kn, .long vP, .long vQ, .long vS, .long vT, .long vB, .long vM, .long vH, .ref ao, .ref ax, .int (nI np), .ref ay, .int (nI nl), .ref ad, .ref al, .int (nI sn), .ref ag, .int (nI ta), .int nb])), (ad, .inl (kd, 12, .inl gd)), (al, .inl (kl, 12, .inl gl))] sz)) 0 0 (va_A [(h0, .inr (7, [.int th, .int (nI nm), .ref ap, .int (nI no), .ref am, .ref aw, .ref az, .ref au, .int kn, .long vP, .long vQ, .long vS, .long vT, .long vB, .long vM, .long vH, .ref ao, .ref ax, .int (nI np), .ref ay, .int (nI nl), .ref ad, .ref al, .int (nI sn), .ref ag, .int (nI ta), .int nb])), (ad, .inl (kd, 12, .inl gd)), (al, .inl (kl, 12, .inl gl))] sz) := by
  refine Met.ofW (cc := prog_9_method_28_code) (maxL := 4) (ret := (some .int)) (by decide) rfl ?_
  intro p e s m args below meth c s₁ B hml hv
  obtain ⟨rfl, hsz, hz, hP, hK, hD0⟩ := hv
  have hx := B.exec
  have hb := B.bytes
  have hr := B.returns
  have hts := atoms_spec (ws := xw_MD_closed) B.pre
  have hown : s.vm.findClass xR_MD = some m.cls := findClass_of_methodNamed B.named
  have hlocks := B.notSynchronized
  subst hsz
  have hD := hD0.self (sz := s.heap.size)
  generalize hAe : va_A [(h0, .inr (7, [.int th, .int (nI nm), .ref ap, .int (nI no), .ref am, .ref aw, .ref az, .ref au, .int kn, .long vP, .long vQ, .long vS, .long vT, .long vB, .long vM, .long vH, .ref ao, .ref ax, .int (nI np), .ref ay, .int (nI nl), .ref ad, .ref al, .int (nI sn), .ref ag, .int (nI ta), .int nb])), (ad, .inl (kd, 12, .inl gd)), (al, .inl (kl, 12, .inl gl))] s.heap.size = A at hD ⊢
  have hA : ∀ q : Nat, s.heap.size ≤ q → A q := fun q h => by rw [← hAe]; exact Or.inr h
  have hS : va_S A s.heap s.heap [] := va_S.rf
  have hP : va_P (dC, dI) xCl [(h0, .inr (7, [.int th, .int (nI nm), .ref ap, .int (nI no), .ref am, .ref aw, .ref az, .ref au, .int kn, .long vP, .long vQ, .long vS, .long vT, .long vB, .long vM, .long vH, .ref ao, .ref ax, .int (nI np), .ref ay, .int (nI nl), .ref ad, .ref al, .int (nI sn), .ref ag, .int (nI ta), .int nb])), (ad, .inl (kd, 12, .inl gd)), (al, .inl (kl, 12, .inl gl))] s.heap := hP
  have hl := lv_entry ([.ref h0, .int (nI (k + 1))]) (n := 4) (Nat.le_of_ble_eq_true rfl)
  rw [lg_entry_eq]
  generalize (lg_sl ([.ref h0, .int (nI (k + 1))]) ++ List.replicate (4 - (lg_sl ([.ref h0, .int (nI (k + 1))])).length) Slot.unset).toArray = ls at hl ⊢
  have hl : lv_has ls 4 [(0, .ref h0), (1, .int (nI (k + 1)))] := hl
  refine lv_aload_n hx hb d_MD_closed_0 rfl (lv_at hl 0 rfl) ?_
  refine lv_iload_n hx hb d_MD_closed_1 rfl (lv_at hl 1 rfl) ?_
  refine lv_iconst (v := (-1)) hx hb d_MD_closed_2 (by decide) ?_
  refine lv_aload_n hx hb d_MD_closed_3 rfl (lv_at hl 0 rfl) ?_
  refine va_get (D := (dC, dI)) (ci := 7) (v := .int (nI nl)) (C := xR_MD) (T := xT_MD) (N := 27) hx hb hts (fun w h => List.mem_cons_of_mem _ (iw_MD w h)) hown hK hP 0 rfl rfl 20 (by decide) (hts _ (List.mem_cons_of_mem _ wm_717)) (fun _ h9 => h9) rfl d_MD_closed_4 ?_
  refine lv_iconst (v := 1) hx hb d_MD_closed_7 (by decide) ?_
  refine lv_isub hx hb d_MD_closed_8 ?_
  refine xr_calli (va_runS (As := [.int (nI (k + 1)), .int (-1), .int ((nI nl) - 1)]) (rest := [.ref h0]) ⟨hx, hb, hml, hown, hts⟩ (c_MD_within l dC dI (nI (k + 1)) (-1) ((nI nl) - 1)) (va_cwS 3 hts (xgS wm_790 wm_791 wm_34 wm_792) rfl rfl rfl (by decide +kernel) ⟨Nat.le_of_ble_eq_true rfl, Nat.le_of_ble_eq_true rfl⟩) ⟨xp_blind, fun U hU hW => ⟨rfl, hz.warm hW, by rw [hU]; exact hP.sub [] rfl, va_K.moved hW.alike (hK.sub [] rfl)⟩⟩ rfl rfl hl.1 rfl (lv_room (Nat.le_of_ble_eq_true rfl)) d_MD_closed_9 ⟨Nat.le_of_ble_eq_true rfl, Nat.le_of_ble_eq_true rfl⟩) (fun r_1 h_2 => ?_)
  subst h_2
  refine lv_iconst (v := 1) hx hb d_MD_closed_12 (by decide) ?_
  refine lv_iconst (v := 1) hx hb d_MD_closed_13 (by decide) ?_
  have hPc := hP.sub (ws' := [(h0, .inr (7, [.int th, .int (nI nm), .ref ap, .int (nI no), .ref am, .ref aw, .ref az, .ref au, .int kn, .long vP, .long vQ, .long vS, .long vT, .long vB, .long vM, .long vH, .ref ao, .ref ax, .int (nI np), .ref ay, .int (nI nl), .ref ad, .ref al, .int (nI sn), .ref ag, .int (nI ta), .int nb]))]) [0] rfl
  have hDc := hD.sub (ws' := [(h0, .inr (7, [.int th, .int (nI nm), .ref ap, .int (nI no), .ref am, .ref aw, .ref az, .ref au, .int kn, .long vP, .long vQ, .long vS, .long vT, .long vB, .long vM, .long vH, .ref ao, .ref ax, .int (nI np), .ref ay, .int (nI nl), .ref ad, .ref al, .int (nI sn), .ref ag, .int (nI ta), .int nb]))]) [0] (by decide) rfl
  have hKc := hK.sub (tys' := []) [] rfl
  have hFc := va_free (wc := [(h0, .inr (7, [.int th, .int (nI nm), .ref ap, .int (nI no), .ref am, .ref aw, .ref az, .ref au, .int kn, .long vP, .long vQ, .long vS, .long vT, .long vB, .long vM, .long vH, .ref ao, .ref ax, .int (nI np), .ref ay, .int (nI nl), .ref ad, .ref al, .int (nI sn), .ref ag, .int (nI ta), .int nb]))]) hD hS hA [0] rfl
  refine va_calli (va_runV (As := [.int (bI (md_win (nI (k + 1)) (-1) ((nI nl) - 1))), .int 1, .int 1]) (rest := []) ⟨hx, hb, hml, hown, hts⟩ (c_MD_goes l dC dI s.heap.size h0 th nm ap no am aw az au kn vP vQ vS vT vB vM vH ao ax np ay nl ad al sn ag ta nb (bI (md_win (nI (k + 1)) (-1) ((nI nl) - 1))) 1 1) (cwV 3 hts (xgV wm_793 wm_795 wm_13 wm_34 wm_796) rfl rfl rfl (by decide +kernel) ⟨Nat.le_of_ble_eq_true rfl, Nat.le_of_ble_eq_true rfl⟩) ⟨xw_blind, va_recv hKc hPc (ci := 7) (q0 := 0) rfl rfl, fun U hU hW => ⟨rfl, by rw [hU], hz.warm hW, by rw [hU]; exact hPc, va_K.moved hW.alike hKc, hDc.weaken (fun _ _ _ _ => trivial)⟩⟩ rfl rfl hl.1 rfl (lv_room (Nat.le_of_ble_eq_true rfl)) d_MD_closed_14 ⟨Nat.le_of_ble_eq_true rfl, Nat.le_of_ble_eq_true rfl⟩) hS (fun q _ h => hFc q h) hFc (fun r_3 _ t H1 locs ht hvm hw_4 hB hz1 hk1 hS => ?_)
  obtain ⟨hP1, hK1, hD1⟩ := hB
  rw [ht] at hP1
  have hK1 := va_K.moved hvm.symm hK1
  obtain ⟨hP, hD⟩ := va_join (wr := [(ad, .inl (kd, 12, .inl gd)), (al, .inl (kl, 12, .inl gl))]) (w1 := [(h0, .inr (7, [.int (md_th (bI (md_win (nI (k + 1)) (-1) ((nI nl) - 1))) 1 1), .int (nI nm), .ref ap, .int (nI no), .ref am, .ref aw, .ref az, .ref au, .int kn, .long vP, .long vQ, .long vS, .long vT, .long vB, .long vM, .long vH, .ref ao, .ref ax, .int (nI np), .ref ay, .int (nI nl), .ref ad, .ref al, .int (nI sn), .ref ag, .int (nI ta), .int nb]))]) hP hD [0] [1, 2] rfl rfl (by decide) (by decide) hk1 hFc hP1 hD1
  generalize H1 = H at hP hS ⊢
  have hP : va_P (dC, dI) xCl [(ad, .inl (kd, 12, .inl gd)), (al, .inl (kl, 12, .inl gl)), (h0, .inr (7, [.int (md_th (bI (md_win (nI (k + 1)) (-1) ((nI nl) - 1))) 1 1), .int (nI nm), .ref ap, .int (nI no), .ref am, .ref aw, .ref az, .ref au, .int kn, .long vP, .long vQ, .long vS, .long vT, .long vB, .long vM, .long vH, .ref ao, .ref ax, .int (nI np), .ref ay, .int (nI nl), .ref ad, .ref al, .int (nI sn), .ref ag, .int (nI ta), .int nb]))] H := hP
  have hD : va_D A [(ad, .inl (kd, 12, .inl gd)), (al, .inl (kl, 12, .inl gl)), (h0, .inr (7, [.int (md_th (bI (md_win (nI (k + 1)) (-1) ((nI nl) - 1))) 1 1), .int (nI nm), .ref ap, .int (nI no), .ref am, .ref aw, .ref az, .ref au, .int kn, .long vP, .long vQ, .long vS, .long vT, .long vB, .long vM, .long vH, .ref ao, .ref ax, .int (nI np), .ref ay, .int (nI nl), .ref ad, .ref al, .int (nI sn), .ref ag, .int (nI ta), .int nb]))] := hD
  subst hw_4
  refine lv_if_ne (tgt := 22) hx hb d_MD_closed_17 (by decide) (fun c_5 => ?_) (fun c_5 => ?_)
  · have b_6 := bI_t (rfl : bI (md_th (bI (md_win (nI (k + 1)) (-1) ((nI nl) - 1))) 1 1 = 0) = _) c_5
    refine lv_iconst (v := 0) hx hb d_MD_closed_22 (by decide) ?_
    refine lv_istore_n (lv' := [(2, .int 0), (0, .ref h0), (1, .int (nI (k + 1)))]) hx hb d_MD_closed_23 rfl hl (by decide) rfl (fun ls hl => ?_)
    refine lv_iconst (v := 0) hx hb d_MD_closed_24 (by decide) ?_
    refine lv_istore_n (lv' := [(3, .int 0), (2, .int 0), (0, .ref h0), (1, .int (nI (k + 1)))]) hx hb d_MD_closed_25 rfl hl (by decide) rfl (fun ls hl => ?_)
    have lp26 : ∀ (fuel : Nat) (i : Nat) (x2 : Int32), nl - i < fuel → i ≤ nl → x2 = sr_su gd i → ∀ (H : Heap) (locs : List Loc), va_P (dC, dI) xCl [(ad, .inl (kd, 12, .inl gd)), (al, .inl (kl, 12, .inl gl)), (h0, .inr (7, [.int (md_th (bI (md_win (nI (k + 1)) (-1) ((nI nl) - 1))) 1 1), .int (nI nm), .ref ap, .int (nI no), .ref am, .ref aw, .ref az, .ref au, .int kn, .long vP, .long vQ, .long vS, .long vT, .long vB, .long vM, .long vH, .ref ao, .ref ax, .int (nI np), .ref ay, .int (nI nl), .ref ad, .ref al, .int (nI sn), .ref ag, .int (nI ta), .int nb]))] H → va_D A [(ad, .inl (kd, 12, .inl gd)), (al, .inl (kl, 12, .inl gl)), (h0, .inr (7, [.int (md_th (bI (md_win (nI (k + 1)) (-1) ((nI nl) - 1))) 1 1), .int (nI nm), .ref ap, .int (nI no), .ref am, .ref aw, .ref az, .ref au, .int kn, .long vP, .long vQ, .long vS, .long vT, .long vB, .long vM, .long vH, .ref ao, .ref ax, .int (nI np), .ref ay, .int (nI nl), .ref ad, .ref al, .int (nI sn), .ref ag, .int (nI ta), .int nb]))] → va_S A s.heap H locs → ∀ (ls : Array Slot), lv_has ls 4 [(0, .ref h0), (1, .int (nI (k + 1))), (2, .int x2), (3, .int (nI i))] → W p l e (headSpec xw_MD_closed ({ frames := 2, cells := 0, slots := 0, locals := 53 })).room s m ([.ref h0, .int (nI (k + 1))] : List Value).toArray below meth c H locs 0 0 (MQ below (va_Qi (fun (r : Int32) (_ : Unit) => r = gd (k + 1) - md_sh gd gl nl (k + 1) + md_sh gd gl nl k) (fun _ t => xb_w (dC, dI) xCl [(h0, .inr (7, [.int 0, .int (nI nm), .ref ap, .int (nI no), .ref am, .ref aw, .ref az, .ref au, .int kn, .long vP, .long vQ, .long vS, .long vT, .long vB, .long vM, .long vH, .ref ao, .ref ax, .int (nI np), .ref ay, .int (nI nl), .ref ad, .ref al, .int (nI sn), .ref ag, .int (nI ta), .int nb])), (ad, .inl (kd, 12, .inl gd)), (al, .inl (kl, 12, .inl gl))] [(kd, .int), (kl, .int)] A t) A) ([.ref h0, .int (nI (k + 1))] : List Value).toArray s 0 0 A) (F0 m 26 ls []) := by
      intro fuel
      induction fuel with
      | zero => intro i x2 hfu; exact absurd hfu (Nat.not_lt_zero _)
      | succ fuel ih =>
        intro i x2 hfu hi hx2 H locs hP hD hS ls hl
        subst hx2
        refine lv_iload_n hx hb d_MD_closed_26 rfl (lv_at hl 3 rfl) ?_
        refine lv_aload_n hx hb d_MD_closed_27 rfl (lv_at hl 0 rfl) ?_
        refine va_get (D := (dC, dI)) (ci := 7) (v := .int (nI nl)) (C := xR_MD) (T := xT_MD) (N := 27) hx hb hts (fun w h => List.mem_cons_of_mem _ (iw_MD w h)) hown hK hP 2 rfl rfl 20 (by decide) (hts _ (List.mem_cons_of_mem _ wm_717)) (fun _ h9 => h9) rfl d_MD_closed_28 ?_
        refine lv_icmp_ge (tgt := 49) hx hb d_MD_closed_31 (by decide) (fun c_7 => ?_) (fun c_7 => ?_)
        · have n_8 := xn_le (a := nl) (b := i) c_7 rfl rfl (by omega) (by omega)
          refine lv_iload_n hx hb d_MD_closed_49 rfl (lv_at hl 1 rfl) ?_
          refine lv_iconst (v := (-1)) hx hb d_MD_closed_50 (by decide) ?_
          refine lv_icmp_ne (tgt := 58) hx hb d_MD_closed_51 (by decide) (fun c_9 => ?_) (fun c_9 => ?_)
          · refine lv_aload_n hx hb d_MD_closed_58 rfl (lv_at hl 0 rfl) ?_
            refine va_get (D := (dC, dI)) (ci := 7) (v := .ref ad) (C := xR_MD) (T := xT_MD) (N := 27) hx hb hts (fun w h => List.mem_cons_of_mem _ (iw_MD w h)) hown hK hP 2 rfl rfl 21 (by decide) (hts _ (List.mem_cons_of_mem _ wm_718)) (fun _ h9 => h9) rfl d_MD_closed_59 ?_
            refine lv_iload_n hx hb d_MD_closed_62 rfl (lv_at hl 1 rfl) ?_
            refine xa_iald hx hb hK hP 0 0 rfl rfl (k + 1) rfl (by omega) (by decide) d_MD_closed_63 ?_
            refine lv_aload_n hx hb d_MD_closed_64 rfl (lv_at hl 0 rfl) ?_
            refine lv_iload_n hx hb d_MD_closed_65 rfl (lv_at hl 1 rfl) ?_
            refine xr_calli (va_runV (As := [.int (nI (k + 1))]) (rest := [.int (gd (k + 1))]) ⟨hx, hb, hml, hown, hts⟩ (c_MD_shared l dC dI h0 (md_th (bI (md_win (nI (k + 1)) (-1) ((nI nl) - 1))) 1 1) nm ap no am aw az au kn vP vQ vS vT vB vM vH ao ax np ay nl ad al sn ag ta nb kd kl gd gl (k + 1) (by first | assumption | omega | decide) (by first | assumption | omega | decide) (by first | assumption | omega | decide)) (cwV 1 hts (xgV wm_882 wm_884 wm_21 wm_34 wm_885) rfl rfl rfl (by decide +kernel) ⟨Nat.le_of_ble_eq_true rfl, Nat.le_of_ble_eq_true rfl⟩) ⟨xp_blind, va_recv hK hP (ci := 7) (q0 := 2) rfl rfl, fun U hU hW => ⟨rfl, hz.warm hW, by rw [hU]; exact hP.sub [2, 0, 1] rfl, va_K.moved hW.alike (hK.sub [0, 1] rfl)⟩⟩ rfl rfl hl.1 rfl (lv_room (Nat.le_of_ble_eq_true rfl)) d_MD_closed_66 ⟨Nat.le_of_ble_eq_true rfl, Nat.le_of_ble_eq_true rfl⟩) (fun r_10 h_11 => ?_)
            subst h_11
            refine lv_isub hx hb d_MD_closed_69 ?_
            refine lv_iload_n hx hb d_MD_closed_70 rfl (lv_at hl 1 rfl) ?_
            refine lv_if_ne (tgt := 78) hx hb d_MD_closed_71 (by decide) (fun c_12 => ?_) (fun c_12 => ?_)
            · have n_13 := xn_ne (a := (k + 1)) (b := 0) c_12 rfl (by decide) (by omega) (by omega)
              refine lv_aload_n hx hb d_MD_closed_78 rfl (lv_at hl 0 rfl) ?_
              refine lv_iload_n hx hb d_MD_closed_79 rfl (lv_at hl 1 rfl) ?_
              refine lv_iconst (v := 1) hx hb d_MD_closed_80 (by decide) ?_
              refine lv_isub hx hb d_MD_closed_81 ?_
              refine xv_i (y := nI k) (nI_pred _) ?_
              refine xr_calli (va_runV (As := [.int (nI k)]) (rest := [.int ((gd (k + 1)) - (md_sh gd gl nl (k + 1)))]) ⟨hx, hb, hml, hown, hts⟩ (c_MD_shared l dC dI h0 (md_th (bI (md_win (nI (k + 1)) (-1) ((nI nl) - 1))) 1 1) nm ap no am aw az au kn vP vQ vS vT vB vM vH ao ax np ay nl ad al sn ag ta nb kd kl gd gl k (by first | assumption | omega | decide) (by first | assumption | omega | decide) (by first | assumption | omega | decide)) (cwV 1 hts (xgV wm_882 wm_884 wm_21 wm_34 wm_885) rfl rfl rfl (by decide +kernel) ⟨Nat.le_of_ble_eq_true rfl, Nat.le_of_ble_eq_true rfl⟩) ⟨xp_blind, va_recv hK hP (ci := 7) (q0 := 2) rfl rfl, fun U hU hW => ⟨rfl, hz.warm hW, by rw [hU]; exact hP.sub [2, 0, 1] rfl, va_K.moved hW.alike (hK.sub [0, 1] rfl)⟩⟩ rfl rfl hl.1 rfl (lv_room (Nat.le_of_ble_eq_true rfl)) d_MD_closed_82 ⟨Nat.le_of_ble_eq_true rfl, Nat.le_of_ble_eq_true rfl⟩) (fun r_14 h_15 => ?_)
              subst h_15
              refine lv_iadd hx hb d_MD_closed_85 ?_
              rw [md_th_0 (bI_ne hw) (by decide) (by decide)] at hP hD
              have hP9 := hP.sub (ws' := [(h0, .inr (7, [.int 0, .int (nI nm), .ref ap, .int (nI no), .ref am, .ref aw, .ref az, .ref au, .int kn, .long vP, .long vQ, .long vS, .long vT, .long vB, .long vM, .long vH, .ref ao, .ref ax, .int (nI np), .ref ay, .int (nI nl), .ref ad, .ref al, .int (nI sn), .ref ag, .int (nI ta), .int nb])), (ad, .inl (kd, 12, .inl gd)), (al, .inl (kl, 12, .inl gl))]) [2, 0, 1] rfl
              have hD9 := hD.sub (ws' := [(h0, .inr (7, [.int 0, .int (nI nm), .ref ap, .int (nI no), .ref am, .ref aw, .ref az, .ref au, .int kn, .long vP, .long vQ, .long vS, .long vT, .long vB, .long vM, .long vH, .ref ao, .ref ax, .int (nI np), .ref ay, .int (nI nl), .ref ad, .ref al, .int (nI sn), .ref ag, .int (nI ta), .int nb])), (ad, .inl (kd, 12, .inl gd)), (al, .inl (kl, 12, .inl gl))]) [2, 0, 1] (by decide) rfl
              have hK9 := hK.sub (tys' := [(kd, .int), (kl, .int)]) [0, 1] rfl
              exact W.iret (v := ((gd (k + 1)) - (md_sh gd gl nl (k + 1))) + (md_sh gd gl nl k)) hx hb hr (fun t ht hW => ⟨⟨((gd (k + 1)) - (md_sh gd gl nl (k + 1))) + (md_sh gd gl nl k), (), rfl, rfl, ⟨by rw [ht]; exact hP9, va_K.moved hW.alike hK9, by exact hD9⟩⟩, hS.F ht⟩) hS.2.2 d_MD_closed_86 hlocks
            · exact absurd (xn_eq (a := k + 1) (b := 0) c_12 rfl (by decide) (by omega) (by omega)) (by omega)
          · exact absurd c_9 (nI_ne_m1 (by omega))
        · have n_16 := xn_nle (a := nl) (b := i) c_7 rfl rfl (by omega) (by omega)
          refine lv_iload_n hx hb d_MD_closed_34 rfl (lv_at hl 2 rfl) ?_
          refine lv_aload_n hx hb d_MD_closed_35 rfl (lv_at hl 0 rfl) ?_
          refine va_get (D := (dC, dI)) (ci := 7) (v := .ref ad) (C := xR_MD) (T := xT_MD) (N := 27) hx hb hts (fun w h => List.mem_cons_of_mem _ (iw_MD w h)) hown hK hP 2 rfl rfl 21 (by decide) (hts _ (List.mem_cons_of_mem _ wm_718)) (fun _ h9 => h9) rfl d_MD_closed_36 ?_
          refine lv_iload_n hx hb d_MD_closed_39 rfl (lv_at hl 3 rfl) ?_
          refine xa_iald hx hb hK hP 0 0 rfl rfl i rfl (by omega) (by decide) d_MD_closed_40 ?_
          refine lv_iadd hx hb d_MD_closed_41 ?_
          refine lv_istore_n (lv' := [(2, .int ((sr_su gd i) + (gd i))), (0, .ref h0), (1, .int (nI (k + 1))), (3, .int (nI i))]) hx hb d_MD_closed_42 rfl hl (by decide) rfl (fun ls hl => ?_)
          refine lv_iinc (v := nI (i + 1)) (lv' := [(3, .int (nI (i + 1))), (2, .int ((sr_su gd i) + (gd i))), (0, .ref h0), (1, .int (nI (k + 1)))]) hx hb d_MD_closed_43 hl (k := 3) rfl (nI_1 _) (by decide) rfl (fun ls hl => ?_)
          refine lv_goto (tgt := 26) hx hb d_MD_closed_46 (by decide) ?_
          exact ih  (i + 1) ((sr_su gd i) + (gd i)) (by omega) (by omega) rfl _ _ (hP.sub [0, 1, 2] rfl) (hD.sub [0, 1, 2] (by decide) rfl) hS ls (lv_sub hl [2, 3, 1, 0] rfl)
    exact lp26 (nl - 0 + 1) 0 0 (by omega) (by omega) rfl _ _ (hP.sub [0, 1, 2] rfl) (hD.sub [0, 1, 2] (by decide) rfl) hS ls (lv_sub hl [2, 3, 1, 0] rfl)
  · exact absurd (md_th_0 (bI_ne hw) (by decide) (by decide)) (bI_f rfl c_5)
set_option maxHeartbeats 4000000 in
set_option maxRecDepth 100000 in
/-- closed, refused -/
theorem c_MD_closed_n (l : Launch) (dC : Nat → ClassId) (dI : Nat → Nat → Nat) (sz : Nat) (h0 : Nat) (th : Int32) (nm : Nat) (ap : Nat) (no : Nat) (am : Nat) (aw : Nat) (az : Nat) (au : Nat) (kn : Int32) (vP : Int64) (vQ : Int64) (vS : Int64) (vT : Int64) (vB : Int64) (vM : Int64) (vH : Int64) (ao : Nat) (ax : Nat) (np : Nat) (ay : Nat) (nl : Nat) (ad : Nat) (al : Nat) (sn : Nat) (ag : Nat) (ta : Nat) (nb : Int32) (k0 : Int32) (hn : ¬ (md_win k0 (-1) (nI nl - 1))) : Met l xy_MD_closed xw_MD_closed ({ frames := 1, cells := 0, slots := 0, locals := 23 }) (xp_w [.ref h0, .int k0] sz (dC, dI) xCl [(h0, .inr (7, [.int th, .int (nI nm), .ref ap, .int (nI no), .ref am, .ref aw, .ref az, .ref au, .int kn, .long vP, .long vQ, .long vS, .long vT, .long vB, .long vM, .long vH, .ref ao, .ref ax, .int (nI np), .ref ay, .int (nI nl), .ref ad, .ref al, .int (nI sn), .ref ag, .int (nI ta), .int nb]))] []) (va_Qi (fun (r : Int32) (_ : Unit) => r = 0) (fun _ t => xb_w (dC, dI) xCl [(h0, .inr (7, [.int (md_th (bI (md_win k0 (-1) (nI nl - 1))) 1 1), .int (nI nm), .ref ap, .int (nI no), .ref am, .ref aw, .ref az, .ref au, .int kn, .long vP, .long vQ, .long vS, .long vT, .long vB, .long vM, .long vH, .ref ao, .ref ax, .int (nI np), .ref ay, .int (nI nl), .ref ad, .ref al, .int (nI sn), .ref ag, .int (nI ta), .int nb]))] [] (va_A [(h0, .inr (7, [.int th, .int (nI nm), .ref ap, .int (nI no), .ref am, .ref aw, .ref az, .ref au, .int kn, .long vP, .long vQ, .long vS, .long vT, .long vB, .long vM, .long vH, .ref ao, .ref ax, .int (nI np), .ref ay, .int (nI nl), .ref ad, .ref al, .int (nI sn), .ref ag, .int (nI ta), .int nb]))] sz) t) (va_A [(h0, .inr (7, [.int th, .int (nI nm), .ref ap, .int (nI no), .ref am, .ref aw, .ref az, .ref au, .int kn, .long vP, .long vQ, .long vS, .long vT, .long vB, .long vM, .long vH, .ref ao, .ref ax, .int (nI np), .ref ay, .int (nI nl), .ref ad, .ref al, .int (nI sn), .ref ag, .int (nI ta), .int nb]))] sz)) 0 0 (va_A [(h0, .inr (7, [.int th, .int (nI nm), .ref ap, .int (nI no), .ref am, .ref aw, .ref az, .ref au, .int kn, .long vP, .long vQ, .long vS, .long vT, .long vB, .long vM, .long vH, .ref ao, .ref ax, .int (nI np), .ref ay, .int (nI nl), .ref ad, .ref al, .int (nI sn), .ref ag, .int (nI ta), .int nb]))] sz) := by
  refine Met.ofW (cc := prog_9_method_28_code) (maxL := 4) (ret := (some .int)) (by decide) rfl ?_
  intro p e s m args below meth c s₁ B hml hv
  obtain ⟨rfl, hsz, hz, hP, hK, hD0⟩ := hv
  have hx := B.exec
  have hb := B.bytes
  have hr := B.returns
  have hts := atoms_spec (ws := xw_MD_closed) B.pre
  have hown : s.vm.findClass xR_MD = some m.cls := findClass_of_methodNamed B.named
  have hlocks := B.notSynchronized
  subst hsz
  have hD := hD0.self (sz := s.heap.size)
  generalize hAe : va_A [(h0, .inr (7, [.int th, .int (nI nm), .ref ap, .int (nI no), .ref am, .ref aw, .ref az, .ref au, .int kn, .long vP, .long vQ, .long vS, .long vT, .long vB, .long vM, .long vH, .ref ao, .ref ax, .int (nI np), .ref ay, .int (nI nl), .ref ad, .ref al, .int (nI sn), .ref ag, .int (nI ta), .int nb]))] s.heap.size = A at hD ⊢
  have hA : ∀ q : Nat, s.heap.size ≤ q → A q := fun q h => by rw [← hAe]; exact Or.inr h
  have hS : va_S A s.heap s.heap [] := va_S.rf
  have hP : va_P (dC, dI) xCl [(h0, .inr (7, [.int th, .int (nI nm), .ref ap, .int (nI no), .ref am, .ref aw, .ref az, .ref au, .int kn, .long vP, .long vQ, .long vS, .long vT, .long vB, .long vM, .long vH, .ref ao, .ref ax, .int (nI np), .ref ay, .int (nI nl), .ref ad, .ref al, .int (nI sn), .ref ag, .int (nI ta), .int nb]))] s.heap := hP
  have hl := lv_entry ([.ref h0, .int k0]) (n := 4) (Nat.le_of_ble_eq_true rfl)
  rw [lg_entry_eq]
  generalize (lg_sl ([.ref h0, .int k0]) ++ List.replicate (4 - (lg_sl ([.ref h0, .int k0])).length) Slot.unset).toArray = ls at hl ⊢
  have hl : lv_has ls 4 [(0, .ref h0), (1, .int k0)] := hl
  refine lv_aload_n hx hb d_MD_closed_0 rfl (lv_at hl 0 rfl) ?_
  refine lv_iload_n hx hb d_MD_closed_1 rfl (lv_at hl 1 rfl) ?_
  refine lv_iconst (v := (-1)) hx hb d_MD_closed_2 (by decide) ?_
  refine lv_aload_n hx hb d_MD_closed_3 rfl (lv_at hl 0 rfl) ?_
  refine va_get (D := (dC, dI)) (ci := 7) (v := .int (nI nl)) (C := xR_MD) (T := xT_MD) (N := 27) hx hb hts (fun w h => List.mem_cons_of_mem _ (iw_MD w h)) hown hK hP 0 rfl rfl 20 (by decide) (hts _ (List.mem_cons_of_mem _ wm_717)) (fun _ h9 => h9) rfl d_MD_closed_4 ?_
  refine lv_iconst (v := 1) hx hb d_MD_closed_7 (by decide) ?_
  refine lv_isub hx hb d_MD_closed_8 ?_
  refine xr_calli (va_runS (As := [.int k0, .int (-1), .int ((nI nl) - 1)]) (rest := [.ref h0]) ⟨hx, hb, hml, hown, hts⟩ (c_MD_within l dC dI k0 (-1) ((nI nl) - 1)) (va_cwS 3 hts (xgS wm_790 wm_791 wm_34 wm_792) rfl rfl rfl (by decide +kernel) ⟨Nat.le_of_ble_eq_true rfl, Nat.le_of_ble_eq_true rfl⟩) ⟨xp_blind, fun U hU hW => ⟨rfl, hz.warm hW, by rw [hU]; exact hP.sub [] rfl, va_K.moved hW.alike (hK.sub [] rfl)⟩⟩ rfl rfl hl.1 rfl (lv_room (Nat.le_of_ble_eq_true rfl)) d_MD_closed_9 ⟨Nat.le_of_ble_eq_true rfl, Nat.le_of_ble_eq_true rfl⟩) (fun r_1 h_2 => ?_)
  subst h_2
  refine lv_iconst (v := 1) hx hb d_MD_closed_12 (by decide) ?_
  refine lv_iconst (v := 1) hx hb d_MD_closed_13 (by decide) ?_
  have hPc := hP.sub (ws' := [(h0, .inr (7, [.int th, .int (nI nm), .ref ap, .int (nI no), .ref am, .ref aw, .ref az, .ref au, .int kn, .long vP, .long vQ, .long vS, .long vT, .long vB, .long vM, .long vH, .ref ao, .ref ax, .int (nI np), .ref ay, .int (nI nl), .ref ad, .ref al, .int (nI sn), .ref ag, .int (nI ta), .int nb]))]) [0] rfl
  have hDc := hD.sub (ws' := [(h0, .inr (7, [.int th, .int (nI nm), .ref ap, .int (nI no), .ref am, .ref aw, .ref az, .ref au, .int kn, .long vP, .long vQ, .long vS, .long vT, .long vB, .long vM, .long vH, .ref ao, .ref ax, .int (nI np), .ref ay, .int (nI nl), .ref ad, .ref al, .int (nI sn), .ref ag, .int (nI ta), .int nb]))]) [0] (by decide) rfl
  have hKc := hK.sub (tys' := []) [] rfl
  have hFc := va_free (wc := [(h0, .inr (7, [.int th, .int (nI nm), .ref ap, .int (nI no), .ref am, .ref aw, .ref az, .ref au, .int kn, .long vP, .long vQ, .long vS, .long vT, .long vB, .long vM, .long vH, .ref ao, .ref ax, .int (nI np), .ref ay, .int (nI nl), .ref ad, .ref al, .int (nI sn), .ref ag, .int (nI ta), .int nb]))]) hD hS hA [0] rfl
  refine va_calli (va_runV (As := [.int (bI (md_win k0 (-1) ((nI nl) - 1))), .int 1, .int 1]) (rest := []) ⟨hx, hb, hml, hown, hts⟩ (c_MD_goes l dC dI s.heap.size h0 th nm ap no am aw az au kn vP vQ vS vT vB vM vH ao ax np ay nl ad al sn ag ta nb (bI (md_win k0 (-1) ((nI nl) - 1))) 1 1) (cwV 3 hts (xgV wm_793 wm_795 wm_13 wm_34 wm_796) rfl rfl rfl (by decide +kernel) ⟨Nat.le_of_ble_eq_true rfl, Nat.le_of_ble_eq_true rfl⟩) ⟨xw_blind, va_recv hKc hPc (ci := 7) (q0 := 0) rfl rfl, fun U hU hW => ⟨rfl, by rw [hU], hz.warm hW, by rw [hU]; exact hPc, va_K.moved hW.alike hKc, hDc.weaken (fun _ _ _ _ => trivial)⟩⟩ rfl rfl hl.1 rfl (lv_room (Nat.le_of_ble_eq_true rfl)) d_MD_closed_14 ⟨Nat.le_of_ble_eq_true rfl, Nat.le_of_ble_eq_true rfl⟩) hS (fun q _ h => hFc q h) hFc (fun r_3 _ t H1 locs ht hvm hw_4 hB hz1 hk1 hS => ?_)
  obtain ⟨hP1, hK1, hD1⟩ := hB
  rw [ht] at hP1
  have hK1 := va_K.moved hvm.symm hK1
  obtain ⟨hP, hD⟩ := va_join (wr := []) (w1 := [(h0, .inr (7, [.int (md_th (bI (md_win k0 (-1) ((nI nl) - 1))) 1 1), .int (nI nm), .ref ap, .int (nI no), .ref am, .ref aw, .ref az, .ref au, .int kn, .long vP, .long vQ, .long vS, .long vT, .long vB, .long vM, .long vH, .ref ao, .ref ax, .int (nI np), .ref ay, .int (nI nl), .ref ad, .ref al, .int (nI sn), .ref ag, .int (nI ta), .int nb]))]) hP hD [0] [] rfl rfl (by decide) (by decide) hk1 hFc hP1 hD1
  generalize H1 = H at hP hS ⊢
  have hP : va_P (dC, dI) xCl [(h0, .inr (7, [.int (md_th (bI (md_win k0 (-1) ((nI nl) - 1))) 1 1), .int (nI nm), .ref ap, .int (nI no), .ref am, .ref aw, .ref az, .ref au, .int kn, .long vP, .long vQ, .long vS, .long vT, .long vB, .long vM, .long vH, .ref ao, .ref ax, .int (nI np), .ref ay, .int (nI nl), .ref ad, .ref al, .int (nI sn), .ref ag, .int (nI ta), .int nb]))] H := hP
  have hD : va_D A [(h0, .inr (7, [.int (md_th (bI (md_win k0 (-1) ((nI nl) - 1))) 1 1), .int (nI nm), .ref ap, .int (nI no), .ref am, .ref aw, .ref az, .ref au, .int kn, .long vP, .long vQ, .long vS, .long vT, .long vB, .long vM, .long vH, .ref ao, .ref ax, .int (nI np), .ref ay, .int (nI nl), .ref ad, .ref al, .int (nI sn), .ref ag, .int (nI ta), .int nb]))] := hD
  subst hw_4
  refine lv_if_ne (tgt := 22) hx hb d_MD_closed_17 (by decide) (fun c_5 => ?_) (fun c_5 => ?_)
  · exact absurd (md_th_all (bI_t rfl c_5)) (fun q => hn (bI_of q.1))
  · have b_6 := bI_f (rfl : bI (md_th (bI (md_win k0 (-1) ((nI nl) - 1))) 1 1 = 0) = _) c_5
    refine lv_iconst (v := 0) hx hb d_MD_closed_20 (by decide) ?_
    have hP9 := hP.sub (ws' := [(h0, .inr (7, [.int (md_th (bI (md_win k0 (-1) ((nI nl) - 1))) 1 1), .int (nI nm), .ref ap, .int (nI no), .ref am, .ref aw, .ref az, .ref au, .int kn, .long vP, .long vQ, .long vS, .long vT, .long vB, .long vM, .long vH, .ref ao, .ref ax, .int (nI np), .ref ay, .int (nI nl), .ref ad, .ref al, .int (nI sn), .ref ag, .int (nI ta), .int nb]))]) [0] rfl
    have hD9 := hD.sub (ws' := [(h0, .inr (7, [.int (md_th (bI (md_win k0 (-1) ((nI nl) - 1))) 1 1), .int (nI nm), .ref ap, .int (nI no), .ref am, .ref aw, .ref az, .ref au, .int kn, .long vP, .long vQ, .long vS, .long vT, .long vB, .long vM, .long vH, .ref ao, .ref ax, .int (nI np), .ref ay, .int (nI nl), .ref ad, .ref al, .int (nI sn), .ref ag, .int (nI ta), .int nb]))]) [0] (by decide) rfl
    have hK9 := hK.sub (tys' := []) [] rfl
    exact W.iret (v := 0) hx hb hr (fun t ht hW => ⟨⟨0, (), rfl, rfl, ⟨by rw [ht]; exact hP9, va_K.moved hW.alike hK9, by exact hD9⟩⟩, hS.F ht⟩) hS.2.2 d_MD_closed_21 hlocks
set_option maxHeartbeats 4000000 in
set_option maxRecDepth 100000 in
/-- signsOf -/
theorem c_MD_signsOf (l : Launch) (dC : Nat → ClassId) (dI : Nat → Nat → Nat) (a : Int32)  : Met l xy_MD_signsOf xw_MD_signsOf ({ frames := 0, cells := 0, slots := 0, locals := 0 }) (xp_r [.int a] (dC, dI) xCl [] []) (xr_i (fun r => r = nI (md_si a 4))) 0 0 (fun _ => False) := by
  refine Met.ofW (cc := prog_9_method_30_code) (maxL := 3) (ret := (some .int)) (by decide) rfl ?_
  intro p e s m args below meth c s₁ B hml hv
  obtain ⟨rfl, hz, hP, hK⟩ := hv
  have hx := B.exec
  have hb := B.bytes
  have hr := B.returns
  have hts := atoms_spec (ws := xw_MD_signsOf) B.pre
  have hown : s.vm.findClass xR_MD = some m.cls := findClass_of_methodNamed B.named
  have hlocks := B.notSynchronized
  have hP : va_P (dC, dI) xCl [] s.heap := hP
  have hl := lv_entry ([.int a]) (n := 3) (Nat.le_of_ble_eq_true rfl)
  rw [lg_entry_eq]
  generalize (lg_sl ([.int a]) ++ List.replicate (3 - (lg_sl ([.int a])).length) Slot.unset).toArray = ls at hl ⊢
  have hl : lv_has ls 3 [(0, .int a)] := hl
  refine lv_iconst (v := 0) hx hb d_MD_signsOf_0 (by decide) ?_
  refine lv_istore_n (lv' := [(1, .int 0), (0, .int a)]) hx hb d_MD_signsOf_1 rfl hl (by decide) rfl (fun ls hl => ?_)
  refine lv_iconst (v := 0) hx hb d_MD_signsOf_2 (by decide) ?_
  refine lv_istore_n (lv' := [(2, .int 0), (1, .int 0), (0, .int a)]) hx hb d_MD_signsOf_3 rfl hl (by decide) rfl (fun ls hl => ?_)
  have lp4 : ∀ (fuel : Nat) (i : Nat) (x1 : Int32), 4 - i < fuel → i ≤ 4 → x1 = nI (md_si a i) → ∀ (ls : Array Slot), lv_has ls 3 [(0, .int a), (1, .int x1), (2, .int (nI i))] → W p l e (headSpec xw_MD_signsOf ({ frames := 0, cells := 0, slots := 0, locals := 0 })).room s m ([.int a] : List Value).toArray below meth c s.heap [] 0 0 (MQ below (xr_i (fun r => r = nI (md_si a 4))) ([.int a] : List Value).toArray s 0 0 (fun _ => False)) (F0 m 4 ls []) := by
    intro fuel
    induction fuel with
    | zero => intro i x1 hfu; exact absurd hfu (Nat.not_lt_zero _)
    | succ fuel ih =>
      intro i x1 hfu hi hx1 ls hl
      subst hx1
      refine lv_iload_n hx hb d_MD_signsOf_4 rfl (lv_at hl 2 rfl) ?_
      refine lv_iconst (v := 4) hx hb d_MD_signsOf_5 (by decide) ?_
      refine lv_icmp_ge (tgt := 36) hx hb d_MD_signsOf_6 (by decide) (fun c_1 => ?_) (fun c_1 => ?_)
      · have n_2 := xn_le (a := 4) (b := i) c_1 (by decide) rfl (by omega) (by omega)
        refine lv_iload_n hx hb d_MD_signsOf_36 rfl (lv_at hl 1 rfl) ?_
        exact xr_iret (v := nI (md_si a i)) hx hb hr (by exact (by rw [show i = 4 by omega])) d_MD_signsOf_37 hlocks
      · have n_3 := xn_nle (a := 4) (b := i) c_1 (by decide) rfl (by omega) (by omega)
        refine lv_iload_n hx hb d_MD_signsOf_9 rfl (lv_at hl 0 rfl) ?_
        refine lv_bipush (v := 8) hx hb d_MD_signsOf_10 (by decide) ?_
        refine lv_iload_n hx hb d_MD_signsOf_12 rfl (lv_at hl 2 rfl) ?_
        refine lv_imul hx hb d_MD_signsOf_13 ?_
        refine xv_i (y := nI (8 * i)) (pk_mul 8 _) ?_
        refine lv_iushr (v := (a.toUInt32 >>> ((nI (8 * i)).toUInt32 &&& Int32.toUInt32 31)).toInt32) hx hb d_MD_signsOf_14 rfl ?_
        refine lv_sipush (v := 255) hx hb d_MD_signsOf_15 (by decide) ?_
        refine lv_iand hx hb d_MD_signsOf_18 ?_
        refine lv_if_eq (tgt := 28) hx hb d_MD_signsOf_19 (by decide) (fun c_4 => ?_) (fun c_4 => ?_)
        · refine lv_iload_n hx hb d_MD_signsOf_28 rfl (lv_at hl 1 rfl) ?_
          refine lv_istore_n (lv' := [(1, .int (nI (md_si a i))), (0, .int a), (2, .int (nI i))]) hx hb d_MD_signsOf_29 rfl hl (by decide) rfl (fun ls hl => ?_)
          refine lv_iinc (v := nI (i + 1)) (lv' := [(2, .int (nI (i + 1))), (1, .int (nI (md_si a i))), (0, .int a)]) hx hb d_MD_signsOf_30 hl (k := 2) rfl (nI_1 _) (by decide) rfl (fun ls hl => ?_)
          refine lv_goto (tgt := 4) hx hb d_MD_signsOf_33 (by decide) ?_
          exact ih  (i + 1) (nI (md_si a i)) (by omega) (by omega) (congrArg nI (md_si_f c_4).symm) ls (lv_sub hl [2, 1, 0] rfl)
        · refine lv_iload_n hx hb d_MD_signsOf_22 rfl (lv_at hl 1 rfl) ?_
          refine lv_iconst (v := 1) hx hb d_MD_signsOf_23 (by decide) ?_
          refine lv_iadd hx hb d_MD_signsOf_24 ?_
          refine xv_i (y := nI ((md_si a i) + 1)) (nI_1 _) ?_
          refine lv_goto (tgt := 29) hx hb d_MD_signsOf_25 (by decide) ?_
          refine lv_istore_n (lv' := [(1, .int (nI ((md_si a i) + 1))), (0, .int a), (2, .int (nI i))]) hx hb d_MD_signsOf_29 rfl hl (by decide) rfl (fun ls hl => ?_)
          refine lv_iinc (v := nI (i + 1)) (lv' := [(2, .int (nI (i + 1))), (1, .int (nI ((md_si a i) + 1))), (0, .int a)]) hx hb d_MD_signsOf_30 hl (k := 2) rfl (nI_1 _) (by decide) rfl (fun ls hl => ?_)
          refine lv_goto (tgt := 4) hx hb d_MD_signsOf_33 (by decide) ?_
          exact ih  (i + 1) (nI ((md_si a i) + 1)) (by omega) (by omega) (congrArg nI (md_si_t c_4).symm) ls (lv_sub hl [2, 1, 0] rfl)
  exact lp4 (4 - 0 + 1) 0 0 (by omega) (by omega) nI_0.symm ls (lv_sub hl [2, 1, 0] rfl)
set_option maxHeartbeats 4000000 in
set_option maxRecDepth 100000 in
/-- isPlain -/
theorem c_MD_isPlain (l : Launch) (dC : Nat → ClassId) (dI : Nat → Nat → Nat) (a : Int32)  : Met l xy_MD_isPlain xw_MD_isPlain ({ frames := 1, cells := 0, slots := 0, locals := 22 }) (xp_r [.int a] (dC, dI) xCl [] []) (xr_i (fun r => r = bI (md_gd a 4 = true))) 0 0 (fun _ => False) := by
  refine Met.ofW (cc := prog_9_method_31_code) (maxL := 4) (ret := (some .boolean)) (by decide) rfl ?_
  intro p e s m args below meth c s₁ B hml hv
  obtain ⟨rfl, hz, hP, hK⟩ := hv
  have hx := B.exec
  have hb := B.bytes
  have hr := B.returns
  have hts := atoms_spec (ws := xw_MD_isPlain) B.pre
  have hown : s.vm.findClass xR_MD = some m.cls := findClass_of_methodNamed B.named
  have hlocks := B.notSynchronized
  have hP : va_P (dC, dI) xCl [] s.heap := hP
  have hl := lv_entry ([.int a]) (n := 4) (Nat.le_of_ble_eq_true rfl)
  rw [lg_entry_eq]
  generalize (lg_sl ([.int a]) ++ List.replicate (4 - (lg_sl ([.int a])).length) Slot.unset).toArray = ls at hl ⊢
  have hl : lv_has ls 4 [(0, .int a)] := hl
  refine lv_iconst (v := 1) hx hb d_MD_isPlain_0 (by decide) ?_
  refine lv_istore_n (lv' := [(1, .int 1), (0, .int a)]) hx hb d_MD_isPlain_1 rfl hl (by decide) rfl (fun ls hl => ?_)
  refine lv_iconst (v := 0) hx hb d_MD_isPlain_2 (by decide) ?_
  refine lv_istore_n (lv' := [(2, .int 0), (1, .int 1), (0, .int a)]) hx hb d_MD_isPlain_3 rfl hl (by decide) rfl (fun ls hl => ?_)
  have lp4 : ∀ (fuel : Nat) (i : Nat) (x1 : Int32), 4 - i < fuel → i ≤ 4 → x1 = bI (md_gd a i = true) → ∀ (ls : Array Slot), lv_has ls 4 [(0, .int a), (1, .int x1), (2, .int (nI i))] → W p l e (headSpec xw_MD_isPlain ({ frames := 1, cells := 0, slots := 0, locals := 22 })).room s m ([.int a] : List Value).toArray below meth c s.heap [] 0 0 (MQ below (xr_i (fun r => r = bI (md_gd a 4 = true))) ([.int a] : List Value).toArray s 0 0 (fun _ => False)) (F0 m 4 ls []) := by
    intro fuel
    induction fuel with
    | zero => intro i x1 hfu; exact absurd hfu (Nat.not_lt_zero _)
    | succ fuel ih =>
      intro i x1 hfu hi hx1 ls hl
      subst hx1
      refine lv_iload_n hx hb d_MD_isPlain_4 rfl (lv_at hl 2 rfl) ?_
      refine lv_iconst (v := 4) hx hb d_MD_isPlain_5 (by decide) ?_
      refine lv_icmp_ge (tgt := 69) hx hb d_MD_isPlain_6 (by decide) (fun c_1 => ?_) (fun c_1 => ?_)
      · have n_2 := xn_le (a := 4) (b := i) c_1 (by decide) rfl (by omega) (by omega)
        refine lv_iload_n hx hb d_MD_isPlain_69 rfl (lv_at hl 1 rfl) ?_
        exact xr_zret (v := bI (md_gd a i = true)) (ty := .boolean) hx hb hr (by exact (bI_nar _)) (by exact (by rw [show i = 4 by omega])) d_MD_isPlain_70 hlocks
      · have n_3 := xn_nle (a := 4) (b := i) c_1 (by decide) rfl (by omega) (by omega)
        refine lv_iload_n hx hb d_MD_isPlain_9 rfl (lv_at hl 0 rfl) ?_
        refine lv_bipush (v := 8) hx hb d_MD_isPlain_10 (by decide) ?_
        refine lv_iload_n hx hb d_MD_isPlain_12 rfl (lv_at hl 2 rfl) ?_
        refine lv_imul hx hb d_MD_isPlain_13 ?_
        refine xv_i (y := nI (8 * i)) (pk_mul 8 _) ?_
        refine lv_iushr (v := (a.toUInt32 >>> ((nI (8 * i)).toUInt32 &&& Int32.toUInt32 31)).toInt32) hx hb d_MD_isPlain_14 rfl ?_
        refine lv_sipush (v := 255) hx hb d_MD_isPlain_15 (by decide) ?_
        refine lv_iand hx hb d_MD_isPlain_18 ?_
        refine lv_istore_n (lv' := [(3, .int (((a.toUInt32 >>> ((nI (8 * i)).toUInt32 &&& Int32.toUInt32 31)).toInt32) &&& 255)), (0, .int a), (1, .int (bI (md_gd a i = true))), (2, .int (nI i))]) hx hb d_MD_isPlain_19 rfl hl (by decide) rfl (fun ls hl => ?_)
        refine lv_iload_n hx hb d_MD_isPlain_20 rfl (lv_at hl 2 rfl) ?_
        refine lv_if_eq (tgt := 61) hx hb d_MD_isPlain_21 (by decide) (fun c_4 => ?_) (fun c_4 => ?_)
        · have b_5 := bI_f (rfl : bI (md_gd a i = true) = _) c_4
          refine lv_iconst (v := 0) hx hb d_MD_isPlain_61 (by decide) ?_
          refine lv_istore_n (lv' := [(1, .int 0), (3, .int (((a.toUInt32 >>> ((nI (8 * i)).toUInt32 &&& Int32.toUInt32 31)).toInt32) &&& 255)), (0, .int a), (2, .int (nI i))]) hx hb d_MD_isPlain_62 rfl hl (by decide) rfl (fun ls hl => ?_)
          refine lv_iinc (v := nI (i + 1)) (lv' := [(2, .int (nI (i + 1))), (1, .int 0), (3, .int (((a.toUInt32 >>> ((nI (8 * i)).toUInt32 &&& Int32.toUInt32 31)).toInt32) &&& 255)), (0, .int a)]) hx hb d_MD_isPlain_63 hl (k := 3) rfl (nI_1 _) (by decide) rfl (fun ls hl => ?_)
          refine lv_goto (tgt := 4) hx hb d_MD_isPlain_66 (by decide) ?_
          exact ih  (i + 1) 0 (by omega) (by omega) (bI_n (md_gd_g b_5)) ls (lv_sub hl [3, 1, 0] rfl)
        · have b_6 := bI_t (rfl : bI (md_gd a i = true) = _) c_4
          refine lv_iload_n hx hb d_MD_isPlain_24 rfl (lv_at hl 0 rfl) ?_
          refine lv_if_eq (tgt := 57) hx hb d_MD_isPlain_25 (by decide) (fun c_7 => ?_) (fun c_7 => ?_)
          · refine lv_iconst (v := 1) hx hb d_MD_isPlain_57 (by decide) ?_
            refine lv_goto (tgt := 62) hx hb d_MD_isPlain_58 (by decide) ?_
            refine lv_istore_n (lv' := [(1, .int 1), (3, .int (((a.toUInt32 >>> ((nI (8 * i)).toUInt32 &&& Int32.toUInt32 31)).toInt32) &&& 255)), (0, .int a), (2, .int (nI i))]) hx hb d_MD_isPlain_62 rfl hl (by decide) rfl (fun ls hl => ?_)
            refine lv_iinc (v := nI (i + 1)) (lv' := [(2, .int (nI (i + 1))), (1, .int 1), (3, .int (((a.toUInt32 >>> ((nI (8 * i)).toUInt32 &&& Int32.toUInt32 31)).toInt32) &&& 255)), (0, .int a)]) hx hb d_MD_isPlain_63 hl (k := 3) rfl (nI_1 _) (by decide) rfl (fun ls hl => ?_)
            refine lv_goto (tgt := 4) hx hb d_MD_isPlain_66 (by decide) ?_
            exact ih  (i + 1) 1 (by omega) (by omega) (bI_p (md_gd_s b_6 (sr_gc_0 c_7))) ls (lv_sub hl [3, 1, 0] rfl)
          · refine lv_iload_n hx hb d_MD_isPlain_28 rfl (lv_at hl 0 rfl) ?_
            refine lv_bipush (v := 48) hx hb d_MD_isPlain_29 (by decide) ?_
            refine lv_bipush (v := 57) hx hb d_MD_isPlain_31 (by decide) ?_
            refine xr_calli (va_runS (As := [.int (((a.toUInt32 >>> ((nI (8 * i)).toUInt32 &&& Int32.toUInt32 31)).toInt32) &&& 255), .int 48, .int 57]) (rest := []) ⟨hx, hb, hml, hown, hts⟩ (c_MD_within l dC dI (((a.toUInt32 >>> ((nI (8 * i)).toUInt32 &&& Int32.toUInt32 31)).toInt32) &&& 255) 48 57) (va_cwS 3 hts (xgS wm_790 wm_791 wm_34 wm_792) rfl rfl rfl (by decide +kernel) ⟨Nat.le_of_ble_eq_true rfl, Nat.le_of_ble_eq_true rfl⟩) ⟨xp_blind, fun U hU hW => ⟨rfl, hz.warm hW, by rw [hU]; exact hP.sub [] rfl, va_K.moved hW.alike (hK.sub [] rfl)⟩⟩ rfl rfl hl.1 rfl (lv_room (Nat.le_of_ble_eq_true rfl)) d_MD_isPlain_33 ⟨Nat.le_of_ble_eq_true rfl, Nat.le_of_ble_eq_true rfl⟩) (fun r_8 h_9 => ?_)
            subst h_9
            refine lv_if_ne (tgt := 57) hx hb d_MD_isPlain_36 (by decide) (fun c_10 => ?_) (fun c_10 => ?_)
            · have b_11 := bI_t (rfl : bI (md_win (((a.toUInt32 >>> ((nI (8 * i)).toUInt32 &&& Int32.toUInt32 31)).toInt32) &&& 255) 48 57) = _) c_10
              refine lv_iconst (v := 1) hx hb d_MD_isPlain_57 (by decide) ?_
              refine lv_goto (tgt := 62) hx hb d_MD_isPlain_58 (by decide) ?_
              refine lv_istore_n (lv' := [(1, .int 1), (3, .int (((a.toUInt32 >>> ((nI (8 * i)).toUInt32 &&& Int32.toUInt32 31)).toInt32) &&& 255)), (0, .int a), (2, .int (nI i))]) hx hb d_MD_isPlain_62 rfl hl (by decide) rfl (fun ls hl => ?_)
              refine lv_iinc (v := nI (i + 1)) (lv' := [(2, .int (nI (i + 1))), (1, .int 1), (3, .int (((a.toUInt32 >>> ((nI (8 * i)).toUInt32 &&& Int32.toUInt32 31)).toInt32) &&& 255)), (0, .int a)]) hx hb d_MD_isPlain_63 hl (k := 3) rfl (nI_1 _) (by decide) rfl (fun ls hl => ?_)
              refine lv_goto (tgt := 4) hx hb d_MD_isPlain_66 (by decide) ?_
              exact ih  (i + 1) 1 (by omega) (by omega) (bI_p (md_gd_s b_6 (sr_gc_d b_11))) ls (lv_sub hl [3, 1, 0] rfl)
            · have b_12 := bI_f (rfl : bI (md_win (((a.toUInt32 >>> ((nI (8 * i)).toUInt32 &&& Int32.toUInt32 31)).toInt32) &&& 255) 48 57) = _) c_10
              refine lv_iload_n hx hb d_MD_isPlain_39 rfl (lv_at hl 0 rfl) ?_
              refine lv_bipush (v := 45) hx hb d_MD_isPlain_40 (by decide) ?_
              refine lv_icmp_eq (tgt := 57) hx hb d_MD_isPlain_42 (by decide) (fun c_13 => ?_) (fun c_13 => ?_)
              · refine lv_iconst (v := 1) hx hb d_MD_isPlain_57 (by decide) ?_
                refine lv_goto (tgt := 62) hx hb d_MD_isPlain_58 (by decide) ?_
                refine lv_istore_n (lv' := [(1, .int 1), (3, .int (((a.toUInt32 >>> ((nI (8 * i)).toUInt32 &&& Int32.toUInt32 31)).toInt32) &&& 255)), (0, .int a), (2, .int (nI i))]) hx hb d_MD_isPlain_62 rfl hl (by decide) rfl (fun ls hl => ?_)
                refine lv_iinc (v := nI (i + 1)) (lv' := [(2, .int (nI (i + 1))), (1, .int 1), (3, .int (((a.toUInt32 >>> ((nI (8 * i)).toUInt32 &&& Int32.toUInt32 31)).toInt32) &&& 255)), (0, .int a)]) hx hb d_MD_isPlain_63 hl (k := 3) rfl (nI_1 _) (by decide) rfl (fun ls hl => ?_)
                refine lv_goto (tgt := 4) hx hb d_MD_isPlain_66 (by decide) ?_
                exact ih  (i + 1) 1 (by omega) (by omega) (bI_p (md_gd_s b_6 (sr_gc_m c_13))) ls (lv_sub hl [3, 1, 0] rfl)
              · refine lv_iload_n hx hb d_MD_isPlain_45 rfl (lv_at hl 0 rfl) ?_
                refine lv_bipush (v := 32) hx hb d_MD_isPlain_46 (by decide) ?_
                refine lv_icmp_eq (tgt := 57) hx hb d_MD_isPlain_48 (by decide) (fun c_14 => ?_) (fun c_14 => ?_)
                · refine lv_iconst (v := 1) hx hb d_MD_isPlain_57 (by decide) ?_
                  refine lv_goto (tgt := 62) hx hb d_MD_isPlain_58 (by decide) ?_
                  refine lv_istore_n (lv' := [(1, .int 1), (3, .int (((a.toUInt32 >>> ((nI (8 * i)).toUInt32 &&& Int32.toUInt32 31)).toInt32) &&& 255)), (0, .int a), (2, .int (nI i))]) hx hb d_MD_isPlain_62 rfl hl (by decide) rfl (fun ls hl => ?_)
                  refine lv_iinc (v := nI (i + 1)) (lv' := [(2, .int (nI (i + 1))), (1, .int 1), (3, .int (((a.toUInt32 >>> ((nI (8 * i)).toUInt32 &&& Int32.toUInt32 31)).toInt32) &&& 255)), (0, .int a)]) hx hb d_MD_isPlain_63 hl (k := 3) rfl (nI_1 _) (by decide) rfl (fun ls hl => ?_)
                  refine lv_goto (tgt := 4) hx hb d_MD_isPlain_66 (by decide) ?_
                  exact ih  (i + 1) 1 (by omega) (by omega) (bI_p (md_gd_s b_6 (sr_gc_b c_14))) ls (lv_sub hl [3, 1, 0] rfl)
                · refine lv_iload_n hx hb d_MD_isPlain_51 rfl (lv_at hl 0 rfl) ?_
                  refine lv_bipush (v := 59) hx hb d_MD_isPlain_52 (by decide) ?_
                  refine lv_icmp_ne (tgt := 61) hx hb d_MD_isPlain_54 (by decide) (fun c_15 => ?_) (fun c_15 => ?_)
                  · refine lv_iconst (v := 0) hx hb d_MD_isPlain_61 (by decide) ?_
                    refine lv_istore_n (lv' := [(1, .int 0), (3, .int (((a.toUInt32 >>> ((nI (8 * i)).toUInt32 &&& Int32.toUInt32 31)).toInt32) &&& 255)), (0, .int a), (2, .int (nI i))]) hx hb d_MD_isPlain_62 rfl hl (by decide) rfl (fun ls hl => ?_)
                    refine lv_iinc (v := nI (i + 1)) (lv' := [(2, .int (nI (i + 1))), (1, .int 0), (3, .int (((a.toUInt32 >>> ((nI (8 * i)).toUInt32 &&& Int32.toUInt32 31)).toInt32) &&& 255)), (0, .int a)]) hx hb d_MD_isPlain_63 hl (k := 3) rfl (nI_1 _) (by decide) rfl (fun ls hl => ?_)
                    refine lv_goto (tgt := 4) hx hb d_MD_isPlain_66 (by decide) ?_
                    exact ih  (i + 1) 0 (by omega) (by omega) (bI_n (md_gd_n (sr_gc_n c_7 c_13 c_14 c_15 b_12))) ls (lv_sub hl [3, 1, 0] rfl)
                  · refine lv_iconst (v := 1) hx hb d_MD_isPlain_57 (by decide) ?_
                    refine lv_goto (tgt := 62) hx hb d_MD_isPlain_58 (by decide) ?_
                    refine lv_istore_n (lv' := [(1, .int 1), (3, .int (((a.toUInt32 >>> ((nI (8 * i)).toUInt32 &&& Int32.toUInt32 31)).toInt32) &&& 255)), (0, .int a), (2, .int (nI i))]) hx hb d_MD_isPlain_62 rfl hl (by decide) rfl (fun ls hl => ?_)
                    refine lv_iinc (v := nI (i + 1)) (lv' := [(2, .int (nI (i + 1))), (1, .int 1), (3, .int (((a.toUInt32 >>> ((nI (8 * i)).toUInt32 &&& Int32.toUInt32 31)).toInt32) &&& 255)), (0, .int a)]) hx hb d_MD_isPlain_63 hl (k := 3) rfl (nI_1 _) (by decide) rfl (fun ls hl => ?_)
                    refine lv_goto (tgt := 4) hx hb d_MD_isPlain_66 (by decide) ?_
                    exact ih  (i + 1) 1 (by omega) (by omega) (bI_p (md_gd_s b_6 (sr_gc_s c_15))) ls (lv_sub hl [3, 1, 0] rfl)
  exact lp4 (4 - 0 + 1) 0 1 (by omega) (by omega) (bI_p rfl) ls (lv_sub hl [2, 1, 0] rfl)
set_option maxHeartbeats 4000000 in
set_option maxRecDepth 100000 in
/-- push -/
theorem c_MD_push (l : Launch) (dC : Nat → ClassId) (dI : Nat → Nat → Nat) (sz : Nat) (h0 : Nat) (th : Int32) (nm : Nat) (ap : Nat) (no : Nat) (am : Nat) (aw : Nat) (az : Nat) (au : Nat) (kn : Int32) (vP : Int64) (vQ : Int64) (vS : Int64) (vT : Int64) (vB : Int64) (vM : Int64) (vH : Int64) (ao : Nat) (ax : Nat) (np : Nat) (ay : Nat) (nl : Nat) (ad : Nat) (al : Nat) (sn : Nat) (ag : Nat) (ta : Nat) (nb : Int32) (kg : ClassId) (gg : Nat → Int32) (a : Int32) (hle : sn + md_si a 4 ≤ 200) : Met l xy_MD_push xw_MD_push ({ frames := 0, cells := 0, slots := 0, locals := 0 }) (xp_w [.ref h0, .int a] sz (dC, dI) xCl [(h0, .inr (7, [.int th, .int (nI nm), .ref ap, .int (nI no), .ref am, .ref aw, .ref az, .ref au, .int kn, .long vP, .long vQ, .long vS, .long vT, .long vB, .long vM, .long vH, .ref ao, .ref ax, .int (nI np), .ref ay, .int (nI nl), .ref ad, .ref al, .int (nI sn), .ref ag, .int (nI ta), .int nb])), (ag, .inl (kg, 200, .inl gg))] [(kg, .int)]) (va_Qv (fun (_ : Unit) => True) (fun _ t => xb_w (dC, dI) xCl [(h0, .inr (7, [.int th, .int (nI nm), .ref ap, .int (nI no), .ref am, .ref aw, .ref az, .ref au, .int kn, .long vP, .long vQ, .long vS, .long vT, .long vB, .long vM, .long vH, .ref ao, .ref ax, .int (nI np), .ref ay, .int (nI nl), .ref ad, .ref al, .int (nI (sn + md_si a 4)), .ref ag, .int (nI ta), .int nb])), (ag, .inl (kg, 200, .inl (md_pd a gg sn 4)))] [(kg, .int)] (va_A [(h0, .inr (7, [.int th, .int (nI nm), .ref ap, .int (nI no), .ref am, .ref aw, .ref az, .ref au, .int kn, .long vP, .long vQ, .long vS, .long vT, .long vB, .long vM, .long vH, .ref ao, .ref ax, .int (nI np), .ref ay, .int (nI nl), .ref ad, .ref al, .int (nI sn), .ref ag, .int (nI ta), .int nb])), (ag, .inl (kg, 200, .inl gg))] sz) t) (va_A [(h0, .inr (7, [.int th, .int (nI nm), .ref ap, .int (nI no), .ref am, .ref aw, .ref az, .ref au, .int kn, .long vP, .long vQ, .long vS, .long vT, .long vB, .long vM, .long vH, .ref ao, .ref ax, .int (nI np), .ref ay, .int (nI nl), .ref ad, .ref al, .int (nI sn), .ref ag, .int (nI ta), .int nb])), (ag, .inl (kg, 200, .inl gg))] sz)) 0 0 (va_A [(h0, .inr (7, [.int th, .int (nI nm), .ref ap, .int (nI no), .ref am, .ref aw, .ref az, .ref au, .int kn, .long vP, .long vQ, .long vS, .long vT, .long vB, .long vM, .long vH, .ref ao, .ref ax, .int (nI np), .ref ay, .int (nI nl), .ref ad, .ref al, .int (nI sn), .ref ag, .int (nI ta), .int nb])), (ag, .inl (kg, 200, .inl gg))] sz) := by
  refine Met.ofW (cc := prog_9_method_32_code) (maxL := 4) (ret := none) (by decide) rfl ?_
  intro p e s m args below meth c s₁ B hml hv
  obtain ⟨rfl, hsz, hz, hP, hK, hD0⟩ := hv
  have hx := B.exec
  have hb := B.bytes
  have hr := B.returns
  have hts := atoms_spec (ws := xw_MD_push) B.pre
  have hown : s.vm.findClass xR_MD = some m.cls := findClass_of_methodNamed B.named
  have hlocks := B.notSynchronized
  subst hsz
  have hD := hD0.self (sz := s.heap.size)
  generalize hAe : va_A [(h0, .inr (7, [.int th, .int (nI nm), .ref ap, .int (nI no), .ref am, .ref aw, .ref az, .ref au, .int kn, .long vP, .long vQ, .long vS, .long vT, .long vB, .long vM, .long vH, .ref ao, .ref ax, .int (nI np), .ref ay, .int (nI nl), .ref ad, .ref al, .int (nI sn), .ref ag, .int (nI ta), .int nb])), (ag, .inl (kg, 200, .inl gg))] s.heap.size = A at hD ⊢
  have hA : ∀ q : Nat, s.heap.size ≤ q → A q := fun q h => by rw [← hAe]; exact Or.inr h
  have hS : va_S A s.heap s.heap [] := va_S.rf
  have hP : va_P (dC, dI) xCl [(h0, .inr (7, [.int th, .int (nI nm), .ref ap, .int (nI no), .ref am, .ref aw, .ref az, .ref au, .int kn, .long vP, .long vQ, .long vS, .long vT, .long vB, .long vM, .long vH, .ref ao, .ref ax, .int (nI np), .ref ay, .int (nI nl), .ref ad, .ref al, .int (nI sn), .ref ag, .int (nI ta), .int nb])), (ag, .inl (kg, 200, .inl gg))] s.heap := hP
  have hl := lv_entry ([.ref h0, .int a]) (n := 4) (Nat.le_of_ble_eq_true rfl)
  rw [lg_entry_eq]
  generalize (lg_sl ([.ref h0, .int a]) ++ List.replicate (4 - (lg_sl ([.ref h0, .int a])).length) Slot.unset).toArray = ls at hl ⊢
  have hl : lv_has ls 4 [(0, .ref h0), (1, .int a)] := hl
  refine lv_iconst (v := 0) hx hb d_MD_push_0 (by decide) ?_
  refine lv_istore_n (lv' := [(2, .int 0), (0, .ref h0), (1, .int a)]) hx hb d_MD_push_1 rfl hl (by decide) rfl (fun ls hl => ?_)
  have lp2 : ∀ (fuel : Nat) (i : Nat) (z : Nat) (zg : Nat → Int32), 4 - i < fuel → i ≤ 4 → z = sn + md_si a i → zg = md_pd a gg sn i → ∀ (H : Heap) (locs : List Loc), va_P (dC, dI) xCl [(h0, .inr (7, [.int th, .int (nI nm), .ref ap, .int (nI no), .ref am, .ref aw, .ref az, .ref au, .int kn, .long vP, .long vQ, .long vS, .long vT, .long vB, .long vM, .long vH, .ref ao, .ref ax, .int (nI np), .ref ay, .int (nI nl), .ref ad, .ref al, .int (nI z), .ref ag, .int (nI ta), .int nb])), (ag, .inl (kg, 200, .inl zg))] H → va_D A [(h0, .inr (7, [.int th, .int (nI nm), .ref ap, .int (nI no), .ref am, .ref aw, .ref az, .ref au, .int kn, .long vP, .long vQ, .long vS, .long vT, .long vB, .long vM, .long vH, .ref ao, .ref ax, .int (nI np), .ref ay, .int (nI nl), .ref ad, .ref al, .int (nI z), .ref ag, .int (nI ta), .int nb])), (ag, .inl (kg, 200, .inl zg))] → va_S A s.heap H locs → ∀ (ls : Array Slot), lv_has ls 4 [(0, .ref h0), (1, .int a), (2, .int (nI i))] → W p l e (headSpec xw_MD_push ({ frames := 0, cells := 0, slots := 0, locals := 0 })).room s m ([.ref h0, .int a] : List Value).toArray below meth c H locs 0 0 (MQ below (va_Qv (fun (_ : Unit) => True) (fun _ t => xb_w (dC, dI) xCl [(h0, .inr (7, [.int th, .int (nI nm), .ref ap, .int (nI no), .ref am, .ref aw, .ref az, .ref au, .int kn, .long vP, .long vQ, .long vS, .long vT, .long vB, .long vM, .long vH, .ref ao, .ref ax, .int (nI np), .ref ay, .int (nI nl), .ref ad, .ref al, .int (nI (sn + md_si a 4)), .ref ag, .int (nI ta), .int nb])), (ag, .inl (kg, 200, .inl (md_pd a gg sn 4)))] [(kg, .int)] A t) A) ([.ref h0, .int a] : List Value).toArray s 0 0 A) (F0 m 2 ls []) := by
    intro fuel
    induction fuel with
    | zero => intro i z zg hfu; exact absurd hfu (Nat.not_lt_zero _)
    | succ fuel ih =>
      intro i z zg hfu hi hz hzg H locs hP hD hS ls hl
      subst hz
      subst hzg
      refine lv_iload_n hx hb d_MD_push_2 rfl (lv_at hl 2 rfl) ?_
      refine lv_iconst (v := 4) hx hb d_MD_push_3 (by decide) ?_
      refine lv_icmp_ge (tgt := 48) hx hb d_MD_push_4 (by decide) (fun c_1 => ?_) (fun c_1 => ?_)
      · have n_2 := xn_le (a := 4) (b := i) c_1 (by decide) rfl (by omega) (by omega)
        have e9 : i = 4 := by omega
        rw [e9] at hP hD
        have hP9 := hP.sub (ws' := [(h0, .inr (7, [.int th, .int (nI nm), .ref ap, .int (nI no), .ref am, .ref aw, .ref az, .ref au, .int kn, .long vP, .long vQ, .long vS, .long vT, .long vB, .long vM, .long vH, .ref ao, .ref ax, .int (nI np), .ref ay, .int (nI nl), .ref ad, .ref al, .int (nI (sn + md_si a 4)), .ref ag, .int (nI ta), .int nb])), (ag, .inl (kg, 200, .inl (md_pd a gg sn 4)))]) [0, 1] rfl
        have hD9 := hD.sub (ws' := [(h0, .inr (7, [.int th, .int (nI nm), .ref ap, .int (nI no), .ref am, .ref aw, .ref az, .ref au, .int kn, .long vP, .long vQ, .long vS, .long vT, .long vB, .long vM, .long vH, .ref ao, .ref ax, .int (nI np), .ref ay, .int (nI nl), .ref ad, .ref al, .int (nI (sn + md_si a 4)), .ref ag, .int (nI ta), .int nb])), (ag, .inl (kg, 200, .inl (md_pd a gg sn 4)))]) [0, 1] (by decide) rfl
        have hK9 := hK.sub (tys' := [(kg, .int)]) [0] rfl
        exact W.vret hx hb hr (fun t ht hW => ⟨⟨(), rfl, trivial, ⟨by rw [ht]; exact hP9, va_K.moved hW.alike hK9, by exact hD9⟩⟩, hS.F ht⟩) hS.2.2 d_MD_push_48 hlocks
      · have n_3 := xn_nle (a := 4) (b := i) c_1 (by decide) rfl (by omega) (by omega)
        refine lv_iload_n hx hb d_MD_push_7 rfl (lv_at hl 1 rfl) ?_
        refine lv_bipush (v := 8) hx hb d_MD_push_8 (by decide) ?_
        refine lv_iload_n hx hb d_MD_push_10 rfl (lv_at hl 2 rfl) ?_
        refine lv_imul hx hb d_MD_push_11 ?_
        refine xv_i (y := nI (8 * i)) (pk_mul 8 _) ?_
        refine lv_iushr (v := (a.toUInt32 >>> ((nI (8 * i)).toUInt32 &&& Int32.toUInt32 31)).toInt32) hx hb d_MD_push_12 rfl ?_
        refine lv_sipush (v := 255) hx hb d_MD_push_13 (by decide) ?_
        refine lv_iand hx hb d_MD_push_16 ?_
        refine lv_istore_n (lv' := [(3, .int (((a.toUInt32 >>> ((nI (8 * i)).toUInt32 &&& Int32.toUInt32 31)).toInt32) &&& 255)), (0, .ref h0), (1, .int a), (2, .int (nI i))]) hx hb d_MD_push_17 rfl hl (by decide) rfl (fun ls hl => ?_)
        refine lv_iload_n hx hb d_MD_push_18 rfl (lv_at hl 0 rfl) ?_
        refine lv_if_eq (tgt := 42) hx hb d_MD_push_19 (by decide) (fun c_4 => ?_) (fun c_4 => ?_)
        · refine lv_iinc (v := nI (i + 1)) (lv' := [(2, .int (nI (i + 1))), (3, .int (((a.toUInt32 >>> ((nI (8 * i)).toUInt32 &&& Int32.toUInt32 31)).toInt32) &&& 255)), (0, .ref h0), (1, .int a)]) hx hb d_MD_push_42 hl (k := 3) rfl (nI_1 _) (by decide) rfl (fun ls hl => ?_)
          refine lv_goto (tgt := 2) hx hb d_MD_push_45 (by decide) ?_
          exact ih  (i + 1) (sn + md_si a i) (md_pd a gg sn i) (by omega) (by omega) (by rw [md_si_f c_4]) (md_pd_f c_4).symm _ _ (hP.sub [0, 1] rfl) (hD.sub [0, 1] (by decide) rfl) hS ls (lv_sub hl [2, 3, 0] rfl)
        · have hlt := md_si_lt (a := a) (i := i) (by omega) c_4
          refine lv_aload_n hx hb d_MD_push_22 rfl (lv_at hl 1 rfl) ?_
          refine va_get (D := (dC, dI)) (ci := 7) (v := .ref ag) (C := xR_MD) (T := xT_MD) (N := 27) hx hb hts (fun w h => List.mem_cons_of_mem _ (iw_MD w h)) hown hK hP 0 rfl rfl 24 (by decide) (hts _ (List.mem_cons_of_mem _ wm_721)) (fun _ h9 => h9) rfl d_MD_push_23 ?_
          refine lv_aload_n hx hb d_MD_push_26 rfl (lv_at hl 1 rfl) ?_
          refine va_get (D := (dC, dI)) (ci := 7) (v := .int (nI (sn + md_si a i))) (C := xR_MD) (T := xT_MD) (N := 27) hx hb hts (fun w h => List.mem_cons_of_mem _ (iw_MD w h)) hown hK hP 0 rfl rfl 23 (by decide) (hts _ (List.mem_cons_of_mem _ wm_720)) (fun _ h9 => h9) rfl d_MD_push_27 ?_
          refine lv_iload_n hx hb d_MD_push_30 rfl (lv_at hl 0 rfl) ?_
          refine xa_iast hx hb hK hP hD hS 1 0 rfl rfl (sn + md_si a i) rfl (by omega) (by decide) d_MD_push_31 (fun H locs hP hD hS => ?_)
          have hP : va_P (dC, dI) xCl [(h0, .inr (7, [.int th, .int (nI nm), .ref ap, .int (nI no), .ref am, .ref aw, .ref az, .ref au, .int kn, .long vP, .long vQ, .long vS, .long vT, .long vB, .long vM, .long vH, .ref ao, .ref ax, .int (nI np), .ref ay, .int (nI nl), .ref ad, .ref al, .int (nI (sn + md_si a i)), .ref ag, .int (nI ta), .int nb])), (ag, .inl (kg, 200, .inl (upd (md_pd a gg sn i) (sn + md_si a i) (((a.toUInt32 >>> ((nI (8 * i)).toUInt32 &&& Int32.toUInt32 31)).toInt32) &&& 255))))] H := hP
          have hD : va_D A [(h0, .inr (7, [.int th, .int (nI nm), .ref ap, .int (nI no), .ref am, .ref aw, .ref az, .ref au, .int kn, .long vP, .long vQ, .long vS, .long vT, .long vB, .long vM, .long vH, .ref ao, .ref ax, .int (nI np), .ref ay, .int (nI nl), .ref ad, .ref al, .int (nI (sn + md_si a i)), .ref ag, .int (nI ta), .int nb])), (ag, .inl (kg, 200, .inl (upd (md_pd a gg sn i) (sn + md_si a i) (((a.toUInt32 >>> ((nI (8 * i)).toUInt32 &&& Int32.toUInt32 31)).toInt32) &&& 255))))] := hD
          refine lv_aload_n hx hb d_MD_push_32 rfl (lv_at hl 1 rfl) ?_
          refine lv_dup hx hb d_MD_push_33 rfl ?_
          refine va_get (D := (dC, dI)) (ci := 7) (v := .int (nI (sn + md_si a i))) (C := xR_MD) (T := xT_MD) (N := 27) hx hb hts (fun w h => List.mem_cons_of_mem _ (iw_MD w h)) hown hK hP 0 rfl rfl 23 (by decide) (hts _ (List.mem_cons_of_mem _ wm_720)) (fun _ h9 => h9) rfl d_MD_push_34 ?_
          refine lv_iconst (v := 1) hx hb d_MD_push_37 (by decide) ?_
          refine lv_iadd hx hb d_MD_push_38 ?_
          refine xv_i (y := nI ((sn + md_si a i) + 1)) (nI_1 _) ?_
          refine va_put (D := (dC, dI)) (ci := 7) (v := .int (nI ((sn + md_si a i) + 1))) (ty := .int) (C := xR_MD) (T := xT_MD) (N := 27) hx hb hts (fun w h => List.mem_cons_of_mem _ (iw_MD w h)) xt_MD xt_MD_ok xn_MD_nm hown hK hP hD hS 0 rfl rfl 23 (by decide) (hts _ (List.mem_cons_of_mem _ wm_720)) (fun _ h9 => h9) rfl (by decide +kernel) rfl rfl (Nat.le_of_ble_eq_true rfl) d_MD_push_39 (fun H locs hP hD hS => ?_)
          have hP : va_P (dC, dI) xCl [(h0, .inr (7, [.int th, .int (nI nm), .ref ap, .int (nI no), .ref am, .ref aw, .ref az, .ref au, .int kn, .long vP, .long vQ, .long vS, .long vT, .long vB, .long vM, .long vH, .ref ao, .ref ax, .int (nI np), .ref ay, .int (nI nl), .ref ad, .ref al, .int (nI ((sn + md_si a i) + 1)), .ref ag, .int (nI ta), .int nb])), (ag, .inl (kg, 200, .inl (upd (md_pd a gg sn i) (sn + md_si a i) (((a.toUInt32 >>> ((nI (8 * i)).toUInt32 &&& Int32.toUInt32 31)).toInt32) &&& 255))))] H := hP
          have hD : va_D A [(h0, .inr (7, [.int th, .int (nI nm), .ref ap, .int (nI no), .ref am, .ref aw, .ref az, .ref au, .int kn, .long vP, .long vQ, .long vS, .long vT, .long vB, .long vM, .long vH, .ref ao, .ref ax, .int (nI np), .ref ay, .int (nI nl), .ref ad, .ref al, .int (nI ((sn + md_si a i) + 1)), .ref ag, .int (nI ta), .int nb])), (ag, .inl (kg, 200, .inl (upd (md_pd a gg sn i) (sn + md_si a i) (((a.toUInt32 >>> ((nI (8 * i)).toUInt32 &&& Int32.toUInt32 31)).toInt32) &&& 255))))] := hD
          refine lv_iinc (v := nI (i + 1)) (lv' := [(2, .int (nI (i + 1))), (3, .int (((a.toUInt32 >>> ((nI (8 * i)).toUInt32 &&& Int32.toUInt32 31)).toInt32) &&& 255)), (0, .ref h0), (1, .int a)]) hx hb d_MD_push_42 hl (k := 3) rfl (nI_1 _) (by decide) rfl (fun ls hl => ?_)
          refine lv_goto (tgt := 2) hx hb d_MD_push_45 (by decide) ?_
          exact ih  (i + 1) ((sn + md_si a i) + 1) (upd (md_pd a gg sn i) (sn + md_si a i) (((a.toUInt32 >>> ((nI (8 * i)).toUInt32 &&& Int32.toUInt32 31)).toInt32) &&& 255)) (by omega) (by omega) (by rw [md_si_t c_4]; omega) (md_pd_t c_4).symm _ _ (hP.sub [0, 1] rfl) (hD.sub [0, 1] (by decide) rfl) hS ls (lv_sub hl [2, 3, 0] rfl)
  exact lp2 (4 - 0 + 1) 0 sn gg (by omega) (by omega) rfl rfl _ _ (hP.sub [0, 1] rfl) (hD.sub [0, 1] (by decide) rfl) hS ls (lv_sub hl [1, 2, 0] rfl)
set_option maxHeartbeats 4000000 in
set_option maxRecDepth 100000 in
/-- unit -/
theorem c_MD_unit_y (l : Launch) (dC : Nat → ClassId) (dI : Nat → Nat → Nat) (sz : Nat) (h0 : Nat) (th : Int32) (nm : Nat) (ap : Nat) (no : Nat) (am : Nat) (aw : Nat) (az : Nat) (au : Nat) (kn : Int32) (vP : Int64) (vQ : Int64) (vS : Int64) (vT : Int64) (vB : Int64) (vM : Int64) (vH : Int64) (ao : Nat) (ax : Nat) (np : Nat) (ay : Nat) (nl : Nat) (ad : Nat) (al : Nat) (sn : Nat) (ag : Nat) (ta : Nat) (nb : Int32) (kg : ClassId) (gg : Nat → Int32) (a : Int32) (b : Int32) (hle : sn + md_si a 4 + md_si b 4 ≤ 200) (hg : md_gd a 4 = true ∧ md_gd b 4 = true) : Met l xy_MD_unit xw_MD_unit ({ frames := 2, cells := 0, slots := 0, locals := 45 }) (xp_w [.ref h0, .int a, .int b] sz (dC, dI) xCl [(h0, .inr (7, [.int th, .int (nI nm), .ref ap, .int (nI no), .ref am, .ref aw, .ref az, .ref au, .int kn, .long vP, .long vQ, .long vS, .long vT, .long vB, .long vM, .long vH, .ref ao, .ref ax, .int (nI np), .ref ay, .int (nI nl), .ref ad, .ref al, .int (nI sn), .ref ag, .int (nI ta), .int nb])), (ag, .inl (kg, 200, .inl gg))] [(kg, .int)]) (va_Qi (fun (r : Int32) (_ : Unit) => r = nI (sn + md_si a 4 + md_si b 4)) (fun _ t => xb_w (dC, dI) xCl [(h0, .inr (7, [.int 0, .int (nI nm), .ref ap, .int (nI no), .ref am, .ref aw, .ref az, .ref au, .int kn, .long vP, .long vQ, .long vS, .long vT, .long vB, .long vM, .long vH, .ref ao, .ref ax, .int (nI np), .ref ay, .int (nI nl), .ref ad, .ref al, .int (nI (sn + md_si a 4 + md_si b 4)), .ref ag, .int (nI ta), .int nb])), (ag, .inl (kg, 200, .inl (md_pd b (md_pd a gg sn 4) (sn + md_si a 4) 4)))] [(kg, .int)] (va_A [(h0, .inr (7, [.int th, .int (nI nm), .ref ap, .int (nI no), .ref am, .ref aw, .ref az, .ref au, .int kn, .long vP, .long vQ, .long vS, .long vT, .long vB, .long vM, .long vH, .ref ao, .ref ax, .int (nI np), .ref ay, .int (nI nl), .ref ad, .ref al, .int (nI sn), .ref ag, .int (nI ta), .int nb])), (ag, .inl (kg, 200, .inl gg))] sz) t) (va_A [(h0, .inr (7, [.int th, .int (nI nm), .ref ap, .int (nI no), .ref am, .ref aw, .ref az, .ref au, .int kn, .long vP, .long vQ, .long vS, .long vT, .long vB, .long vM, .long vH, .ref ao, .ref ax, .int (nI np), .ref ay, .int (nI nl), .ref ad, .ref al, .int (nI sn), .ref ag, .int (nI ta), .int nb])), (ag, .inl (kg, 200, .inl gg))] sz)) 0 0 (va_A [(h0, .inr (7, [.int th, .int (nI nm), .ref ap, .int (nI no), .ref am, .ref aw, .ref az, .ref au, .int kn, .long vP, .long vQ, .long vS, .long vT, .long vB, .long vM, .long vH, .ref ao, .ref ax, .int (nI np), .ref ay, .int (nI nl), .ref ad, .ref al, .int (nI sn), .ref ag, .int (nI ta), .int nb])), (ag, .inl (kg, 200, .inl gg))] sz) := by
  refine Met.ofW (cc := prog_9_method_33_code) (maxL := 3) (ret := (some .int)) (by decide) rfl ?_
  intro p e s m args below meth c s₁ B hml hv
  obtain ⟨rfl, hsz, hz, hP, hK, hD0⟩ := hv
  have hx := B.exec
  have hb := B.bytes
  have hr := B.returns
  have hts := atoms_spec (ws := xw_MD_unit) B.pre
  have hown : s.vm.findClass xR_MD = some m.cls := findClass_of_methodNamed B.named
  have hlocks := B.notSynchronized
  subst hsz
  have hD := hD0.self (sz := s.heap.size)
  generalize hAe : va_A [(h0, .inr (7, [.int th, .int (nI nm), .ref ap, .int (nI no), .ref am, .ref aw, .ref az, .ref au, .int kn, .long vP, .long vQ, .long vS, .long vT, .long vB, .long vM, .long vH, .ref ao, .ref ax, .int (nI np), .ref ay, .int (nI nl), .ref ad, .ref al, .int (nI sn), .ref ag, .int (nI ta), .int nb])), (ag, .inl (kg, 200, .inl gg))] s.heap.size = A at hD ⊢
  have hA : ∀ q : Nat, s.heap.size ≤ q → A q := fun q h => by rw [← hAe]; exact Or.inr h
  have hS : va_S A s.heap s.heap [] := va_S.rf
  have hP : va_P (dC, dI) xCl [(h0, .inr (7, [.int th, .int (nI nm), .ref ap, .int (nI no), .ref am, .ref aw, .ref az, .ref au, .int kn, .long vP, .long vQ, .long vS, .long vT, .long vB, .long vM, .long vH, .ref ao, .ref ax, .int (nI np), .ref ay, .int (nI nl), .ref ad, .ref al, .int (nI sn), .ref ag, .int (nI ta), .int nb])), (ag, .inl (kg, 200, .inl gg))] s.heap := hP
  have hl := lv_entry ([.ref h0, .int a, .int b]) (n := 3) (Nat.le_of_ble_eq_true rfl)
  rw [lg_entry_eq]
  generalize (lg_sl ([.ref h0, .int a, .int b]) ++ List.replicate (3 - (lg_sl ([.ref h0, .int a, .int b])).length) Slot.unset).toArray = ls at hl ⊢
  have hl : lv_has ls 3 [(0, .ref h0), (1, .int a), (2, .int b)] := hl
  have hsa := md_si_le a 4
  have hsb := md_si_le b 4
  refine lv_aload_n hx hb d_MD_unit_0 rfl (lv_at hl 0 rfl) ?_
  refine lv_aload_n hx hb d_MD_unit_1 rfl (lv_at hl 0 rfl) ?_
  refine va_get (D := (dC, dI)) (ci := 7) (v := .int (nI sn)) (C := xR_MD) (T := xT_MD) (N := 27) hx hb hts (fun w h => List.mem_cons_of_mem _ (iw_MD w h)) hown hK hP 0 rfl rfl 23 (by decide) (hts _ (List.mem_cons_of_mem _ wm_720)) (fun _ h9 => h9) rfl d_MD_unit_2 ?_
  refine lv_iload_n hx hb d_MD_unit_5 rfl (lv_at hl 1 rfl) ?_
  refine xr_calli (va_runS (As := [.int a]) (rest := [.int (nI sn), .ref h0]) ⟨hx, hb, hml, hown, hts⟩ (c_MD_signsOf l dC dI a) (va_cwS 1 hts (xgS wm_894 wm_895 wm_34 wm_896) rfl rfl rfl (by decide +kernel) ⟨Nat.le_of_ble_eq_true rfl, Nat.le_of_ble_eq_true rfl⟩) ⟨xp_blind, fun U hU hW => ⟨rfl, hz.warm hW, by rw [hU]; exact hP.sub [] rfl, va_K.moved hW.alike (hK.sub [] rfl)⟩⟩ rfl rfl hl.1 rfl (lv_room (Nat.le_of_ble_eq_true rfl)) d_MD_unit_6 ⟨Nat.le_of_ble_eq_true rfl, Nat.le_of_ble_eq_true rfl⟩) (fun r_1 h_2 => ?_)
  subst h_2
  refine lv_iadd hx hb d_MD_unit_9 ?_
  refine xv_i (y := nI (sn + (md_si a 4))) (nI_add _ _) ?_
  refine lv_iload_n hx hb d_MD_unit_10 rfl (lv_at hl 2 rfl) ?_
  refine xr_calli (va_runS (As := [.int b]) (rest := [.int (nI (sn + (md_si a 4))), .ref h0]) ⟨hx, hb, hml, hown, hts⟩ (c_MD_signsOf l dC dI b) (va_cwS 1 hts (xgS wm_894 wm_895 wm_34 wm_896) rfl rfl rfl (by decide +kernel) ⟨Nat.le_of_ble_eq_true rfl, Nat.le_of_ble_eq_true rfl⟩) ⟨xp_blind, fun U hU hW => ⟨rfl, hz.warm hW, by rw [hU]; exact hP.sub [] rfl, va_K.moved hW.alike (hK.sub [] rfl)⟩⟩ rfl rfl hl.1 rfl (lv_room (Nat.le_of_ble_eq_true rfl)) d_MD_unit_11 ⟨Nat.le_of_ble_eq_true rfl, Nat.le_of_ble_eq_true rfl⟩) (fun r_3 h_4 => ?_)
  subst h_4
  refine lv_iadd hx hb d_MD_unit_14 ?_
  refine xv_i (y := nI ((sn + (md_si a 4)) + (md_si b 4))) (nI_add _ _) ?_
  refine lv_sipush (v := 200) hx hb d_MD_unit_15 (by decide) ?_
  refine lv_icmp_gt (tgt := 25) hx hb d_MD_unit_18 (by decide) (fun c_5 => ?_) (fun c_5 => ?_)
  · exact absurd (xn_lt (a := 200) (b := sn + md_si a 4 + md_si b 4) c_5 (by decide) rfl (by omega) (by omega)) (by omega)
  · have n_6 := xn_nlt (a := 200) (b := ((sn + (md_si a 4)) + (md_si b 4))) c_5 (by decide) rfl (by omega) (by omega)
    refine lv_iconst (v := 1) hx hb d_MD_unit_21 (by decide) ?_
    refine lv_goto (tgt := 26) hx hb d_MD_unit_22 (by decide) ?_
    refine lv_iload_n hx hb d_MD_unit_26 rfl (lv_at hl 1 rfl) ?_
    refine xr_calli (va_runS (As := [.int a]) (rest := [.int 1, .ref h0]) ⟨hx, hb, hml, hown, hts⟩ (c_MD_isPlain l dC dI a) (va_cwS 1 hts (xgS wm_897 wm_898 wm_34 wm_899) rfl rfl rfl (by decide +kernel) ⟨Nat.le_of_ble_eq_true rfl, Nat.le_of_ble_eq_true rfl⟩) ⟨xp_blind, fun U hU hW => ⟨rfl, hz.warm hW, by rw [hU]; exact hP.sub [] rfl, va_K.moved hW.alike (hK.sub [] rfl)⟩⟩ rfl rfl hl.1 rfl (lv_room (Nat.le_of_ble_eq_true rfl)) d_MD_unit_27 ⟨Nat.le_of_ble_eq_true rfl, Nat.le_of_ble_eq_true rfl⟩) (fun r_7 h_8 => ?_)
    subst h_8
    refine lv_if_eq (tgt := 44) hx hb d_MD_unit_30 (by decide) (fun c_9 => ?_) (fun c_9 => ?_)
    · exact absurd hg.1 (bI_f rfl c_9)
    · have b_10 := bI_t (rfl : bI (md_gd a 4 = true) = _) c_9
      refine lv_iload_n hx hb d_MD_unit_33 rfl (lv_at hl 2 rfl) ?_
      refine xr_calli (va_runS (As := [.int b]) (rest := [.int 1, .ref h0]) ⟨hx, hb, hml, hown, hts⟩ (c_MD_isPlain l dC dI b) (va_cwS 1 hts (xgS wm_897 wm_898 wm_34 wm_899) rfl rfl rfl (by decide +kernel) ⟨Nat.le_of_ble_eq_true rfl, Nat.le_of_ble_eq_true rfl⟩) ⟨xp_blind, fun U hU hW => ⟨rfl, hz.warm hW, by rw [hU]; exact hP.sub [] rfl, va_K.moved hW.alike (hK.sub [] rfl)⟩⟩ rfl rfl hl.1 rfl (lv_room (Nat.le_of_ble_eq_true rfl)) d_MD_unit_34 ⟨Nat.le_of_ble_eq_true rfl, Nat.le_of_ble_eq_true rfl⟩) (fun r_11 h_12 => ?_)
      subst h_12
      refine lv_if_eq (tgt := 44) hx hb d_MD_unit_37 (by decide) (fun c_13 => ?_) (fun c_13 => ?_)
      · exact absurd hg.2 (bI_f rfl c_13)
      · have b_14 := bI_t (rfl : bI (md_gd b 4 = true) = _) c_13
        refine lv_iconst (v := 1) hx hb d_MD_unit_40 (by decide) ?_
        refine lv_goto (tgt := 45) hx hb d_MD_unit_41 (by decide) ?_
        refine lv_iconst (v := 1) hx hb d_MD_unit_45 (by decide) ?_
        have hPc := hP.sub (ws' := [(h0, .inr (7, [.int th, .int (nI nm), .ref ap, .int (nI no), .ref am, .ref aw, .ref az, .ref au, .int kn, .long vP, .long vQ, .long vS, .long vT, .long vB, .long vM, .long vH, .ref ao, .ref ax, .int (nI np), .ref ay, .int (nI nl), .ref ad, .ref al, .int (nI sn), .ref ag, .int (nI ta), .int nb]))]) [0] rfl
        have hDc := hD.sub (ws' := [(h0, .inr (7, [.int th, .int (nI nm), .ref ap, .int (nI no), .ref am, .ref aw, .ref az, .ref au, .int kn, .long vP, .long vQ, .long vS, .long vT, .long vB, .long vM, .long vH, .ref ao, .ref ax, .int (nI np), .ref ay, .int (nI nl), .ref ad, .ref al, .int (nI sn), .ref ag, .int (nI ta), .int nb]))]) [0] (by decide) rfl
        have hKc := hK.sub (tys' := []) [] rfl
        have hFc := va_free (wc := [(h0, .inr (7, [.int th, .int (nI nm), .ref ap, .int (nI no), .ref am, .ref aw, .ref az, .ref au, .int kn, .long vP, .long vQ, .long vS, .long vT, .long vB, .long vM, .long vH, .ref ao, .ref ax, .int (nI np), .ref ay, .int (nI nl), .ref ad, .ref al, .int (nI sn), .ref ag, .int (nI ta), .int nb]))]) hD hS hA [0] rfl
        refine va_calli (va_runV (As := [.int 1, .int 1, .int 1]) (rest := []) ⟨hx, hb, hml, hown, hts⟩ (c_MD_goes l dC dI s.heap.size h0 th nm ap no am aw az au kn vP vQ vS vT vB vM vH ao ax np ay nl ad al sn ag ta nb 1 1 1) (cwV 3 hts (xgV wm_793 wm_795 wm_13 wm_34 wm_796) rfl rfl rfl (by decide +kernel) ⟨Nat.le_of_ble_eq_true rfl, Nat.le_of_ble_eq_true rfl⟩) ⟨xw_blind, va_recv hKc hPc (ci := 7) (q0 := 0) rfl rfl, fun U hU hW => ⟨rfl, by rw [hU], hz.warm hW, by rw [hU]; exact hPc, va_K.moved hW.alike hKc, hDc.weaken (fun _ _ _ _ => trivial)⟩⟩ rfl rfl hl.1 rfl (lv_room (Nat.le_of_ble_eq_true rfl)) d_MD_unit_46 ⟨Nat.le_of_ble_eq_true rfl, Nat.le_of_ble_eq_true rfl⟩) hS (fun q _ h => hFc q h) hFc (fun r_15 _ t H1 locs ht hvm hw_16 hB hz1 hk1 hS => ?_)
        obtain ⟨hP1, hK1, hD1⟩ := hB
        rw [ht] at hP1
        have hK1 := va_K.moved hvm.symm hK1
        obtain ⟨hP, hD⟩ := va_join (wr := [(ag, .inl (kg, 200, .inl gg))]) (w1 := [(h0, .inr (7, [.int (md_th 1 1 1), .int (nI nm), .ref ap, .int (nI no), .ref am, .ref aw, .ref az, .ref au, .int kn, .long vP, .long vQ, .long vS, .long vT, .long vB, .long vM, .long vH, .ref ao, .ref ax, .int (nI np), .ref ay, .int (nI nl), .ref ad, .ref al, .int (nI sn), .ref ag, .int (nI ta), .int nb]))]) hP hD [0] [1] rfl rfl (by decide) (by decide) hk1 hFc hP1 hD1
        generalize H1 = H at hP hS ⊢
        have hP : va_P (dC, dI) xCl [(ag, .inl (kg, 200, .inl gg)), (h0, .inr (7, [.int (md_th 1 1 1), .int (nI nm), .ref ap, .int (nI no), .ref am, .ref aw, .ref az, .ref au, .int kn, .long vP, .long vQ, .long vS, .long vT, .long vB, .long vM, .long vH, .ref ao, .ref ax, .int (nI np), .ref ay, .int (nI nl), .ref ad, .ref al, .int (nI sn), .ref ag, .int (nI ta), .int nb]))] H := hP
        have hD : va_D A [(ag, .inl (kg, 200, .inl gg)), (h0, .inr (7, [.int (md_th 1 1 1), .int (nI nm), .ref ap, .int (nI no), .ref am, .ref aw, .ref az, .ref au, .int kn, .long vP, .long vQ, .long vS, .long vT, .long vB, .long vM, .long vH, .ref ao, .ref ax, .int (nI np), .ref ay, .int (nI nl), .ref ad, .ref al, .int (nI sn), .ref ag, .int (nI ta), .int nb]))] := hD
        subst hw_16
        refine lv_if_ne (tgt := 54) hx hb d_MD_unit_49 (by decide) (fun c_17 => ?_) (fun c_17 => ?_)
        · have b_18 := bI_t (rfl : bI (md_th 1 1 1 = 0) = _) c_17
          refine lv_aload_n hx hb d_MD_unit_54 rfl (lv_at hl 0 rfl) ?_
          refine lv_iload_n hx hb d_MD_unit_55 rfl (lv_at hl 1 rfl) ?_
          have hPc := hP.sub (ws' := [(h0, .inr (7, [.int (md_th 1 1 1), .int (nI nm), .ref ap, .int (nI no), .ref am, .ref aw, .ref az, .ref au, .int kn, .long vP, .long vQ, .long vS, .long vT, .long vB, .long vM, .long vH, .ref ao, .ref ax, .int (nI np), .ref ay, .int (nI nl), .ref ad, .ref al, .int (nI sn), .ref ag, .int (nI ta), .int nb])), (ag, .inl (kg, 200, .inl gg))]) [1, 0] rfl
          have hDc := hD.sub (ws' := [(h0, .inr (7, [.int (md_th 1 1 1), .int (nI nm), .ref ap, .int (nI no), .ref am, .ref aw, .ref az, .ref au, .int kn, .long vP, .long vQ, .long vS, .long vT, .long vB, .long vM, .long vH, .ref ao, .ref ax, .int (nI np), .ref ay, .int (nI nl), .ref ad, .ref al, .int (nI sn), .ref ag, .int (nI ta), .int nb])), (ag, .inl (kg, 200, .inl gg))]) [1, 0] (by decide) rfl
          have hKc := hK.sub (tys' := [(kg, .int)]) [0] rfl
          have hFc := va_free (wc := [(h0, .inr (7, [.int (md_th 1 1 1), .int (nI nm), .ref ap, .int (nI no), .ref am, .ref aw, .ref az, .ref au, .int kn, .long vP, .long vQ, .long vS, .long vT, .long vB, .long vM, .long vH, .ref ao, .ref ax, .int (nI np), .ref ay, .int (nI nl), .ref ad, .ref al, .int (nI sn), .ref ag, .int (nI ta), .int nb])), (ag, .inl (kg, 200, .inl gg))]) hD hS hA [1, 0] rfl
          refine va_callv (va_runV (As := [.int a]) (rest := []) ⟨hx, hb, hml, hown, hts⟩ (c_MD_push l dC dI H.size h0 (md_th 1 1 1) nm ap no am aw az au kn vP vQ vS vT vB vM vH ao ax np ay nl ad al sn ag ta nb kg gg a (by first | assumption | omega | decide)) (cwV 1 hts (xgV wm_900 wm_902 wm_22 wm_34 wm_903) rfl rfl rfl (by decide +kernel) ⟨Nat.le_of_ble_eq_true rfl, Nat.le_of_ble_eq_true rfl⟩) ⟨xw_blind, va_recv hKc hPc (ci := 7) (q0 := 0) rfl rfl, fun U hU hW => ⟨rfl, by rw [hU], hz.warm hW, by rw [hU]; exact hPc, va_K.moved hW.alike hKc, hDc.weaken (fun _ _ _ _ => trivial)⟩⟩ rfl rfl hl.1 rfl (lv_room (Nat.le_of_ble_eq_true rfl)) d_MD_unit_56 ⟨Nat.le_of_ble_eq_true rfl, Nat.le_of_ble_eq_true rfl⟩) hS (fun q _ h => hFc q h) hFc (fun _ t H1 locs ht hvm hw_20 hB hz1 hk1 hS => ?_)
          obtain ⟨hP1, hK1, hD1⟩ := hB
          rw [ht] at hP1
          have hK1 := va_K.moved hvm.symm hK1
          obtain ⟨hP, hD⟩ := va_join (wr := []) (w1 := [(h0, .inr (7, [.int (md_th 1 1 1), .int (nI nm), .ref ap, .int (nI no), .ref am, .ref aw, .ref az, .ref au, .int kn, .long vP, .long vQ, .long vS, .long vT, .long vB, .long vM, .long vH, .ref ao, .ref ax, .int (nI np), .ref ay, .int (nI nl), .ref ad, .ref al, .int (nI (sn + md_si a 4)), .ref ag, .int (nI ta), .int nb])), (ag, .inl (kg, 200, .inl (md_pd a gg sn 4)))]) hP hD [1, 0] [] rfl rfl (by decide) (by decide) hk1 hFc hP1 hD1
          generalize H1 = H at hP hS ⊢
          have hP : va_P (dC, dI) xCl [(h0, .inr (7, [.int (md_th 1 1 1), .int (nI nm), .ref ap, .int (nI no), .ref am, .ref aw, .ref az, .ref au, .int kn, .long vP, .long vQ, .long vS, .long vT, .long vB, .long vM, .long vH, .ref ao, .ref ax, .int (nI np), .ref ay, .int (nI nl), .ref ad, .ref al, .int (nI (sn + md_si a 4)), .ref ag, .int (nI ta), .int nb])), (ag, .inl (kg, 200, .inl (md_pd a gg sn 4)))] H := hP
          have hD : va_D A [(h0, .inr (7, [.int (md_th 1 1 1), .int (nI nm), .ref ap, .int (nI no), .ref am, .ref aw, .ref az, .ref au, .int kn, .long vP, .long vQ, .long vS, .long vT, .long vB, .long vM, .long vH, .ref ao, .ref ax, .int (nI np), .ref ay, .int (nI nl), .ref ad, .ref al, .int (nI (sn + md_si a 4)), .ref ag, .int (nI ta), .int nb])), (ag, .inl (kg, 200, .inl (md_pd a gg sn 4)))] := hD
          refine lv_aload_n hx hb d_MD_unit_59 rfl (lv_at hl 0 rfl) ?_
          refine lv_iload_n hx hb d_MD_unit_60 rfl (lv_at hl 2 rfl) ?_
          have hPc := hP.sub (ws' := [(h0, .inr (7, [.int (md_th 1 1 1), .int (nI nm), .ref ap, .int (nI no), .ref am, .ref aw, .ref az, .ref au, .int kn, .long vP, .long vQ, .long vS, .long vT, .long vB, .long vM, .long vH, .ref ao, .ref ax, .int (nI np), .ref ay, .int (nI nl), .ref ad, .ref al, .int (nI (sn + md_si a 4)), .ref ag, .int (nI ta), .int nb])), (ag, .inl (kg, 200, .inl (md_pd a gg sn 4)))]) [0, 1] rfl
          have hDc := hD.sub (ws' := [(h0, .inr (7, [.int (md_th 1 1 1), .int (nI nm), .ref ap, .int (nI no), .ref am, .ref aw, .ref az, .ref au, .int kn, .long vP, .long vQ, .long vS, .long vT, .long vB, .long vM, .long vH, .ref ao, .ref ax, .int (nI np), .ref ay, .int (nI nl), .ref ad, .ref al, .int (nI (sn + md_si a 4)), .ref ag, .int (nI ta), .int nb])), (ag, .inl (kg, 200, .inl (md_pd a gg sn 4)))]) [0, 1] (by decide) rfl
          have hKc := hK.sub (tys' := [(kg, .int)]) [0] rfl
          have hFc := va_free (wc := [(h0, .inr (7, [.int (md_th 1 1 1), .int (nI nm), .ref ap, .int (nI no), .ref am, .ref aw, .ref az, .ref au, .int kn, .long vP, .long vQ, .long vS, .long vT, .long vB, .long vM, .long vH, .ref ao, .ref ax, .int (nI np), .ref ay, .int (nI nl), .ref ad, .ref al, .int (nI (sn + md_si a 4)), .ref ag, .int (nI ta), .int nb])), (ag, .inl (kg, 200, .inl (md_pd a gg sn 4)))]) hD hS hA [0, 1] rfl
          refine va_callv (va_runV (As := [.int b]) (rest := []) ⟨hx, hb, hml, hown, hts⟩ (c_MD_push l dC dI H.size h0 (md_th 1 1 1) nm ap no am aw az au kn vP vQ vS vT vB vM vH ao ax np ay nl ad al (sn + md_si a 4) ag ta nb kg (md_pd a gg sn 4) b (by first | assumption | omega | decide)) (cwV 1 hts (xgV wm_900 wm_902 wm_22 wm_34 wm_903) rfl rfl rfl (by decide +kernel) ⟨Nat.le_of_ble_eq_true rfl, Nat.le_of_ble_eq_true rfl⟩) ⟨xw_blind, va_recv hKc hPc (ci := 7) (q0 := 0) rfl rfl, fun U hU hW => ⟨rfl, by rw [hU], hz.warm hW, by rw [hU]; exact hPc, va_K.moved hW.alike hKc, hDc.weaken (fun _ _ _ _ => trivial)⟩⟩ rfl rfl hl.1 rfl (lv_room (Nat.le_of_ble_eq_true rfl)) d_MD_unit_61 ⟨Nat.le_of_ble_eq_true rfl, Nat.le_of_ble_eq_true rfl⟩) hS (fun q _ h => hFc q h) hFc (fun _ t H1 locs ht hvm hw_22 hB hz1 hk1 hS => ?_)
          obtain ⟨hP1, hK1, hD1⟩ := hB
          rw [ht] at hP1
          have hK1 := va_K.moved hvm.symm hK1
          obtain ⟨hP, hD⟩ := va_join (wr := []) (w1 := [(h0, .inr (7, [.int (md_th 1 1 1), .int (nI nm), .ref ap, .int (nI no), .ref am, .ref aw, .ref az, .ref au, .int kn, .long vP, .long vQ, .long vS, .long vT, .long vB, .long vM, .long vH, .ref ao, .ref ax, .int (nI np), .ref ay, .int (nI nl), .ref ad, .ref al, .int (nI ((sn + md_si a 4) + md_si b 4)), .ref ag, .int (nI ta), .int nb])), (ag, .inl (kg, 200, .inl (md_pd b (md_pd a gg sn 4) (sn + md_si a 4) 4)))]) hP hD [0, 1] [] rfl rfl (by decide) (by decide) hk1 hFc hP1 hD1
          generalize H1 = H at hP hS ⊢
          have hP : va_P (dC, dI) xCl [(h0, .inr (7, [.int (md_th 1 1 1), .int (nI nm), .ref ap, .int (nI no), .ref am, .ref aw, .ref az, .ref au, .int kn, .long vP, .long vQ, .long vS, .long vT, .long vB, .long vM, .long vH, .ref ao, .ref ax, .int (nI np), .ref ay, .int (nI nl), .ref ad, .ref al, .int (nI ((sn + md_si a 4) + md_si b 4)), .ref ag, .int (nI ta), .int nb])), (ag, .inl (kg, 200, .inl (md_pd b (md_pd a gg sn 4) (sn + md_si a 4) 4)))] H := hP
          have hD : va_D A [(h0, .inr (7, [.int (md_th 1 1 1), .int (nI nm), .ref ap, .int (nI no), .ref am, .ref aw, .ref az, .ref au, .int kn, .long vP, .long vQ, .long vS, .long vT, .long vB, .long vM, .long vH, .ref ao, .ref ax, .int (nI np), .ref ay, .int (nI nl), .ref ad, .ref al, .int (nI ((sn + md_si a 4) + md_si b 4)), .ref ag, .int (nI ta), .int nb])), (ag, .inl (kg, 200, .inl (md_pd b (md_pd a gg sn 4) (sn + md_si a 4) 4)))] := hD
          refine lv_aload_n hx hb d_MD_unit_64 rfl (lv_at hl 0 rfl) ?_
          refine va_get (D := (dC, dI)) (ci := 7) (v := .int (nI ((sn + md_si a 4) + md_si b 4))) (C := xR_MD) (T := xT_MD) (N := 27) hx hb hts (fun w h => List.mem_cons_of_mem _ (iw_MD w h)) hown hK hP 0 rfl rfl 23 (by decide) (hts _ (List.mem_cons_of_mem _ wm_720)) (fun _ h9 => h9) rfl d_MD_unit_65 ?_
          rw [md_th_0 (by decide) (by decide) (by decide)] at hP hD
          have hP9 := hP.sub (ws' := [(h0, .inr (7, [.int 0, .int (nI nm), .ref ap, .int (nI no), .ref am, .ref aw, .ref az, .ref au, .int kn, .long vP, .long vQ, .long vS, .long vT, .long vB, .long vM, .long vH, .ref ao, .ref ax, .int (nI np), .ref ay, .int (nI nl), .ref ad, .ref al, .int (nI ((sn + md_si a 4) + md_si b 4)), .ref ag, .int (nI ta), .int nb])), (ag, .inl (kg, 200, .inl (md_pd b (md_pd a gg sn 4) (sn + md_si a 4) 4)))]) [0, 1] rfl
          have hD9 := hD.sub (ws' := [(h0, .inr (7, [.int 0, .int (nI nm), .ref ap, .int (nI no), .ref am, .ref aw, .ref az, .ref au, .int kn, .long vP, .long vQ, .long vS, .long vT, .long vB, .long vM, .long vH, .ref ao, .ref ax, .int (nI np), .ref ay, .int (nI nl), .ref ad, .ref al, .int (nI ((sn + md_si a 4) + md_si b 4)), .ref ag, .int (nI ta), .int nb])), (ag, .inl (kg, 200, .inl (md_pd b (md_pd a gg sn 4) (sn + md_si a 4) 4)))]) [0, 1] (by decide) rfl
          have hK9 := hK.sub (tys' := [(kg, .int)]) [0] rfl
          exact W.iret (v := nI ((sn + md_si a 4) + md_si b 4)) hx hb hr (fun t ht hW => ⟨⟨nI ((sn + md_si a 4) + md_si b 4), (), rfl, rfl, ⟨by rw [ht]; exact hP9, va_K.moved hW.alike hK9, by exact hD9⟩⟩, hS.F ht⟩) hS.2.2 d_MD_unit_68 hlocks
        · exact absurd (md_th_0 (by decide) (by decide) (by decide)) (bI_f rfl c_17)
set_option maxHeartbeats 4000000 in
set_option maxRecDepth 100000 in
/-- unit, refused -/
theorem c_MD_unit_n (l : Launch) (dC : Nat → ClassId) (dI : Nat → Nat → Nat) (sz : Nat) (h0 : Nat) (th : Int32) (nm : Nat) (ap : Nat) (no : Nat) (am : Nat) (aw : Nat) (az : Nat) (au : Nat) (kn : Int32) (vP : Int64) (vQ : Int64) (vS : Int64) (vT : Int64) (vB : Int64) (vM : Int64) (vH : Int64) (ao : Nat) (ax : Nat) (np : Nat) (ay : Nat) (nl : Nat) (ad : Nat) (al : Nat) (sn : Nat) (ag : Nat) (ta : Nat) (nb : Int32) (a : Int32) (b : Int32) (hc : sn ≤ 200) (hn : ¬ (sn + md_si a 4 + md_si b 4 ≤ 200 ∧ (md_gd a 4 = true ∧ md_gd b 4 = true))) : Met l xy_MD_unit xw_MD_unit ({ frames := 2, cells := 0, slots := 0, locals := 45 }) (xp_w [.ref h0, .int a, .int b] sz (dC, dI) xCl [(h0, .inr (7, [.int th, .int (nI nm), .ref ap, .int (nI no), .ref am, .ref aw, .ref az, .ref au, .int kn, .long vP, .long vQ, .long vS, .long vT, .long vB, .long vM, .long vH, .ref ao, .ref ax, .int (nI np), .ref ay, .int (nI nl), .ref ad, .ref al, .int (nI sn), .ref ag, .int (nI ta), .int nb]))] []) (va_Qi (fun (r : Int32) (_ : Unit) => r = 0) (fun _ t => xb_w (dC, dI) xCl [(h0, .inr (7, [.int (md_th (bI (sn + md_si a 4 + md_si b 4 ≤ 200)) (bI (md_gd a 4 = true ∧ md_gd b 4 = true)) 1), .int (nI nm), .ref ap, .int (nI no), .ref am, .ref aw, .ref az, .ref au, .int kn, .long vP, .long vQ, .long vS, .long vT, .long vB, .long vM, .long vH, .ref ao, .ref ax, .int (nI np), .ref ay, .int (nI nl), .ref ad, .ref al, .int (nI sn), .ref ag, .int (nI ta), .int nb]))] [] (va_A [(h0, .inr (7, [.int th, .int (nI nm), .ref ap, .int (nI no), .ref am, .ref aw, .ref az, .ref au, .int kn, .long vP, .long vQ, .long vS, .long vT, .long vB, .long vM, .long vH, .ref ao, .ref ax, .int (nI np), .ref ay, .int (nI nl), .ref ad, .ref al, .int (nI sn), .ref ag, .int (nI ta), .int nb]))] sz) t) (va_A [(h0, .inr (7, [.int th, .int (nI nm), .ref ap, .int (nI no), .ref am, .ref aw, .ref az, .ref au, .int kn, .long vP, .long vQ, .long vS, .long vT, .long vB, .long vM, .long vH, .ref ao, .ref ax, .int (nI np), .ref ay, .int (nI nl), .ref ad, .ref al, .int (nI sn), .ref ag, .int (nI ta), .int nb]))] sz)) 0 0 (va_A [(h0, .inr (7, [.int th, .int (nI nm), .ref ap, .int (nI no), .ref am, .ref aw, .ref az, .ref au, .int kn, .long vP, .long vQ, .long vS, .long vT, .long vB, .long vM, .long vH, .ref ao, .ref ax, .int (nI np), .ref ay, .int (nI nl), .ref ad, .ref al, .int (nI sn), .ref ag, .int (nI ta), .int nb]))] sz) := by
  refine Met.ofW (cc := prog_9_method_33_code) (maxL := 3) (ret := (some .int)) (by decide) rfl ?_
  intro p e s m args below meth c s₁ B hml hv
  obtain ⟨rfl, hsz, hz, hP, hK, hD0⟩ := hv
  have hx := B.exec
  have hb := B.bytes
  have hr := B.returns
  have hts := atoms_spec (ws := xw_MD_unit) B.pre
  have hown : s.vm.findClass xR_MD = some m.cls := findClass_of_methodNamed B.named
  have hlocks := B.notSynchronized
  subst hsz
  have hD := hD0.self (sz := s.heap.size)
  generalize hAe : va_A [(h0, .inr (7, [.int th, .int (nI nm), .ref ap, .int (nI no), .ref am, .ref aw, .ref az, .ref au, .int kn, .long vP, .long vQ, .long vS, .long vT, .long vB, .long vM, .long vH, .ref ao, .ref ax, .int (nI np), .ref ay, .int (nI nl), .ref ad, .ref al, .int (nI sn), .ref ag, .int (nI ta), .int nb]))] s.heap.size = A at hD ⊢
  have hA : ∀ q : Nat, s.heap.size ≤ q → A q := fun q h => by rw [← hAe]; exact Or.inr h
  have hS : va_S A s.heap s.heap [] := va_S.rf
  have hP : va_P (dC, dI) xCl [(h0, .inr (7, [.int th, .int (nI nm), .ref ap, .int (nI no), .ref am, .ref aw, .ref az, .ref au, .int kn, .long vP, .long vQ, .long vS, .long vT, .long vB, .long vM, .long vH, .ref ao, .ref ax, .int (nI np), .ref ay, .int (nI nl), .ref ad, .ref al, .int (nI sn), .ref ag, .int (nI ta), .int nb]))] s.heap := hP
  have hl := lv_entry ([.ref h0, .int a, .int b]) (n := 3) (Nat.le_of_ble_eq_true rfl)
  rw [lg_entry_eq]
  generalize (lg_sl ([.ref h0, .int a, .int b]) ++ List.replicate (3 - (lg_sl ([.ref h0, .int a, .int b])).length) Slot.unset).toArray = ls at hl ⊢
  have hl : lv_has ls 3 [(0, .ref h0), (1, .int a), (2, .int b)] := hl
  have hsa := md_si_le a 4
  have hsb := md_si_le b 4
  refine lv_aload_n hx hb d_MD_unit_0 rfl (lv_at hl 0 rfl) ?_
  refine lv_aload_n hx hb d_MD_unit_1 rfl (lv_at hl 0 rfl) ?_
  refine va_get (D := (dC, dI)) (ci := 7) (v := .int (nI sn)) (C := xR_MD) (T := xT_MD) (N := 27) hx hb hts (fun w h => List.mem_cons_of_mem _ (iw_MD w h)) hown hK hP 0 rfl rfl 23 (by decide) (hts _ (List.mem_cons_of_mem _ wm_720)) (fun _ h9 => h9) rfl d_MD_unit_2 ?_
  refine lv_iload_n hx hb d_MD_unit_5 rfl (lv_at hl 1 rfl) ?_
  refine xr_calli (va_runS (As := [.int a]) (rest := [.int (nI sn), .ref h0]) ⟨hx, hb, hml, hown, hts⟩ (c_MD_signsOf l dC dI a) (va_cwS 1 hts (xgS wm_894 wm_895 wm_34 wm_896) rfl rfl rfl (by decide +kernel) ⟨Nat.le_of_ble_eq_true rfl, Nat.le_of_ble_eq_true rfl⟩) ⟨xp_blind, fun U hU hW => ⟨rfl, hz.warm hW, by rw [hU]; exact hP.sub [] rfl, va_K.moved hW.alike (hK.sub [] rfl)⟩⟩ rfl rfl hl.1 rfl (lv_room (Nat.le_of_ble_eq_true rfl)) d_MD_unit_6 ⟨Nat.le_of_ble_eq_true rfl, Nat.le_of_ble_eq_true rfl⟩) (fun r_1 h_2 => ?_)
  subst h_2
  refine lv_iadd hx hb d_MD_unit_9 ?_
  refine xv_i (y := nI (sn + (md_si a 4))) (nI_add _ _) ?_
  refine lv_iload_n hx hb d_MD_unit_10 rfl (lv_at hl 2 rfl) ?_
  refine xr_calli (va_runS (As := [.int b]) (rest := [.int (nI (sn + (md_si a 4))), .ref h0]) ⟨hx, hb, hml, hown, hts⟩ (c_MD_signsOf l dC dI b) (va_cwS 1 hts (xgS wm_894 wm_895 wm_34 wm_896) rfl rfl rfl (by decide +kernel) ⟨Nat.le_of_ble_eq_true rfl, Nat.le_of_ble_eq_true rfl⟩) ⟨xp_blind, fun U hU hW => ⟨rfl, hz.warm hW, by rw [hU]; exact hP.sub [] rfl, va_K.moved hW.alike (hK.sub [] rfl)⟩⟩ rfl rfl hl.1 rfl (lv_room (Nat.le_of_ble_eq_true rfl)) d_MD_unit_11 ⟨Nat.le_of_ble_eq_true rfl, Nat.le_of_ble_eq_true rfl⟩) (fun r_3 h_4 => ?_)
  subst h_4
  refine lv_iadd hx hb d_MD_unit_14 ?_
  refine xv_i (y := nI ((sn + (md_si a 4)) + (md_si b 4))) (nI_add _ _) ?_
  refine lv_sipush (v := 200) hx hb d_MD_unit_15 (by decide) ?_
  refine lv_icmp_gt (tgt := 25) hx hb d_MD_unit_18 (by decide) (fun c_5 => ?_) (fun c_5 => ?_)
  · have n_6 := xn_lt (a := 200) (b := ((sn + (md_si a 4)) + (md_si b 4))) c_5 (by decide) rfl (by omega) (by omega)
    refine lv_iconst (v := 0) hx hb d_MD_unit_25 (by decide) ?_
    refine lv_iload_n hx hb d_MD_unit_26 rfl (lv_at hl 1 rfl) ?_
    refine xr_calli (va_runS (As := [.int a]) (rest := [.int 0, .ref h0]) ⟨hx, hb, hml, hown, hts⟩ (c_MD_isPlain l dC dI a) (va_cwS 1 hts (xgS wm_897 wm_898 wm_34 wm_899) rfl rfl rfl (by decide +kernel) ⟨Nat.le_of_ble_eq_true rfl, Nat.le_of_ble_eq_true rfl⟩) ⟨xp_blind, fun U hU hW => ⟨rfl, hz.warm hW, by rw [hU]; exact hP.sub [] rfl, va_K.moved hW.alike (hK.sub [] rfl)⟩⟩ rfl rfl hl.1 rfl (lv_room (Nat.le_of_ble_eq_true rfl)) d_MD_unit_27 ⟨Nat.le_of_ble_eq_true rfl, Nat.le_of_ble_eq_true rfl⟩) (fun r_7 h_8 => ?_)
    subst h_8
    refine lv_if_eq (tgt := 44) hx hb d_MD_unit_30 (by decide) (fun c_9 => ?_) (fun c_9 => ?_)
    · have b_10 := bI_f (rfl : bI (md_gd a 4 = true) = _) c_9
      refine lv_iconst (v := 0) hx hb d_MD_unit_44 (by decide) ?_
      refine lv_iconst (v := 1) hx hb d_MD_unit_45 (by decide) ?_
      have hPc := hP.sub (ws' := [(h0, .inr (7, [.int th, .int (nI nm), .ref ap, .int (nI no), .ref am, .ref aw, .ref az, .ref au, .int kn, .long vP, .long vQ, .long vS, .long vT, .long vB, .long vM, .long vH, .ref ao, .ref ax, .int (nI np), .ref ay, .int (nI nl), .ref ad, .ref al, .int (nI sn), .ref ag, .int (nI ta), .int nb]))]) [0] rfl
      have hDc := hD.sub (ws' := [(h0, .inr (7, [.int th, .int (nI nm), .ref ap, .int (nI no), .ref am, .ref aw, .ref az, .ref au, .int kn, .long vP, .long vQ, .long vS, .long vT, .long vB, .long vM, .long vH, .ref ao, .ref ax, .int (nI np), .ref ay, .int (nI nl), .ref ad, .ref al, .int (nI sn), .ref ag, .int (nI ta), .int nb]))]) [0] (by decide) rfl
      have hKc := hK.sub (tys' := []) [] rfl
      have hFc := va_free (wc := [(h0, .inr (7, [.int th, .int (nI nm), .ref ap, .int (nI no), .ref am, .ref aw, .ref az, .ref au, .int kn, .long vP, .long vQ, .long vS, .long vT, .long vB, .long vM, .long vH, .ref ao, .ref ax, .int (nI np), .ref ay, .int (nI nl), .ref ad, .ref al, .int (nI sn), .ref ag, .int (nI ta), .int nb]))]) hD hS hA [0] rfl
      refine va_calli (va_runV (As := [.int 0, .int 0, .int 1]) (rest := []) ⟨hx, hb, hml, hown, hts⟩ (c_MD_goes l dC dI s.heap.size h0 th nm ap no am aw az au kn vP vQ vS vT vB vM vH ao ax np ay nl ad al sn ag ta nb 0 0 1) (cwV 3 hts (xgV wm_793 wm_795 wm_13 wm_34 wm_796) rfl rfl rfl (by decide +kernel) ⟨Nat.le_of_ble_eq_true rfl, Nat.le_of_ble_eq_true rfl⟩) ⟨xw_blind, va_recv hKc hPc (ci := 7) (q0 := 0) rfl rfl, fun U hU hW => ⟨rfl, by rw [hU], hz.warm hW, by rw [hU]; exact hPc, va_K.moved hW.alike hKc, hDc.weaken (fun _ _ _ _ => trivial)⟩⟩ rfl rfl hl.1 rfl (lv_room (Nat.le_of_ble_eq_true rfl)) d_MD_unit_46 ⟨Nat.le_of_ble_eq_true rfl, Nat.le_of_ble_eq_true rfl⟩) hS (fun q _ h => hFc q h) hFc (fun r_11 _ t H1 locs ht hvm hw_12 hB hz1 hk1 hS => ?_)
      obtain ⟨hP1, hK1, hD1⟩ := hB
      rw [ht] at hP1
      have hK1 := va_K.moved hvm.symm hK1
      obtain ⟨hP, hD⟩ := va_join (wr := []) (w1 := [(h0, .inr (7, [.int (md_th 0 0 1), .int (nI nm), .ref ap, .int (nI no), .ref am, .ref aw, .ref az, .ref au, .int kn, .long vP, .long vQ, .long vS, .long vT, .long vB, .long vM, .long vH, .ref ao, .ref ax, .int (nI np), .ref ay, .int (nI nl), .ref ad, .ref al, .int (nI sn), .ref ag, .int (nI ta), .int nb]))]) hP hD [0] [] rfl rfl (by decide) (by decide) hk1 hFc hP1 hD1
      generalize H1 = H at hP hS ⊢
      have hP : va_P (dC, dI) xCl [(h0, .inr (7, [.int (md_th 0 0 1), .int (nI nm), .ref ap, .int (nI no), .ref am, .ref aw, .ref az, .ref au, .int kn, .long vP, .long vQ, .long vS, .long vT, .long vB, .long vM, .long vH, .ref ao, .ref ax, .int (nI np), .ref ay, .int (nI nl), .ref ad, .ref al, .int (nI sn), .ref ag, .int (nI ta), .int nb]))] H := hP
      have hD : va_D A [(h0, .inr (7, [.int (md_th 0 0 1), .int (nI nm), .ref ap, .int (nI no), .ref am, .ref aw, .ref az, .ref au, .int kn, .long vP, .long vQ, .long vS, .long vT, .long vB, .long vM, .long vH, .ref ao, .ref ax, .int (nI np), .ref ay, .int (nI nl), .ref ad, .ref al, .int (nI sn), .ref ag, .int (nI ta), .int nb]))] := hD
      subst hw_12
      refine lv_if_ne (tgt := 54) hx hb d_MD_unit_49 (by decide) (fun c_13 => ?_) (fun c_13 => ?_)
      · exact absurd (md_th_all (bI_t rfl c_13)) (fun q => q.1 rfl)
      · have b_14 := bI_f (rfl : bI (md_th 0 0 1 = 0) = _) c_13
        refine lv_iconst (v := 0) hx hb d_MD_unit_52 (by decide) ?_
        have hP9 := hP.sub (ws' := [(h0, .inr (7, [.int (md_th 0 0 1), .int (nI nm), .ref ap, .int (nI no), .ref am, .ref aw, .ref az, .ref au, .int kn, .long vP, .long vQ, .long vS, .long vT, .long vB, .long vM, .long vH, .ref ao, .ref ax, .int (nI np), .ref ay, .int (nI nl), .ref ad, .ref al, .int (nI sn), .ref ag, .int (nI ta), .int nb]))]) [0] rfl
        have hD9 := hD.sub (ws' := [(h0, .inr (7, [.int (md_th 0 0 1), .int (nI nm), .ref ap, .int (nI no), .ref am, .ref aw, .ref az, .ref au, .int kn, .long vP, .long vQ, .long vS, .long vT, .long vB, .long vM, .long vH, .ref ao, .ref ax, .int (nI np), .ref ay, .int (nI nl), .ref ad, .ref al, .int (nI sn), .ref ag, .int (nI ta), .int nb]))]) [0] (by decide) rfl
        have hK9 := hK.sub (tys' := []) [] rfl
        exact W.iret (v := 0) hx hb hr (fun t ht hW => ⟨⟨0, (), rfl, rfl, ⟨by rw [ht]; rw [show bI (sn + md_si a 4 + md_si b 4 ≤ 200) = 0 from (bI_n (by omega)).symm, show bI (md_gd a 4 = true ∧ md_gd b 4 = true) = 0 from (bI_n (fun q => b_10 q.1)).symm]; exact hP9, va_K.moved hW.alike hK9, by rw [show bI (sn + md_si a 4 + md_si b 4 ≤ 200) = 0 from (bI_n (by omega)).symm, show bI (md_gd a 4 = true ∧ md_gd b 4 = true) = 0 from (bI_n (fun q => b_10 q.1)).symm]; exact hD9⟩⟩, hS.F ht⟩) hS.2.2 d_MD_unit_53 hlocks
    · have b_15 := bI_t (rfl : bI (md_gd a 4 = true) = _) c_9
      refine lv_iload_n hx hb d_MD_unit_33 rfl (lv_at hl 2 rfl) ?_
      refine xr_calli (va_runS (As := [.int b]) (rest := [.int 0, .ref h0]) ⟨hx, hb, hml, hown, hts⟩ (c_MD_isPlain l dC dI b) (va_cwS 1 hts (xgS wm_897 wm_898 wm_34 wm_899) rfl rfl rfl (by decide +kernel) ⟨Nat.le_of_ble_eq_true rfl, Nat.le_of_ble_eq_true rfl⟩) ⟨xp_blind, fun U hU hW => ⟨rfl, hz.warm hW, by rw [hU]; exact hP.sub [] rfl, va_K.moved hW.alike (hK.sub [] rfl)⟩⟩ rfl rfl hl.1 rfl (lv_room (Nat.le_of_ble_eq_true rfl)) d_MD_unit_34 ⟨Nat.le_of_ble_eq_true rfl, Nat.le_of_ble_eq_true rfl⟩) (fun r_16 h_17 => ?_)
      subst h_17
      refine lv_if_eq (tgt := 44) hx hb d_MD_unit_37 (by decide) (fun c_18 => ?_) (fun c_18 => ?_)
      · have b_19 := bI_f (rfl : bI (md_gd b 4 = true) = _) c_18
        refine lv_iconst (v := 0) hx hb d_MD_unit_44 (by decide) ?_
        refine lv_iconst (v := 1) hx hb d_MD_unit_45 (by decide) ?_
        have hPc := hP.sub (ws' := [(h0, .inr (7, [.int th, .int (nI nm), .ref ap, .int (nI no), .ref am, .ref aw, .ref az, .ref au, .int kn, .long vP, .long vQ, .long vS, .long vT, .long vB, .long vM, .long vH, .ref ao, .ref ax, .int (nI np), .ref ay, .int (nI nl), .ref ad, .ref al, .int (nI sn), .ref ag, .int (nI ta), .int nb]))]) [0] rfl
        have hDc := hD.sub (ws' := [(h0, .inr (7, [.int th, .int (nI nm), .ref ap, .int (nI no), .ref am, .ref aw, .ref az, .ref au, .int kn, .long vP, .long vQ, .long vS, .long vT, .long vB, .long vM, .long vH, .ref ao, .ref ax, .int (nI np), .ref ay, .int (nI nl), .ref ad, .ref al, .int (nI sn), .ref ag, .int (nI ta), .int nb]))]) [0] (by decide) rfl
        have hKc := hK.sub (tys' := []) [] rfl
        have hFc := va_free (wc := [(h0, .inr (7, [.int th, .int (nI nm), .ref ap, .int (nI no), .ref am, .ref aw, .ref az, .ref au, .int kn, .long vP, .long vQ, .long vS, .long vT, .long vB, .long vM, .long vH, .ref ao, .ref ax, .int (nI np), .ref ay, .int (nI nl), .ref ad, .ref al, .int (nI sn), .ref ag, .int (nI ta), .int nb]))]) hD hS hA [0] rfl
        refine va_calli (va_runV (As := [.int 0, .int 0, .int 1]) (rest := []) ⟨hx, hb, hml, hown, hts⟩ (c_MD_goes l dC dI s.heap.size h0 th nm ap no am aw az au kn vP vQ vS vT vB vM vH ao ax np ay nl ad al sn ag ta nb 0 0 1) (cwV 3 hts (xgV wm_793 wm_795 wm_13 wm_34 wm_796) rfl rfl rfl (by decide +kernel) ⟨Nat.le_of_ble_eq_true rfl, Nat.le_of_ble_eq_true rfl⟩) ⟨xw_blind, va_recv hKc hPc (ci := 7) (q0 := 0) rfl rfl, fun U hU hW => ⟨rfl, by rw [hU], hz.warm hW, by rw [hU]; exact hPc, va_K.moved hW.alike hKc, hDc.weaken (fun _ _ _ _ => trivial)⟩⟩ rfl rfl hl.1 rfl (lv_room (Nat.le_of_ble_eq_true rfl)) d_MD_unit_46 ⟨Nat.le_of_ble_eq_true rfl, Nat.le_of_ble_eq_true rfl⟩) hS (fun q _ h => hFc q h) hFc (fun r_20 _ t H1 locs ht hvm hw_21 hB hz1 hk1 hS => ?_)
        obtain ⟨hP1, hK1, hD1⟩ := hB
        rw [ht] at hP1
        have hK1 := va_K.moved hvm.symm hK1
        obtain ⟨hP, hD⟩ := va_join (wr := []) (w1 := [(h0, .inr (7, [.int (md_th 0 0 1), .int (nI nm), .ref ap, .int (nI no), .ref am, .ref aw, .ref az, .ref au, .int kn, .long vP, .long vQ, .long vS, .long vT, .long vB, .long vM, .long vH, .ref ao, .ref ax, .int (nI np), .ref ay, .int (nI nl), .ref ad, .ref al, .int (nI sn), .ref ag, .int (nI ta), .int nb]))]) hP hD [0] [] rfl rfl (by decide) (by decide) hk1 hFc hP1 hD1
        generalize H1 = H at hP hS ⊢
        have hP : va_P (dC, dI) xCl [(h0, .inr (7, [.int (md_th 0 0 1), .int (nI nm), .ref ap, .int (nI no), .ref am, .ref aw, .ref az, .ref au, .int kn, .long vP, .long vQ, .long vS, .long vT, .long vB, .long vM, .long vH, .ref ao, .ref ax, .int (nI np), .ref ay, .int (nI nl), .ref ad, .ref al, .int (nI sn), .ref ag, .int (nI ta), .int nb]))] H := hP
        have hD : va_D A [(h0, .inr (7, [.int (md_th 0 0 1), .int (nI nm), .ref ap, .int (nI no), .ref am, .ref aw, .ref az, .ref au, .int kn, .long vP, .long vQ, .long vS, .long vT, .long vB, .long vM, .long vH, .ref ao, .ref ax, .int (nI np), .ref ay, .int (nI nl), .ref ad, .ref al, .int (nI sn), .ref ag, .int (nI ta), .int nb]))] := hD
        subst hw_21
        refine lv_if_ne (tgt := 54) hx hb d_MD_unit_49 (by decide) (fun c_22 => ?_) (fun c_22 => ?_)
        · exact absurd (md_th_all (bI_t rfl c_22)) (fun q => q.1 rfl)
        · have b_23 := bI_f (rfl : bI (md_th 0 0 1 = 0) = _) c_22
          refine lv_iconst (v := 0) hx hb d_MD_unit_52 (by decide) ?_
          have hP9 := hP.sub (ws' := [(h0, .inr (7, [.int (md_th 0 0 1), .int (nI nm), .ref ap, .int (nI no), .ref am, .ref aw, .ref az, .ref au, .int kn, .long vP, .long vQ, .long vS, .long vT, .long vB, .long vM, .long vH, .ref ao, .ref ax, .int (nI np), .ref ay, .int (nI nl), .ref ad, .ref al, .int (nI sn), .ref ag, .int (nI ta), .int nb]))]) [0] rfl
          have hD9 := hD.sub (ws' := [(h0, .inr (7, [.int (md_th 0 0 1), .int (nI nm), .ref ap, .int (nI no), .ref am, .ref aw, .ref az, .ref au, .int kn, .long vP, .long vQ, .long vS, .long vT, .long vB, .long vM, .long vH, .ref ao, .ref ax, .int (nI np), .ref ay, .int (nI nl), .ref ad, .ref al, .int (nI sn), .ref ag, .int (nI ta), .int nb]))]) [0] (by decide) rfl
          have hK9 := hK.sub (tys' := []) [] rfl
          exact W.iret (v := 0) hx hb hr (fun t ht hW => ⟨⟨0, (), rfl, rfl, ⟨by rw [ht]; rw [show bI (sn + md_si a 4 + md_si b 4 ≤ 200) = 0 from (bI_n (by omega)).symm, show bI (md_gd a 4 = true ∧ md_gd b 4 = true) = 0 from (bI_n (fun q => b_19 q.2)).symm]; exact hP9, va_K.moved hW.alike hK9, by rw [show bI (sn + md_si a 4 + md_si b 4 ≤ 200) = 0 from (bI_n (by omega)).symm, show bI (md_gd a 4 = true ∧ md_gd b 4 = true) = 0 from (bI_n (fun q => b_19 q.2)).symm]; exact hD9⟩⟩, hS.F ht⟩) hS.2.2 d_MD_unit_53 hlocks
      · have b_24 := bI_t (rfl : bI (md_gd b 4 = true) = _) c_18
        refine lv_iconst (v := 1) hx hb d_MD_unit_40 (by decide) ?_
        refine lv_goto (tgt := 45) hx hb d_MD_unit_41 (by decide) ?_
        refine lv_iconst (v := 1) hx hb d_MD_unit_45 (by decide) ?_
        have hPc := hP.sub (ws' := [(h0, .inr (7, [.int th, .int (nI nm), .ref ap, .int (nI no), .ref am, .ref aw, .ref az, .ref au, .int kn, .long vP, .long vQ, .long vS, .long vT, .long vB, .long vM, .long vH, .ref ao, .ref ax, .int (nI np), .ref ay, .int (nI nl), .ref ad, .ref al, .int (nI sn), .ref ag, .int (nI ta), .int nb]))]) [0] rfl
        have hDc := hD.sub (ws' := [(h0, .inr (7, [.int th, .int (nI nm), .ref ap, .int (nI no), .ref am, .ref aw, .ref az, .ref au, .int kn, .long vP, .long vQ, .long vS, .long vT, .long vB, .long vM, .long vH, .ref ao, .ref ax, .int (nI np), .ref ay, .int (nI nl), .ref ad, .ref al, .int (nI sn), .ref ag, .int (nI ta), .int nb]))]) [0] (by decide) rfl
        have hKc := hK.sub (tys' := []) [] rfl
        have hFc := va_free (wc := [(h0, .inr (7, [.int th, .int (nI nm), .ref ap, .int (nI no), .ref am, .ref aw, .ref az, .ref au, .int kn, .long vP, .long vQ, .long vS, .long vT, .long vB, .long vM, .long vH, .ref ao, .ref ax, .int (nI np), .ref ay, .int (nI nl), .ref ad, .ref al, .int (nI sn), .ref ag, .int (nI ta), .int nb]))]) hD hS hA [0] rfl
        refine va_calli (va_runV (As := [.int 0, .int 1, .int 1]) (rest := []) ⟨hx, hb, hml, hown, hts⟩ (c_MD_goes l dC dI s.heap.size h0 th nm ap no am aw az au kn vP vQ vS vT vB vM vH ao ax np ay nl ad al sn ag ta nb 0 1 1) (cwV 3 hts (xgV wm_793 wm_795 wm_13 wm_34 wm_796) rfl rfl rfl (by decide +kernel) ⟨Nat.le_of_ble_eq_true rfl, Nat.le_of_ble_eq_true rfl⟩) ⟨xw_blind, va_recv hKc hPc (ci := 7) (q0 := 0) rfl rfl, fun U hU hW => ⟨rfl, by rw [hU], hz.warm hW, by rw [hU]; exact hPc, va_K.moved hW.alike hKc, hDc.weaken (fun _ _ _ _ => trivial)⟩⟩ rfl rfl hl.1 rfl (lv_room (Nat.le_of_ble_eq_true rfl)) d_MD_unit_46 ⟨Nat.le_of_ble_eq_true rfl, Nat.le_of_ble_eq_true rfl⟩) hS (fun q _ h => hFc q h) hFc (fun r_25 _ t H1 locs ht hvm hw_26 hB hz1 hk1 hS => ?_)
        obtain ⟨hP1, hK1, hD1⟩ := hB
        rw [ht] at hP1
        have hK1 := va_K.moved hvm.symm hK1
        obtain ⟨hP, hD⟩ := va_join (wr := []) (w1 := [(h0, .inr (7, [.int (md_th 0 1 1), .int (nI nm), .ref ap, .int (nI no), .ref am, .ref aw, .ref az, .ref au, .int kn, .long vP, .long vQ, .long vS, .long vT, .long vB, .long vM, .long vH, .ref ao, .ref ax, .int (nI np), .ref ay, .int (nI nl), .ref ad, .ref al, .int (nI sn), .ref ag, .int (nI ta), .int nb]))]) hP hD [0] [] rfl rfl (by decide) (by decide) hk1 hFc hP1 hD1
        generalize H1 = H at hP hS ⊢
        have hP : va_P (dC, dI) xCl [(h0, .inr (7, [.int (md_th 0 1 1), .int (nI nm), .ref ap, .int (nI no), .ref am, .ref aw, .ref az, .ref au, .int kn, .long vP, .long vQ, .long vS, .long vT, .long vB, .long vM, .long vH, .ref ao, .ref ax, .int (nI np), .ref ay, .int (nI nl), .ref ad, .ref al, .int (nI sn), .ref ag, .int (nI ta), .int nb]))] H := hP
        have hD : va_D A [(h0, .inr (7, [.int (md_th 0 1 1), .int (nI nm), .ref ap, .int (nI no), .ref am, .ref aw, .ref az, .ref au, .int kn, .long vP, .long vQ, .long vS, .long vT, .long vB, .long vM, .long vH, .ref ao, .ref ax, .int (nI np), .ref ay, .int (nI nl), .ref ad, .ref al, .int (nI sn), .ref ag, .int (nI ta), .int nb]))] := hD
        subst hw_26
        refine lv_if_ne (tgt := 54) hx hb d_MD_unit_49 (by decide) (fun c_27 => ?_) (fun c_27 => ?_)
        · exact absurd (md_th_all (bI_t rfl c_27)) (fun q => q.1 rfl)
        · have b_28 := bI_f (rfl : bI (md_th 0 1 1 = 0) = _) c_27
          refine lv_iconst (v := 0) hx hb d_MD_unit_52 (by decide) ?_
          have hP9 := hP.sub (ws' := [(h0, .inr (7, [.int (md_th 0 1 1), .int (nI nm), .ref ap, .int (nI no), .ref am, .ref aw, .ref az, .ref au, .int kn, .long vP, .long vQ, .long vS, .long vT, .long vB, .long vM, .long vH, .ref ao, .ref ax, .int (nI np), .ref ay, .int (nI nl), .ref ad, .ref al, .int (nI sn), .ref ag, .int (nI ta), .int nb]))]) [0] rfl
          have hD9 := hD.sub (ws' := [(h0, .inr (7, [.int (md_th 0 1 1), .int (nI nm), .ref ap, .int (nI no), .ref am, .ref aw, .ref az, .ref au, .int kn, .long vP, .long vQ, .long vS, .long vT, .long vB, .long vM, .long vH, .ref ao, .ref ax, .int (nI np), .ref ay, .int (nI nl), .ref ad, .ref al, .int (nI sn), .ref ag, .int (nI ta), .int nb]))]) [0] (by decide) rfl
          have hK9 := hK.sub (tys' := []) [] rfl
          exact W.iret (v := 0) hx hb hr (fun t ht hW => ⟨⟨0, (), rfl, rfl, ⟨by rw [ht]; rw [show bI (sn + md_si a 4 + md_si b 4 ≤ 200) = 0 from (bI_n (by omega)).symm, show bI (md_gd a 4 = true ∧ md_gd b 4 = true) = 1 from (bI_p ⟨b_15, b_24⟩).symm]; exact hP9, va_K.moved hW.alike hK9, by rw [show bI (sn + md_si a 4 + md_si b 4 ≤ 200) = 0 from (bI_n (by omega)).symm, show bI (md_gd a 4 = true ∧ md_gd b 4 = true) = 1 from (bI_p ⟨b_15, b_24⟩).symm]; exact hD9⟩⟩, hS.F ht⟩) hS.2.2 d_MD_unit_53 hlocks
  · have n_29 := xn_nlt (a := 200) (b := ((sn + (md_si a 4)) + (md_si b 4))) c_5 (by decide) rfl (by omega) (by omega)
    refine lv_iconst (v := 1) hx hb d_MD_unit_21 (by decide) ?_
    refine lv_goto (tgt := 26) hx hb d_MD_unit_22 (by decide) ?_
    refine lv_iload_n hx hb d_MD_unit_26 rfl (lv_at hl 1 rfl) ?_
    refine xr_calli (va_runS (As := [.int a]) (rest := [.int 1, .ref h0]) ⟨hx, hb, hml, hown, hts⟩ (c_MD_isPlain l dC dI a) (va_cwS 1 hts (xgS wm_897 wm_898 wm_34 wm_899) rfl rfl rfl (by decide +kernel) ⟨Nat.le_of_ble_eq_true rfl, Nat.le_of_ble_eq_true rfl⟩) ⟨xp_blind, fun U hU hW => ⟨rfl, hz.warm hW, by rw [hU]; exact hP.sub [] rfl, va_K.moved hW.alike (hK.sub [] rfl)⟩⟩ rfl rfl hl.1 rfl (lv_room (Nat.le_of_ble_eq_true rfl)) d_MD_unit_27 ⟨Nat.le_of_ble_eq_true rfl, Nat.le_of_ble_eq_true rfl⟩) (fun r_30 h_31 => ?_)
    subst h_31
    refine lv_if_eq (tgt := 44) hx hb d_MD_unit_30 (by decide) (fun c_32 => ?_) (fun c_32 => ?_)
    · have b_33 := bI_f (rfl : bI (md_gd a 4 = true) = _) c_32
      refine lv_iconst (v := 0) hx hb d_MD_unit_44 (by decide) ?_
      refine lv_iconst (v := 1) hx hb d_MD_unit_45 (by decide) ?_
      have hPc := hP.sub (ws' := [(h0, .inr (7, [.int th, .int (nI nm), .ref ap, .int (nI no), .ref am, .ref aw, .ref az, .ref au, .int kn, .long vP, .long vQ, .long vS, .long vT, .long vB, .long vM, .long vH, .ref ao, .ref ax, .int (nI np), .ref ay, .int (nI nl), .ref ad, .ref al, .int (nI sn), .ref ag, .int (nI ta), .int nb]))]) [0] rfl
      have hDc := hD.sub (ws' := [(h0, .inr (7, [.int th, .int (nI nm), .ref ap, .int (nI no), .ref am, .ref aw, .ref az, .ref au, .int kn, .long vP, .long vQ, .long vS, .long vT, .long vB, .long vM, .long vH, .ref ao, .ref ax, .int (nI np), .ref ay, .int (nI nl), .ref ad, .ref al, .int (nI sn), .ref ag, .int (nI ta), .int nb]))]) [0] (by decide) rfl
      have hKc := hK.sub (tys' := []) [] rfl
      have hFc := va_free (wc := [(h0, .inr (7, [.int th, .int (nI nm), .ref ap, .int (nI no), .ref am, .ref aw, .ref az, .ref au, .int kn, .long vP, .long vQ, .long vS, .long vT, .long vB, .long vM, .long vH, .ref ao, .ref ax, .int (nI np), .ref ay, .int (nI nl), .ref ad, .ref al, .int (nI sn), .ref ag, .int (nI ta), .int nb]))]) hD hS hA [0] rfl
      refine va_calli (va_runV (As := [.int 1, .int 0, .int 1]) (rest := []) ⟨hx, hb, hml, hown, hts⟩ (c_MD_goes l dC dI s.heap.size h0 th nm ap no am aw az au kn vP vQ vS vT vB vM vH ao ax np ay nl ad al sn ag ta nb 1 0 1) (cwV 3 hts (xgV wm_793 wm_795 wm_13 wm_34 wm_796) rfl rfl rfl (by decide +kernel) ⟨Nat.le_of_ble_eq_true rfl, Nat.le_of_ble_eq_true rfl⟩) ⟨xw_blind, va_recv hKc hPc (ci := 7) (q0 := 0) rfl rfl, fun U hU hW => ⟨rfl, by rw [hU], hz.warm hW, by rw [hU]; exact hPc, va_K.moved hW.alike hKc, hDc.weaken (fun _ _ _ _ => trivial)⟩⟩ rfl rfl hl.1 rfl (lv_room (Nat.le_of_ble_eq_true rfl)) d_MD_unit_46 ⟨Nat.le_of_ble_eq_true rfl, Nat.le_of_ble_eq_true rfl⟩) hS (fun q _ h => hFc q h) hFc (fun r_34 _ t H1 locs ht hvm hw_35 hB hz1 hk1 hS => ?_)
      obtain ⟨hP1, hK1, hD1⟩ := hB
      rw [ht] at hP1
      have hK1 := va_K.moved hvm.symm hK1
      obtain ⟨hP, hD⟩ := va_join (wr := []) (w1 := [(h0, .inr (7, [.int (md_th 1 0 1), .int (nI nm), .ref ap, .int (nI no), .ref am, .ref aw, .ref az, .ref au, .int kn, .long vP, .long vQ, .long vS, .long vT, .long vB, .long vM, .long vH, .ref ao, .ref ax, .int (nI np), .ref ay, .int (nI nl), .ref ad, .ref al, .int (nI sn), .ref ag, .int (nI ta), .int nb]))]) hP hD [0] [] rfl rfl (by decide) (by decide) hk1 hFc hP1 hD1
      generalize H1 = H at hP hS ⊢
      have hP : va_P (dC, dI) xCl [(h0, .inr (7, [.int (md_th 1 0 1), .int (nI nm), .ref ap, .int (nI no), .ref am, .ref aw, .ref az, .ref au, .int kn, .long vP, .long vQ, .long vS, .long vT, .long vB, .long vM, .long vH, .ref ao, .ref ax, .int (nI np), .ref ay, .int (nI nl), .ref ad, .ref al, .int (nI sn), .ref ag, .int (nI ta), .int nb]))] H := hP
      have hD : va_D A [(h0, .inr (7, [.int (md_th 1 0 1), .int (nI nm), .ref ap, .int (nI no), .ref am, .ref aw, .ref az, .ref au, .int kn, .long vP, .long vQ, .long vS, .long vT, .long vB, .long vM, .long vH, .ref ao, .ref ax, .int (nI np), .ref ay, .int (nI nl), .ref ad, .ref al, .int (nI sn), .ref ag, .int (nI ta), .int nb]))] := hD
      subst hw_35
      refine lv_if_ne (tgt := 54) hx hb d_MD_unit_49 (by decide) (fun c_36 => ?_) (fun c_36 => ?_)
      · exact absurd (md_th_all (bI_t rfl c_36)) (fun q => q.2.1 rfl)
      · have b_37 := bI_f (rfl : bI (md_th 1 0 1 = 0) = _) c_36
        refine lv_iconst (v := 0) hx hb d_MD_unit_52 (by decide) ?_
        have hP9 := hP.sub (ws' := [(h0, .inr (7, [.int (md_th 1 0 1), .int (nI nm), .ref ap, .int (nI no), .ref am, .ref aw, .ref az, .ref au, .int kn, .long vP, .long vQ, .long vS, .long vT, .long vB, .long vM, .long vH, .ref ao, .ref ax, .int (nI np), .ref ay, .int (nI nl), .ref ad, .ref al, .int (nI sn), .ref ag, .int (nI ta), .int nb]))]) [0] rfl
        have hD9 := hD.sub (ws' := [(h0, .inr (7, [.int (md_th 1 0 1), .int (nI nm), .ref ap, .int (nI no), .ref am, .ref aw, .ref az, .ref au, .int kn, .long vP, .long vQ, .long vS, .long vT, .long vB, .long vM, .long vH, .ref ao, .ref ax, .int (nI np), .ref ay, .int (nI nl), .ref ad, .ref al, .int (nI sn), .ref ag, .int (nI ta), .int nb]))]) [0] (by decide) rfl
        have hK9 := hK.sub (tys' := []) [] rfl
        exact W.iret (v := 0) hx hb hr (fun t ht hW => ⟨⟨0, (), rfl, rfl, ⟨by rw [ht]; rw [show bI (sn + md_si a 4 + md_si b 4 ≤ 200) = 1 from (bI_p n_29).symm, show bI (md_gd a 4 = true ∧ md_gd b 4 = true) = 0 from (bI_n (fun q => b_33 q.1)).symm]; exact hP9, va_K.moved hW.alike hK9, by rw [show bI (sn + md_si a 4 + md_si b 4 ≤ 200) = 1 from (bI_p n_29).symm, show bI (md_gd a 4 = true ∧ md_gd b 4 = true) = 0 from (bI_n (fun q => b_33 q.1)).symm]; exact hD9⟩⟩, hS.F ht⟩) hS.2.2 d_MD_unit_53 hlocks
    · have b_38 := bI_t (rfl : bI (md_gd a 4 = true) = _) c_32
      refine lv_iload_n hx hb d_MD_unit_33 rfl (lv_at hl 2 rfl) ?_
      refine xr_calli (va_runS (As := [.int b]) (rest := [.int 1, .ref h0]) ⟨hx, hb, hml, hown, hts⟩ (c_MD_isPlain l dC dI b) (va_cwS 1 hts (xgS wm_897 wm_898 wm_34 wm_899) rfl rfl rfl (by decide +kernel) ⟨Nat.le_of_ble_eq_true rfl, Nat.le_of_ble_eq_true rfl⟩) ⟨xp_blind, fun U hU hW => ⟨rfl, hz.warm hW, by rw [hU]; exact hP.sub [] rfl, va_K.moved hW.alike (hK.sub [] rfl)⟩⟩ rfl rfl hl.1 rfl (lv_room (Nat.le_of_ble_eq_true rfl)) d_MD_unit_34 ⟨Nat.le_of_ble_eq_true rfl, Nat.le_of_ble_eq_true rfl⟩) (fun r_39 h_40 => ?_)
      subst h_40
      refine lv_if_eq (tgt := 44) hx hb d_MD_unit_37 (by decide) (fun c_41 => ?_) (fun c_41 => ?_)
      · have b_42 := bI_f (rfl : bI (md_gd b 4 = true) = _) c_41
        refine lv_iconst (v := 0) hx hb d_MD_unit_44 (by decide) ?_
        refine lv_iconst (v := 1) hx hb d_MD_unit_45 (by decide) ?_
        have hPc := hP.sub (ws' := [(h0, .inr (7, [.int th, .int (nI nm), .ref ap, .int (nI no), .ref am, .ref aw, .ref az, .ref au, .int kn, .long vP, .long vQ, .long vS, .long vT, .long vB, .long vM, .long vH, .ref ao, .ref ax, .int (nI np), .ref ay, .int (nI nl), .ref ad, .ref al, .int (nI sn), .ref ag, .int (nI ta), .int nb]))]) [0] rfl
        have hDc := hD.sub (ws' := [(h0, .inr (7, [.int th, .int (nI nm), .ref ap, .int (nI no), .ref am, .ref aw, .ref az, .ref au, .int kn, .long vP, .long vQ, .long vS, .long vT, .long vB, .long vM, .long vH, .ref ao, .ref ax, .int (nI np), .ref ay, .int (nI nl), .ref ad, .ref al, .int (nI sn), .ref ag, .int (nI ta), .int nb]))]) [0] (by decide) rfl
        have hKc := hK.sub (tys' := []) [] rfl
        have hFc := va_free (wc := [(h0, .inr (7, [.int th, .int (nI nm), .ref ap, .int (nI no), .ref am, .ref aw, .ref az, .ref au, .int kn, .long vP, .long vQ, .long vS, .long vT, .long vB, .long vM, .long vH, .ref ao, .ref ax, .int (nI np), .ref ay, .int (nI nl), .ref ad, .ref al, .int (nI sn), .ref ag, .int (nI ta), .int nb]))]) hD hS hA [0] rfl
        refine va_calli (va_runV (As := [.int 1, .int 0, .int 1]) (rest := []) ⟨hx, hb, hml, hown, hts⟩ (c_MD_goes l dC dI s.heap.size h0 th nm ap no am aw az au kn vP vQ vS vT vB vM vH ao ax np ay nl ad al sn ag ta nb 1 0 1) (cwV 3 hts (xgV wm_793 wm_795 wm_13 wm_34 wm_796) rfl rfl rfl (by decide +kernel) ⟨Nat.le_of_ble_eq_true rfl, Nat.le_of_ble_eq_true rfl⟩) ⟨xw_blind, va_recv hKc hPc (ci := 7) (q0 := 0) rfl rfl, fun U hU hW => ⟨rfl, by rw [hU], hz.warm hW, by rw [hU]; exact hPc, va_K.moved hW.alike hKc, hDc.weaken (fun _ _ _ _ => trivial)⟩⟩ rfl rfl hl.1 rfl (lv_room (Nat.le_of_ble_eq_true rfl)) d_MD_unit_46 ⟨Nat.le_of_ble_eq_true rfl, Nat.le_of_ble_eq_true rfl⟩) hS (fun q _ h => hFc q h) hFc (fun r_43 _ t H1 locs ht hvm hw_44 hB hz1 hk1 hS => ?_)
        obtain ⟨hP1, hK1, hD1⟩ := hB
        rw [ht] at hP1
        have hK1 := va_K.moved hvm.symm hK1
        obtain ⟨hP, hD⟩ := va_join (wr := []) (w1 := [(h0, .inr (7, [.int (md_th 1 0 1), .int (nI nm), .ref ap, .int (nI no), .ref am, .ref aw, .ref az, .ref au, .int kn, .long vP, .long vQ, .long vS, .long vT, .long vB, .long vM, .long vH, .ref ao, .ref ax, .int (nI np), .ref ay, .int (nI nl), .ref ad, .ref al, .int (nI sn), .ref ag, .int (nI ta), .int nb]))]) hP hD [0] [] rfl rfl (by decide) (by decide) hk1 hFc hP1 hD1
        generalize H1 = H at hP hS ⊢
        have hP : va_P (dC, dI) xCl [(h0, .inr (7, [.int (md_th 1 0 1), .int (nI nm), .ref ap, .int (nI no), .ref am, .ref aw, .ref az, .ref au, .int kn, .long vP, .long vQ, .long vS, .long vT, .long vB, .long vM, .long vH, .ref ao, .ref ax, .int (nI np), .ref ay, .int (nI nl), .ref ad, .ref al, .int (nI sn), .ref ag, .int (nI ta), .int nb]))] H := hP
        have hD : va_D A [(h0, .inr (7, [.int (md_th 1 0 1), .int (nI nm), .ref ap, .int (nI no), .ref am, .ref aw, .ref az, .ref au, .int kn, .long vP, .long vQ, .long vS, .long vT, .long vB, .long vM, .long vH, .ref ao, .ref ax, .int (nI np), .ref ay, .int (nI nl), .ref ad, .ref al, .int (nI sn), .ref ag, .int (nI ta), .int nb]))] := hD
        subst hw_44
        refine lv_if_ne (tgt := 54) hx hb d_MD_unit_49 (by decide) (fun c_45 => ?_) (fun c_45 => ?_)
        · exact absurd (md_th_all (bI_t rfl c_45)) (fun q => q.2.1 rfl)
        · have b_46 := bI_f (rfl : bI (md_th 1 0 1 = 0) = _) c_45
          refine lv_iconst (v := 0) hx hb d_MD_unit_52 (by decide) ?_
          have hP9 := hP.sub (ws' := [(h0, .inr (7, [.int (md_th 1 0 1), .int (nI nm), .ref ap, .int (nI no), .ref am, .ref aw, .ref az, .ref au, .int kn, .long vP, .long vQ, .long vS, .long vT, .long vB, .long vM, .long vH, .ref ao, .ref ax, .int (nI np), .ref ay, .int (nI nl), .ref ad, .ref al, .int (nI sn), .ref ag, .int (nI ta), .int nb]))]) [0] rfl
          have hD9 := hD.sub (ws' := [(h0, .inr (7, [.int (md_th 1 0 1), .int (nI nm), .ref ap, .int (nI no), .ref am, .ref aw, .ref az, .ref au, .int kn, .long vP, .long vQ, .long vS, .long vT, .long vB, .long vM, .long vH, .ref ao, .ref ax, .int (nI np), .ref ay, .int (nI nl), .ref ad, .ref al, .int (nI sn), .ref ag, .int (nI ta), .int nb]))]) [0] (by decide) rfl
          have hK9 := hK.sub (tys' := []) [] rfl
          exact W.iret (v := 0) hx hb hr (fun t ht hW => ⟨⟨0, (), rfl, rfl, ⟨by rw [ht]; rw [show bI (sn + md_si a 4 + md_si b 4 ≤ 200) = 1 from (bI_p n_29).symm, show bI (md_gd a 4 = true ∧ md_gd b 4 = true) = 0 from (bI_n (fun q => b_42 q.2)).symm]; exact hP9, va_K.moved hW.alike hK9, by rw [show bI (sn + md_si a 4 + md_si b 4 ≤ 200) = 1 from (bI_p n_29).symm, show bI (md_gd a 4 = true ∧ md_gd b 4 = true) = 0 from (bI_n (fun q => b_42 q.2)).symm]; exact hD9⟩⟩, hS.F ht⟩) hS.2.2 d_MD_unit_53 hlocks
      · have b_47 := bI_t (rfl : bI (md_gd b 4 = true) = _) c_41
        refine lv_iconst (v := 1) hx hb d_MD_unit_40 (by decide) ?_
        refine lv_goto (tgt := 45) hx hb d_MD_unit_41 (by decide) ?_
        refine lv_iconst (v := 1) hx hb d_MD_unit_45 (by decide) ?_
        have hPc := hP.sub (ws' := [(h0, .inr (7, [.int th, .int (nI nm), .ref ap, .int (nI no), .ref am, .ref aw, .ref az, .ref au, .int kn, .long vP, .long vQ, .long vS, .long vT, .long vB, .long vM, .long vH, .ref ao, .ref ax, .int (nI np), .ref ay, .int (nI nl), .ref ad, .ref al, .int (nI sn), .ref ag, .int (nI ta), .int nb]))]) [0] rfl
        have hDc := hD.sub (ws' := [(h0, .inr (7, [.int th, .int (nI nm), .ref ap, .int (nI no), .ref am, .ref aw, .ref az, .ref au, .int kn, .long vP, .long vQ, .long vS, .long vT, .long vB, .long vM, .long vH, .ref ao, .ref ax, .int (nI np), .ref ay, .int (nI nl), .ref ad, .ref al, .int (nI sn), .ref ag, .int (nI ta), .int nb]))]) [0] (by decide) rfl
        have hKc := hK.sub (tys' := []) [] rfl
        have hFc := va_free (wc := [(h0, .inr (7, [.int th, .int (nI nm), .ref ap, .int (nI no), .ref am, .ref aw, .ref az, .ref au, .int kn, .long vP, .long vQ, .long vS, .long vT, .long vB, .long vM, .long vH, .ref ao, .ref ax, .int (nI np), .ref ay, .int (nI nl), .ref ad, .ref al, .int (nI sn), .ref ag, .int (nI ta), .int nb]))]) hD hS hA [0] rfl
        refine va_calli (va_runV (As := [.int 1, .int 1, .int 1]) (rest := []) ⟨hx, hb, hml, hown, hts⟩ (c_MD_goes l dC dI s.heap.size h0 th nm ap no am aw az au kn vP vQ vS vT vB vM vH ao ax np ay nl ad al sn ag ta nb 1 1 1) (cwV 3 hts (xgV wm_793 wm_795 wm_13 wm_34 wm_796) rfl rfl rfl (by decide +kernel) ⟨Nat.le_of_ble_eq_true rfl, Nat.le_of_ble_eq_true rfl⟩) ⟨xw_blind, va_recv hKc hPc (ci := 7) (q0 := 0) rfl rfl, fun U hU hW => ⟨rfl, by rw [hU], hz.warm hW, by rw [hU]; exact hPc, va_K.moved hW.alike hKc, hDc.weaken (fun _ _ _ _ => trivial)⟩⟩ rfl rfl hl.1 rfl (lv_room (Nat.le_of_ble_eq_true rfl)) d_MD_unit_46 ⟨Nat.le_of_ble_eq_true rfl, Nat.le_of_ble_eq_true rfl⟩) hS (fun q _ h => hFc q h) hFc (fun r_48 _ t H1 locs ht hvm hw_49 hB hz1 hk1 hS => ?_)
        obtain ⟨hP1, hK1, hD1⟩ := hB
        rw [ht] at hP1
        have hK1 := va_K.moved hvm.symm hK1
        obtain ⟨hP, hD⟩ := va_join (wr := []) (w1 := [(h0, .inr (7, [.int (md_th 1 1 1), .int (nI nm), .ref ap, .int (nI no), .ref am, .ref aw, .ref az, .ref au, .int kn, .long vP, .long vQ, .long vS, .long vT, .long vB, .long vM, .long vH, .ref ao, .ref ax, .int (nI np), .ref ay, .int (nI nl), .ref ad, .ref al, .int (nI sn), .ref ag, .int (nI ta), .int nb]))]) hP hD [0] [] rfl rfl (by decide) (by decide) hk1 hFc hP1 hD1
        generalize H1 = H at hP hS ⊢
        have hP : va_P (dC, dI) xCl [(h0, .inr (7, [.int (md_th 1 1 1), .int (nI nm), .ref ap, .int (nI no), .ref am, .ref aw, .ref az, .ref au, .int kn, .long vP, .long vQ, .long vS, .long vT, .long vB, .long vM, .long vH, .ref ao, .ref ax, .int (nI np), .ref ay, .int (nI nl), .ref ad, .ref al, .int (nI sn), .ref ag, .int (nI ta), .int nb]))] H := hP
        have hD : va_D A [(h0, .inr (7, [.int (md_th 1 1 1), .int (nI nm), .ref ap, .int (nI no), .ref am, .ref aw, .ref az, .ref au, .int kn, .long vP, .long vQ, .long vS, .long vT, .long vB, .long vM, .long vH, .ref ao, .ref ax, .int (nI np), .ref ay, .int (nI nl), .ref ad, .ref al, .int (nI sn), .ref ag, .int (nI ta), .int nb]))] := hD
        subst hw_49
        refine lv_if_ne (tgt := 54) hx hb d_MD_unit_49 (by decide) (fun c_50 => ?_) (fun c_50 => ?_)
        · exact absurd (md_th_all (bI_t rfl c_50)) (fun q => hn ⟨n_29, ⟨b_38, b_47⟩⟩)
        · have b_51 := bI_f (rfl : bI (md_th 1 1 1 = 0) = _) c_50
          refine lv_iconst (v := 0) hx hb d_MD_unit_52 (by decide) ?_
          have hP9 := hP.sub (ws' := [(h0, .inr (7, [.int (md_th 1 1 1), .int (nI nm), .ref ap, .int (nI no), .ref am, .ref aw, .ref az, .ref au, .int kn, .long vP, .long vQ, .long vS, .long vT, .long vB, .long vM, .long vH, .ref ao, .ref ax, .int (nI np), .ref ay, .int (nI nl), .ref ad, .ref al, .int (nI sn), .ref ag, .int (nI ta), .int nb]))]) [0] rfl
          have hD9 := hD.sub (ws' := [(h0, .inr (7, [.int (md_th 1 1 1), .int (nI nm), .ref ap, .int (nI no), .ref am, .ref aw, .ref az, .ref au, .int kn, .long vP, .long vQ, .long vS, .long vT, .long vB, .long vM, .long vH, .ref ao, .ref ax, .int (nI np), .ref ay, .int (nI nl), .ref ad, .ref al, .int (nI sn), .ref ag, .int (nI ta), .int nb]))]) [0] (by decide) rfl
          have hK9 := hK.sub (tys' := []) [] rfl
          exact W.iret (v := 0) hx hb hr (fun t ht hW => ⟨⟨0, (), rfl, rfl, ⟨by rw [ht]; rw [show bI (sn + md_si a 4 + md_si b 4 ≤ 200) = 1 from (bI_p n_29).symm, show bI (md_gd a 4 = true ∧ md_gd b 4 = true) = 1 from (bI_p ⟨b_38, b_47⟩).symm]; exact hP9, va_K.moved hW.alike hK9, by rw [show bI (sn + md_si a 4 + md_si b 4 ≤ 200) = 1 from (bI_p n_29).symm, show bI (md_gd a 4 = true ∧ md_gd b 4 = true) = 1 from (bI_p ⟨b_38, b_47⟩).symm]; exact hD9⟩⟩, hS.F ht⟩) hS.2.2 d_MD_unit_53 hlocks
set_option maxHeartbeats 4000000 in
set_option maxRecDepth 100000 in
/-- count(0) -/
theorem c_MD_count_y0 (l : Launch) (dC : Nat → ClassId) (dI : Nat → Nat → Nat) (sz : Nat) (h0 : Nat) (th : Int32) (nm : Nat) (ap : Nat) (no : Nat) (am : Nat) (aw : Nat) (az : Nat) (au : Nat) (kn : Int32) (vP : Int64) (vQ : Int64) (vS : Int64) (vT : Int64) (vB : Int64) (vM : Int64) (vH : Int64) (ao : Nat) (ax : Nat) (np : Nat) (ay : Nat) (nl : Nat) (ad : Nat) (al : Nat) (sn : Nat) (ag : Nat) (ta : Nat) (nb : Int32) (ku : ClassId) (gu : Nat → Int32) (hno : no ≤ 20) : Met l xy_MD_count xw_MD_count ({ frames := 1, cells := 0, slots := 0, locals := 23 }) (xp_w [.ref h0, .int 0] sz (dC, dI) xCl [(h0, .inr (7, [.int th, .int (nI nm), .ref ap, .int (nI no), .ref am, .ref aw, .ref az, .ref au, .int kn, .long vP, .long vQ, .long vS, .long vT, .long vB, .long vM, .long vH, .ref ao, .ref ax, .int (nI np), .ref ay, .int (nI nl), .ref ad, .ref al, .int (nI sn), .ref ag, .int (nI ta), .int nb])), (au, .inl (ku, 20, .inl gu))] [(ku, .boolean)]) (va_Qi (fun (r : Int32) (_ : Unit) => r = nI nm) (fun _ t => xb_w (dC, dI) xCl [(h0, .inr (7, [.int 0, .int (nI nm), .ref ap, .int (nI no), .ref am, .ref aw, .ref az, .ref au, .int kn, .long vP, .long vQ, .long vS, .long vT, .long vB, .long vM, .long vH, .ref ao, .ref ax, .int (nI np), .ref ay, .int (nI nl), .ref ad, .ref al, .int (nI sn), .ref ag, .int (nI ta), .int nb])), (au, .inl (ku, 20, .inl gu))] [(ku, .boolean)] (va_A [(h0, .inr (7, [.int th, .int (nI nm), .ref ap, .int (nI no), .ref am, .ref aw, .ref az, .ref au, .int kn, .long vP, .long vQ, .long vS, .long vT, .long vB, .long vM, .long vH, .ref ao, .ref ax, .int (nI np), .ref ay, .int (nI nl), .ref ad, .ref al, .int (nI sn), .ref ag, .int (nI ta), .int nb])), (au, .inl (ku, 20, .inl gu))] sz) t) (va_A [(h0, .inr (7, [.int th, .int (nI nm), .ref ap, .int (nI no), .ref am, .ref aw, .ref az, .ref au, .int kn, .long vP, .long vQ, .long vS, .long vT, .long vB, .long vM, .long vH, .ref ao, .ref ax, .int (nI np), .ref ay, .int (nI nl), .ref ad, .ref al, .int (nI sn), .ref ag, .int (nI ta), .int nb])), (au, .inl (ku, 20, .inl gu))] sz)) 0 0 (va_A [(h0, .inr (7, [.int th, .int (nI nm), .ref ap, .int (nI no), .ref am, .ref aw, .ref az, .ref au, .int kn, .long vP, .long vQ, .long vS, .long vT, .long vB, .long vM, .long vH, .ref ao, .ref ax, .int (nI np), .ref ay, .int (nI nl), .ref ad, .ref al, .int (nI sn), .ref ag, .int (nI ta), .int nb])), (au, .inl (ku, 20, .inl gu))] sz) := by
  refine Met.ofW (cc := prog_9_method_37_code) (maxL := 2) (ret := (some .int)) (by decide) rfl ?_
  intro p e s m args below meth c s₁ B hml hv
  obtain ⟨rfl, hsz, hz, hP, hK, hD0⟩ := hv
  have hx := B.exec
  have hb := B.bytes
  have hr := B.returns
  have hts := atoms_spec (ws := xw_MD_count) B.pre
  have hown : s.vm.findClass xR_MD = some m.cls := findClass_of_methodNamed B.named
  have hlocks := B.notSynchronized
  subst hsz
  have hD := hD0.self (sz := s.heap.size)
  generalize hAe : va_A [(h0, .inr (7, [.int th, .int (nI nm), .ref ap, .int (nI no), .ref am, .ref aw, .ref az, .ref au, .int kn, .long vP, .long vQ, .long vS, .long vT, .long vB, .long vM, .long vH, .ref ao, .ref ax, .int (nI np), .ref ay, .int (nI nl), .ref ad, .ref al, .int (nI sn), .ref ag, .int (nI ta), .int nb])), (au, .inl (ku, 20, .inl gu))] s.heap.size = A at hD ⊢
  have hA : ∀ q : Nat, s.heap.size ≤ q → A q := fun q h => by rw [← hAe]; exact Or.inr h
  have hS : va_S A s.heap s.heap [] := va_S.rf
  have hP : va_P (dC, dI) xCl [(h0, .inr (7, [.int th, .int (nI nm), .ref ap, .int (nI no), .ref am, .ref aw, .ref az, .ref au, .int kn, .long vP, .long vQ, .long vS, .long vT, .long vB, .long vM, .long vH, .ref ao, .ref ax, .int (nI np), .ref ay, .int (nI nl), .ref ad, .ref al, .int (nI sn), .ref ag, .int (nI ta), .int nb])), (au, .inl (ku, 20, .inl gu))] s.heap := hP
  have hl := lv_entry ([.ref h0, .int 0]) (n := 2) (Nat.le_of_ble_eq_true rfl)
  rw [lg_entry_eq]
  generalize (lg_sl ([.ref h0, .int 0]) ++ List.replicate (2 - (lg_sl ([.ref h0, .int 0])).length) Slot.unset).toArray = ls at hl ⊢
  have hl : lv_has ls 2 [(0, .ref h0), (1, .int 0)] := hl
  refine lv_aload_n hx hb d_MD_count_0 rfl (lv_at hl 0 rfl) ?_
  refine lv_iload_n hx hb d_MD_count_1 rfl (lv_at hl 1 rfl) ?_
  refine lv_iconst (v := 0) hx hb d_MD_count_2 (by decide) ?_
  refine lv_iconst (v := 5) hx hb d_MD_count_3 (by decide) ?_
  refine xr_calli (va_runS (As := [.int 0, .int 0, .int 5]) (rest := [.ref h0]) ⟨hx, hb, hml, hown, hts⟩ (c_MD_within l dC dI 0 0 5) (va_cwS 3 hts (xgS wm_790 wm_791 wm_34 wm_792) rfl rfl rfl (by decide +kernel) ⟨Nat.le_of_ble_eq_true rfl, Nat.le_of_ble_eq_true rfl⟩) ⟨xp_blind, fun U hU hW => ⟨rfl, hz.warm hW, by rw [hU]; exact hP.sub [] rfl, va_K.moved hW.alike (hK.sub [] rfl)⟩⟩ rfl rfl hl.1 rfl (lv_room (Nat.le_of_ble_eq_true rfl)) d_MD_count_4 ⟨Nat.le_of_ble_eq_true rfl, Nat.le_of_ble_eq_true rfl⟩) (fun r_1 h_2 => ?_)
  subst h_2
  refine lv_iconst (v := 1) hx hb d_MD_count_7 (by decide) ?_
  refine lv_iconst (v := 1) hx hb d_MD_count_8 (by decide) ?_
  have hPc := hP.sub (ws' := [(h0, .inr (7, [.int th, .int (nI nm), .ref ap, .int (nI no), .ref am, .ref aw, .ref az, .ref au, .int kn, .long vP, .long vQ, .long vS, .long vT, .long vB, .long vM, .long vH, .ref ao, .ref ax, .int (nI np), .ref ay, .int (nI nl), .ref ad, .ref al, .int (nI sn), .ref ag, .int (nI ta), .int nb]))]) [0] rfl
  have hDc := hD.sub (ws' := [(h0, .inr (7, [.int th, .int (nI nm), .ref ap, .int (nI no), .ref am, .ref aw, .ref az, .ref au, .int kn, .long vP, .long vQ, .long vS, .long vT, .long vB, .long vM, .long vH, .ref ao, .ref ax, .int (nI np), .ref ay, .int (nI nl), .ref ad, .ref al, .int (nI sn), .ref ag, .int (nI ta), .int nb]))]) [0] (by decide) rfl
  have hKc := hK.sub (tys' := []) [] rfl
  have hFc := va_free (wc := [(h0, .inr (7, [.int th, .int (nI nm), .ref ap, .int (nI no), .ref am, .ref aw, .ref az, .ref au, .int kn, .long vP, .long vQ, .long vS, .long vT, .long vB, .long vM, .long vH, .ref ao, .ref ax, .int (nI np), .ref ay, .int (nI nl), .ref ad, .ref al, .int (nI sn), .ref ag, .int (nI ta), .int nb]))]) hD hS hA [0] rfl
  refine va_calli (va_runV (As := [.int (bI (md_win 0 0 5)), .int 1, .int 1]) (rest := []) ⟨hx, hb, hml, hown, hts⟩ (c_MD_goes l dC dI s.heap.size h0 th nm ap no am aw az au kn vP vQ vS vT vB vM vH ao ax np ay nl ad al sn ag ta nb (bI (md_win 0 0 5)) 1 1) (cwV 3 hts (xgV wm_793 wm_795 wm_13 wm_34 wm_796) rfl rfl rfl (by decide +kernel) ⟨Nat.le_of_ble_eq_true rfl, Nat.le_of_ble_eq_true rfl⟩) ⟨xw_blind, va_recv hKc hPc (ci := 7) (q0 := 0) rfl rfl, fun U hU hW => ⟨rfl, by rw [hU], hz.warm hW, by rw [hU]; exact hPc, va_K.moved hW.alike hKc, hDc.weaken (fun _ _ _ _ => trivial)⟩⟩ rfl rfl hl.1 rfl (lv_room (Nat.le_of_ble_eq_true rfl)) d_MD_count_9 ⟨Nat.le_of_ble_eq_true rfl, Nat.le_of_ble_eq_true rfl⟩) hS (fun q _ h => hFc q h) hFc (fun r_3 _ t H1 locs ht hvm hw_4 hB hz1 hk1 hS => ?_)
  obtain ⟨hP1, hK1, hD1⟩ := hB
  rw [ht] at hP1
  have hK1 := va_K.moved hvm.symm hK1
  obtain ⟨hP, hD⟩ := va_join (wr := [(au, .inl (ku, 20, .inl gu))]) (w1 := [(h0, .inr (7, [.int (md_th (bI (md_win 0 0 5)) 1 1), .int (nI nm), .ref ap, .int (nI no), .ref am, .ref aw, .ref az, .ref au, .int kn, .long vP, .long vQ, .long vS, .long vT, .long vB, .long vM, .long vH, .ref ao, .ref ax, .int (nI np), .ref ay, .int (nI nl), .ref ad, .ref al, .int (nI sn), .ref ag, .int (nI ta), .int nb]))]) hP hD [0] [1] rfl rfl (by decide) (by decide) hk1 hFc hP1 hD1
  generalize H1 = H at hP hS ⊢
  have hP : va_P (dC, dI) xCl [(au, .inl (ku, 20, .inl gu)), (h0, .inr (7, [.int (md_th (bI (md_win 0 0 5)) 1 1), .int (nI nm), .ref ap, .int (nI no), .ref am, .ref aw, .ref az, .ref au, .int kn, .long vP, .long vQ, .long vS, .long vT, .long vB, .long vM, .long vH, .ref ao, .ref ax, .int (nI np), .ref ay, .int (nI nl), .ref ad, .ref al, .int (nI sn), .ref ag, .int (nI ta), .int nb]))] H := hP
  have hD : va_D A [(au, .inl (ku, 20, .inl gu)), (h0, .inr (7, [.int (md_th (bI (md_win 0 0 5)) 1 1), .int (nI nm), .ref ap, .int (nI no), .ref am, .ref aw, .ref az, .ref au, .int kn, .long vP, .long vQ, .long vS, .long vT, .long vB, .long vM, .long vH, .ref ao, .ref ax, .int (nI np), .ref ay, .int (nI nl), .ref ad, .ref al, .int (nI sn), .ref ag, .int (nI ta), .int nb]))] := hD
  subst hw_4
  refine lv_if_ne (tgt := 17) hx hb d_MD_count_12 (by decide) (fun c_5 => ?_) (fun c_5 => ?_)
  · have b_6 := bI_t (rfl : bI (md_th (bI (md_win 0 0 5)) 1 1 = 0) = _) c_5
    refine lv_iload_n hx hb d_MD_count_17 rfl (lv_at hl 1 rfl) ?_
    refine lv_tableIn (off := 34) (tgt := 52) hx hb d_MD_count_18 (by decide) (by decide) rfl (by decide) ?_
    refine lv_aload_n hx hb d_MD_count_52 rfl (lv_at hl 0 rfl) ?_
    refine va_get (D := (dC, dI)) (ci := 7) (v := .int (nI nm)) (C := xR_MD) (T := xT_MD) (N := 27) hx hb hts (fun w h => List.mem_cons_of_mem _ (iw_MD w h)) hown hK hP 1 rfl rfl 1 (by decide) (hts _ (List.mem_cons_of_mem _ wm_698)) (fun _ h9 => h9) rfl d_MD_count_53 ?_
    rw [md_th_0 (bI_ne ⟨by decide, by decide⟩) (by decide) (by decide)] at hP hD
    have hP9 := hP.sub (ws' := [(h0, .inr (7, [.int 0, .int (nI nm), .ref ap, .int (nI no), .ref am, .ref aw, .ref az, .ref au, .int kn, .long vP, .long vQ, .long vS, .long vT, .long vB, .long vM, .long vH, .ref ao, .ref ax, .int (nI np), .ref ay, .int (nI nl), .ref ad, .ref al, .int (nI sn), .ref ag, .int (nI ta), .int nb])), (au, .inl (ku, 20, .inl gu))]) [1, 0] rfl
    have hD9 := hD.sub (ws' := [(h0, .inr (7, [.int 0, .int (nI nm), .ref ap, .int (nI no), .ref am, .ref aw, .ref az, .ref au, .int kn, .long vP, .long vQ, .long vS, .long vT, .long vB, .long vM, .long vH, .ref ao, .ref ax, .int (nI np), .ref ay, .int (nI nl), .ref ad, .ref al, .int (nI sn), .ref ag, .int (nI ta), .int nb])), (au, .inl (ku, 20, .inl gu))]) [1, 0] (by decide) rfl
    have hK9 := hK.sub (tys' := [(ku, .boolean)]) [0] rfl
    exact W.iret (v := nI nm) hx hb hr (fun t ht hW => ⟨⟨nI nm, (), rfl, rfl, ⟨by rw [ht]; exact hP9, va_K.moved hW.alike hK9, by exact hD9⟩⟩, hS.F ht⟩) hS.2.2 d_MD_count_56 hlocks
  · exact absurd (md_th_0 (bI_ne ⟨by decide, by decide⟩) (by decide) (by decide)) (bI_f rfl c_5)
set_option maxHeartbeats 4000000 in
set_option maxRecDepth 100000 in
/-- count(1) -/
theorem c_MD_count_y1 (l : Launch) (dC : Nat → ClassId) (dI : Nat → Nat → Nat) (sz : Nat) (h0 : Nat) (th : Int32) (nm : Nat) (ap : Nat) (no : Nat) (am : Nat) (aw : Nat) (az : Nat) (au : Nat) (kn : Int32) (vP : Int64) (vQ : Int64) (vS : Int64) (vT : Int64) (vB : Int64) (vM : Int64) (vH : Int64) (ao : Nat) (ax : Nat) (np : Nat) (ay : Nat) (nl : Nat) (ad : Nat) (al : Nat) (sn : Nat) (ag : Nat) (ta : Nat) (nb : Int32) (ku : ClassId) (gu : Nat → Int32) (hno : no ≤ 20) : Met l xy_MD_count xw_MD_count ({ frames := 1, cells := 0, slots := 0, locals := 23 }) (xp_w [.ref h0, .int 1] sz (dC, dI) xCl [(h0, .inr (7, [.int th, .int (nI nm), .ref ap, .int (nI no), .ref am, .ref aw, .ref az, .ref au, .int kn, .long vP, .long vQ, .long vS, .long vT, .long vB, .long vM, .long vH, .ref ao, .ref ax, .int (nI np), .ref ay, .int (nI nl), .ref ad, .ref al, .int (nI sn), .ref ag, .int (nI ta), .int nb])), (au, .inl (ku, 20, .inl gu))] [(ku, .boolean)]) (va_Qi (fun (r : Int32) (_ : Unit) => r = nI no) (fun _ t => xb_w (dC, dI) xCl [(h0, .inr (7, [.int 0, .int (nI nm), .ref ap, .int (nI no), .ref am, .ref aw, .ref az, .ref au, .int kn, .long vP, .long vQ, .long vS, .long vT, .long vB, .long vM, .long vH, .ref ao, .ref ax, .int (nI np), .ref ay, .int (nI nl), .ref ad, .ref al, .int (nI sn), .ref ag, .int (nI ta), .int nb])), (au, .inl (ku, 20, .inl gu))] [(ku, .boolean)] (va_A [(h0, .inr (7, [.int th, .int (nI nm), .ref ap, .int (nI no), .ref am, .ref aw, .ref az, .ref au, .int kn, .long vP, .long vQ, .long vS, .long vT, .long vB, .long vM, .long vH, .ref ao, .ref ax, .int (nI np), .ref ay, .int (nI nl), .ref ad, .ref al, .int (nI sn), .ref ag, .int (nI ta), .int nb])), (au, .inl (ku, 20, .inl gu))] sz) t) (va_A [(h0, .inr (7, [.int th, .int (nI nm), .ref ap, .int (nI no), .ref am, .ref aw, .ref az, .ref au, .int kn, .long vP, .long vQ, .long vS, .long vT, .long vB, .long vM, .long vH, .ref ao, .ref ax, .int (nI np), .ref ay, .int (nI nl), .ref ad, .ref al, .int (nI sn), .ref ag, .int (nI ta), .int nb])), (au, .inl (ku, 20, .inl gu))] sz)) 0 0 (va_A [(h0, .inr (7, [.int th, .int (nI nm), .ref ap, .int (nI no), .ref am, .ref aw, .ref az, .ref au, .int kn, .long vP, .long vQ, .long vS, .long vT, .long vB, .long vM, .long vH, .ref ao, .ref ax, .int (nI np), .ref ay, .int (nI nl), .ref ad, .ref al, .int (nI sn), .ref ag, .int (nI ta), .int nb])), (au, .inl (ku, 20, .inl gu))] sz) := by
  refine Met.ofW (cc := prog_9_method_37_code) (maxL := 2) (ret := (some .int)) (by decide) rfl ?_
  intro p e s m args below meth c s₁ B hml hv
  obtain ⟨rfl, hsz, hz, hP, hK, hD0⟩ := hv
  have hx := B.exec
  have hb := B.bytes
  have hr := B.returns
  have hts := atoms_spec (ws := xw_MD_count) B.pre
  have hown : s.vm.findClass xR_MD = some m.cls := findClass_of_methodNamed B.named
  have hlocks := B.notSynchronized
  subst hsz
  have hD := hD0.self (sz := s.heap.size)
  generalize hAe : va_A [(h0, .inr (7, [.int th, .int (nI nm), .ref ap, .int (nI no), .ref am, .ref aw, .ref az, .ref au, .int kn, .long vP, .long vQ, .long vS, .long vT, .long vB, .long vM, .long vH, .ref ao, .ref ax, .int (nI np), .ref ay, .int (nI nl), .ref ad, .ref al, .int (nI sn), .ref ag, .int (nI ta), .int nb])), (au, .inl (ku, 20, .inl gu))] s.heap.size = A at hD ⊢
  have hA : ∀ q : Nat, s.heap.size ≤ q → A q := fun q h => by rw [← hAe]; exact Or.inr h
  have hS : va_S A s.heap s.heap [] := va_S.rf
  have hP : va_P (dC, dI) xCl [(h0, .inr (7, [.int th, .int (nI nm), .ref ap, .int (nI no), .ref am, .ref aw, .ref az, .ref au, .int kn, .long vP, .long vQ, .long vS, .long vT, .long vB, .long vM, .long vH, .ref ao, .ref ax, .int (nI np), .ref ay, .int (nI nl), .ref ad, .ref al, .int (nI sn), .ref ag, .int (nI ta), .int nb])), (au, .inl (ku, 20, .inl gu))] s.heap := hP
  have hl := lv_entry ([.ref h0, .int 1]) (n := 2) (Nat.le_of_ble_eq_true rfl)
  rw [lg_entry_eq]
  generalize (lg_sl ([.ref h0, .int 1]) ++ List.replicate (2 - (lg_sl ([.ref h0, .int 1])).length) Slot.unset).toArray = ls at hl ⊢
  have hl : lv_has ls 2 [(0, .ref h0), (1, .int 1)] := hl
  refine lv_aload_n hx hb d_MD_count_0 rfl (lv_at hl 0 rfl) ?_
  refine lv_iload_n hx hb d_MD_count_1 rfl (lv_at hl 1 rfl) ?_
  refine lv_iconst (v := 0) hx hb d_MD_count_2 (by decide) ?_
  refine lv_iconst (v := 5) hx hb d_MD_count_3 (by decide) ?_
  refine xr_calli (va_runS (As := [.int 1, .int 0, .int 5]) (rest := [.ref h0]) ⟨hx, hb, hml, hown, hts⟩ (c_MD_within l dC dI 1 0 5) (va_cwS 3 hts (xgS wm_790 wm_791 wm_34 wm_792) rfl rfl rfl (by decide +kernel) ⟨Nat.le_of_ble_eq_true rfl, Nat.le_of_ble_eq_true rfl⟩) ⟨xp_blind, fun U hU hW => ⟨rfl, hz.warm hW, by rw [hU]; exact hP.sub [] rfl, va_K.moved hW.alike (hK.sub [] rfl)⟩⟩ rfl rfl hl.1 rfl (lv_room (Nat.le_of_ble_eq_true rfl)) d_MD_count_4 ⟨Nat.le_of_ble_eq_true rfl, Nat.le_of_ble_eq_true rfl⟩) (fun r_1 h_2 => ?_)
  subst h_2
  refine lv_iconst (v := 1) hx hb d_MD_count_7 (by decide) ?_
  refine lv_iconst (v := 1) hx hb d_MD_count_8 (by decide) ?_
  have hPc := hP.sub (ws' := [(h0, .inr (7, [.int th, .int (nI nm), .ref ap, .int (nI no), .ref am, .ref aw, .ref az, .ref au, .int kn, .long vP, .long vQ, .long vS, .long vT, .long vB, .long vM, .long vH, .ref ao, .ref ax, .int (nI np), .ref ay, .int (nI nl), .ref ad, .ref al, .int (nI sn), .ref ag, .int (nI ta), .int nb]))]) [0] rfl
  have hDc := hD.sub (ws' := [(h0, .inr (7, [.int th, .int (nI nm), .ref ap, .int (nI no), .ref am, .ref aw, .ref az, .ref au, .int kn, .long vP, .long vQ, .long vS, .long vT, .long vB, .long vM, .long vH, .ref ao, .ref ax, .int (nI np), .ref ay, .int (nI nl), .ref ad, .ref al, .int (nI sn), .ref ag, .int (nI ta), .int nb]))]) [0] (by decide) rfl
  have hKc := hK.sub (tys' := []) [] rfl
  have hFc := va_free (wc := [(h0, .inr (7, [.int th, .int (nI nm), .ref ap, .int (nI no), .ref am, .ref aw, .ref az, .ref au, .int kn, .long vP, .long vQ, .long vS, .long vT, .long vB, .long vM, .long vH, .ref ao, .ref ax, .int (nI np), .ref ay, .int (nI nl), .ref ad, .ref al, .int (nI sn), .ref ag, .int (nI ta), .int nb]))]) hD hS hA [0] rfl
  refine va_calli (va_runV (As := [.int (bI (md_win 1 0 5)), .int 1, .int 1]) (rest := []) ⟨hx, hb, hml, hown, hts⟩ (c_MD_goes l dC dI s.heap.size h0 th nm ap no am aw az au kn vP vQ vS vT vB vM vH ao ax np ay nl ad al sn ag ta nb (bI (md_win 1 0 5)) 1 1) (cwV 3 hts (xgV wm_793 wm_795 wm_13 wm_34 wm_796) rfl rfl rfl (by decide +kernel) ⟨Nat.le_of_ble_eq_true rfl, Nat.le_of_ble_eq_true rfl⟩) ⟨xw_blind, va_recv hKc hPc (ci := 7) (q0 := 0) rfl rfl, fun U hU hW => ⟨rfl, by rw [hU], hz.warm hW, by rw [hU]; exact hPc, va_K.moved hW.alike hKc, hDc.weaken (fun _ _ _ _ => trivial)⟩⟩ rfl rfl hl.1 rfl (lv_room (Nat.le_of_ble_eq_true rfl)) d_MD_count_9 ⟨Nat.le_of_ble_eq_true rfl, Nat.le_of_ble_eq_true rfl⟩) hS (fun q _ h => hFc q h) hFc (fun r_3 _ t H1 locs ht hvm hw_4 hB hz1 hk1 hS => ?_)
  obtain ⟨hP1, hK1, hD1⟩ := hB
  rw [ht] at hP1
  have hK1 := va_K.moved hvm.symm hK1
  obtain ⟨hP, hD⟩ := va_join (wr := [(au, .inl (ku, 20, .inl gu))]) (w1 := [(h0, .inr (7, [.int (md_th (bI (md_win 1 0 5)) 1 1), .int (nI nm), .ref ap, .int (nI no), .ref am, .ref aw, .ref az, .ref au, .int kn, .long vP, .long vQ, .long vS, .long vT, .long vB, .long vM, .long vH, .ref ao, .ref ax, .int (nI np), .ref ay, .int (nI nl), .ref ad, .ref al, .int (nI sn), .ref ag, .int (nI ta), .int nb]))]) hP hD [0] [1] rfl rfl (by decide) (by decide) hk1 hFc hP1 hD1
  generalize H1 = H at hP hS ⊢
  have hP : va_P (dC, dI) xCl [(au, .inl (ku, 20, .inl gu)), (h0, .inr (7, [.int (md_th (bI (md_win 1 0 5)) 1 1), .int (nI nm), .ref ap, .int (nI no), .ref am, .ref aw, .ref az, .ref au, .int kn, .long vP, .long vQ, .long vS, .long vT, .long vB, .long vM, .long vH, .ref ao, .ref ax, .int (nI np), .ref ay, .int (nI nl), .ref ad, .ref al, .int (nI sn), .ref ag, .int (nI ta), .int nb]))] H := hP
  have hD : va_D A [(au, .inl (ku, 20, .inl gu)), (h0, .inr (7, [.int (md_th (bI (md_win 1 0 5)) 1 1), .int (nI nm), .ref ap, .int (nI no), .ref am, .ref aw, .ref az, .ref au, .int kn, .long vP, .long vQ, .long vS, .long vT, .long vB, .long vM, .long vH, .ref ao, .ref ax, .int (nI np), .ref ay, .int (nI nl), .ref ad, .ref al, .int (nI sn), .ref ag, .int (nI ta), .int nb]))] := hD
  subst hw_4
  refine lv_if_ne (tgt := 17) hx hb d_MD_count_12 (by decide) (fun c_5 => ?_) (fun c_5 => ?_)
  · have b_6 := bI_t (rfl : bI (md_th (bI (md_win 1 0 5)) 1 1 = 0) = _) c_5
    refine lv_iload_n hx hb d_MD_count_17 rfl (lv_at hl 1 rfl) ?_
    refine lv_tableIn (off := 39) (tgt := 57) hx hb d_MD_count_18 (by decide) (by decide) rfl (by decide) ?_
    refine lv_aload_n hx hb d_MD_count_57 rfl (lv_at hl 0 rfl) ?_
    refine va_get (D := (dC, dI)) (ci := 7) (v := .int (nI no)) (C := xR_MD) (T := xT_MD) (N := 27) hx hb hts (fun w h => List.mem_cons_of_mem _ (iw_MD w h)) hown hK hP 1 rfl rfl 3 (by decide) (hts _ (List.mem_cons_of_mem _ wm_700)) (fun _ h9 => h9) rfl d_MD_count_58 ?_
    rw [md_th_0 (bI_ne ⟨by decide, by decide⟩) (by decide) (by decide)] at hP hD
    have hP9 := hP.sub (ws' := [(h0, .inr (7, [.int 0, .int (nI nm), .ref ap, .int (nI no), .ref am, .ref aw, .ref az, .ref au, .int kn, .long vP, .long vQ, .long vS, .long vT, .long vB, .long vM, .long vH, .ref ao, .ref ax, .int (nI np), .ref ay, .int (nI nl), .ref ad, .ref al, .int (nI sn), .ref ag, .int (nI ta), .int nb])), (au, .inl (ku, 20, .inl gu))]) [1, 0] rfl
    have hD9 := hD.sub (ws' := [(h0, .inr (7, [.int 0, .int (nI nm), .ref ap, .int (nI no), .ref am, .ref aw, .ref az, .ref au, .int kn, .long vP, .long vQ, .long vS, .long vT, .long vB, .long vM, .long vH, .ref ao, .ref ax, .int (nI np), .ref ay, .int (nI nl), .ref ad, .ref al, .int (nI sn), .ref ag, .int (nI ta), .int nb])), (au, .inl (ku, 20, .inl gu))]) [1, 0] (by decide) rfl
    have hK9 := hK.sub (tys' := [(ku, .boolean)]) [0] rfl
    exact W.iret (v := nI no) hx hb hr (fun t ht hW => ⟨⟨nI no, (), rfl, rfl, ⟨by rw [ht]; exact hP9, va_K.moved hW.alike hK9, by exact hD9⟩⟩, hS.F ht⟩) hS.2.2 d_MD_count_61 hlocks
  · exact absurd (md_th_0 (bI_ne ⟨by decide, by decide⟩) (by decide) (by decide)) (bI_f rfl c_5)
set_option maxHeartbeats 4000000 in
set_option maxRecDepth 100000 in
/-- count(2) -/
theorem c_MD_count_y2 (l : Launch) (dC : Nat → ClassId) (dI : Nat → Nat → Nat) (sz : Nat) (h0 : Nat) (th : Int32) (nm : Nat) (ap : Nat) (no : Nat) (am : Nat) (aw : Nat) (az : Nat) (au : Nat) (kn : Int32) (vP : Int64) (vQ : Int64) (vS : Int64) (vT : Int64) (vB : Int64) (vM : Int64) (vH : Int64) (ao : Nat) (ax : Nat) (np : Nat) (ay : Nat) (nl : Nat) (ad : Nat) (al : Nat) (sn : Nat) (ag : Nat) (ta : Nat) (nb : Int32) (ku : ClassId) (gu : Nat → Int32) (hno : no ≤ 20) : Met l xy_MD_count xw_MD_count ({ frames := 1, cells := 0, slots := 0, locals := 23 }) (xp_w [.ref h0, .int 2] sz (dC, dI) xCl [(h0, .inr (7, [.int th, .int (nI nm), .ref ap, .int (nI no), .ref am, .ref aw, .ref az, .ref au, .int kn, .long vP, .long vQ, .long vS, .long vT, .long vB, .long vM, .long vH, .ref ao, .ref ax, .int (nI np), .ref ay, .int (nI nl), .ref ad, .ref al, .int (nI sn), .ref ag, .int (nI ta), .int nb])), (au, .inl (ku, 20, .inl gu))] [(ku, .boolean)]) (va_Qi (fun (r : Int32) (_ : Unit) => r = nI (sr_cu gu no)) (fun _ t => xb_w (dC, dI) xCl [(h0, .inr (7, [.int 0, .int (nI nm), .ref ap, .int (nI no), .ref am, .ref aw, .ref az, .ref au, .int kn, .long vP, .long vQ, .long vS, .long vT, .long vB, .long vM, .long vH, .ref ao, .ref ax, .int (nI np), .ref ay, .int (nI nl), .ref ad, .ref al, .int (nI sn), .ref ag, .int (nI ta), .int nb])), (au, .inl (ku, 20, .inl gu))] [(ku, .boolean)] (va_A [(h0, .inr (7, [.int th, .int (nI nm), .ref ap, .int (nI no), .ref am, .ref aw, .ref az, .ref au, .int kn, .long vP, .long vQ, .long vS, .long vT, .long vB, .long vM, .long vH, .ref ao, .ref ax, .int (nI np), .ref ay, .int (nI nl), .ref ad, .ref al, .int (nI sn), .ref ag, .int (nI ta), .int nb])), (au, .inl (ku, 20, .inl gu))] sz) t) (va_A [(h0, .inr (7, [.int th, .int (nI nm), .ref ap, .int (nI no), .ref am, .ref aw, .ref az, .ref au, .int kn, .long vP, .long vQ, .long vS, .long vT, .long vB, .long vM, .long vH, .ref ao, .ref ax, .int (nI np), .ref ay, .int (nI nl), .ref ad, .ref al, .int (nI sn), .ref ag, .int (nI ta), .int nb])), (au, .inl (ku, 20, .inl gu))] sz)) 0 0 (va_A [(h0, .inr (7, [.int th, .int (nI nm), .ref ap, .int (nI no), .ref am, .ref aw, .ref az, .ref au, .int kn, .long vP, .long vQ, .long vS, .long vT, .long vB, .long vM, .long vH, .ref ao, .ref ax, .int (nI np), .ref ay, .int (nI nl), .ref ad, .ref al, .int (nI sn), .ref ag, .int (nI ta), .int nb])), (au, .inl (ku, 20, .inl gu))] sz) := by
  refine Met.ofW (cc := prog_9_method_37_code) (maxL := 2) (ret := (some .int)) (by decide) rfl ?_
  intro p e s m args below meth c s₁ B hml hv
  obtain ⟨rfl, hsz, hz, hP, hK, hD0⟩ := hv
  have hx := B.exec
  have hb := B.bytes
  have hr := B.returns
  have hts := atoms_spec (ws := xw_MD_count) B.pre
  have hown : s.vm.findClass xR_MD = some m.cls := findClass_of_methodNamed B.named
  have hlocks := B.notSynchronized
  subst hsz
  have hD := hD0.self (sz := s.heap.size)
  generalize hAe : va_A [(h0, .inr (7, [.int th, .int (nI nm), .ref ap, .int (nI no), .ref am, .ref aw, .ref az, .ref au, .int kn, .long vP, .long vQ, .long vS, .long vT, .long vB, .long vM, .long vH, .ref ao, .ref ax, .int (nI np), .ref ay, .int (nI nl), .ref ad, .ref al, .int (nI sn), .ref ag, .int (nI ta), .int nb])), (au, .inl (ku, 20, .inl gu))] s.heap.size = A at hD ⊢
  have hA : ∀ q : Nat, s.heap.size ≤ q → A q := fun q h => by rw [← hAe]; exact Or.inr h
  have hS : va_S A s.heap s.heap [] := va_S.rf
  have hP : va_P (dC, dI) xCl [(h0, .inr (7, [.int th, .int (nI nm), .ref ap, .int (nI no), .ref am, .ref aw, .ref az, .ref au, .int kn, .long vP, .long vQ, .long vS, .long vT, .long vB, .long vM, .long vH, .ref ao, .ref ax, .int (nI np), .ref ay, .int (nI nl), .ref ad, .ref al, .int (nI sn), .ref ag, .int (nI ta), .int nb])), (au, .inl (ku, 20, .inl gu))] s.heap := hP
  have hl := lv_entry ([.ref h0, .int 2]) (n := 2) (Nat.le_of_ble_eq_true rfl)
  rw [lg_entry_eq]
  generalize (lg_sl ([.ref h0, .int 2]) ++ List.replicate (2 - (lg_sl ([.ref h0, .int 2])).length) Slot.unset).toArray = ls at hl ⊢
  have hl : lv_has ls 2 [(0, .ref h0), (1, .int 2)] := hl
  refine lv_aload_n hx hb d_MD_count_0 rfl (lv_at hl 0 rfl) ?_
  refine lv_iload_n hx hb d_MD_count_1 rfl (lv_at hl 1 rfl) ?_
  refine lv_iconst (v := 0) hx hb d_MD_count_2 (by decide) ?_
  refine lv_iconst (v := 5) hx hb d_MD_count_3 (by decide) ?_
  refine xr_calli (va_runS (As := [.int 2, .int 0, .int 5]) (rest := [.ref h0]) ⟨hx, hb, hml, hown, hts⟩ (c_MD_within l dC dI 2 0 5) (va_cwS 3 hts (xgS wm_790 wm_791 wm_34 wm_792) rfl rfl rfl (by decide +kernel) ⟨Nat.le_of_ble_eq_true rfl, Nat.le_of_ble_eq_true rfl⟩) ⟨xp_blind, fun U hU hW => ⟨rfl, hz.warm hW, by rw [hU]; exact hP.sub [] rfl, va_K.moved hW.alike (hK.sub [] rfl)⟩⟩ rfl rfl hl.1 rfl (lv_room (Nat.le_of_ble_eq_true rfl)) d_MD_count_4 ⟨Nat.le_of_ble_eq_true rfl, Nat.le_of_ble_eq_true rfl⟩) (fun r_1 h_2 => ?_)
  subst h_2
  refine lv_iconst (v := 1) hx hb d_MD_count_7 (by decide) ?_
  refine lv_iconst (v := 1) hx hb d_MD_count_8 (by decide) ?_
  have hPc := hP.sub (ws' := [(h0, .inr (7, [.int th, .int (nI nm), .ref ap, .int (nI no), .ref am, .ref aw, .ref az, .ref au, .int kn, .long vP, .long vQ, .long vS, .long vT, .long vB, .long vM, .long vH, .ref ao, .ref ax, .int (nI np), .ref ay, .int (nI nl), .ref ad, .ref al, .int (nI sn), .ref ag, .int (nI ta), .int nb]))]) [0] rfl
  have hDc := hD.sub (ws' := [(h0, .inr (7, [.int th, .int (nI nm), .ref ap, .int (nI no), .ref am, .ref aw, .ref az, .ref au, .int kn, .long vP, .long vQ, .long vS, .long vT, .long vB, .long vM, .long vH, .ref ao, .ref ax, .int (nI np), .ref ay, .int (nI nl), .ref ad, .ref al, .int (nI sn), .ref ag, .int (nI ta), .int nb]))]) [0] (by decide) rfl
  have hKc := hK.sub (tys' := []) [] rfl
  have hFc := va_free (wc := [(h0, .inr (7, [.int th, .int (nI nm), .ref ap, .int (nI no), .ref am, .ref aw, .ref az, .ref au, .int kn, .long vP, .long vQ, .long vS, .long vT, .long vB, .long vM, .long vH, .ref ao, .ref ax, .int (nI np), .ref ay, .int (nI nl), .ref ad, .ref al, .int (nI sn), .ref ag, .int (nI ta), .int nb]))]) hD hS hA [0] rfl
  refine va_calli (va_runV (As := [.int (bI (md_win 2 0 5)), .int 1, .int 1]) (rest := []) ⟨hx, hb, hml, hown, hts⟩ (c_MD_goes l dC dI s.heap.size h0 th nm ap no am aw az au kn vP vQ vS vT vB vM vH ao ax np ay nl ad al sn ag ta nb (bI (md_win 2 0 5)) 1 1) (cwV 3 hts (xgV wm_793 wm_795 wm_13 wm_34 wm_796) rfl rfl rfl (by decide +kernel) ⟨Nat.le_of_ble_eq_true rfl, Nat.le_of_ble_eq_true rfl⟩) ⟨xw_blind, va_recv hKc hPc (ci := 7) (q0 := 0) rfl rfl, fun U hU hW => ⟨rfl, by rw [hU], hz.warm hW, by rw [hU]; exact hPc, va_K.moved hW.alike hKc, hDc.weaken (fun _ _ _ _ => trivial)⟩⟩ rfl rfl hl.1 rfl (lv_room (Nat.le_of_ble_eq_true rfl)) d_MD_count_9 ⟨Nat.le_of_ble_eq_true rfl, Nat.le_of_ble_eq_true rfl⟩) hS (fun q _ h => hFc q h) hFc (fun r_3 _ t H1 locs ht hvm hw_4 hB hz1 hk1 hS => ?_)
  obtain ⟨hP1, hK1, hD1⟩ := hB
  rw [ht] at hP1
  have hK1 := va_K.moved hvm.symm hK1
  obtain ⟨hP, hD⟩ := va_join (wr := [(au, .inl (ku, 20, .inl gu))]) (w1 := [(h0, .inr (7, [.int (md_th (bI (md_win 2 0 5)) 1 1), .int (nI nm), .ref ap, .int (nI no), .ref am, .ref aw, .ref az, .ref au, .int kn, .long vP, .long vQ, .long vS, .long vT, .long vB, .long vM, .long vH, .ref ao, .ref ax, .int (nI np), .ref ay, .int (nI nl), .ref ad, .ref al, .int (nI sn), .ref ag, .int (nI ta), .int nb]))]) hP hD [0] [1] rfl rfl (by decide) (by decide) hk1 hFc hP1 hD1
  generalize H1 = H at hP hS ⊢
  have hP : va_P (dC, dI) xCl [(au, .inl (ku, 20, .inl gu)), (h0, .inr (7, [.int (md_th (bI (md_win 2 0 5)) 1 1), .int (nI nm), .ref ap, .int (nI no), .ref am, .ref aw, .ref az, .ref au, .int kn, .long vP, .long vQ, .long vS, .long vT, .long vB, .long vM, .long vH, .ref ao, .ref ax, .int (nI np), .ref ay, .int (nI nl), .ref ad, .ref al, .int (nI sn), .ref ag, .int (nI ta), .int nb]))] H := hP
  have hD : va_D A [(au, .inl (ku, 20, .inl gu)), (h0, .inr (7, [.int (md_th (bI (md_win 2 0 5)) 1 1), .int (nI nm), .ref ap, .int (nI no), .ref am, .ref aw, .ref az, .ref au, .int kn, .long vP, .long vQ, .long vS, .long vT, .long vB, .long vM, .long vH, .ref ao, .ref ax, .int (nI np), .ref ay, .int (nI nl), .ref ad, .ref al, .int (nI sn), .ref ag, .int (nI ta), .int nb]))] := hD
  subst hw_4
  refine lv_if_ne (tgt := 17) hx hb d_MD_count_12 (by decide) (fun c_5 => ?_) (fun c_5 => ?_)
  · have b_6 := bI_t (rfl : bI (md_th (bI (md_win 2 0 5)) 1 1 = 0) = _) c_5
    refine lv_iload_n hx hb d_MD_count_17 rfl (lv_at hl 1 rfl) ?_
    refine lv_tableIn (off := 44) (tgt := 62) hx hb d_MD_count_18 (by decide) (by decide) rfl (by decide) ?_
    refine lv_aload_n hx hb d_MD_count_62 rfl (lv_at hl 0 rfl) ?_
    refine xr_calli (va_runV (As := []) (rest := []) ⟨hx, hb, hml, hown, hts⟩ (c_MD_usedNow l dC dI h0 (md_th (bI (md_win 2 0 5)) 1 1) nm ap no am aw az au kn vP vQ vS vT vB vM vH ao ax np ay nl ad al sn ag ta nb ku gu (by first | assumption | omega | decide)) (cwV 0 hts (xgV wm_825 wm_827 wm_17 wm_34 wm_828) rfl rfl rfl (by decide +kernel) ⟨Nat.le_of_ble_eq_true rfl, Nat.le_of_ble_eq_true rfl⟩) ⟨xp_blind, va_recv hK hP (ci := 7) (q0 := 1) rfl rfl, fun U hU hW => ⟨rfl, hz.warm hW, by rw [hU]; exact hP.sub [1, 0] rfl, va_K.moved hW.alike (hK.sub [0] rfl)⟩⟩ rfl rfl hl.1 rfl (lv_room (Nat.le_of_ble_eq_true rfl)) d_MD_count_63 ⟨Nat.le_of_ble_eq_true rfl, Nat.le_of_ble_eq_true rfl⟩) (fun r_7 h_8 => ?_)
    subst h_8
    rw [md_th_0 (bI_ne ⟨by decide, by decide⟩) (by decide) (by decide)] at hP hD
    have hP9 := hP.sub (ws' := [(h0, .inr (7, [.int 0, .int (nI nm), .ref ap, .int (nI no), .ref am, .ref aw, .ref az, .ref au, .int kn, .long vP, .long vQ, .long vS, .long vT, .long vB, .long vM, .long vH, .ref ao, .ref ax, .int (nI np), .ref ay, .int (nI nl), .ref ad, .ref al, .int (nI sn), .ref ag, .int (nI ta), .int nb])), (au, .inl (ku, 20, .inl gu))]) [1, 0] rfl
    have hD9 := hD.sub (ws' := [(h0, .inr (7, [.int 0, .int (nI nm), .ref ap, .int (nI no), .ref am, .ref aw, .ref az, .ref au, .int kn, .long vP, .long vQ, .long vS, .long vT, .long vB, .long vM, .long vH, .ref ao, .ref ax, .int (nI np), .ref ay, .int (nI nl), .ref ad, .ref al, .int (nI sn), .ref ag, .int (nI ta), .int nb])), (au, .inl (ku, 20, .inl gu))]) [1, 0] (by decide) rfl
    have hK9 := hK.sub (tys' := [(ku, .boolean)]) [0] rfl
    exact W.iret (v := nI (sr_cu gu no)) hx hb hr (fun t ht hW => ⟨⟨nI (sr_cu gu no), (), rfl, rfl, ⟨by rw [ht]; exact hP9, va_K.moved hW.alike hK9, by exact hD9⟩⟩, hS.F ht⟩) hS.2.2 d_MD_count_66 hlocks
  · exact absurd (md_th_0 (bI_ne ⟨by decide, by decide⟩) (by decide) (by decide)) (bI_f rfl c_5)
set_option maxHeartbeats 4000000 in
set_option maxRecDepth 100000 in
/-- count(3) -/
theorem c_MD_count_y3 (l : Launch) (dC : Nat → ClassId) (dI : Nat → Nat → Nat) (sz : Nat) (h0 : Nat) (th : Int32) (nm : Nat) (ap : Nat) (no : Nat) (am : Nat) (aw : Nat) (az : Nat) (au : Nat) (kn : Int32) (vP : Int64) (vQ : Int64) (vS : Int64) (vT : Int64) (vB : Int64) (vM : Int64) (vH : Int64) (ao : Nat) (ax : Nat) (np : Nat) (ay : Nat) (nl : Nat) (ad : Nat) (al : Nat) (sn : Nat) (ag : Nat) (ta : Nat) (nb : Int32) (ku : ClassId) (gu : Nat → Int32) (hno : no ≤ 20) : Met l xy_MD_count xw_MD_count ({ frames := 1, cells := 0, slots := 0, locals := 23 }) (xp_w [.ref h0, .int 3] sz (dC, dI) xCl [(h0, .inr (7, [.int th, .int (nI nm), .ref ap, .int (nI no), .ref am, .ref aw, .ref az, .ref au, .int kn, .long vP, .long vQ, .long vS, .long vT, .long vB, .long vM, .long vH, .ref ao, .ref ax, .int (nI np), .ref ay, .int (nI nl), .ref ad, .ref al, .int (nI sn), .ref ag, .int (nI ta), .int nb])), (au, .inl (ku, 20, .inl gu))] [(ku, .boolean)]) (va_Qi (fun (r : Int32) (_ : Unit) => r = nI np) (fun _ t => xb_w (dC, dI) xCl [(h0, .inr (7, [.int 0, .int (nI nm), .ref ap, .int (nI no), .ref am, .ref aw, .ref az, .ref au, .int kn, .long vP, .long vQ, .long vS, .long vT, .long vB, .long vM, .long vH, .ref ao, .ref ax, .int (nI np), .ref ay, .int (nI nl), .ref ad, .ref al, .int (nI sn), .ref ag, .int (nI ta), .int nb])), (au, .inl (ku, 20, .inl gu))] [(ku, .boolean)] (va_A [(h0, .inr (7, [.int th, .int (nI nm), .ref ap, .int (nI no), .ref am, .ref aw, .ref az, .ref au, .int kn, .long vP, .long vQ, .long vS, .long vT, .long vB, .long vM, .long vH, .ref ao, .ref ax, .int (nI np), .ref ay, .int (nI nl), .ref ad, .ref al, .int (nI sn), .ref ag, .int (nI ta), .int nb])), (au, .inl (ku, 20, .inl gu))] sz) t) (va_A [(h0, .inr (7, [.int th, .int (nI nm), .ref ap, .int (nI no), .ref am, .ref aw, .ref az, .ref au, .int kn, .long vP, .long vQ, .long vS, .long vT, .long vB, .long vM, .long vH, .ref ao, .ref ax, .int (nI np), .ref ay, .int (nI nl), .ref ad, .ref al, .int (nI sn), .ref ag, .int (nI ta), .int nb])), (au, .inl (ku, 20, .inl gu))] sz)) 0 0 (va_A [(h0, .inr (7, [.int th, .int (nI nm), .ref ap, .int (nI no), .ref am, .ref aw, .ref az, .ref au, .int kn, .long vP, .long vQ, .long vS, .long vT, .long vB, .long vM, .long vH, .ref ao, .ref ax, .int (nI np), .ref ay, .int (nI nl), .ref ad, .ref al, .int (nI sn), .ref ag, .int (nI ta), .int nb])), (au, .inl (ku, 20, .inl gu))] sz) := by
  refine Met.ofW (cc := prog_9_method_37_code) (maxL := 2) (ret := (some .int)) (by decide) rfl ?_
  intro p e s m args below meth c s₁ B hml hv
  obtain ⟨rfl, hsz, hz, hP, hK, hD0⟩ := hv
  have hx := B.exec
  have hb := B.bytes
  have hr := B.returns
  have hts := atoms_spec (ws := xw_MD_count) B.pre
  have hown : s.vm.findClass xR_MD = some m.cls := findClass_of_methodNamed B.named
  have hlocks := B.notSynchronized
  subst hsz
  have hD := hD0.self (sz := s.heap.size)
  generalize hAe : va_A [(h0, .inr (7, [.int th, .int (nI nm), .ref ap, .int (nI no), .ref am, .ref aw, .ref az, .ref au, .int kn, .long vP, .long vQ, .long vS, .long vT, .long vB, .long vM, .long vH, .ref ao, .ref ax, .int (nI np), .ref ay, .int (nI nl), .ref ad, .ref al, .int (nI sn), .ref ag, .int (nI ta), .int nb])), (au, .inl (ku, 20, .inl gu))] s.heap.size = A at hD ⊢
  have hA : ∀ q : Nat, s.heap.size ≤ q → A q := fun q h => by rw [← hAe]; exact Or.inr h
  have hS : va_S A s.heap s.heap [] := va_S.rf
  have hP : va_P (dC, dI) xCl [(h0, .inr (7, [.int th, .int (nI nm), .ref ap, .int (nI no), .ref am, .ref aw, .ref az, .ref au, .int kn, .long vP, .long vQ, .long vS, .long vT, .long vB, .long vM, .long vH, .ref ao, .ref ax, .int (nI np), .ref ay, .int (nI nl), .ref ad, .ref al, .int (nI sn), .ref ag, .int (nI ta), .int nb])), (au, .inl (ku, 20, .inl gu))] s.heap := hP
  have hl := lv_entry ([.ref h0, .int 3]) (n := 2) (Nat.le_of_ble_eq_true rfl)
  rw [lg_entry_eq]
  generalize (lg_sl ([.ref h0, .int 3]) ++ List.replicate (2 - (lg_sl ([.ref h0, .int 3])).length) Slot.unset).toArray = ls at hl ⊢
  have hl : lv_has ls 2 [(0, .ref h0), (1, .int 3)] := hl
  refine lv_aload_n hx hb d_MD_count_0 rfl (lv_at hl 0 rfl) ?_
  refine lv_iload_n hx hb d_MD_count_1 rfl (lv_at hl 1 rfl) ?_
  refine lv_iconst (v := 0) hx hb d_MD_count_2 (by decide) ?_
  refine lv_iconst (v := 5) hx hb d_MD_count_3 (by decide) ?_
  refine xr_calli (va_runS (As := [.int 3, .int 0, .int 5]) (rest := [.ref h0]) ⟨hx, hb, hml, hown, hts⟩ (c_MD_within l dC dI 3 0 5) (va_cwS 3 hts (xgS wm_790 wm_791 wm_34 wm_792) rfl rfl rfl (by decide +kernel) ⟨Nat.le_of_ble_eq_true rfl, Nat.le_of_ble_eq_true rfl⟩) ⟨xp_blind, fun U hU hW => ⟨rfl, hz.warm hW, by rw [hU]; exact hP.sub [] rfl, va_K.moved hW.alike (hK.sub [] rfl)⟩⟩ rfl rfl hl.1 rfl (lv_room (Nat.le_of_ble_eq_true rfl)) d_MD_count_4 ⟨Nat.le_of_ble_eq_true rfl, Nat.le_of_ble_eq_true rfl⟩) (fun r_1 h_2 => ?_)
  subst h_2
  refine lv_iconst (v := 1) hx hb d_MD_count_7 (by decide) ?_
  refine lv_iconst (v := 1) hx hb d_MD_count_8 (by decide) ?_
  have hPc := hP.sub (ws' := [(h0, .inr (7, [.int th, .int (nI nm), .ref ap, .int (nI no), .ref am, .ref aw, .ref az, .ref au, .int kn, .long vP, .long vQ, .long vS, .long vT, .long vB, .long vM, .long vH, .ref ao, .ref ax, .int (nI np), .ref ay, .int (nI nl), .ref ad, .ref al, .int (nI sn), .ref ag, .int (nI ta), .int nb]))]) [0] rfl
  have hDc := hD.sub (ws' := [(h0, .inr (7, [.int th, .int (nI nm), .ref ap, .int (nI no), .ref am, .ref aw, .ref az, .ref au, .int kn, .long vP, .long vQ, .long vS, .long vT, .long vB, .long vM, .long vH, .ref ao, .ref ax, .int (nI np), .ref ay, .int (nI nl), .ref ad, .ref al, .int (nI sn), .ref ag, .int (nI ta), .int nb]))]) [0] (by decide) rfl
  have hKc := hK.sub (tys' := []) [] rfl
  have hFc := va_free (wc := [(h0, .inr (7, [.int th, .int (nI nm), .ref ap, .int (nI no), .ref am, .ref aw, .ref az, .ref au, .int kn, .long vP, .long vQ, .long vS, .long vT, .long vB, .long vM, .long vH, .ref ao, .ref ax, .int (nI np), .ref ay, .int (nI nl), .ref ad, .ref al, .int (nI sn), .ref ag, .int (nI ta), .int nb]))]) hD hS hA [0] rfl
  refine va_calli (va_runV (As := [.int (bI (md_win 3 0 5)), .int 1, .int 1]) (rest := []) ⟨hx, hb, hml, hown, hts⟩ (c_MD_goes l dC dI s.heap.size h0 th nm ap no am aw az au kn vP vQ vS vT vB vM vH ao ax np ay nl ad al sn ag ta nb (bI (md_win 3 0 5)) 1 1) (cwV 3 hts (xgV wm_793 wm_795 wm_13 wm_34 wm_796) rfl rfl rfl (by decide +kernel) ⟨Nat.le_of_ble_eq_true rfl, Nat.le_of_ble_eq_true rfl⟩) ⟨xw_blind, va_recv hKc hPc (ci := 7) (q0 := 0) rfl rfl, fun U hU hW => ⟨rfl, by rw [hU], hz.warm hW, by rw [hU]; exact hPc, va_K.moved hW.alike hKc, hDc.weaken (fun _ _ _ _ => trivial)⟩⟩ rfl rfl hl.1 rfl (lv_room (Nat.le_of_ble_eq_true rfl)) d_MD_count_9 ⟨Nat.le_of_ble_eq_true rfl, Nat.le_of_ble_eq_true rfl⟩) hS (fun q _ h => hFc q h) hFc (fun r_3 _ t H1 locs ht hvm hw_4 hB hz1 hk1 hS => ?_)
  obtain ⟨hP1, hK1, hD1⟩ := hB
  rw [ht] at hP1
  have hK1 := va_K.moved hvm.symm hK1
  obtain ⟨hP, hD⟩ := va_join (wr := [(au, .inl (ku, 20, .inl gu))]) (w1 := [(h0, .inr (7, [.int (md_th (bI (md_win 3 0 5)) 1 1), .int (nI nm), .ref ap, .int (nI no), .ref am, .ref aw, .ref az, .ref au, .int kn, .long vP, .long vQ, .long vS, .long vT, .long vB, .long vM, .long vH, .ref ao, .ref ax, .int (nI np), .ref ay, .int (nI nl), .ref ad, .ref al, .int (nI sn), .ref ag, .int (nI ta), .int nb]))]) hP hD [0] [1] rfl rfl (by decide) (by decide) hk1 hFc hP1 hD1
  generalize H1 = H at hP hS ⊢
  have hP : va_P (dC, dI) xCl [(au, .inl (ku, 20, .inl gu)), (h0, .inr (7, [.int (md_th (bI (md_win 3 0 5)) 1 1), .int (nI nm), .ref ap, .int (nI no), .ref am, .ref aw, .ref az, .ref au, .int kn, .long vP, .long vQ, .long vS, .long vT, .long vB, .long vM, .long vH, .ref ao, .ref ax, .int (nI np), .ref ay, .int (nI nl), .ref ad, .ref al, .int (nI sn), .ref ag, .int (nI ta), .int nb]))] H := hP
  have hD : va_D A [(au, .inl (ku, 20, .inl gu)), (h0, .inr (7, [.int (md_th (bI (md_win 3 0 5)) 1 1), .int (nI nm), .ref ap, .int (nI no), .ref am, .ref aw, .ref az, .ref au, .int kn, .long vP, .long vQ, .long vS, .long vT, .long vB, .long vM, .long vH, .ref ao, .ref ax, .int (nI np), .ref ay, .int (nI nl), .ref ad, .ref al, .int (nI sn), .ref ag, .int (nI ta), .int nb]))] := hD
  subst hw_4
  refine lv_if_ne (tgt := 17) hx hb d_MD_count_12 (by decide) (fun c_5 => ?_) (fun c_5 => ?_)
  · have b_6 := bI_t (rfl : bI (md_th (bI (md_win 3 0 5)) 1 1 = 0) = _) c_5
    refine lv_iload_n hx hb d_MD_count_17 rfl (lv_at hl 1 rfl) ?_
    refine lv_tableIn (off := 49) (tgt := 67) hx hb d_MD_count_18 (by decide) (by decide) rfl (by decide) ?_
    refine lv_aload_n hx hb d_MD_count_67 rfl (lv_at hl 0 rfl) ?_
    refine va_get (D := (dC, dI)) (ci := 7) (v := .int (nI np)) (C := xR_MD) (T := xT_MD) (N := 27) hx hb hts (fun w h => List.mem_cons_of_mem _ (iw_MD w h)) hown hK hP 1 rfl rfl 18 (by decide) (hts _ (List.mem_cons_of_mem _ wm_715)) (fun _ h9 => h9) rfl d_MD_count_68 ?_
    rw [md_th_0 (bI_ne ⟨by decide, by decide⟩) (by decide) (by decide)] at hP hD
    have hP9 := hP.sub (ws' := [(h0, .inr (7, [.int 0, .int (nI nm), .ref ap, .int (nI no), .ref am, .ref aw, .ref az, .ref au, .int kn, .long vP, .long vQ, .long vS, .long vT, .long vB, .long vM, .long vH, .ref ao, .ref ax, .int (nI np), .ref ay, .int (nI nl), .ref ad, .ref al, .int (nI sn), .ref ag, .int (nI ta), .int nb])), (au, .inl (ku, 20, .inl gu))]) [1, 0] rfl
    have hD9 := hD.sub (ws' := [(h0, .inr (7, [.int 0, .int (nI nm), .ref ap, .int (nI no), .ref am, .ref aw, .ref az, .ref au, .int kn, .long vP, .long vQ, .long vS, .long vT, .long vB, .long vM, .long vH, .ref ao, .ref ax, .int (nI np), .ref ay, .int (nI nl), .ref ad, .ref al, .int (nI sn), .ref ag, .int (nI ta), .int nb])), (au, .inl (ku, 20, .inl gu))]) [1, 0] (by decide) rfl
    have hK9 := hK.sub (tys' := [(ku, .boolean)]) [0] rfl
    exact W.iret (v := nI np) hx hb hr (fun t ht hW => ⟨⟨nI np, (), rfl, rfl, ⟨by rw [ht]; exact hP9, va_K.moved hW.alike hK9, by exact hD9⟩⟩, hS.F ht⟩) hS.2.2 d_MD_count_71 hlocks
  · exact absurd (md_th_0 (bI_ne ⟨by decide, by decide⟩) (by decide) (by decide)) (bI_f rfl c_5)
set_option maxHeartbeats 4000000 in
set_option maxRecDepth 100000 in
/-- count(4) -/
theorem c_MD_count_y4 (l : Launch) (dC : Nat → ClassId) (dI : Nat → Nat → Nat) (sz : Nat) (h0 : Nat) (th : Int32) (nm : Nat) (ap : Nat) (no : Nat) (am : Nat) (aw : Nat) (az : Nat) (au : Nat) (kn : Int32) (vP : Int64) (vQ : Int64) (vS : Int64) (vT : Int64) (vB : Int64) (vM : Int64) (vH : Int64) (ao : Nat) (ax : Nat) (np : Nat) (ay : Nat) (nl : Nat) (ad : Nat) (al : Nat) (sn : Nat) (ag : Nat) (ta : Nat) (nb : Int32) (ku : ClassId) (gu : Nat → Int32) (hno : no ≤ 20) : Met l xy_MD_count xw_MD_count ({ frames := 1, cells := 0, slots := 0, locals := 23 }) (xp_w [.ref h0, .int 4] sz (dC, dI) xCl [(h0, .inr (7, [.int th, .int (nI nm), .ref ap, .int (nI no), .ref am, .ref aw, .ref az, .ref au, .int kn, .long vP, .long vQ, .long vS, .long vT, .long vB, .long vM, .long vH, .ref ao, .ref ax, .int (nI np), .ref ay, .int (nI nl), .ref ad, .ref al, .int (nI sn), .ref ag, .int (nI ta), .int nb])), (au, .inl (ku, 20, .inl gu))] [(ku, .boolean)]) (va_Qi (fun (r : Int32) (_ : Unit) => r = nI nl) (fun _ t => xb_w (dC, dI) xCl [(h0, .inr (7, [.int 0, .int (nI nm), .ref ap, .int (nI no), .ref am, .ref aw, .ref az, .ref au, .int kn, .long vP, .long vQ, .long vS, .long vT, .long vB, .long vM, .long vH, .ref ao, .ref ax, .int (nI np), .ref ay, .int (nI nl), .ref ad, .ref al, .int (nI sn), .ref ag, .int (nI ta), .int nb])), (au, .inl (ku, 20, .inl gu))] [(ku, .boolean)] (va_A [(h0, .inr (7, [.int th, .int (nI nm), .ref ap, .int (nI no), .ref am, .ref aw, .ref az, .ref au, .int kn, .long vP, .long vQ, .long vS, .long vT, .long vB, .long vM, .long vH, .ref ao, .ref ax, .int (nI np), .ref ay, .int (nI nl), .ref ad, .ref al, .int (nI sn), .ref ag, .int (nI ta), .int nb])), (au, .inl (ku, 20, .inl gu))] sz) t) (va_A [(h0, .inr (7, [.int th, .int (nI nm), .ref ap, .int (nI no), .ref am, .ref aw, .ref az, .ref au, .int kn, .long vP, .long vQ, .long vS, .long vT, .long vB, .long vM, .long vH, .ref ao, .ref ax, .int (nI np), .ref ay, .int (nI nl), .ref ad, .ref al, .int (nI sn), .ref ag, .int (nI ta), .int nb])), (au, .inl (ku, 20, .inl gu))] sz)) 0 0 (va_A [(h0, .inr (7, [.int th, .int (nI nm), .ref ap, .int (nI no), .ref am, .ref aw, .ref az, .ref au, .int kn, .long vP, .long vQ, .long vS, .long vT, .long vB, .long vM, .long vH, .ref ao, .ref ax, .int (nI np), .ref ay, .int (nI nl), .ref ad, .ref al, .int (nI sn), .ref ag, .int (nI ta), .int nb])), (au, .inl (ku, 20, .inl gu))] sz) := by
  refine Met.ofW (cc := prog_9_method_37_code) (maxL := 2) (ret := (some .int)) (by decide) rfl ?_
  intro p e s m args below meth c s₁ B hml hv
  obtain ⟨rfl, hsz, hz, hP, hK, hD0⟩ := hv
  have hx := B.exec
  have hb := B.bytes
  have hr := B.returns
  have hts := atoms_spec (ws := xw_MD_count) B.pre
  have hown : s.vm.findClass xR_MD = some m.cls := findClass_of_methodNamed B.named
  have hlocks := B.notSynchronized
  subst hsz
  have hD := hD0.self (sz := s.heap.size)
  generalize hAe : va_A [(h0, .inr (7, [.int th, .int (nI nm), .ref ap, .int (nI no), .ref am, .ref aw, .ref az, .ref au, .int kn, .long vP, .long vQ, .long vS, .long vT, .long vB, .long vM, .long vH, .ref ao, .ref ax, .int (nI np), .ref ay, .int (nI nl), .ref ad, .ref al, .int (nI sn), .ref ag, .int (nI ta), .int nb])), (au, .inl (ku, 20, .inl gu))] s.heap.size = A at hD ⊢
  have hA : ∀ q : Nat, s.heap.size ≤ q → A q := fun q h => by rw [← hAe]; exact Or.inr h
  have hS : va_S A s.heap s.heap [] := va_S.rf
  have hP : va_P (dC, dI) xCl [(h0, .inr (7, [.int th, .int (nI nm), .ref ap, .int (nI no), .ref am, .ref aw, .ref az, .ref au, .int kn, .long vP, .long vQ, .long vS, .long vT, .long vB, .long vM, .long vH, .ref ao, .ref ax, .int (nI np), .ref ay, .int (nI nl), .ref ad, .ref al, .int (nI sn), .ref ag, .int (nI ta), .int nb])), (au, .inl (ku, 20, .inl gu))] s.heap := hP
  have hl := lv_entry ([.ref h0, .int 4]) (n := 2) (Nat.le_of_ble_eq_true rfl)
  rw [lg_entry_eq]
  generalize (lg_sl ([.ref h0, .int 4]) ++ List.replicate (2 - (lg_sl ([.ref h0, .int 4])).length) Slot.unset).toArray = ls at hl ⊢
  have hl : lv_has ls 2 [(0, .ref h0), (1, .int 4)] := hl
  refine lv_aload_n hx hb d_MD_count_0 rfl (lv_at hl 0 rfl) ?_
  refine lv_iload_n hx hb d_MD_count_1 rfl (lv_at hl 1 rfl) ?_
  refine lv_iconst (v := 0) hx hb d_MD_count_2 (by decide) ?_
  refine lv_iconst (v := 5) hx hb d_MD_count_3 (by decide) ?_
  refine xr_calli (va_runS (As := [.int 4, .int 0, .int 5]) (rest := [.ref h0]) ⟨hx, hb, hml, hown, hts⟩ (c_MD_within l dC dI 4 0 5) (va_cwS 3 hts (xgS wm_790 wm_791 wm_34 wm_792) rfl rfl rfl (by decide +kernel) ⟨Nat.le_of_ble_eq_true rfl, Nat.le_of_ble_eq_true rfl⟩) ⟨xp_blind, fun U hU hW => ⟨rfl, hz.warm hW, by rw [hU]; exact hP.sub [] rfl, va_K.moved hW.alike (hK.sub [] rfl)⟩⟩ rfl rfl hl.1 rfl (lv_room (Nat.le_of_ble_eq_true rfl)) d_MD_count_4 ⟨Nat.le_of_ble_eq_true rfl, Nat.le_of_ble_eq_true rfl⟩) (fun r_1 h_2 => ?_)
  subst h_2
  refine lv_iconst (v := 1) hx hb d_MD_count_7 (by decide) ?_
  refine lv_iconst (v := 1) hx hb d_MD_count_8 (by decide) ?_
  have hPc := hP.sub (ws' := [(h0, .inr (7, [.int th, .int (nI nm), .ref ap, .int (nI no), .ref am, .ref aw, .ref az, .ref au, .int kn, .long vP, .long vQ, .long vS, .long vT, .long vB, .long vM, .long vH, .ref ao, .ref ax, .int (nI np), .ref ay, .int (nI nl), .ref ad, .ref al, .int (nI sn), .ref ag, .int (nI ta), .int nb]))]) [0] rfl
  have hDc := hD.sub (ws' := [(h0, .inr (7, [.int th, .int (nI nm), .ref ap, .int (nI no), .ref am, .ref aw, .ref az, .ref au, .int kn, .long vP, .long vQ, .long vS, .long vT, .long vB, .long vM, .long vH, .ref ao, .ref ax, .int (nI np), .ref ay, .int (nI nl), .ref ad, .ref al, .int (nI sn), .ref ag, .int (nI ta), .int nb]))]) [0] (by decide) rfl
  have hKc := hK.sub (tys' := []) [] rfl
  have hFc := va_free (wc := [(h0, .inr (7, [.int th, .int (nI nm), .ref ap, .int (nI no), .ref am, .ref aw, .ref az, .ref au, .int kn, .long vP, .long vQ, .long vS, .long vT, .long vB, .long vM, .long vH, .ref ao, .ref ax, .int (nI np), .ref ay, .int (nI nl), .ref ad, .ref al, .int (nI sn), .ref ag, .int (nI ta), .int nb]))]) hD hS hA [0] rfl
  refine va_calli (va_runV (As := [.int (bI (md_win 4 0 5)), .int 1, .int 1]) (rest := []) ⟨hx, hb, hml, hown, hts⟩ (c_MD_goes l dC dI s.heap.size h0 th nm ap no am aw az au kn vP vQ vS vT vB vM vH ao ax np ay nl ad al sn ag ta nb (bI (md_win 4 0 5)) 1 1) (cwV 3 hts (xgV wm_793 wm_795 wm_13 wm_34 wm_796) rfl rfl rfl (by decide +kernel) ⟨Nat.le_of_ble_eq_true rfl, Nat.le_of_ble_eq_true rfl⟩) ⟨xw_blind, va_recv hKc hPc (ci := 7) (q0 := 0) rfl rfl, fun U hU hW => ⟨rfl, by rw [hU], hz.warm hW, by rw [hU]; exact hPc, va_K.moved hW.alike hKc, hDc.weaken (fun _ _ _ _ => trivial)⟩⟩ rfl rfl hl.1 rfl (lv_room (Nat.le_of_ble_eq_true rfl)) d_MD_count_9 ⟨Nat.le_of_ble_eq_true rfl, Nat.le_of_ble_eq_true rfl⟩) hS (fun q _ h => hFc q h) hFc (fun r_3 _ t H1 locs ht hvm hw_4 hB hz1 hk1 hS => ?_)
  obtain ⟨hP1, hK1, hD1⟩ := hB
  rw [ht] at hP1
  have hK1 := va_K.moved hvm.symm hK1
  obtain ⟨hP, hD⟩ := va_join (wr := [(au, .inl (ku, 20, .inl gu))]) (w1 := [(h0, .inr (7, [.int (md_th (bI (md_win 4 0 5)) 1 1), .int (nI nm), .ref ap, .int (nI no), .ref am, .ref aw, .ref az, .ref au, .int kn, .long vP, .long vQ, .long vS, .long vT, .long vB, .long vM, .long vH, .ref ao, .ref ax, .int (nI np), .ref ay, .int (nI nl), .ref ad, .ref al, .int (nI sn), .ref ag, .int (nI ta), .int nb]))]) hP hD [0] [1] rfl rfl (by decide) (by decide) hk1 hFc hP1 hD1
  generalize H1 = H at hP hS ⊢
  have hP : va_P (dC, dI) xCl [(au, .inl (ku, 20, .inl gu)), (h0, .inr (7, [.int (md_th (bI (md_win 4 0 5)) 1 1), .int (nI nm), .ref ap, .int (nI no), .ref am, .ref aw, .ref az, .ref au, .int kn, .long vP, .long vQ, .long vS, .long vT, .long vB, .long vM, .long vH, .ref ao, .ref ax, .int (nI np), .ref ay, .int (nI nl), .ref ad, .ref al, .int (nI sn), .ref ag, .int (nI ta), .int nb]))] H := hP
  have hD : va_D A [(au, .inl (ku, 20, .inl gu)), (h0, .inr (7, [.int (md_th (bI (md_win 4 0 5)) 1 1), .int (nI nm), .ref ap, .int (nI no), .ref am, .ref aw, .ref az, .ref au, .int kn, .long vP, .long vQ, .long vS, .long vT, .long vB, .long vM, .long vH, .ref ao, .ref ax, .int (nI np), .ref ay, .int (nI nl), .ref ad, .ref al, .int (nI sn), .ref ag, .int (nI ta), .int nb]))] := hD
  subst hw_4
  refine lv_if_ne (tgt := 17) hx hb d_MD_count_12 (by decide) (fun c_5 => ?_) (fun c_5 => ?_)
  · have b_6 := bI_t (rfl : bI (md_th (bI (md_win 4 0 5)) 1 1 = 0) = _) c_5
    refine lv_iload_n hx hb d_MD_count_17 rfl (lv_at hl 1 rfl) ?_
    refine lv_tableIn (off := 54) (tgt := 72) hx hb d_MD_count_18 (by decide) (by decide) rfl (by decide) ?_
    refine lv_aload_n hx hb d_MD_count_72 rfl (lv_at hl 0 rfl) ?_
    refine va_get (D := (dC, dI)) (ci := 7) (v := .int (nI nl)) (C := xR_MD) (T := xT_MD) (N := 27) hx hb hts (fun w h => List.mem_cons_of_mem _ (iw_MD w h)) hown hK hP 1 rfl rfl 20 (by decide) (hts _ (List.mem_cons_of_mem _ wm_717)) (fun _ h9 => h9) rfl d_MD_count_73 ?_
    rw [md_th_0 (bI_ne ⟨by decide, by decide⟩) (by decide) (by decide)] at hP hD
    have hP9 := hP.sub (ws' := [(h0, .inr (7, [.int 0, .int (nI nm), .ref ap, .int (nI no), .ref am, .ref aw, .ref az, .ref au, .int kn, .long vP, .long vQ, .long vS, .long vT, .long vB, .long vM, .long vH, .ref ao, .ref ax, .int (nI np), .ref ay, .int (nI nl), .ref ad, .ref al, .int (nI sn), .ref ag, .int (nI ta), .int nb])), (au, .inl (ku, 20, .inl gu))]) [1, 0] rfl
    have hD9 := hD.sub (ws' := [(h0, .inr (7, [.int 0, .int (nI nm), .ref ap, .int (nI no), .ref am, .ref aw, .ref az, .ref au, .int kn, .long vP, .long vQ, .long vS, .long vT, .long vB, .long vM, .long vH, .ref ao, .ref ax, .int (nI np), .ref ay, .int (nI nl), .ref ad, .ref al, .int (nI sn), .ref ag, .int (nI ta), .int nb])), (au, .inl (ku, 20, .inl gu))]) [1, 0] (by decide) rfl
    have hK9 := hK.sub (tys' := [(ku, .boolean)]) [0] rfl
    exact W.iret (v := nI nl) hx hb hr (fun t ht hW => ⟨⟨nI nl, (), rfl, rfl, ⟨by rw [ht]; exact hP9, va_K.moved hW.alike hK9, by exact hD9⟩⟩, hS.F ht⟩) hS.2.2 d_MD_count_76 hlocks
  · exact absurd (md_th_0 (bI_ne ⟨by decide, by decide⟩) (by decide) (by decide)) (bI_f rfl c_5)
set_option maxHeartbeats 4000000 in
set_option maxRecDepth 100000 in
/-- count(5) -/
theorem c_MD_count_y5 (l : Launch) (dC : Nat → ClassId) (dI : Nat → Nat → Nat) (sz : Nat) (h0 : Nat) (th : Int32) (nm : Nat) (ap : Nat) (no : Nat) (am : Nat) (aw : Nat) (az : Nat) (au : Nat) (kn : Int32) (vP : Int64) (vQ : Int64) (vS : Int64) (vT : Int64) (vB : Int64) (vM : Int64) (vH : Int64) (ao : Nat) (ax : Nat) (np : Nat) (ay : Nat) (nl : Nat) (ad : Nat) (al : Nat) (sn : Nat) (ag : Nat) (ta : Nat) (nb : Int32) (ku : ClassId) (gu : Nat → Int32) (hno : no ≤ 20) : Met l xy_MD_count xw_MD_count ({ frames := 1, cells := 0, slots := 0, locals := 23 }) (xp_w [.ref h0, .int 5] sz (dC, dI) xCl [(h0, .inr (7, [.int th, .int (nI nm), .ref ap, .int (nI no), .ref am, .ref aw, .ref az, .ref au, .int kn, .long vP, .long vQ, .long vS, .long vT, .long vB, .long vM, .long vH, .ref ao, .ref ax, .int (nI np), .ref ay, .int (nI nl), .ref ad, .ref al, .int (nI sn), .ref ag, .int (nI ta), .int nb])), (au, .inl (ku, 20, .inl gu))] [(ku, .boolean)]) (va_Qi (fun (r : Int32) (_ : Unit) => r = nI sn) (fun _ t => xb_w (dC, dI) xCl [(h0, .inr (7, [.int 0, .int (nI nm), .ref ap, .int (nI no), .ref am, .ref aw, .ref az, .ref au, .int kn, .long vP, .long vQ, .long vS, .long vT, .long vB, .long vM, .long vH, .ref ao, .ref ax, .int (nI np), .ref ay, .int (nI nl), .ref ad, .ref al, .int (nI sn), .ref ag, .int (nI ta), .int nb])), (au, .inl (ku, 20, .inl gu))] [(ku, .boolean)] (va_A [(h0, .inr (7, [.int th, .int (nI nm), .ref ap, .int (nI no), .ref am, .ref aw, .ref az, .ref au, .int kn, .long vP, .long vQ, .long vS, .long vT, .long vB, .long vM, .long vH, .ref ao, .ref ax, .int (nI np), .ref ay, .int (nI nl), .ref ad, .ref al, .int (nI sn), .ref ag, .int (nI ta), .int nb])), (au, .inl (ku, 20, .inl gu))] sz) t) (va_A [(h0, .inr (7, [.int th, .int (nI nm), .ref ap, .int (nI no), .ref am, .ref aw, .ref az, .ref au, .int kn, .long vP, .long vQ, .long vS, .long vT, .long vB, .long vM, .long vH, .ref ao, .ref ax, .int (nI np), .ref ay, .int (nI nl), .ref ad, .ref al, .int (nI sn), .ref ag, .int (nI ta), .int nb])), (au, .inl (ku, 20, .inl gu))] sz)) 0 0 (va_A [(h0, .inr (7, [.int th, .int (nI nm), .ref ap, .int (nI no), .ref am, .ref aw, .ref az, .ref au, .int kn, .long vP, .long vQ, .long vS, .long vT, .long vB, .long vM, .long vH, .ref ao, .ref ax, .int (nI np), .ref ay, .int (nI nl), .ref ad, .ref al, .int (nI sn), .ref ag, .int (nI ta), .int nb])), (au, .inl (ku, 20, .inl gu))] sz) := by
  refine Met.ofW (cc := prog_9_method_37_code) (maxL := 2) (ret := (some .int)) (by decide) rfl ?_
  intro p e s m args below meth c s₁ B hml hv
  obtain ⟨rfl, hsz, hz, hP, hK, hD0⟩ := hv
  have hx := B.exec
  have hb := B.bytes
  have hr := B.returns
  have hts := atoms_spec (ws := xw_MD_count) B.pre
  have hown : s.vm.findClass xR_MD = some m.cls := findClass_of_methodNamed B.named
  have hlocks := B.notSynchronized
  subst hsz
  have hD := hD0.self (sz := s.heap.size)
  generalize hAe : va_A [(h0, .inr (7, [.int th, .int (nI nm), .ref ap, .int (nI no), .ref am, .ref aw, .ref az, .ref au, .int kn, .long vP, .long vQ, .long vS, .long vT, .long vB, .long vM, .long vH, .ref ao, .ref ax, .int (nI np), .ref ay, .int (nI nl), .ref ad, .ref al, .int (nI sn), .ref ag, .int (nI ta), .int nb])), (au, .inl (ku, 20, .inl gu))] s.heap.size = A at hD ⊢
  have hA : ∀ q : Nat, s.heap.size ≤ q → A q := fun q h => by rw [← hAe]; exact Or.inr h
  have hS : va_S A s.heap s.heap [] := va_S.rf
  have hP : va_P (dC, dI) xCl [(h0, .inr (7, [.int th, .int (nI nm), .ref ap, .int (nI no), .ref am, .ref aw, .ref az, .ref au, .int kn, .long vP, .long vQ, .long vS, .long vT, .long vB, .long vM, .long vH, .ref ao, .ref ax, .int (nI np), .ref ay, .int (nI nl), .ref ad, .ref al, .int (nI sn), .ref ag, .int (nI ta), .int nb])), (au, .inl (ku, 20, .inl gu))] s.heap := hP
  have hl := lv_entry ([.ref h0, .int 5]) (n := 2) (Nat.le_of_ble_eq_true rfl)
  rw [lg_entry_eq]
  generalize (lg_sl ([.ref h0, .int 5]) ++ List.replicate (2 - (lg_sl ([.ref h0, .int 5])).length) Slot.unset).toArray = ls at hl ⊢
  have hl : lv_has ls 2 [(0, .ref h0), (1, .int 5)] := hl
  refine lv_aload_n hx hb d_MD_count_0 rfl (lv_at hl 0 rfl) ?_
  refine lv_iload_n hx hb d_MD_count_1 rfl (lv_at hl 1 rfl) ?_
  refine lv_iconst (v := 0) hx hb d_MD_count_2 (by decide) ?_
  refine lv_iconst (v := 5) hx hb d_MD_count_3 (by decide) ?_
  refine xr_calli (va_runS (As := [.int 5, .int 0, .int 5]) (rest := [.ref h0]) ⟨hx, hb, hml, hown, hts⟩ (c_MD_within l dC dI 5 0 5) (va_cwS 3 hts (xgS wm_790 wm_791 wm_34 wm_792) rfl rfl rfl (by decide +kernel) ⟨Nat.le_of_ble_eq_true rfl, Nat.le_of_ble_eq_true rfl⟩) ⟨xp_blind, fun U hU hW => ⟨rfl, hz.warm hW, by rw [hU]; exact hP.sub [] rfl, va_K.moved hW.alike (hK.sub [] rfl)⟩⟩ rfl rfl hl.1 rfl (lv_room (Nat.le_of_ble_eq_true rfl)) d_MD_count_4 ⟨Nat.le_of_ble_eq_true rfl, Nat.le_of_ble_eq_true rfl⟩) (fun r_1 h_2 => ?_)
  subst h_2
  refine lv_iconst (v := 1) hx hb d_MD_count_7 (by decide) ?_
  refine lv_iconst (v := 1) hx hb d_MD_count_8 (by decide) ?_
  have hPc := hP.sub (ws' := [(h0, .inr (7, [.int th, .int (nI nm), .ref ap, .int (nI no), .ref am, .ref aw, .ref az, .ref au, .int kn, .long vP, .long vQ, .long vS, .long vT, .long vB, .long vM, .long vH, .ref ao, .ref ax, .int (nI np), .ref ay, .int (nI nl), .ref ad, .ref al, .int (nI sn), .ref ag, .int (nI ta), .int nb]))]) [0] rfl
  have hDc := hD.sub (ws' := [(h0, .inr (7, [.int th, .int (nI nm), .ref ap, .int (nI no), .ref am, .ref aw, .ref az, .ref au, .int kn, .long vP, .long vQ, .long vS, .long vT, .long vB, .long vM, .long vH, .ref ao, .ref ax, .int (nI np), .ref ay, .int (nI nl), .ref ad, .ref al, .int (nI sn), .ref ag, .int (nI ta), .int nb]))]) [0] (by decide) rfl
  have hKc := hK.sub (tys' := []) [] rfl
  have hFc := va_free (wc := [(h0, .inr (7, [.int th, .int (nI nm), .ref ap, .int (nI no), .ref am, .ref aw, .ref az, .ref au, .int kn, .long vP, .long vQ, .long vS, .long vT, .long vB, .long vM, .long vH, .ref ao, .ref ax, .int (nI np), .ref ay, .int (nI nl), .ref ad, .ref al, .int (nI sn), .ref ag, .int (nI ta), .int nb]))]) hD hS hA [0] rfl
  refine va_calli (va_runV (As := [.int (bI (md_win 5 0 5)), .int 1, .int 1]) (rest := []) ⟨hx, hb, hml, hown, hts⟩ (c_MD_goes l dC dI s.heap.size h0 th nm ap no am aw az au kn vP vQ vS vT vB vM vH ao ax np ay nl ad al sn ag ta nb (bI (md_win 5 0 5)) 1 1) (cwV 3 hts (xgV wm_793 wm_795 wm_13 wm_34 wm_796) rfl rfl rfl (by decide +kernel) ⟨Nat.le_of_ble_eq_true rfl, Nat.le_of_ble_eq_true rfl⟩) ⟨xw_blind, va_recv hKc hPc (ci := 7) (q0 := 0) rfl rfl, fun U hU hW => ⟨rfl, by rw [hU], hz.warm hW, by rw [hU]; exact hPc, va_K.moved hW.alike hKc, hDc.weaken (fun _ _ _ _ => trivial)⟩⟩ rfl rfl hl.1 rfl (lv_room (Nat.le_of_ble_eq_true rfl)) d_MD_count_9 ⟨Nat.le_of_ble_eq_true rfl, Nat.le_of_ble_eq_true rfl⟩) hS (fun q _ h => hFc q h) hFc (fun r_3 _ t H1 locs ht hvm hw_4 hB hz1 hk1 hS => ?_)
  obtain ⟨hP1, hK1, hD1⟩ := hB
  rw [ht] at hP1
  have hK1 := va_K.moved hvm.symm hK1
  obtain ⟨hP, hD⟩ := va_join (wr := [(au, .inl (ku, 20, .inl gu))]) (w1 := [(h0, .inr (7, [.int (md_th (bI (md_win 5 0 5)) 1 1), .int (nI nm), .ref ap, .int (nI no), .ref am, .ref aw, .ref az, .ref au, .int kn, .long vP, .long vQ, .long vS, .long vT, .long vB, .long vM, .long vH, .ref ao, .ref ax, .int (nI np), .ref ay, .int (nI nl), .ref ad, .ref al, .int (nI sn), .ref ag, .int (nI ta), .int nb]))]) hP hD [0] [1] rfl rfl (by decide) (by decide) hk1 hFc hP1 hD1
  generalize H1 = H at hP hS ⊢
  have hP : va_P (dC, dI) xCl [(au, .inl (ku, 20, .inl gu)), (h0, .inr (7, [.int (md_th (bI (md_win 5 0 5)) 1 1), .int (nI nm), .ref ap, .int (nI no), .ref am, .ref aw, .ref az, .ref au, .int kn, .long vP, .long vQ, .long vS, .long vT, .long vB, .long vM, .long vH, .ref ao, .ref ax, .int (nI np), .ref ay, .int (nI nl), .ref ad, .ref al, .int (nI sn), .ref ag, .int (nI ta), .int nb]))] H := hP
  have hD : va_D A [(au, .inl (ku, 20, .inl gu)), (h0, .inr (7, [.int (md_th (bI (md_win 5 0 5)) 1 1), .int (nI nm), .ref ap, .int (nI no), .ref am, .ref aw, .ref az, .ref au, .int kn, .long vP, .long vQ, .long vS, .long vT, .long vB, .long vM, .long vH, .ref ao, .ref ax, .int (nI np), .ref ay, .int (nI nl), .ref ad, .ref al, .int (nI sn), .ref ag, .int (nI ta), .int nb]))] := hD
  subst hw_4
  refine lv_if_ne (tgt := 17) hx hb d_MD_count_12 (by decide) (fun c_5 => ?_) (fun c_5 => ?_)
  · have b_6 := bI_t (rfl : bI (md_th (bI (md_win 5 0 5)) 1 1 = 0) = _) c_5
    refine lv_iload_n hx hb d_MD_count_17 rfl (lv_at hl 1 rfl) ?_
    refine lv_tableOut (tgt := 77) hx hb d_MD_count_18 (by decide) (by decide) ?_
    refine lv_aload_n hx hb d_MD_count_77 rfl (lv_at hl 0 rfl) ?_
    refine va_get (D := (dC, dI)) (ci := 7) (v := .int (nI sn)) (C := xR_MD) (T := xT_MD) (N := 27) hx hb hts (fun w h => List.mem_cons_of_mem _ (iw_MD w h)) hown hK hP 1 rfl rfl 23 (by decide) (hts _ (List.mem_cons_of_mem _ wm_720)) (fun _ h9 => h9) rfl d_MD_count_78 ?_
    rw [md_th_0 (bI_ne ⟨by decide, by decide⟩) (by decide) (by decide)] at hP hD
    have hP9 := hP.sub (ws' := [(h0, .inr (7, [.int 0, .int (nI nm), .ref ap, .int (nI no), .ref am, .ref aw, .ref az, .ref au, .int kn, .long vP, .long vQ, .long vS, .long vT, .long vB, .long vM, .long vH, .ref ao, .ref ax, .int (nI np), .ref ay, .int (nI nl), .ref ad, .ref al, .int (nI sn), .ref ag, .int (nI ta), .int nb])), (au, .inl (ku, 20, .inl gu))]) [1, 0] rfl
    have hD9 := hD.sub (ws' := [(h0, .inr (7, [.int 0, .int (nI nm), .ref ap, .int (nI no), .ref am, .ref aw, .ref az, .ref au, .int kn, .long vP, .long vQ, .long vS, .long vT, .long vB, .long vM, .long vH, .ref ao, .ref ax, .int (nI np), .ref ay, .int (nI nl), .ref ad, .ref al, .int (nI sn), .ref ag, .int (nI ta), .int nb])), (au, .inl (ku, 20, .inl gu))]) [1, 0] (by decide) rfl
    have hK9 := hK.sub (tys' := [(ku, .boolean)]) [0] rfl
    exact W.iret (v := nI sn) hx hb hr (fun t ht hW => ⟨⟨nI sn, (), rfl, rfl, ⟨by rw [ht]; exact hP9, va_K.moved hW.alike hK9, by exact hD9⟩⟩, hS.F ht⟩) hS.2.2 d_MD_count_81 hlocks
  · exact absurd (md_th_0 (bI_ne ⟨by decide, by decide⟩) (by decide) (by decide)) (bI_f rfl c_5)
set_option maxHeartbeats 4000000 in
set_option maxRecDepth 100000 in
/-- count, refused -/
theorem c_MD_count_n (l : Launch) (dC : Nat → ClassId) (dI : Nat → Nat → Nat) (sz : Nat) (h0 : Nat) (th : Int32) (nm : Nat) (ap : Nat) (no : Nat) (am : Nat) (aw : Nat) (az : Nat) (au : Nat) (kn : Int32) (vP : Int64) (vQ : Int64) (vS : Int64) (vT : Int64) (vB : Int64) (vM : Int64) (vH : Int64) (ao : Nat) (ax : Nat) (np : Nat) (ay : Nat) (nl : Nat) (ad : Nat) (al : Nat) (sn : Nat) (ag : Nat) (ta : Nat) (nb : Int32) (k0 : Int32) (hn : ¬ (md_win k0 0 5)) : Met l xy_MD_count xw_MD_count ({ frames := 1, cells := 0, slots := 0, locals := 23 }) (xp_w [.ref h0, .int k0] sz (dC, dI) xCl [(h0, .inr (7, [.int th, .int (nI nm), .ref ap, .int (nI no), .ref am, .ref aw, .ref az, .ref au, .int kn, .long vP, .long vQ, .long vS, .long vT, .long vB, .long vM, .long vH, .ref ao, .ref ax, .int (nI np), .ref ay, .int (nI nl), .ref ad, .ref al, .int (nI sn), .ref ag, .int (nI ta), .int nb]))] []) (va_Qi (fun (r : Int32) (_ : Unit) => r = 0) (fun _ t => xb_w (dC, dI) xCl [(h0, .inr (7, [.int (md_th (bI (md_win k0 0 5)) 1 1), .int (nI nm), .ref ap, .int (nI no), .ref am, .ref aw, .ref az, .ref au, .int kn, .long vP, .long vQ, .long vS, .long vT, .long vB, .long vM, .long vH, .ref ao, .ref ax, .int (nI np), .ref ay, .int (nI nl), .ref ad, .ref al, .int (nI sn), .ref ag, .int (nI ta), .int nb]))] [] (va_A [(h0, .inr (7, [.int th, .int (nI nm), .ref ap, .int (nI no), .ref am, .ref aw, .ref az, .ref au, .int kn, .long vP, .long vQ, .long vS, .long vT, .long vB, .long vM, .long vH, .ref ao, .ref ax, .int (nI np), .ref ay, .int (nI nl), .ref ad, .ref al, .int (nI sn), .ref ag, .int (nI ta), .int nb]))] sz) t) (va_A [(h0, .inr (7, [.int th, .int (nI nm), .ref ap, .int (nI no), .ref am, .ref aw, .ref az, .ref au, .int kn, .long vP, .long vQ, .long vS, .long vT, .long vB, .long vM, .long vH, .ref ao, .ref ax, .int (nI np), .ref ay, .int (nI nl), .ref ad, .ref al, .int (nI sn), .ref ag, .int (nI ta), .int nb]))] sz)) 0 0 (va_A [(h0, .inr (7, [.int th, .int (nI nm), .ref ap, .int (nI no), .ref am, .ref aw, .ref az, .ref au, .int kn, .long vP, .long vQ, .long vS, .long vT, .long vB, .long vM, .long vH, .ref ao, .ref ax, .int (nI np), .ref ay, .int (nI nl), .ref ad, .ref al, .int (nI sn), .ref ag, .int (nI ta), .int nb]))] sz) := by
  refine Met.ofW (cc := prog_9_method_37_code) (maxL := 2) (ret := (some .int)) (by decide) rfl ?_
  intro p e s m args below meth c s₁ B hml hv
  obtain ⟨rfl, hsz, hz, hP, hK, hD0⟩ := hv
  have hx := B.exec
  have hb := B.bytes
  have hr := B.returns
  have hts := atoms_spec (ws := xw_MD_count) B.pre
  have hown : s.vm.findClass xR_MD = some m.cls := findClass_of_methodNamed B.named
  have hlocks := B.notSynchronized
  subst hsz
  have hD := hD0.self (sz := s.heap.size)
  generalize hAe : va_A [(h0, .inr (7, [.int th, .int (nI nm), .ref ap, .int (nI no), .ref am, .ref aw, .ref az, .ref au, .int kn, .long vP, .long vQ, .long vS, .long vT, .long vB, .long vM, .long vH, .ref ao, .ref ax, .int (nI np), .ref ay, .int (nI nl), .ref ad, .ref al, .int (nI sn), .ref ag, .int (nI ta), .int nb]))] s.heap.size = A at hD ⊢
  have hA : ∀ q : Nat, s.heap.size ≤ q → A q := fun q h => by rw [← hAe]; exact Or.inr h
  have hS : va_S A s.heap s.heap [] := va_S.rf
  have hP : va_P (dC, dI) xCl [(h0, .inr (7, [.int th, .int (nI nm), .ref ap, .int (nI no), .ref am, .ref aw, .ref az, .ref au, .int kn, .long vP, .long vQ, .long vS, .long vT, .long vB, .long vM, .long vH, .ref ao, .ref ax, .int (nI np), .ref ay, .int (nI nl), .ref ad, .ref al, .int (nI sn), .ref ag, .int (nI ta), .int nb]))] s.heap := hP
  have hl := lv_entry ([.ref h0, .int k0]) (n := 2) (Nat.le_of_ble_eq_true rfl)
  rw [lg_entry_eq]
  generalize (lg_sl ([.ref h0, .int k0]) ++ List.replicate (2 - (lg_sl ([.ref h0, .int k0])).length) Slot.unset).toArray = ls at hl ⊢
  have hl : lv_has ls 2 [(0, .ref h0), (1, .int k0)] := hl
  refine lv_aload_n hx hb d_MD_count_0 rfl (lv_at hl 0 rfl) ?_
  refine lv_iload_n hx hb d_MD_count_1 rfl (lv_at hl 1 rfl) ?_
  refine lv_iconst (v := 0) hx hb d_MD_count_2 (by decide) ?_
  refine lv_iconst (v := 5) hx hb d_MD_count_3 (by decide) ?_
  refine xr_calli (va_runS (As := [.int k0, .int 0, .int 5]) (rest := [.ref h0]) ⟨hx, hb, hml, hown, hts⟩ (c_MD_within l dC dI k0 0 5) (va_cwS 3 hts (xgS wm_790 wm_791 wm_34 wm_792) rfl rfl rfl (by decide +kernel) ⟨Nat.le_of_ble_eq_true rfl, Nat.le_of_ble_eq_true rfl⟩) ⟨xp_blind, fun U hU hW => ⟨rfl, hz.warm hW, by rw [hU]; exact hP.sub [] rfl, va_K.moved hW.alike (hK.sub [] rfl)⟩⟩ rfl rfl hl.1 rfl (lv_room (Nat.le_of_ble_eq_true rfl)) d_MD_count_4 ⟨Nat.le_of_ble_eq_true rfl, Nat.le_of_ble_eq_true rfl⟩) (fun r_1 h_2 => ?_)
  subst h_2
  refine lv_iconst (v := 1) hx hb d_MD_count_7 (by decide) ?_
  refine lv_iconst (v := 1) hx hb d_MD_count_8 (by decide) ?_
  have hPc := hP.sub (ws' := [(h0, .inr (7, [.int th, .int (nI nm), .ref ap, .int (nI no), .ref am, .ref aw, .ref az, .ref au, .int kn, .long vP, .long vQ, .long vS, .long vT, .long vB, .long vM, .long vH, .ref ao, .ref ax, .int (nI np), .ref ay, .int (nI nl), .ref ad, .ref al, .int (nI sn), .ref ag, .int (nI ta), .int nb]))]) [0] rfl
  have hDc := hD.sub (ws' := [(h0, .inr (7, [.int th, .int (nI nm), .ref ap, .int (nI no), .ref am, .ref aw, .ref az, .ref au, .int kn, .long vP, .long vQ, .long vS, .long vT, .long vB, .long vM, .long vH, .ref ao, .ref ax, .int (nI np), .ref ay, .int (nI nl), .ref ad, .ref al, .int (nI sn), .ref ag, .int (nI ta), .int nb]))]) [0] (by decide) rfl
  have hKc := hK.sub (tys' := []) [] rfl
  have hFc := va_free (wc := [(h0, .inr (7, [.int th, .int (nI nm), .ref ap, .int (nI no), .ref am, .ref aw, .ref az, .ref au, .int kn, .long vP, .long vQ, .long vS, .long vT, .long vB, .long vM, .long vH, .ref ao, .ref ax, .int (nI np), .ref ay, .int (nI nl), .ref ad, .ref al, .int (nI sn), .ref ag, .int (nI ta), .int nb]))]) hD hS hA [0] rfl
  refine va_calli (va_runV (As := [.int (bI (md_win k0 0 5)), .int 1, .int 1]) (rest := []) ⟨hx, hb, hml, hown, hts⟩ (c_MD_goes l dC dI s.heap.size h0 th nm ap no am aw az au kn vP vQ vS vT vB vM vH ao ax np ay nl ad al sn ag ta nb (bI (md_win k0 0 5)) 1 1) (cwV 3 hts (xgV wm_793 wm_795 wm_13 wm_34 wm_796) rfl rfl rfl (by decide +kernel) ⟨Nat.le_of_ble_eq_true rfl, Nat.le_of_ble_eq_true rfl⟩) ⟨xw_blind, va_recv hKc hPc (ci := 7) (q0 := 0) rfl rfl, fun U hU hW => ⟨rfl, by rw [hU], hz.warm hW, by rw [hU]; exact hPc, va_K.moved hW.alike hKc, hDc.weaken (fun _ _ _ _ => trivial)⟩⟩ rfl rfl hl.1 rfl (lv_room (Nat.le_of_ble_eq_true rfl)) d_MD_count_9 ⟨Nat.le_of_ble_eq_true rfl, Nat.le_of_ble_eq_true rfl⟩) hS (fun q _ h => hFc q h) hFc (fun r_3 _ t H1 locs ht hvm hw_4 hB hz1 hk1 hS => ?_)
  obtain ⟨hP1, hK1, hD1⟩ := hB
  rw [ht] at hP1
  have hK1 := va_K.moved hvm.symm hK1
  obtain ⟨hP, hD⟩ := va_join (wr := []) (w1 := [(h0, .inr (7, [.int (md_th (bI (md_win k0 0 5)) 1 1), .int (nI nm), .ref ap, .int (nI no), .ref am, .ref aw, .ref az, .ref au, .int kn, .long vP, .long vQ, .long vS, .long vT, .long vB, .long vM, .long vH, .ref ao, .ref ax, .int (nI np), .ref ay, .int (nI nl), .ref ad, .ref al, .int (nI sn), .ref ag, .int (nI ta), .int nb]))]) hP hD [0] [] rfl rfl (by decide) (by decide) hk1 hFc hP1 hD1
  generalize H1 = H at hP hS ⊢
  have hP : va_P (dC, dI) xCl [(h0, .inr (7, [.int (md_th (bI (md_win k0 0 5)) 1 1), .int (nI nm), .ref ap, .int (nI no), .ref am, .ref aw, .ref az, .ref au, .int kn, .long vP, .long vQ, .long vS, .long vT, .long vB, .long vM, .long vH, .ref ao, .ref ax, .int (nI np), .ref ay, .int (nI nl), .ref ad, .ref al, .int (nI sn), .ref ag, .int (nI ta), .int nb]))] H := hP
  have hD : va_D A [(h0, .inr (7, [.int (md_th (bI (md_win k0 0 5)) 1 1), .int (nI nm), .ref ap, .int (nI no), .ref am, .ref aw, .ref az, .ref au, .int kn, .long vP, .long vQ, .long vS, .long vT, .long vB, .long vM, .long vH, .ref ao, .ref ax, .int (nI np), .ref ay, .int (nI nl), .ref ad, .ref al, .int (nI sn), .ref ag, .int (nI ta), .int nb]))] := hD
  subst hw_4
  refine lv_if_ne (tgt := 17) hx hb d_MD_count_12 (by decide) (fun c_5 => ?_) (fun c_5 => ?_)
  · exact absurd (md_th_all (bI_t rfl c_5)) (fun q => hn (bI_of q.1))
  · have b_6 := bI_f (rfl : bI (md_th (bI (md_win k0 0 5)) 1 1 = 0) = _) c_5
    refine lv_iconst (v := 0) hx hb d_MD_count_15 (by decide) ?_
    have hP9 := hP.sub (ws' := [(h0, .inr (7, [.int (md_th (bI (md_win k0 0 5)) 1 1), .int (nI nm), .ref ap, .int (nI no), .ref am, .ref aw, .ref az, .ref au, .int kn, .long vP, .long vQ, .long vS, .long vT, .long vB, .long vM, .long vH, .ref ao, .ref ax, .int (nI np), .ref ay, .int (nI nl), .ref ad, .ref al, .int (nI sn), .ref ag, .int (nI ta), .int nb]))]) [0] rfl
    have hD9 := hD.sub (ws' := [(h0, .inr (7, [.int (md_th (bI (md_win k0 0 5)) 1 1), .int (nI nm), .ref ap, .int (nI no), .ref am, .ref aw, .ref az, .ref au, .int kn, .long vP, .long vQ, .long vS, .long vT, .long vB, .long vM, .long vH, .ref ao, .ref ax, .int (nI np), .ref ay, .int (nI nl), .ref ad, .ref al, .int (nI sn), .ref ag, .int (nI ta), .int nb]))]) [0] (by decide) rfl
    have hK9 := hK.sub (tys' := []) [] rfl
    exact W.iret (v := 0) hx hb hr (fun t ht hW => ⟨⟨0, (), rfl, rfl, ⟨by rw [ht]; exact hP9, va_K.moved hW.alike hK9, by exact hD9⟩⟩, hS.F ht⟩) hS.2.2 d_MD_count_16 hlocks
