theorem d_MD_setUp_0 : decode prog_9_method_15_code 0 = .ok (.aload_n 0, 1) := by decide +kernel
theorem d_MD_setUp_1 : decode prog_9_method_15_code 1 = .ok (.iconst 0, 1) := by decide +kernel
theorem d_MD_setUp_2 : decode prog_9_method_15_code 2 = .ok (.putfield 48, 3) := by decide +kernel
theorem d_MD_setUp_5 : decode prog_9_method_15_code 5 = .ok (.aload_n 0, 1) := by decide +kernel
theorem d_MD_setUp_6 : decode prog_9_method_15_code 6 = .ok (.invokevirtual 106, 3) := by decide +kernel
theorem d_MD_setUp_9 : decode prog_9_method_15_code 9 = .ok (.ifCond .eq 10, 3) := by decide +kernel
theorem d_MD_setUp_12 : decode prog_9_method_15_code 12 = .ok (.aload_n 0, 1) := by decide +kernel
theorem d_MD_setUp_13 : decode prog_9_method_15_code 13 = .ok (.invokevirtual 76, 3) := by decide +kernel
theorem d_MD_setUp_16 : decode prog_9_method_15_code 16 = .ok (.goto 4, 3) := by decide +kernel
theorem d_MD_setUp_19 : decode prog_9_method_15_code 19 = .ok (.iconst (-1), 1) := by decide +kernel
theorem d_MD_setUp_20 : decode prog_9_method_15_code 20 = .ok (.ireturn, 1) := by decide +kernel
theorem d_MD_millionths_0 : decode prog_9_method_16_code 0 = .ok (.lload_n 0, 1) := by decide +kernel
theorem d_MD_millionths_1 : decode prog_9_method_16_code 1 = .ok (.lload_n 2, 1) := by decide +kernel
theorem d_MD_millionths_2 : decode prog_9_method_16_code 2 = .ok (.invokestatic 99, 3) := by decide +kernel
theorem d_MD_millionths_5 : decode prog_9_method_16_code 5 = .ok (.lstore 4, 2) := by decide +kernel
theorem d_MD_millionths_7 : decode prog_9_method_16_code 7 = .ok (.ldc2_w 110, 3) := by decide +kernel
theorem d_MD_millionths_10 : decode prog_9_method_16_code 10 = .ok (.lload 4, 2) := by decide +kernel
theorem d_MD_millionths_12 : decode prog_9_method_16_code 12 = .ok (.lmul, 1) := by decide +kernel
theorem d_MD_millionths_13 : decode prog_9_method_16_code 13 = .ok (.ldc2_w 110, 3) := by decide +kernel
theorem d_MD_millionths_16 : decode prog_9_method_16_code 16 = .ok (.lload_n 0, 1) := by decide +kernel
theorem d_MD_millionths_17 : decode prog_9_method_16_code 17 = .ok (.lload 4, 2) := by decide +kernel
theorem d_MD_millionths_19 : decode prog_9_method_16_code 19 = .ok (.lload_n 2, 1) := by decide +kernel
theorem d_MD_millionths_20 : decode prog_9_method_16_code 20 = .ok (.lmul, 1) := by decide +kernel
theorem d_MD_millionths_21 : decode prog_9_method_16_code 21 = .ok (.lsub, 1) := by decide +kernel
theorem d_MD_millionths_22 : decode prog_9_method_16_code 22 = .ok (.lmul, 1) := by decide +kernel
theorem d_MD_millionths_23 : decode prog_9_method_16_code 23 = .ok (.lload_n 2, 1) := by decide +kernel
theorem d_MD_millionths_24 : decode prog_9_method_16_code 24 = .ok (.invokestatic 99, 3) := by decide +kernel
theorem d_MD_millionths_27 : decode prog_9_method_16_code 27 = .ok (.ladd, 1) := by decide +kernel
theorem d_MD_millionths_28 : decode prog_9_method_16_code 28 = .ok (.lreturn, 1) := by decide +kernel
theorem d_MD_turned_0 : decode prog_9_method_17_code 0 = .ok (.aload_n 0, 1) := by decide +kernel
theorem d_MD_turned_1 : decode prog_9_method_17_code 1 = .ok (.iload_n 1, 1) := by decide +kernel
theorem d_MD_turned_2 : decode prog_9_method_17_code 2 = .ok (.iconst 0, 1) := by decide +kernel
theorem d_MD_turned_3 : decode prog_9_method_17_code 3 = .ok (.iconst 3, 1) := by decide +kernel
theorem d_MD_turned_4 : decode prog_9_method_17_code 4 = .ok (.invokestatic 51, 3) := by decide +kernel
theorem d_MD_turned_7 : decode prog_9_method_17_code 7 = .ok (.aload_n 0, 1) := by decide +kernel
theorem d_MD_turned_8 : decode prog_9_method_17_code 8 = .ok (.getfield 26, 3) := by decide +kernel
theorem d_MD_turned_11 : decode prog_9_method_17_code 11 = .ok (.iconst (-1), 1) := by decide +kernel
theorem d_MD_turned_12 : decode prog_9_method_17_code 12 = .ok (.if_icmp .eq 7, 3) := by decide +kernel
theorem d_MD_turned_15 : decode prog_9_method_17_code 15 = .ok (.iconst 1, 1) := by decide +kernel
theorem d_MD_turned_16 : decode prog_9_method_17_code 16 = .ok (.goto 4, 3) := by decide +kernel
theorem d_MD_turned_19 : decode prog_9_method_17_code 19 = .ok (.iconst 0, 1) := by decide +kernel
theorem d_MD_turned_20 : decode prog_9_method_17_code 20 = .ok (.iconst 1, 1) := by decide +kernel
theorem d_MD_turned_21 : decode prog_9_method_17_code 21 = .ok (.invokevirtual 64, 3) := by decide +kernel
theorem d_MD_turned_24 : decode prog_9_method_17_code 24 = .ok (.ifCond .ne 5, 3) := by decide +kernel
theorem d_MD_turned_27 : decode prog_9_method_17_code 27 = .ok (.lconst 0, 1) := by decide +kernel
theorem d_MD_turned_28 : decode prog_9_method_17_code 28 = .ok (.lreturn, 1) := by decide +kernel
theorem d_MD_turned_29 : decode prog_9_method_17_code 29 = .ok (.iload_n 1, 1) := by decide +kernel
theorem d_MD_turned_30 : decode prog_9_method_17_code 30 = .ok (.ifCond .ne 17, 3) := by decide +kernel
theorem d_MD_turned_33 : decode prog_9_method_17_code 33 = .ok (.aload_n 0, 1) := by decide +kernel
theorem d_MD_turned_34 : decode prog_9_method_17_code 34 = .ok (.getfield 87, 3) := by decide +kernel
theorem d_MD_turned_37 : decode prog_9_method_17_code 37 = .ok (.aload_n 0, 1) := by decide +kernel
theorem d_MD_turned_38 : decode prog_9_method_17_code 38 = .ok (.getfield 80, 3) := by decide +kernel
theorem d_MD_turned_41 : decode prog_9_method_17_code 41 = .ok (.invokestatic 112, 3) := by decide +kernel
theorem d_MD_turned_44 : decode prog_9_method_17_code 44 = .ok (.goto 62, 3) := by decide +kernel
theorem d_MD_turned_47 : decode prog_9_method_17_code 47 = .ok (.iload_n 1, 1) := by decide +kernel
theorem d_MD_turned_48 : decode prog_9_method_17_code 48 = .ok (.iconst 1, 1) := by decide +kernel
theorem d_MD_turned_49 : decode prog_9_method_17_code 49 = .ok (.if_icmp .ne 17, 3) := by decide +kernel
theorem d_MD_turned_52 : decode prog_9_method_17_code 52 = .ok (.aload_n 0, 1) := by decide +kernel
theorem d_MD_turned_53 : decode prog_9_method_17_code 53 = .ok (.getfield 90, 3) := by decide +kernel
theorem d_MD_turned_56 : decode prog_9_method_17_code 56 = .ok (.aload_n 0, 1) := by decide +kernel
theorem d_MD_turned_57 : decode prog_9_method_17_code 57 = .ok (.getfield 80, 3) := by decide +kernel
theorem d_MD_turned_60 : decode prog_9_method_17_code 60 = .ok (.invokestatic 112, 3) := by decide +kernel
theorem d_MD_turned_63 : decode prog_9_method_17_code 63 = .ok (.goto 43, 3) := by decide +kernel
theorem d_MD_turned_66 : decode prog_9_method_17_code 66 = .ok (.iload_n 1, 1) := by decide +kernel
theorem d_MD_turned_67 : decode prog_9_method_17_code 67 = .ok (.iconst 2, 1) := by decide +kernel
theorem d_MD_turned_68 : decode prog_9_method_17_code 68 = .ok (.if_icmp .ne 22, 3) := by decide +kernel
theorem d_MD_turned_71 : decode prog_9_method_17_code 71 = .ok (.aload_n 0, 1) := by decide +kernel
theorem d_MD_turned_72 : decode prog_9_method_17_code 72 = .ok (.getfield 93, 3) := by decide +kernel
theorem d_MD_turned_75 : decode prog_9_method_17_code 75 = .ok (.aload_n 0, 1) := by decide +kernel
theorem d_MD_turned_76 : decode prog_9_method_17_code 76 = .ok (.getfield 84, 3) := by decide +kernel
theorem d_MD_turned_79 : decode prog_9_method_17_code 79 = .ok (.aload_n 0, 1) := by decide +kernel
theorem d_MD_turned_80 : decode prog_9_method_17_code 80 = .ok (.getfield 80, 3) := by decide +kernel
theorem d_MD_turned_83 : decode prog_9_method_17_code 83 = .ok (.lmul, 1) := by decide +kernel
theorem d_MD_turned_84 : decode prog_9_method_17_code 84 = .ok (.invokestatic 112, 3) := by decide +kernel
theorem d_MD_turned_87 : decode prog_9_method_17_code 87 = .ok (.goto 19, 3) := by decide +kernel
theorem d_MD_turned_90 : decode prog_9_method_17_code 90 = .ok (.aload_n 0, 1) := by decide +kernel
theorem d_MD_turned_91 : decode prog_9_method_17_code 91 = .ok (.getfield 96, 3) := by decide +kernel
theorem d_MD_turned_94 : decode prog_9_method_17_code 94 = .ok (.aload_n 0, 1) := by decide +kernel
theorem d_MD_turned_95 : decode prog_9_method_17_code 95 = .ok (.getfield 84, 3) := by decide +kernel
theorem d_MD_turned_98 : decode prog_9_method_17_code 98 = .ok (.aload_n 0, 1) := by decide +kernel
theorem d_MD_turned_99 : decode prog_9_method_17_code 99 = .ok (.getfield 80, 3) := by decide +kernel
theorem d_MD_turned_102 : decode prog_9_method_17_code 102 = .ok (.lmul, 1) := by decide +kernel
theorem d_MD_turned_103 : decode prog_9_method_17_code 103 = .ok (.invokestatic 112, 3) := by decide +kernel
theorem d_MD_turned_106 : decode prog_9_method_17_code 106 = .ok (.lreturn, 1) := by decide +kernel
theorem d_MD_placeOf_0 : decode prog_9_method_18_code 0 = .ok (.iload 4, 2) := by decide +kernel
theorem d_MD_placeOf_2 : decode prog_9_method_18_code 2 = .ok (.iconst 2, 1) := by decide +kernel
theorem d_MD_placeOf_3 : decode prog_9_method_18_code 3 = .ok (.if_icmp .ne 11, 3) := by decide +kernel
theorem d_MD_placeOf_6 : decode prog_9_method_18_code 6 = .ok (.iload_n 3, 1) := by decide +kernel
theorem d_MD_placeOf_7 : decode prog_9_method_18_code 7 = .ok (.aload_n 0, 1) := by decide +kernel
theorem d_MD_placeOf_8 : decode prog_9_method_18_code 8 = .ok (.getfield 103, 3) := by decide +kernel
theorem d_MD_placeOf_11 : decode prog_9_method_18_code 11 = .ok (.l2i, 1) := by decide +kernel
theorem d_MD_placeOf_12 : decode prog_9_method_18_code 12 = .ok (.iadd, 1) := by decide +kernel
theorem d_MD_placeOf_13 : decode prog_9_method_18_code 13 = .ok (.ireturn, 1) := by decide +kernel
theorem d_MD_placeOf_14 : decode prog_9_method_18_code 14 = .ok (.iload 4, 2) := by decide +kernel
theorem d_MD_placeOf_16 : decode prog_9_method_18_code 16 = .ok (.ifCond .ne 21, 3) := by decide +kernel
theorem d_MD_placeOf_19 : decode prog_9_method_18_code 19 = .ok (.aload_n 0, 1) := by decide +kernel
theorem d_MD_placeOf_20 : decode prog_9_method_18_code 20 = .ok (.getfield 87, 3) := by decide +kernel
theorem d_MD_placeOf_23 : decode prog_9_method_18_code 23 = .ok (.iload_n 1, 1) := by decide +kernel
theorem d_MD_placeOf_24 : decode prog_9_method_18_code 24 = .ok (.i2l, 1) := by decide +kernel
theorem d_MD_placeOf_25 : decode prog_9_method_18_code 25 = .ok (.lmul, 1) := by decide +kernel
theorem d_MD_placeOf_26 : decode prog_9_method_18_code 26 = .ok (.aload_n 0, 1) := by decide +kernel
theorem d_MD_placeOf_27 : decode prog_9_method_18_code 27 = .ok (.getfield 90, 3) := by decide +kernel
theorem d_MD_placeOf_30 : decode prog_9_method_18_code 30 = .ok (.iload_n 2, 1) := by decide +kernel
theorem d_MD_placeOf_31 : decode prog_9_method_18_code 31 = .ok (.i2l, 1) := by decide +kernel
theorem d_MD_placeOf_32 : decode prog_9_method_18_code 32 = .ok (.lmul, 1) := by decide +kernel
theorem d_MD_placeOf_33 : decode prog_9_method_18_code 33 = .ok (.lsub, 1) := by decide +kernel
theorem d_MD_placeOf_34 : decode prog_9_method_18_code 34 = .ok (.goto 18, 3) := by decide +kernel
theorem d_MD_placeOf_37 : decode prog_9_method_18_code 37 = .ok (.aload_n 0, 1) := by decide +kernel
theorem d_MD_placeOf_38 : decode prog_9_method_18_code 38 = .ok (.getfield 90, 3) := by decide +kernel
theorem d_MD_placeOf_41 : decode prog_9_method_18_code 41 = .ok (.iload_n 1, 1) := by decide +kernel
theorem d_MD_placeOf_42 : decode prog_9_method_18_code 42 = .ok (.i2l, 1) := by decide +kernel
theorem d_MD_placeOf_43 : decode prog_9_method_18_code 43 = .ok (.lmul, 1) := by decide +kernel
theorem d_MD_placeOf_44 : decode prog_9_method_18_code 44 = .ok (.aload_n 0, 1) := by decide +kernel
theorem d_MD_placeOf_45 : decode prog_9_method_18_code 45 = .ok (.getfield 87, 3) := by decide +kernel
theorem d_MD_placeOf_48 : decode prog_9_method_18_code 48 = .ok (.iload_n 2, 1) := by decide +kernel
theorem d_MD_placeOf_49 : decode prog_9_method_18_code 49 = .ok (.i2l, 1) := by decide +kernel
theorem d_MD_placeOf_50 : decode prog_9_method_18_code 50 = .ok (.lmul, 1) := by decide +kernel
theorem d_MD_placeOf_51 : decode prog_9_method_18_code 51 = .ok (.ladd, 1) := by decide +kernel
theorem d_MD_placeOf_52 : decode prog_9_method_18_code 52 = .ok (.lstore 5, 2) := by decide +kernel
theorem d_MD_placeOf_54 : decode prog_9_method_18_code 54 = .ok (.aload_n 0, 1) := by decide +kernel
theorem d_MD_placeOf_55 : decode prog_9_method_18_code 55 = .ok (.getfield 84, 3) := by decide +kernel
theorem d_MD_placeOf_58 : decode prog_9_method_18_code 58 = .ok (.lload 5, 2) := by decide +kernel
theorem d_MD_placeOf_60 : decode prog_9_method_18_code 60 = .ok (.lmul, 1) := by decide +kernel
theorem d_MD_placeOf_61 : decode prog_9_method_18_code 61 = .ok (.iload 4, 2) := by decide +kernel
theorem d_MD_placeOf_63 : decode prog_9_method_18_code 63 = .ok (.ifCond .ne 10, 3) := by decide +kernel
theorem d_MD_placeOf_66 : decode prog_9_method_18_code 66 = .ok (.aload_n 0, 1) := by decide +kernel
theorem d_MD_placeOf_67 : decode prog_9_method_18_code 67 = .ok (.getfield 93, 3) := by decide +kernel
theorem d_MD_placeOf_70 : decode prog_9_method_18_code 70 = .ok (.goto 7, 3) := by decide +kernel
theorem d_MD_placeOf_73 : decode prog_9_method_18_code 73 = .ok (.aload_n 0, 1) := by decide +kernel
theorem d_MD_placeOf_74 : decode prog_9_method_18_code 74 = .ok (.getfield 96, 3) := by decide +kernel
theorem d_MD_placeOf_77 : decode prog_9_method_18_code 77 = .ok (.ladd, 1) := by decide +kernel
theorem d_MD_placeOf_78 : decode prog_9_method_18_code 78 = .ok (.aload_n 0, 1) := by decide +kernel
theorem d_MD_placeOf_79 : decode prog_9_method_18_code 79 = .ok (.getfield 84, 3) := by decide +kernel
theorem d_MD_placeOf_82 : decode prog_9_method_18_code 82 = .ok (.aload_n 0, 1) := by decide +kernel
theorem d_MD_placeOf_83 : decode prog_9_method_18_code 83 = .ok (.getfield 80, 3) := by decide +kernel
theorem d_MD_placeOf_86 : decode prog_9_method_18_code 86 = .ok (.lmul, 1) := by decide +kernel
theorem d_MD_placeOf_87 : decode prog_9_method_18_code 87 = .ok (.invokestatic 99, 3) := by decide +kernel
theorem d_MD_placeOf_90 : decode prog_9_method_18_code 90 = .ok (.l2i, 1) := by decide +kernel
theorem d_MD_placeOf_91 : decode prog_9_method_18_code 91 = .ok (.ireturn, 1) := by decide +kernel
theorem d_MD_missed_0 : decode prog_9_method_19_code 0 = .ok (.aload_n 0, 1) := by decide +kernel
theorem d_MD_missed_1 : decode prog_9_method_19_code 1 = .ok (.getfield 7, 3) := by decide +kernel
theorem d_MD_missed_4 : decode prog_9_method_19_code 4 = .ok (.iconst 3, 1) := by decide +kernel
theorem d_MD_missed_5 : decode prog_9_method_19_code 5 = .ok (.aload_n 0, 1) := by decide +kernel
theorem d_MD_missed_6 : decode prog_9_method_19_code 6 = .ok (.getfield 13, 3) := by decide +kernel
theorem d_MD_missed_9 : decode prog_9_method_19_code 9 = .ok (.iload_n 1, 1) := by decide +kernel
theorem d_MD_missed_10 : decode prog_9_method_19_code 10 = .ok (.iaload, 1) := by decide +kernel
theorem d_MD_missed_11 : decode prog_9_method_19_code 11 = .ok (.imul, 1) := by decide +kernel
theorem d_MD_missed_12 : decode prog_9_method_19_code 12 = .ok (.iload_n 2, 1) := by decide +kernel
theorem d_MD_missed_13 : decode prog_9_method_19_code 13 = .ok (.iadd, 1) := by decide +kernel
theorem d_MD_missed_14 : decode prog_9_method_19_code 14 = .ok (.iaload, 1) := by decide +kernel
theorem d_MD_missed_15 : decode prog_9_method_19_code 15 = .ok (.aload_n 0, 1) := by decide +kernel
theorem d_MD_missed_16 : decode prog_9_method_19_code 16 = .ok (.aload_n 0, 1) := by decide +kernel
theorem d_MD_missed_17 : decode prog_9_method_19_code 17 = .ok (.getfield 16, 3) := by decide +kernel
theorem d_MD_missed_20 : decode prog_9_method_19_code 20 = .ok (.iconst 3, 1) := by decide +kernel
theorem d_MD_missed_21 : decode prog_9_method_19_code 21 = .ok (.iload_n 1, 1) := by decide +kernel
theorem d_MD_missed_22 : decode prog_9_method_19_code 22 = .ok (.imul, 1) := by decide +kernel
theorem d_MD_missed_23 : decode prog_9_method_19_code 23 = .ok (.iaload, 1) := by decide +kernel
theorem d_MD_missed_24 : decode prog_9_method_19_code 24 = .ok (.aload_n 0, 1) := by decide +kernel
theorem d_MD_missed_25 : decode prog_9_method_19_code 25 = .ok (.getfield 16, 3) := by decide +kernel
theorem d_MD_missed_28 : decode prog_9_method_19_code 28 = .ok (.iconst 3, 1) := by decide +kernel
theorem d_MD_missed_29 : decode prog_9_method_19_code 29 = .ok (.iload_n 1, 1) := by decide +kernel
theorem d_MD_missed_30 : decode prog_9_method_19_code 30 = .ok (.imul, 1) := by decide +kernel
theorem d_MD_missed_31 : decode prog_9_method_19_code 31 = .ok (.iconst 1, 1) := by decide +kernel
theorem d_MD_missed_32 : decode prog_9_method_19_code 32 = .ok (.iadd, 1) := by decide +kernel
theorem d_MD_missed_33 : decode prog_9_method_19_code 33 = .ok (.iaload, 1) := by decide +kernel
theorem d_MD_missed_34 : decode prog_9_method_19_code 34 = .ok (.aload_n 0, 1) := by decide +kernel
theorem d_MD_missed_35 : decode prog_9_method_19_code 35 = .ok (.getfield 16, 3) := by decide +kernel
theorem d_MD_missed_38 : decode prog_9_method_19_code 38 = .ok (.iconst 3, 1) := by decide +kernel
theorem d_MD_missed_39 : decode prog_9_method_19_code 39 = .ok (.iload_n 1, 1) := by decide +kernel
theorem d_MD_missed_40 : decode prog_9_method_19_code 40 = .ok (.imul, 1) := by decide +kernel
theorem d_MD_missed_41 : decode prog_9_method_19_code 41 = .ok (.iconst 2, 1) := by decide +kernel
theorem d_MD_missed_42 : decode prog_9_method_19_code 42 = .ok (.iadd, 1) := by decide +kernel
theorem d_MD_missed_43 : decode prog_9_method_19_code 43 = .ok (.iaload, 1) := by decide +kernel
theorem d_MD_missed_44 : decode prog_9_method_19_code 44 = .ok (.aload_n 0, 1) := by decide +kernel
theorem d_MD_missed_45 : decode prog_9_method_19_code 45 = .ok (.getfield 30, 3) := by decide +kernel
theorem d_MD_missed_48 : decode prog_9_method_19_code 48 = .ok (.iload_n 1, 1) := by decide +kernel
theorem d_MD_missed_49 : decode prog_9_method_19_code 49 = .ok (.iaload, 1) := by decide +kernel
theorem d_MD_missed_50 : decode prog_9_method_19_code 50 = .ok (.isub, 1) := by decide +kernel
theorem d_MD_missed_51 : decode prog_9_method_19_code 51 = .ok (.iload_n 2, 1) := by decide +kernel
theorem d_MD_missed_52 : decode prog_9_method_19_code 52 = .ok (.invokevirtual 115, 3) := by decide +kernel
theorem d_MD_missed_55 : decode prog_9_method_19_code 55 = .ok (.isub, 1) := by decide +kernel
theorem d_MD_missed_56 : decode prog_9_method_19_code 56 = .ok (.ireturn, 1) := by decide +kernel
theorem d_MD_flat_0 : decode prog_9_method_21_code 0 = .ok (.aload_n 0, 1) := by decide +kernel
theorem d_MD_flat_1 : decode prog_9_method_21_code 1 = .ok (.iload_n 1, 1) := by decide +kernel
theorem d_MD_flat_2 : decode prog_9_method_21_code 2 = .ok (.iconst 0, 1) := by decide +kernel
theorem d_MD_flat_3 : decode prog_9_method_21_code 3 = .ok (.invokevirtual 119, 3) := by decide +kernel
theorem d_MD_flat_6 : decode prog_9_method_21_code 6 = .ok (.i2l, 1) := by decide +kernel
theorem d_MD_flat_7 : decode prog_9_method_21_code 7 = .ok (.lstore_n 2, 1) := by decide +kernel
theorem d_MD_flat_8 : decode prog_9_method_21_code 8 = .ok (.aload_n 0, 1) := by decide +kernel
theorem d_MD_flat_9 : decode prog_9_method_21_code 9 = .ok (.iload_n 1, 1) := by decide +kernel
theorem d_MD_flat_10 : decode prog_9_method_21_code 10 = .ok (.iconst 1, 1) := by decide +kernel
theorem d_MD_flat_11 : decode prog_9_method_21_code 11 = .ok (.invokevirtual 119, 3) := by decide +kernel
theorem d_MD_flat_14 : decode prog_9_method_21_code 14 = .ok (.i2l, 1) := by decide +kernel
theorem d_MD_flat_15 : decode prog_9_method_21_code 15 = .ok (.lstore 4, 2) := by decide +kernel
theorem d_MD_flat_17 : decode prog_9_method_21_code 17 = .ok (.lload_n 2, 1) := by decide +kernel
theorem d_MD_flat_18 : decode prog_9_method_21_code 18 = .ok (.lload_n 2, 1) := by decide +kernel
theorem d_MD_flat_19 : decode prog_9_method_21_code 19 = .ok (.lmul, 1) := by decide +kernel
theorem d_MD_flat_20 : decode prog_9_method_21_code 20 = .ok (.lload 4, 2) := by decide +kernel
theorem d_MD_flat_22 : decode prog_9_method_21_code 22 = .ok (.lload 4, 2) := by decide +kernel
theorem d_MD_flat_24 : decode prog_9_method_21_code 24 = .ok (.lmul, 1) := by decide +kernel
theorem d_MD_flat_25 : decode prog_9_method_21_code 25 = .ok (.ladd, 1) := by decide +kernel
theorem d_MD_flat_26 : decode prog_9_method_21_code 26 = .ok (.lreturn, 1) := by decide +kernel
theorem d_MD_place_0 : decode prog_9_method_25_code 0 = .ok (.aload_n 0, 1) := by decide +kernel
theorem d_MD_place_1 : decode prog_9_method_25_code 1 = .ok (.iload_n 1, 1) := by decide +kernel
theorem d_MD_place_2 : decode prog_9_method_25_code 2 = .ok (.iconst 0, 1) := by decide +kernel
theorem d_MD_place_3 : decode prog_9_method_25_code 3 = .ok (.aload_n 0, 1) := by decide +kernel
theorem d_MD_place_4 : decode prog_9_method_25_code 4 = .ok (.getfield 128, 3) := by decide +kernel
theorem d_MD_place_7 : decode prog_9_method_25_code 7 = .ok (.iconst 1, 1) := by decide +kernel
theorem d_MD_place_8 : decode prog_9_method_25_code 8 = .ok (.isub, 1) := by decide +kernel
theorem d_MD_place_9 : decode prog_9_method_25_code 9 = .ok (.invokestatic 51, 3) := by decide +kernel
theorem d_MD_place_12 : decode prog_9_method_25_code 12 = .ok (.ifCond .eq 16, 3) := by decide +kernel
theorem d_MD_place_15 : decode prog_9_method_25_code 15 = .ok (.iload_n 2, 1) := by decide +kernel
theorem d_MD_place_16 : decode prog_9_method_25_code 16 = .ok (.iconst 0, 1) := by decide +kernel
theorem d_MD_place_17 : decode prog_9_method_25_code 17 = .ok (.iconst 2, 1) := by decide +kernel
theorem d_MD_place_18 : decode prog_9_method_25_code 18 = .ok (.invokestatic 51, 3) := by decide +kernel
theorem d_MD_place_21 : decode prog_9_method_25_code 21 = .ok (.ifCond .eq 7, 3) := by decide +kernel
theorem d_MD_place_24 : decode prog_9_method_25_code 24 = .ok (.iconst 1, 1) := by decide +kernel
theorem d_MD_place_25 : decode prog_9_method_25_code 25 = .ok (.goto 4, 3) := by decide +kernel
theorem d_MD_place_28 : decode prog_9_method_25_code 28 = .ok (.iconst 0, 1) := by decide +kernel
theorem d_MD_place_29 : decode prog_9_method_25_code 29 = .ok (.aload_n 0, 1) := by decide +kernel
theorem d_MD_place_30 : decode prog_9_method_25_code 30 = .ok (.getfield 26, 3) := by decide +kernel
theorem d_MD_place_33 : decode prog_9_method_25_code 33 = .ok (.iconst (-1), 1) := by decide +kernel
theorem d_MD_place_34 : decode prog_9_method_25_code 34 = .ok (.if_icmp .eq 7, 3) := by decide +kernel
theorem d_MD_place_37 : decode prog_9_method_25_code 37 = .ok (.iconst 1, 1) := by decide +kernel
theorem d_MD_place_38 : decode prog_9_method_25_code 38 = .ok (.goto 4, 3) := by decide +kernel
theorem d_MD_place_41 : decode prog_9_method_25_code 41 = .ok (.iconst 0, 1) := by decide +kernel
theorem d_MD_place_42 : decode prog_9_method_25_code 42 = .ok (.iconst 1, 1) := by decide +kernel
theorem d_MD_place_43 : decode prog_9_method_25_code 43 = .ok (.invokevirtual 64, 3) := by decide +kernel
theorem d_MD_place_46 : decode prog_9_method_25_code 46 = .ok (.ifCond .ne 5, 3) := by decide +kernel
theorem d_MD_place_49 : decode prog_9_method_25_code 49 = .ok (.iconst 0, 1) := by decide +kernel
theorem d_MD_place_50 : decode prog_9_method_25_code 50 = .ok (.ireturn, 1) := by decide +kernel
theorem d_MD_place_51 : decode prog_9_method_25_code 51 = .ok (.aload_n 0, 1) := by decide +kernel
theorem d_MD_place_52 : decode prog_9_method_25_code 52 = .ok (.aload_n 0, 1) := by decide +kernel
theorem d_MD_place_53 : decode prog_9_method_25_code 53 = .ok (.getfield 36, 3) := by decide +kernel
theorem d_MD_place_56 : decode prog_9_method_25_code 56 = .ok (.iconst 3, 1) := by decide +kernel
theorem d_MD_place_57 : decode prog_9_method_25_code 57 = .ok (.iload_n 1, 1) := by decide +kernel
theorem d_MD_place_58 : decode prog_9_method_25_code 58 = .ok (.imul, 1) := by decide +kernel
theorem d_MD_place_59 : decode prog_9_method_25_code 59 = .ok (.iaload, 1) := by decide +kernel
theorem d_MD_place_60 : decode prog_9_method_25_code 60 = .ok (.aload_n 0, 1) := by decide +kernel
theorem d_MD_place_61 : decode prog_9_method_25_code 61 = .ok (.getfield 36, 3) := by decide +kernel
theorem d_MD_place_64 : decode prog_9_method_25_code 64 = .ok (.iconst 3, 1) := by decide +kernel
theorem d_MD_place_65 : decode prog_9_method_25_code 65 = .ok (.iload_n 1, 1) := by decide +kernel
theorem d_MD_place_66 : decode prog_9_method_25_code 66 = .ok (.imul, 1) := by decide +kernel
theorem d_MD_place_67 : decode prog_9_method_25_code 67 = .ok (.iconst 1, 1) := by decide +kernel
theorem d_MD_place_68 : decode prog_9_method_25_code 68 = .ok (.iadd, 1) := by decide +kernel
theorem d_MD_place_69 : decode prog_9_method_25_code 69 = .ok (.iaload, 1) := by decide +kernel
theorem d_MD_place_70 : decode prog_9_method_25_code 70 = .ok (.aload_n 0, 1) := by decide +kernel
theorem d_MD_place_71 : decode prog_9_method_25_code 71 = .ok (.getfield 36, 3) := by decide +kernel
theorem d_MD_place_74 : decode prog_9_method_25_code 74 = .ok (.iconst 3, 1) := by decide +kernel
theorem d_MD_place_75 : decode prog_9_method_25_code 75 = .ok (.iload_n 1, 1) := by decide +kernel
theorem d_MD_place_76 : decode prog_9_method_25_code 76 = .ok (.imul, 1) := by decide +kernel
theorem d_MD_place_77 : decode prog_9_method_25_code 77 = .ok (.iconst 2, 1) := by decide +kernel
theorem d_MD_place_78 : decode prog_9_method_25_code 78 = .ok (.iadd, 1) := by decide +kernel
theorem d_MD_place_79 : decode prog_9_method_25_code 79 = .ok (.iaload, 1) := by decide +kernel
theorem d_MD_place_80 : decode prog_9_method_25_code 80 = .ok (.iload_n 2, 1) := by decide +kernel
theorem d_MD_place_81 : decode prog_9_method_25_code 81 = .ok (.invokevirtual 115, 3) := by decide +kernel
theorem d_MD_place_84 : decode prog_9_method_25_code 84 = .ok (.ireturn, 1) := by decide +kernel
theorem d_MD_sum_0 : decode prog_9_method_23_code 0 = .ok (.aload_n 0, 1) := by decide +kernel
theorem d_MD_sum_1 : decode prog_9_method_23_code 1 = .ok (.aload_n 0, 1) := by decide +kernel
theorem d_MD_sum_2 : decode prog_9_method_23_code 2 = .ok (.getfield 26, 3) := by decide +kernel
theorem d_MD_sum_5 : decode prog_9_method_23_code 5 = .ok (.iconst (-1), 1) := by decide +kernel
theorem d_MD_sum_6 : decode prog_9_method_23_code 6 = .ok (.if_icmp .eq 7, 3) := by decide +kernel
theorem d_MD_sum_9 : decode prog_9_method_23_code 9 = .ok (.iconst 1, 1) := by decide +kernel
theorem d_MD_sum_10 : decode prog_9_method_23_code 10 = .ok (.goto 4, 3) := by decide +kernel
theorem d_MD_sum_13 : decode prog_9_method_23_code 13 = .ok (.iconst 0, 1) := by decide +kernel
theorem d_MD_sum_14 : decode prog_9_method_23_code 14 = .ok (.iconst 1, 1) := by decide +kernel
theorem d_MD_sum_15 : decode prog_9_method_23_code 15 = .ok (.iconst 1, 1) := by decide +kernel
theorem d_MD_sum_16 : decode prog_9_method_23_code 16 = .ok (.invokevirtual 64, 3) := by decide +kernel
theorem d_MD_sum_19 : decode prog_9_method_23_code 19 = .ok (.ifCond .ne 5, 3) := by decide +kernel
theorem d_MD_sum_22 : decode prog_9_method_23_code 22 = .ok (.lconst 0, 1) := by decide +kernel
theorem d_MD_sum_23 : decode prog_9_method_23_code 23 = .ok (.lreturn, 1) := by decide +kernel
theorem d_MD_sum_24 : decode prog_9_method_23_code 24 = .ok (.lconst 0, 1) := by decide +kernel
theorem d_MD_sum_25 : decode prog_9_method_23_code 25 = .ok (.lstore_n 1, 1) := by decide +kernel
theorem d_MD_sum_26 : decode prog_9_method_23_code 26 = .ok (.iconst 0, 1) := by decide +kernel
theorem d_MD_sum_27 : decode prog_9_method_23_code 27 = .ok (.istore_n 3, 1) := by decide +kernel
theorem d_MD_sum_28 : decode prog_9_method_23_code 28 = .ok (.iload_n 3, 1) := by decide +kernel
theorem d_MD_sum_29 : decode prog_9_method_23_code 29 = .ok (.aload_n 0, 1) := by decide +kernel
theorem d_MD_sum_30 : decode prog_9_method_23_code 30 = .ok (.getfield 26, 3) := by decide +kernel
theorem d_MD_sum_33 : decode prog_9_method_23_code 33 = .ok (.if_icmp .ge 45, 3) := by decide +kernel
theorem d_MD_sum_36 : decode prog_9_method_23_code 36 = .ok (.aload_n 0, 1) := by decide +kernel
theorem d_MD_sum_37 : decode prog_9_method_23_code 37 = .ok (.iload_n 3, 1) := by decide +kernel
theorem d_MD_sum_38 : decode prog_9_method_23_code 38 = .ok (.iconst 2, 1) := by decide +kernel
theorem d_MD_sum_39 : decode prog_9_method_23_code 39 = .ok (.invokevirtual 119, 3) := by decide +kernel
theorem d_MD_sum_42 : decode prog_9_method_23_code 42 = .ok (.i2l, 1) := by decide +kernel
theorem d_MD_sum_43 : decode prog_9_method_23_code 43 = .ok (.lstore 4, 2) := by decide +kernel
theorem d_MD_sum_45 : decode prog_9_method_23_code 45 = .ok (.aload_n 0, 1) := by decide +kernel
theorem d_MD_sum_46 : decode prog_9_method_23_code 46 = .ok (.getfield 33, 3) := by decide +kernel
theorem d_MD_sum_49 : decode prog_9_method_23_code 49 = .ok (.iload_n 3, 1) := by decide +kernel
theorem d_MD_sum_50 : decode prog_9_method_23_code 50 = .ok (.baload, 1) := by decide +kernel
theorem d_MD_sum_51 : decode prog_9_method_23_code 51 = .ok (.ifCond .eq 19, 3) := by decide +kernel
theorem d_MD_sum_54 : decode prog_9_method_23_code 54 = .ok (.lload_n 1, 1) := by decide +kernel
theorem d_MD_sum_55 : decode prog_9_method_23_code 55 = .ok (.aload_n 0, 1) := by decide +kernel
theorem d_MD_sum_56 : decode prog_9_method_23_code 56 = .ok (.iload_n 3, 1) := by decide +kernel
theorem d_MD_sum_57 : decode prog_9_method_23_code 57 = .ok (.invokevirtual 124, 3) := by decide +kernel
theorem d_MD_sum_60 : decode prog_9_method_23_code 60 = .ok (.ladd, 1) := by decide +kernel
theorem d_MD_sum_61 : decode prog_9_method_23_code 61 = .ok (.lload 4, 2) := by decide +kernel
theorem d_MD_sum_63 : decode prog_9_method_23_code 63 = .ok (.lload 4, 2) := by decide +kernel
theorem d_MD_sum_65 : decode prog_9_method_23_code 65 = .ok (.lmul, 1) := by decide +kernel
theorem d_MD_sum_66 : decode prog_9_method_23_code 66 = .ok (.ladd, 1) := by decide +kernel
theorem d_MD_sum_67 : decode prog_9_method_23_code 67 = .ok (.goto 4, 3) := by decide +kernel
theorem d_MD_sum_70 : decode prog_9_method_23_code 70 = .ok (.lload_n 1, 1) := by decide +kernel
theorem d_MD_sum_71 : decode prog_9_method_23_code 71 = .ok (.lstore_n 1, 1) := by decide +kernel
theorem d_MD_sum_72 : decode prog_9_method_23_code 72 = .ok (.iinc 3 1, 3) := by decide +kernel
theorem d_MD_sum_75 : decode prog_9_method_23_code 75 = .ok (.goto (-47), 3) := by decide +kernel
theorem d_MD_sum_78 : decode prog_9_method_23_code 78 = .ok (.lload_n 1, 1) := by decide +kernel
theorem d_MD_sum_79 : decode prog_9_method_23_code 79 = .ok (.lreturn, 1) := by decide +kernel
set_option maxHeartbeats 4000000 in
set_option maxRecDepth 100000 in
/-- setUp, which can not -/
theorem c_MD_setUp_f (l : Launch) (dC : Nat → ClassId) (dI : Nat → Nat → Nat) (sz : Nat) (h0 : Nat) (th : Int32) (nm : Nat) (ap : Nat) (no : Nat) (am : Nat) (aw : Nat) (az : Nat) (au : Nat) (kn : Int32) (vP : Int64) (vQ : Int64) (vS : Int64) (vT : Int64) (vB : Int64) (vM : Int64) (vH : Int64) (ao : Nat) (ax : Nat) (np : Nat) (ay : Nat) (nl : Nat) (ad : Nat) (al : Nat) (sn : Nat) (ag : Nat) (ta : Nat) (nb : Int32) (kp : ClassId) (km : ClassId) (kw : ClassId) (kz : ClassId) (ku : ClassId) (ko : ClassId) (kx : ClassId) (mk : Nat → Nat) (gp : Nat → Int32) (gw : Nat → Int32) (gz : Nat → Int32) (gu : Nat → Int32) (ho : Nat → Int32) (hx_ : Nat → Int32) (hno : no ≤ 20) (hmk : ∀ o, o < no → mk o < 12) (hb01 : ∀ k, gu k = 0 ∨ gu k = 1) (hw0 : sr_spread ((nI (sr_cu gu no)).toInt64) (sr_sm gu (md_g4 gw) no) (sr_sm gu (md_g5 gw) no) (sr_sm gu (md_g6 gw) no) = 0) : Met l xy_MD_setUp xw_MD_setUp ({ frames := 2, cells := 0, slots := 0, locals := 69 }) (xp_w [.ref h0] sz (dC, dI) xCl [(h0, .inr (7, [.int th, .int (nI nm), .ref ap, .int (nI no), .ref am, .ref aw, .ref az, .ref au, .int kn, .long vP, .long vQ, .long vS, .long vT, .long vB, .long vM, .long vH, .ref ao, .ref ax, .int (nI np), .ref ay, .int (nI nl), .ref ad, .ref al, .int (nI sn), .ref ag, .int (nI ta), .int nb])), (ap, .inl (kp, 36, .inl gp)), (am, .inl (km, 20, .inl (md_mk mk))), (aw, .inl (kw, 60, .inl gw)), (az, .inl (kz, 20, .inl gz)), (au, .inl (ku, 20, .inl gu)), (ao, .inl (ko, 20, .inl ho)), (ax, .inl (kx, 20, .inl hx_))] [(kp, .int), (km, .int), (kw, .int), (kz, .int), (ku, .boolean), (ko, .int), (kx, .boolean)]) (va_Qi (fun (r : Int32) (_ : Unit) => r = -1) (fun _ t => xb_w (dC, dI) xCl [(h0, .inr (7, [.int 0, .int (nI nm), .ref ap, .int (nI no), .ref am, .ref aw, .ref az, .ref au, .int kn, .long vP, .long vQ, .long vS, .long vT, .long vB, .long vM, .long vH, .ref ao, .ref ax, .int (nI np), .ref ay, .int (nI nl), .ref ad, .ref al, .int (nI sn), .ref ag, .int (nI ta), .int nb])), (ap, .inl (kp, 36, .inl gp)), (am, .inl (km, 20, .inl (md_mk mk))), (aw, .inl (kw, 60, .inl gw)), (az, .inl (kz, 20, .inl gz)), (au, .inl (ku, 20, .inl gu)), (ao, .inl (ko, 20, .inl ho)), (ax, .inl (kx, 20, .inl hx_))] [(kp, .int), (km, .int), (kw, .int), (kz, .int), (ku, .boolean), (ko, .int), (kx, .boolean)] (va_A [(h0, .inr (7, [.int th, .int (nI nm), .ref ap, .int (nI no), .ref am, .ref aw, .ref az, .ref au, .int kn, .long vP, .long vQ, .long vS, .long vT, .long vB, .long vM, .long vH, .ref ao, .ref ax, .int (nI np), .ref ay, .int (nI nl), .ref ad, .ref al, .int (nI sn), .ref ag, .int (nI ta), .int nb])), (ap, .inl (kp, 36, .inl gp)), (am, .inl (km, 20, .inl (md_mk mk))), (aw, .inl (kw, 60, .inl gw)), (az, .inl (kz, 20, .inl gz)), (au, .inl (ku, 20, .inl gu)), (ao, .inl (ko, 20, .inl ho)), (ax, .inl (kx, 20, .inl hx_))] sz) t) (va_A [(h0, .inr (7, [.int th, .int (nI nm), .ref ap, .int (nI no), .ref am, .ref aw, .ref az, .ref au, .int kn, .long vP, .long vQ, .long vS, .long vT, .long vB, .long vM, .long vH, .ref ao, .ref ax, .int (nI np), .ref ay, .int (nI nl), .ref ad, .ref al, .int (nI sn), .ref ag, .int (nI ta), .int nb])), (ap, .inl (kp, 36, .inl gp)), (am, .inl (km, 20, .inl (md_mk mk))), (aw, .inl (kw, 60, .inl gw)), (az, .inl (kz, 20, .inl gz)), (au, .inl (ku, 20, .inl gu)), (ao, .inl (ko, 20, .inl ho)), (ax, .inl (kx, 20, .inl hx_))] sz)) 0 0 (va_A [(h0, .inr (7, [.int th, .int (nI nm), .ref ap, .int (nI no), .ref am, .ref aw, .ref az, .ref au, .int kn, .long vP, .long vQ, .long vS, .long vT, .long vB, .long vM, .long vH, .ref ao, .ref ax, .int (nI np), .ref ay, .int (nI nl), .ref ad, .ref al, .int (nI sn), .ref ag, .int (nI ta), .int nb])), (ap, .inl (kp, 36, .inl gp)), (am, .inl (km, 20, .inl (md_mk mk))), (aw, .inl (kw, 60, .inl gw)), (az, .inl (kz, 20, .inl gz)), (au, .inl (ku, 20, .inl gu)), (ao, .inl (ko, 20, .inl ho)), (ax, .inl (kx, 20, .inl hx_))] sz) := by
  refine Met.ofW (cc := prog_9_method_15_code) (maxL := 1) (ret := (some .int)) (by decide) rfl ?_
  intro p e s m args below meth c s₁ B hml hv
  obtain ⟨rfl, hsz, hz, hP, hK, hD0⟩ := hv
  have hx := B.exec
  have hb := B.bytes
  have hr := B.returns
  have hts := atoms_spec (ws := xw_MD_setUp) B.pre
  have hown : s.vm.findClass xR_MD = some m.cls := findClass_of_methodNamed B.named
  have hlocks := B.notSynchronized
  subst hsz
  have hD := hD0.self (sz := s.heap.size)
  generalize hAe : va_A [(h0, .inr (7, [.int th, .int (nI nm), .ref ap, .int (nI no), .ref am, .ref aw, .ref az, .ref au, .int kn, .long vP, .long vQ, .long vS, .long vT, .long vB, .long vM, .long vH, .ref ao, .ref ax, .int (nI np), .ref ay, .int (nI nl), .ref ad, .ref al, .int (nI sn), .ref ag, .int (nI ta), .int nb])), (ap, .inl (kp, 36, .inl gp)), (am, .inl (km, 20, .inl (md_mk mk))), (aw, .inl (kw, 60, .inl gw)), (az, .inl (kz, 20, .inl gz)), (au, .inl (ku, 20, .inl gu)), (ao, .inl (ko, 20, .inl ho)), (ax, .inl (kx, 20, .inl hx_))] s.heap.size = A at hD ⊢
  have hA : ∀ q : Nat, s.heap.size ≤ q → A q := fun q h => by rw [← hAe]; exact Or.inr h
  have hS : va_S A s.heap s.heap [] := va_S.rf
  have hP : va_P (dC, dI) xCl [(h0, .inr (7, [.int th, .int (nI nm), .ref ap, .int (nI no), .ref am, .ref aw, .ref az, .ref au, .int kn, .long vP, .long vQ, .long vS, .long vT, .long vB, .long vM, .long vH, .ref ao, .ref ax, .int (nI np), .ref ay, .int (nI nl), .ref ad, .ref al, .int (nI sn), .ref ag, .int (nI ta), .int nb])), (ap, .inl (kp, 36, .inl gp)), (am, .inl (km, 20, .inl (md_mk mk))), (aw, .inl (kw, 60, .inl gw)), (az, .inl (kz, 20, .inl gz)), (au, .inl (ku, 20, .inl gu)), (ao, .inl (ko, 20, .inl ho)), (ax, .inl (kx, 20, .inl hx_))] s.heap := hP
  have hl := lv_entry ([.ref h0]) (n := 1) (Nat.le_of_ble_eq_true rfl)
  rw [lg_entry_eq]
  generalize (lg_sl ([.ref h0]) ++ List.replicate (1 - (lg_sl ([.ref h0])).length) Slot.unset).toArray = ls at hl ⊢
  have hl : lv_has ls 1 [(0, .ref h0)] := hl
  refine lv_aload_n hx hb d_MD_setUp_0 rfl (lv_at hl 0 rfl) ?_
  refine lv_iconst (v := 0) hx hb d_MD_setUp_1 (by decide) ?_
  refine va_put (D := (dC, dI)) (ci := 7) (v := .int 0) (ty := .int) (C := xR_MD) (T := xT_MD) (N := 27) hx hb hts (fun w h => List.mem_cons_of_mem _ (iw_MD w h)) xt_MD xt_MD_ok xn_MD_nm hown hK hP hD hS 0 rfl rfl 0 (by decide) (hts _ (List.mem_cons_of_mem _ wm_697)) (fun _ h9 => h9) rfl (by decide +kernel) rfl rfl (Nat.le_of_ble_eq_true rfl) d_MD_setUp_2 (fun H locs hP hD hS => ?_)
  have hP : va_P (dC, dI) xCl [(h0, .inr (7, [.int 0, .int (nI nm), .ref ap, .int (nI no), .ref am, .ref aw, .ref az, .ref au, .int kn, .long vP, .long vQ, .long vS, .long vT, .long vB, .long vM, .long vH, .ref ao, .ref ax, .int (nI np), .ref ay, .int (nI nl), .ref ad, .ref al, .int (nI sn), .ref ag, .int (nI ta), .int nb])), (ap, .inl (kp, 36, .inl gp)), (am, .inl (km, 20, .inl (md_mk mk))), (aw, .inl (kw, 60, .inl gw)), (az, .inl (kz, 20, .inl gz)), (au, .inl (ku, 20, .inl gu)), (ao, .inl (ko, 20, .inl ho)), (ax, .inl (kx, 20, .inl hx_))] H := hP
  have hD : va_D A [(h0, .inr (7, [.int 0, .int (nI nm), .ref ap, .int (nI no), .ref am, .ref aw, .ref az, .ref au, .int kn, .long vP, .long vQ, .long vS, .long vT, .long vB, .long vM, .long vH, .ref ao, .ref ax, .int (nI np), .ref ay, .int (nI nl), .ref ad, .ref al, .int (nI sn), .ref ag, .int (nI ta), .int nb])), (ap, .inl (kp, 36, .inl gp)), (am, .inl (km, 20, .inl (md_mk mk))), (aw, .inl (kw, 60, .inl gw)), (az, .inl (kz, 20, .inl gz)), (au, .inl (ku, 20, .inl gu)), (ao, .inl (ko, 20, .inl ho)), (ax, .inl (kx, 20, .inl hx_))] := hD
  refine lv_aload_n hx hb d_MD_setUp_5 rfl (lv_at hl 0 rfl) ?_
  have hPc := hP.sub (ws' := [(h0, .inr (7, [.int 0, .int (nI nm), .ref ap, .int (nI no), .ref am, .ref aw, .ref az, .ref au, .int kn, .long vP, .long vQ, .long vS, .long vT, .long vB, .long vM, .long vH, .ref ao, .ref ax, .int (nI np), .ref ay, .int (nI nl), .ref ad, .ref al, .int (nI sn), .ref ag, .int (nI ta), .int nb])), (ap, .inl (kp, 36, .inl gp)), (am, .inl (km, 20, .inl (md_mk mk))), (aw, .inl (kw, 60, .inl gw)), (az, .inl (kz, 20, .inl gz)), (au, .inl (ku, 20, .inl gu)), (ao, .inl (ko, 20, .inl ho)), (ax, .inl (kx, 20, .inl hx_))]) [0, 1, 2, 3, 4, 5, 6, 7] rfl
  have hDc := hD.sub (ws' := [(h0, .inr (7, [.int 0, .int (nI nm), .ref ap, .int (nI no), .ref am, .ref aw, .ref az, .ref au, .int kn, .long vP, .long vQ, .long vS, .long vT, .long vB, .long vM, .long vH, .ref ao, .ref ax, .int (nI np), .ref ay, .int (nI nl), .ref ad, .ref al, .int (nI sn), .ref ag, .int (nI ta), .int nb])), (ap, .inl (kp, 36, .inl gp)), (am, .inl (km, 20, .inl (md_mk mk))), (aw, .inl (kw, 60, .inl gw)), (az, .inl (kz, 20, .inl gz)), (au, .inl (ku, 20, .inl gu)), (ao, .inl (ko, 20, .inl ho)), (ax, .inl (kx, 20, .inl hx_))]) [0, 1, 2, 3, 4, 5, 6, 7] (by decide) rfl
  have hKc := hK.sub (tys' := [(kp, .int), (km, .int), (kw, .int), (kz, .int), (ku, .boolean), (ko, .int), (kx, .boolean)]) [0, 1, 2, 3, 4, 5, 6] rfl
  have hFc := va_free (wc := [(h0, .inr (7, [.int 0, .int (nI nm), .ref ap, .int (nI no), .ref am, .ref aw, .ref az, .ref au, .int kn, .long vP, .long vQ, .long vS, .long vT, .long vB, .long vM, .long vH, .ref ao, .ref ax, .int (nI np), .ref ay, .int (nI nl), .ref ad, .ref al, .int (nI sn), .ref ag, .int (nI ta), .int nb])), (ap, .inl (kp, 36, .inl gp)), (am, .inl (km, 20, .inl (md_mk mk))), (aw, .inl (kw, 60, .inl gw)), (az, .inl (kz, 20, .inl gz)), (au, .inl (ku, 20, .inl gu)), (ao, .inl (ko, 20, .inl ho)), (ax, .inl (kx, 20, .inl hx_))]) hD hS hA [0, 1, 2, 3, 4, 5, 6, 7] rfl
  refine va_calli (va_runV (As := []) (rest := []) ⟨hx, hb, hml, hown, hts⟩ (c_MD_sets_f l dC dI H.size h0 0 nm ap no am aw az au kn vP vQ vS vT vB vM vH ao ax np ay nl ad al sn ag ta nb kp km kw kz ku ko kx mk gp gw gz gu ho hx_ (by first | assumption | omega | decide) (by first | assumption | omega | decide) (by first | assumption | omega | decide) (by first | assumption | omega | decide)) (cwV 0 hts (xgV wm_821 wm_823 wm_16 wm_34 wm_824) rfl rfl rfl (by decide +kernel) ⟨Nat.le_of_ble_eq_true rfl, Nat.le_of_ble_eq_true rfl⟩) ⟨xw_blind, va_recv hKc hPc (ci := 7) (q0 := 0) rfl rfl, fun U hU hW => ⟨rfl, by rw [hU], hz.warm hW, by rw [hU]; exact hPc, va_K.moved hW.alike hKc, hDc.weaken (fun _ _ _ _ => trivial)⟩⟩ rfl rfl hl.1 rfl (lv_room (Nat.le_of_ble_eq_true rfl)) d_MD_setUp_6 ⟨Nat.le_of_ble_eq_true rfl, Nat.le_of_ble_eq_true rfl⟩) hS (fun q _ h => hFc q h) hFc (fun r_1 _ t H1 locs ht hvm hw_2 hB hz1 hk1 hS => ?_)
  obtain ⟨hP1, hK1, hD1⟩ := hB
  rw [ht] at hP1
  have hK1 := va_K.moved hvm.symm hK1
  obtain ⟨hP, hD⟩ := va_join (wr := []) (w1 := [(h0, .inr (7, [.int 0, .int (nI nm), .ref ap, .int (nI no), .ref am, .ref aw, .ref az, .ref au, .int kn, .long vP, .long vQ, .long vS, .long vT, .long vB, .long vM, .long vH, .ref ao, .ref ax, .int (nI np), .ref ay, .int (nI nl), .ref ad, .ref al, .int (nI sn), .ref ag, .int (nI ta), .int nb])), (ap, .inl (kp, 36, .inl gp)), (am, .inl (km, 20, .inl (md_mk mk))), (aw, .inl (kw, 60, .inl gw)), (az, .inl (kz, 20, .inl gz)), (au, .inl (ku, 20, .inl gu)), (ao, .inl (ko, 20, .inl ho)), (ax, .inl (kx, 20, .inl hx_))]) hP hD [0, 1, 2, 3, 4, 5, 6, 7] [] rfl rfl (by decide) (by decide) hk1 hFc hP1 hD1
  generalize H1 = H at hP hS ⊢
  have hP : va_P (dC, dI) xCl [(h0, .inr (7, [.int 0, .int (nI nm), .ref ap, .int (nI no), .ref am, .ref aw, .ref az, .ref au, .int kn, .long vP, .long vQ, .long vS, .long vT, .long vB, .long vM, .long vH, .ref ao, .ref ax, .int (nI np), .ref ay, .int (nI nl), .ref ad, .ref al, .int (nI sn), .ref ag, .int (nI ta), .int nb])), (ap, .inl (kp, 36, .inl gp)), (am, .inl (km, 20, .inl (md_mk mk))), (aw, .inl (kw, 60, .inl gw)), (az, .inl (kz, 20, .inl gz)), (au, .inl (ku, 20, .inl gu)), (ao, .inl (ko, 20, .inl ho)), (ax, .inl (kx, 20, .inl hx_))] H := hP
  have hD : va_D A [(h0, .inr (7, [.int 0, .int (nI nm), .ref ap, .int (nI no), .ref am, .ref aw, .ref az, .ref au, .int kn, .long vP, .long vQ, .long vS, .long vT, .long vB, .long vM, .long vH, .ref ao, .ref ax, .int (nI np), .ref ay, .int (nI nl), .ref ad, .ref al, .int (nI sn), .ref ag, .int (nI ta), .int nb])), (ap, .inl (kp, 36, .inl gp)), (am, .inl (km, 20, .inl (md_mk mk))), (aw, .inl (kw, 60, .inl gw)), (az, .inl (kz, 20, .inl gz)), (au, .inl (ku, 20, .inl gu)), (ao, .inl (ko, 20, .inl ho)), (ax, .inl (kx, 20, .inl hx_))] := hD
  subst hw_2
  refine lv_if_eq (tgt := 19) hx hb d_MD_setUp_9 (by decide) (fun c_3 => ?_) (fun c_3 => ?_)
  · refine lv_iconst (v := (-1)) hx hb d_MD_setUp_19 (by decide) ?_
    have hP9 := hP.sub (ws' := [(h0, .inr (7, [.int 0, .int (nI nm), .ref ap, .int (nI no), .ref am, .ref aw, .ref az, .ref au, .int kn, .long vP, .long vQ, .long vS, .long vT, .long vB, .long vM, .long vH, .ref ao, .ref ax, .int (nI np), .ref ay, .int (nI nl), .ref ad, .ref al, .int (nI sn), .ref ag, .int (nI ta), .int nb])), (ap, .inl (kp, 36, .inl gp)), (am, .inl (km, 20, .inl (md_mk mk))), (aw, .inl (kw, 60, .inl gw)), (az, .inl (kz, 20, .inl gz)), (au, .inl (ku, 20, .inl gu)), (ao, .inl (ko, 20, .inl ho)), (ax, .inl (kx, 20, .inl hx_))]) [0, 1, 2, 3, 4, 5, 6, 7] rfl
    have hD9 := hD.sub (ws' := [(h0, .inr (7, [.int 0, .int (nI nm), .ref ap, .int (nI no), .ref am, .ref aw, .ref az, .ref au, .int kn, .long vP, .long vQ, .long vS, .long vT, .long vB, .long vM, .long vH, .ref ao, .ref ax, .int (nI np), .ref ay, .int (nI nl), .ref ad, .ref al, .int (nI sn), .ref ag, .int (nI ta), .int nb])), (ap, .inl (kp, 36, .inl gp)), (am, .inl (km, 20, .inl (md_mk mk))), (aw, .inl (kw, 60, .inl gw)), (az, .inl (kz, 20, .inl gz)), (au, .inl (ku, 20, .inl gu)), (ao, .inl (ko, 20, .inl ho)), (ax, .inl (kx, 20, .inl hx_))]) [0, 1, 2, 3, 4, 5, 6, 7] (by decide) rfl
    have hK9 := hK.sub (tys' := [(kp, .int), (km, .int), (kw, .int), (kz, .int), (ku, .boolean), (ko, .int), (kx, .boolean)]) [0, 1, 2, 3, 4, 5, 6] rfl
    exact W.iret (v := (-1)) hx hb hr (fun t ht hW => ⟨⟨(-1), (), rfl, rfl, ⟨by rw [ht]; exact hP9, va_K.moved hW.alike hK9, by exact hD9⟩⟩, hS.F ht⟩) hS.2.2 d_MD_setUp_20 hlocks
  · exact absurd c_3 (by decide)
set_option maxHeartbeats 4000000 in
set_option maxRecDepth 100000 in
/-- setUp -/
theorem c_MD_setUp_t (l : Launch) (dC : Nat → ClassId) (dI : Nat → Nat → Nat) (sz : Nat) (h0 : Nat) (th : Int32) (nm : Nat) (ap : Nat) (no : Nat) (am : Nat) (aw : Nat) (az : Nat) (au : Nat) (kn : Int32) (vP : Int64) (vQ : Int64) (vS : Int64) (vT : Int64) (vB : Int64) (vM : Int64) (vH : Int64) (ao : Nat) (ax : Nat) (np : Nat) (ay : Nat) (nl : Nat) (ad : Nat) (al : Nat) (sn : Nat) (ag : Nat) (ta : Nat) (nb : Int32) (kp : ClassId) (km : ClassId) (kw : ClassId) (kz : ClassId) (ku : ClassId) (ko : ClassId) (kx : ClassId) (mk : Nat → Nat) (gp : Nat → Int32) (gw : Nat → Int32) (gz : Nat → Int32) (gu : Nat → Int32) (ho : Nat → Int32) (hx_ : Nat → Int32) (hno : no ≤ 20) (hmk : ∀ o, o < no → mk o < 12) (hb01 : ∀ k, gu k = 0 ∨ gu k = 1) (hw0 : ¬ sr_spread ((nI (sr_cu gu no)).toInt64) (sr_sm gu (md_g4 gw) no) (sr_sm gu (md_g5 gw) no) (sr_sm gu (md_g6 gw) no) = 0) (hn0 : 0 < (nI (sr_cu gu no)).toInt64) : Met l xy_MD_setUp xw_MD_setUp ({ frames := 2, cells := 0, slots := 0, locals := 72 }) (xp_w [.ref h0] sz (dC, dI) xCl [(h0, .inr (7, [.int th, .int (nI nm), .ref ap, .int (nI no), .ref am, .ref aw, .ref az, .ref au, .int kn, .long vP, .long vQ, .long vS, .long vT, .long vB, .long vM, .long vH, .ref ao, .ref ax, .int (nI np), .ref ay, .int (nI nl), .ref ad, .ref al, .int (nI sn), .ref ag, .int (nI ta), .int nb])), (ap, .inl (kp, 36, .inl gp)), (am, .inl (km, 20, .inl (md_mk mk))), (aw, .inl (kw, 60, .inl gw)), (az, .inl (kz, 20, .inl gz)), (au, .inl (ku, 20, .inl gu)), (ao, .inl (ko, 20, .inl ho)), (ax, .inl (kx, 20, .inl hx_))] [(kp, .int), (km, .int), (kw, .int), (kz, .int), (ku, .boolean), (ko, .int), (kx, .boolean)]) (va_Qi (fun (r : Int32) (_ : Unit) => r = nI (sr_cu gu no)) (fun _ t => xb_w (dC, dI) xCl [(h0, .inr (7, [.int 0, .int (nI nm), .ref ap, .int (nI no), .ref am, .ref aw, .ref az, .ref au, .int (nI no), .long (sr_cosine ((nI (sr_cu gu no)).toInt64) (sr_sm gu (md_g2 gp mk) no) (sr_sm gu (md_g3 gp mk) no) (sr_sm gu (md_g4 gw) no) (sr_sm gu (md_g5 gw) no) (sr_sm gu (md_g7 gp gw mk) no)), .long (sr_sine ((nI (sr_cu gu no)).toInt64) (sr_sm gu (md_g2 gp mk) no) (sr_sm gu (md_g3 gp mk) no) (sr_sm gu (md_g4 gw) no) (sr_sm gu (md_g5 gw) no) (sr_sm gu (md_g8 gp gw mk) no)), .long (sr_sm gu (md_g2 gp mk) no * sr_spread ((nI (sr_cu gu no)).toInt64) (sr_sm gu (md_g4 gw) no) (sr_sm gu (md_g5 gw) no) (sr_sm gu (md_g6 gw) no) - sr_cosine ((nI (sr_cu gu no)).toInt64) (sr_sm gu (md_g2 gp mk) no) (sr_sm gu (md_g3 gp mk) no) (sr_sm gu (md_g4 gw) no) (sr_sm gu (md_g5 gw) no) (sr_sm gu (md_g7 gp gw mk) no) * sr_sm gu (md_g4 gw) no + sr_sine ((nI (sr_cu gu no)).toInt64) (sr_sm gu (md_g2 gp mk) no) (sr_sm gu (md_g3 gp mk) no) (sr_sm gu (md_g4 gw) no) (sr_sm gu (md_g5 gw) no) (sr_sm gu (md_g8 gp gw mk) no) * sr_sm gu (md_g5 gw) no), .long (sr_sm gu (md_g3 gp mk) no * sr_spread ((nI (sr_cu gu no)).toInt64) (sr_sm gu (md_g4 gw) no) (sr_sm gu (md_g5 gw) no) (sr_sm gu (md_g6 gw) no) - sr_sine ((nI (sr_cu gu no)).toInt64) (sr_sm gu (md_g2 gp mk) no) (sr_sm gu (md_g3 gp mk) no) (sr_sm gu (md_g4 gw) no) (sr_sm gu (md_g5 gw) no) (sr_sm gu (md_g8 gp gw mk) no) * sr_sm gu (md_g4 gw) no - sr_cosine ((nI (sr_cu gu no)).toInt64) (sr_sm gu (md_g2 gp mk) no) (sr_sm gu (md_g3 gp mk) no) (sr_sm gu (md_g4 gw) no) (sr_sm gu (md_g5 gw) no) (sr_sm gu (md_g7 gp gw mk) no) * sr_sm gu (md_g5 gw) no), .long (sr_spread ((nI (sr_cu gu no)).toInt64) (sr_sm gu (md_g4 gw) no) (sr_sm gu (md_g5 gw) no) (sr_sm gu (md_g6 gw) no)), .long ((nI (sr_cu gu no)).toInt64), .long (sr_fd (sr_sm gu (md_g9 gp gw gz mk) no) ((nI (sr_cu gu no)).toInt64)), .ref ao, .ref ax, .int (nI np), .ref ay, .int (nI nl), .ref ad, .ref al, .int (nI sn), .ref ag, .int (nI ta), .int nb])), (ap, .inl (kp, 36, .inl gp)), (am, .inl (km, 20, .inl (md_mk mk))), (aw, .inl (kw, 60, .inl gw)), (az, .inl (kz, 20, .inl gz)), (au, .inl (ku, 20, .inl gu)), (ao, .inl (ko, 20, .inl (sr_cp 20 gz ho))), (ax, .inl (kx, 20, .inl (sr_cp 20 gu hx_)))] [(kp, .int), (km, .int), (kw, .int), (kz, .int), (ku, .boolean), (ko, .int), (kx, .boolean)] (va_A [(h0, .inr (7, [.int th, .int (nI nm), .ref ap, .int (nI no), .ref am, .ref aw, .ref az, .ref au, .int kn, .long vP, .long vQ, .long vS, .long vT, .long vB, .long vM, .long vH, .ref ao, .ref ax, .int (nI np), .ref ay, .int (nI nl), .ref ad, .ref al, .int (nI sn), .ref ag, .int (nI ta), .int nb])), (ap, .inl (kp, 36, .inl gp)), (am, .inl (km, 20, .inl (md_mk mk))), (aw, .inl (kw, 60, .inl gw)), (az, .inl (kz, 20, .inl gz)), (au, .inl (ku, 20, .inl gu)), (ao, .inl (ko, 20, .inl ho)), (ax, .inl (kx, 20, .inl hx_))] sz) t) (va_A [(h0, .inr (7, [.int th, .int (nI nm), .ref ap, .int (nI no), .ref am, .ref aw, .ref az, .ref au, .int kn, .long vP, .long vQ, .long vS, .long vT, .long vB, .long vM, .long vH, .ref ao, .ref ax, .int (nI np), .ref ay, .int (nI nl), .ref ad, .ref al, .int (nI sn), .ref ag, .int (nI ta), .int nb])), (ap, .inl (kp, 36, .inl gp)), (am, .inl (km, 20, .inl (md_mk mk))), (aw, .inl (kw, 60, .inl gw)), (az, .inl (kz, 20, .inl gz)), (au, .inl (ku, 20, .inl gu)), (ao, .inl (ko, 20, .inl ho)), (ax, .inl (kx, 20, .inl hx_))] sz)) 0 0 (va_A [(h0, .inr (7, [.int th, .int (nI nm), .ref ap, .int (nI no), .ref am, .ref aw, .ref az, .ref au, .int kn, .long vP, .long vQ, .long vS, .long vT, .long vB, .long vM, .long vH, .ref ao, .ref ax, .int (nI np), .ref ay, .int (nI nl), .ref ad, .ref al, .int (nI sn), .ref ag, .int (nI ta), .int nb])), (ap, .inl (kp, 36, .inl gp)), (am, .inl (km, 20, .inl (md_mk mk))), (aw, .inl (kw, 60, .inl gw)), (az, .inl (kz, 20, .inl gz)), (au, .inl (ku, 20, .inl gu)), (ao, .inl (ko, 20, .inl ho)), (ax, .inl (kx, 20, .inl hx_))] sz) := by
  refine Met.ofW (cc := prog_9_method_15_code) (maxL := 1) (ret := (some .int)) (by decide) rfl ?_
  intro p e s m args below meth c s₁ B hml hv
  obtain ⟨rfl, hsz, hz, hP, hK, hD0⟩ := hv
  have hx := B.exec
  have hb := B.bytes
  have hr := B.returns
  have hts := atoms_spec (ws := xw_MD_setUp) B.pre
  have hown : s.vm.findClass xR_MD = some m.cls := findClass_of_methodNamed B.named
  have hlocks := B.notSynchronized
  subst hsz
  have hD := hD0.self (sz := s.heap.size)
  generalize hAe : va_A [(h0, .inr (7, [.int th, .int (nI nm), .ref ap, .int (nI no), .ref am, .ref aw, .ref az, .ref au, .int kn, .long vP, .long vQ, .long vS, .long vT, .long vB, .long vM, .long vH, .ref ao, .ref ax, .int (nI np), .ref ay, .int (nI nl), .ref ad, .ref al, .int (nI sn), .ref ag, .int (nI ta), .int nb])), (ap, .inl (kp, 36, .inl gp)), (am, .inl (km, 20, .inl (md_mk mk))), (aw, .inl (kw, 60, .inl gw)), (az, .inl (kz, 20, .inl gz)), (au, .inl (ku, 20, .inl gu)), (ao, .inl (ko, 20, .inl ho)), (ax, .inl (kx, 20, .inl hx_))] s.heap.size = A at hD ⊢
  have hA : ∀ q : Nat, s.heap.size ≤ q → A q := fun q h => by rw [← hAe]; exact Or.inr h
  have hS : va_S A s.heap s.heap [] := va_S.rf
  have hP : va_P (dC, dI) xCl [(h0, .inr (7, [.int th, .int (nI nm), .ref ap, .int (nI no), .ref am, .ref aw, .ref az, .ref au, .int kn, .long vP, .long vQ, .long vS, .long vT, .long vB, .long vM, .long vH, .ref ao, .ref ax, .int (nI np), .ref ay, .int (nI nl), .ref ad, .ref al, .int (nI sn), .ref ag, .int (nI ta), .int nb])), (ap, .inl (kp, 36, .inl gp)), (am, .inl (km, 20, .inl (md_mk mk))), (aw, .inl (kw, 60, .inl gw)), (az, .inl (kz, 20, .inl gz)), (au, .inl (ku, 20, .inl gu)), (ao, .inl (ko, 20, .inl ho)), (ax, .inl (kx, 20, .inl hx_))] s.heap := hP
  have hl := lv_entry ([.ref h0]) (n := 1) (Nat.le_of_ble_eq_true rfl)
  rw [lg_entry_eq]
  generalize (lg_sl ([.ref h0]) ++ List.replicate (1 - (lg_sl ([.ref h0])).length) Slot.unset).toArray = ls at hl ⊢
  have hl : lv_has ls 1 [(0, .ref h0)] := hl
  refine lv_aload_n hx hb d_MD_setUp_0 rfl (lv_at hl 0 rfl) ?_
  refine lv_iconst (v := 0) hx hb d_MD_setUp_1 (by decide) ?_
  refine va_put (D := (dC, dI)) (ci := 7) (v := .int 0) (ty := .int) (C := xR_MD) (T := xT_MD) (N := 27) hx hb hts (fun w h => List.mem_cons_of_mem _ (iw_MD w h)) xt_MD xt_MD_ok xn_MD_nm hown hK hP hD hS 0 rfl rfl 0 (by decide) (hts _ (List.mem_cons_of_mem _ wm_697)) (fun _ h9 => h9) rfl (by decide +kernel) rfl rfl (Nat.le_of_ble_eq_true rfl) d_MD_setUp_2 (fun H locs hP hD hS => ?_)
  have hP : va_P (dC, dI) xCl [(h0, .inr (7, [.int 0, .int (nI nm), .ref ap, .int (nI no), .ref am, .ref aw, .ref az, .ref au, .int kn, .long vP, .long vQ, .long vS, .long vT, .long vB, .long vM, .long vH, .ref ao, .ref ax, .int (nI np), .ref ay, .int (nI nl), .ref ad, .ref al, .int (nI sn), .ref ag, .int (nI ta), .int nb])), (ap, .inl (kp, 36, .inl gp)), (am, .inl (km, 20, .inl (md_mk mk))), (aw, .inl (kw, 60, .inl gw)), (az, .inl (kz, 20, .inl gz)), (au, .inl (ku, 20, .inl gu)), (ao, .inl (ko, 20, .inl ho)), (ax, .inl (kx, 20, .inl hx_))] H := hP
  have hD : va_D A [(h0, .inr (7, [.int 0, .int (nI nm), .ref ap, .int (nI no), .ref am, .ref aw, .ref az, .ref au, .int kn, .long vP, .long vQ, .long vS, .long vT, .long vB, .long vM, .long vH, .ref ao, .ref ax, .int (nI np), .ref ay, .int (nI nl), .ref ad, .ref al, .int (nI sn), .ref ag, .int (nI ta), .int nb])), (ap, .inl (kp, 36, .inl gp)), (am, .inl (km, 20, .inl (md_mk mk))), (aw, .inl (kw, 60, .inl gw)), (az, .inl (kz, 20, .inl gz)), (au, .inl (ku, 20, .inl gu)), (ao, .inl (ko, 20, .inl ho)), (ax, .inl (kx, 20, .inl hx_))] := hD
  refine lv_aload_n hx hb d_MD_setUp_5 rfl (lv_at hl 0 rfl) ?_
  have hPc := hP.sub (ws' := [(h0, .inr (7, [.int 0, .int (nI nm), .ref ap, .int (nI no), .ref am, .ref aw, .ref az, .ref au, .int kn, .long vP, .long vQ, .long vS, .long vT, .long vB, .long vM, .long vH, .ref ao, .ref ax, .int (nI np), .ref ay, .int (nI nl), .ref ad, .ref al, .int (nI sn), .ref ag, .int (nI ta), .int nb])), (ap, .inl (kp, 36, .inl gp)), (am, .inl (km, 20, .inl (md_mk mk))), (aw, .inl (kw, 60, .inl gw)), (az, .inl (kz, 20, .inl gz)), (au, .inl (ku, 20, .inl gu)), (ao, .inl (ko, 20, .inl ho)), (ax, .inl (kx, 20, .inl hx_))]) [0, 1, 2, 3, 4, 5, 6, 7] rfl
  have hDc := hD.sub (ws' := [(h0, .inr (7, [.int 0, .int (nI nm), .ref ap, .int (nI no), .ref am, .ref aw, .ref az, .ref au, .int kn, .long vP, .long vQ, .long vS, .long vT, .long vB, .long vM, .long vH, .ref ao, .ref ax, .int (nI np), .ref ay, .int (nI nl), .ref ad, .ref al, .int (nI sn), .ref ag, .int (nI ta), .int nb])), (ap, .inl (kp, 36, .inl gp)), (am, .inl (km, 20, .inl (md_mk mk))), (aw, .inl (kw, 60, .inl gw)), (az, .inl (kz, 20, .inl gz)), (au, .inl (ku, 20, .inl gu)), (ao, .inl (ko, 20, .inl ho)), (ax, .inl (kx, 20, .inl hx_))]) [0, 1, 2, 3, 4, 5, 6, 7] (by decide) rfl
  have hKc := hK.sub (tys' := [(kp, .int), (km, .int), (kw, .int), (kz, .int), (ku, .boolean), (ko, .int), (kx, .boolean)]) [0, 1, 2, 3, 4, 5, 6] rfl
  have hFc := va_free (wc := [(h0, .inr (7, [.int 0, .int (nI nm), .ref ap, .int (nI no), .ref am, .ref aw, .ref az, .ref au, .int kn, .long vP, .long vQ, .long vS, .long vT, .long vB, .long vM, .long vH, .ref ao, .ref ax, .int (nI np), .ref ay, .int (nI nl), .ref ad, .ref al, .int (nI sn), .ref ag, .int (nI ta), .int nb])), (ap, .inl (kp, 36, .inl gp)), (am, .inl (km, 20, .inl (md_mk mk))), (aw, .inl (kw, 60, .inl gw)), (az, .inl (kz, 20, .inl gz)), (au, .inl (ku, 20, .inl gu)), (ao, .inl (ko, 20, .inl ho)), (ax, .inl (kx, 20, .inl hx_))]) hD hS hA [0, 1, 2, 3, 4, 5, 6, 7] rfl
  refine va_calli (va_runV (As := []) (rest := []) ⟨hx, hb, hml, hown, hts⟩ (c_MD_sets_t l dC dI H.size h0 0 nm ap no am aw az au kn vP vQ vS vT vB vM vH ao ax np ay nl ad al sn ag ta nb kp km kw kz ku ko kx mk gp gw gz gu ho hx_ (by first | assumption | omega | decide) (by first | assumption | omega | decide) (by first | assumption | omega | decide) (by first | assumption | omega | decide) (by first | assumption | omega | decide)) (cwV 0 hts (xgV wm_821 wm_823 wm_16 wm_34 wm_824) rfl rfl rfl (by decide +kernel) ⟨Nat.le_of_ble_eq_true rfl, Nat.le_of_ble_eq_true rfl⟩) ⟨xw_blind, va_recv hKc hPc (ci := 7) (q0 := 0) rfl rfl, fun U hU hW => ⟨rfl, by rw [hU], hz.warm hW, by rw [hU]; exact hPc, va_K.moved hW.alike hKc, hDc.weaken (fun _ _ _ _ => trivial)⟩⟩ rfl rfl hl.1 rfl (lv_room (Nat.le_of_ble_eq_true rfl)) d_MD_setUp_6 ⟨Nat.le_of_ble_eq_true rfl, Nat.le_of_ble_eq_true rfl⟩) hS (fun q _ h => hFc q h) hFc (fun r_1 _ t H1 locs ht hvm hw_2 hB hz1 hk1 hS => ?_)
  obtain ⟨hP1, hK1, hD1⟩ := hB
  rw [ht] at hP1
  have hK1 := va_K.moved hvm.symm hK1
  obtain ⟨hP, hD⟩ := va_join (wr := []) (w1 := [(h0, .inr (7, [.int 0, .int (nI nm), .ref ap, .int (nI no), .ref am, .ref aw, .ref az, .ref au, .int (nI no), .long (sr_cosine ((nI (sr_cu gu no)).toInt64) (sr_sm gu (md_g2 gp mk) no) (sr_sm gu (md_g3 gp mk) no) (sr_sm gu (md_g4 gw) no) (sr_sm gu (md_g5 gw) no) (sr_sm gu (md_g7 gp gw mk) no)), .long (sr_sine ((nI (sr_cu gu no)).toInt64) (sr_sm gu (md_g2 gp mk) no) (sr_sm gu (md_g3 gp mk) no) (sr_sm gu (md_g4 gw) no) (sr_sm gu (md_g5 gw) no) (sr_sm gu (md_g8 gp gw mk) no)), .long (sr_sm gu (md_g2 gp mk) no * sr_spread ((nI (sr_cu gu no)).toInt64) (sr_sm gu (md_g4 gw) no) (sr_sm gu (md_g5 gw) no) (sr_sm gu (md_g6 gw) no) - sr_cosine ((nI (sr_cu gu no)).toInt64) (sr_sm gu (md_g2 gp mk) no) (sr_sm gu (md_g3 gp mk) no) (sr_sm gu (md_g4 gw) no) (sr_sm gu (md_g5 gw) no) (sr_sm gu (md_g7 gp gw mk) no) * sr_sm gu (md_g4 gw) no + sr_sine ((nI (sr_cu gu no)).toInt64) (sr_sm gu (md_g2 gp mk) no) (sr_sm gu (md_g3 gp mk) no) (sr_sm gu (md_g4 gw) no) (sr_sm gu (md_g5 gw) no) (sr_sm gu (md_g8 gp gw mk) no) * sr_sm gu (md_g5 gw) no), .long (sr_sm gu (md_g3 gp mk) no * sr_spread ((nI (sr_cu gu no)).toInt64) (sr_sm gu (md_g4 gw) no) (sr_sm gu (md_g5 gw) no) (sr_sm gu (md_g6 gw) no) - sr_sine ((nI (sr_cu gu no)).toInt64) (sr_sm gu (md_g2 gp mk) no) (sr_sm gu (md_g3 gp mk) no) (sr_sm gu (md_g4 gw) no) (sr_sm gu (md_g5 gw) no) (sr_sm gu (md_g8 gp gw mk) no) * sr_sm gu (md_g4 gw) no - sr_cosine ((nI (sr_cu gu no)).toInt64) (sr_sm gu (md_g2 gp mk) no) (sr_sm gu (md_g3 gp mk) no) (sr_sm gu (md_g4 gw) no) (sr_sm gu (md_g5 gw) no) (sr_sm gu (md_g7 gp gw mk) no) * sr_sm gu (md_g5 gw) no), .long (sr_spread ((nI (sr_cu gu no)).toInt64) (sr_sm gu (md_g4 gw) no) (sr_sm gu (md_g5 gw) no) (sr_sm gu (md_g6 gw) no)), .long ((nI (sr_cu gu no)).toInt64), .long (sr_fd (sr_sm gu (md_g9 gp gw gz mk) no) ((nI (sr_cu gu no)).toInt64)), .ref ao, .ref ax, .int (nI np), .ref ay, .int (nI nl), .ref ad, .ref al, .int (nI sn), .ref ag, .int (nI ta), .int nb])), (ap, .inl (kp, 36, .inl gp)), (am, .inl (km, 20, .inl (md_mk mk))), (aw, .inl (kw, 60, .inl gw)), (az, .inl (kz, 20, .inl gz)), (au, .inl (ku, 20, .inl gu)), (ao, .inl (ko, 20, .inl (sr_cp 20 gz ho))), (ax, .inl (kx, 20, .inl (sr_cp 20 gu hx_)))]) hP hD [0, 1, 2, 3, 4, 5, 6, 7] [] rfl rfl (by decide) (by decide) hk1 hFc hP1 hD1
  generalize H1 = H at hP hS ⊢
  have hP : va_P (dC, dI) xCl [(h0, .inr (7, [.int 0, .int (nI nm), .ref ap, .int (nI no), .ref am, .ref aw, .ref az, .ref au, .int (nI no), .long (sr_cosine ((nI (sr_cu gu no)).toInt64) (sr_sm gu (md_g2 gp mk) no) (sr_sm gu (md_g3 gp mk) no) (sr_sm gu (md_g4 gw) no) (sr_sm gu (md_g5 gw) no) (sr_sm gu (md_g7 gp gw mk) no)), .long (sr_sine ((nI (sr_cu gu no)).toInt64) (sr_sm gu (md_g2 gp mk) no) (sr_sm gu (md_g3 gp mk) no) (sr_sm gu (md_g4 gw) no) (sr_sm gu (md_g5 gw) no) (sr_sm gu (md_g8 gp gw mk) no)), .long (sr_sm gu (md_g2 gp mk) no * sr_spread ((nI (sr_cu gu no)).toInt64) (sr_sm gu (md_g4 gw) no) (sr_sm gu (md_g5 gw) no) (sr_sm gu (md_g6 gw) no) - sr_cosine ((nI (sr_cu gu no)).toInt64) (sr_sm gu (md_g2 gp mk) no) (sr_sm gu (md_g3 gp mk) no) (sr_sm gu (md_g4 gw) no) (sr_sm gu (md_g5 gw) no) (sr_sm gu (md_g7 gp gw mk) no) * sr_sm gu (md_g4 gw) no + sr_sine ((nI (sr_cu gu no)).toInt64) (sr_sm gu (md_g2 gp mk) no) (sr_sm gu (md_g3 gp mk) no) (sr_sm gu (md_g4 gw) no) (sr_sm gu (md_g5 gw) no) (sr_sm gu (md_g8 gp gw mk) no) * sr_sm gu (md_g5 gw) no), .long (sr_sm gu (md_g3 gp mk) no * sr_spread ((nI (sr_cu gu no)).toInt64) (sr_sm gu (md_g4 gw) no) (sr_sm gu (md_g5 gw) no) (sr_sm gu (md_g6 gw) no) - sr_sine ((nI (sr_cu gu no)).toInt64) (sr_sm gu (md_g2 gp mk) no) (sr_sm gu (md_g3 gp mk) no) (sr_sm gu (md_g4 gw) no) (sr_sm gu (md_g5 gw) no) (sr_sm gu (md_g8 gp gw mk) no) * sr_sm gu (md_g4 gw) no - sr_cosine ((nI (sr_cu gu no)).toInt64) (sr_sm gu (md_g2 gp mk) no) (sr_sm gu (md_g3 gp mk) no) (sr_sm gu (md_g4 gw) no) (sr_sm gu (md_g5 gw) no) (sr_sm gu (md_g7 gp gw mk) no) * sr_sm gu (md_g5 gw) no), .long (sr_spread ((nI (sr_cu gu no)).toInt64) (sr_sm gu (md_g4 gw) no) (sr_sm gu (md_g5 gw) no) (sr_sm gu (md_g6 gw) no)), .long ((nI (sr_cu gu no)).toInt64), .long (sr_fd (sr_sm gu (md_g9 gp gw gz mk) no) ((nI (sr_cu gu no)).toInt64)), .ref ao, .ref ax, .int (nI np), .ref ay, .int (nI nl), .ref ad, .ref al, .int (nI sn), .ref ag, .int (nI ta), .int nb])), (ap, .inl (kp, 36, .inl gp)), (am, .inl (km, 20, .inl (md_mk mk))), (aw, .inl (kw, 60, .inl gw)), (az, .inl (kz, 20, .inl gz)), (au, .inl (ku, 20, .inl gu)), (ao, .inl (ko, 20, .inl (sr_cp 20 gz ho))), (ax, .inl (kx, 20, .inl (sr_cp 20 gu hx_)))] H := hP
  have hD : va_D A [(h0, .inr (7, [.int 0, .int (nI nm), .ref ap, .int (nI no), .ref am, .ref aw, .ref az, .ref au, .int (nI no), .long (sr_cosine ((nI (sr_cu gu no)).toInt64) (sr_sm gu (md_g2 gp mk) no) (sr_sm gu (md_g3 gp mk) no) (sr_sm gu (md_g4 gw) no) (sr_sm gu (md_g5 gw) no) (sr_sm gu (md_g7 gp gw mk) no)), .long (sr_sine ((nI (sr_cu gu no)).toInt64) (sr_sm gu (md_g2 gp mk) no) (sr_sm gu (md_g3 gp mk) no) (sr_sm gu (md_g4 gw) no) (sr_sm gu (md_g5 gw) no) (sr_sm gu (md_g8 gp gw mk) no)), .long (sr_sm gu (md_g2 gp mk) no * sr_spread ((nI (sr_cu gu no)).toInt64) (sr_sm gu (md_g4 gw) no) (sr_sm gu (md_g5 gw) no) (sr_sm gu (md_g6 gw) no) - sr_cosine ((nI (sr_cu gu no)).toInt64) (sr_sm gu (md_g2 gp mk) no) (sr_sm gu (md_g3 gp mk) no) (sr_sm gu (md_g4 gw) no) (sr_sm gu (md_g5 gw) no) (sr_sm gu (md_g7 gp gw mk) no) * sr_sm gu (md_g4 gw) no + sr_sine ((nI (sr_cu gu no)).toInt64) (sr_sm gu (md_g2 gp mk) no) (sr_sm gu (md_g3 gp mk) no) (sr_sm gu (md_g4 gw) no) (sr_sm gu (md_g5 gw) no) (sr_sm gu (md_g8 gp gw mk) no) * sr_sm gu (md_g5 gw) no), .long (sr_sm gu (md_g3 gp mk) no * sr_spread ((nI (sr_cu gu no)).toInt64) (sr_sm gu (md_g4 gw) no) (sr_sm gu (md_g5 gw) no) (sr_sm gu (md_g6 gw) no) - sr_sine ((nI (sr_cu gu no)).toInt64) (sr_sm gu (md_g2 gp mk) no) (sr_sm gu (md_g3 gp mk) no) (sr_sm gu (md_g4 gw) no) (sr_sm gu (md_g5 gw) no) (sr_sm gu (md_g8 gp gw mk) no) * sr_sm gu (md_g4 gw) no - sr_cosine ((nI (sr_cu gu no)).toInt64) (sr_sm gu (md_g2 gp mk) no) (sr_sm gu (md_g3 gp mk) no) (sr_sm gu (md_g4 gw) no) (sr_sm gu (md_g5 gw) no) (sr_sm gu (md_g7 gp gw mk) no) * sr_sm gu (md_g5 gw) no), .long (sr_spread ((nI (sr_cu gu no)).toInt64) (sr_sm gu (md_g4 gw) no) (sr_sm gu (md_g5 gw) no) (sr_sm gu (md_g6 gw) no)), .long ((nI (sr_cu gu no)).toInt64), .long (sr_fd (sr_sm gu (md_g9 gp gw gz mk) no) ((nI (sr_cu gu no)).toInt64)), .ref ao, .ref ax, .int (nI np), .ref ay, .int (nI nl), .ref ad, .ref al, .int (nI sn), .ref ag, .int (nI ta), .int nb])), (ap, .inl (kp, 36, .inl gp)), (am, .inl (km, 20, .inl (md_mk mk))), (aw, .inl (kw, 60, .inl gw)), (az, .inl (kz, 20, .inl gz)), (au, .inl (ku, 20, .inl gu)), (ao, .inl (ko, 20, .inl (sr_cp 20 gz ho))), (ax, .inl (kx, 20, .inl (sr_cp 20 gu hx_)))] := hD
  subst hw_2
  refine lv_if_eq (tgt := 19) hx hb d_MD_setUp_9 (by decide) (fun c_3 => ?_) (fun c_3 => ?_)
  · exact absurd c_3 (by decide)
  · refine lv_aload_n hx hb d_MD_setUp_12 rfl (lv_at hl 0 rfl) ?_
    refine xr_calli (va_runV (As := []) (rest := []) ⟨hx, hb, hml, hown, hts⟩ (c_MD_usedNow l dC dI h0 0 nm ap no am aw az au (nI no) (sr_cosine ((nI (sr_cu gu no)).toInt64) (sr_sm gu (md_g2 gp mk) no) (sr_sm gu (md_g3 gp mk) no) (sr_sm gu (md_g4 gw) no) (sr_sm gu (md_g5 gw) no) (sr_sm gu (md_g7 gp gw mk) no)) (sr_sine ((nI (sr_cu gu no)).toInt64) (sr_sm gu (md_g2 gp mk) no) (sr_sm gu (md_g3 gp mk) no) (sr_sm gu (md_g4 gw) no) (sr_sm gu (md_g5 gw) no) (sr_sm gu (md_g8 gp gw mk) no)) (sr_sm gu (md_g2 gp mk) no * sr_spread ((nI (sr_cu gu no)).toInt64) (sr_sm gu (md_g4 gw) no) (sr_sm gu (md_g5 gw) no) (sr_sm gu (md_g6 gw) no) - sr_cosine ((nI (sr_cu gu no)).toInt64) (sr_sm gu (md_g2 gp mk) no) (sr_sm gu (md_g3 gp mk) no) (sr_sm gu (md_g4 gw) no) (sr_sm gu (md_g5 gw) no) (sr_sm gu (md_g7 gp gw mk) no) * sr_sm gu (md_g4 gw) no + sr_sine ((nI (sr_cu gu no)).toInt64) (sr_sm gu (md_g2 gp mk) no) (sr_sm gu (md_g3 gp mk) no) (sr_sm gu (md_g4 gw) no) (sr_sm gu (md_g5 gw) no) (sr_sm gu (md_g8 gp gw mk) no) * sr_sm gu (md_g5 gw) no) (sr_sm gu (md_g3 gp mk) no * sr_spread ((nI (sr_cu gu no)).toInt64) (sr_sm gu (md_g4 gw) no) (sr_sm gu (md_g5 gw) no) (sr_sm gu (md_g6 gw) no) - sr_sine ((nI (sr_cu gu no)).toInt64) (sr_sm gu (md_g2 gp mk) no) (sr_sm gu (md_g3 gp mk) no) (sr_sm gu (md_g4 gw) no) (sr_sm gu (md_g5 gw) no) (sr_sm gu (md_g8 gp gw mk) no) * sr_sm gu (md_g4 gw) no - sr_cosine ((nI (sr_cu gu no)).toInt64) (sr_sm gu (md_g2 gp mk) no) (sr_sm gu (md_g3 gp mk) no) (sr_sm gu (md_g4 gw) no) (sr_sm gu (md_g5 gw) no) (sr_sm gu (md_g7 gp gw mk) no) * sr_sm gu (md_g5 gw) no) (sr_spread ((nI (sr_cu gu no)).toInt64) (sr_sm gu (md_g4 gw) no) (sr_sm gu (md_g5 gw) no) (sr_sm gu (md_g6 gw) no)) ((nI (sr_cu gu no)).toInt64) (sr_fd (sr_sm gu (md_g9 gp gw gz mk) no) ((nI (sr_cu gu no)).toInt64)) ao ax np ay nl ad al sn ag ta nb ku gu (by first | assumption | omega | decide)) (cwV 0 hts (xgV wm_825 wm_827 wm_17 wm_34 wm_828) rfl rfl rfl (by decide +kernel) ⟨Nat.le_of_ble_eq_true rfl, Nat.le_of_ble_eq_true rfl⟩) ⟨xp_blind, va_recv hK hP (ci := 7) (q0 := 0) rfl rfl, fun U hU hW => ⟨rfl, hz.warm hW, by rw [hU]; exact hP.sub [0, 5] rfl, va_K.moved hW.alike (hK.sub [4] rfl)⟩⟩ rfl rfl hl.1 rfl (lv_room (Nat.le_of_ble_eq_true rfl)) d_MD_setUp_13 ⟨Nat.le_of_ble_eq_true rfl, Nat.le_of_ble_eq_true rfl⟩) (fun r_4 h_5 => ?_)
    subst h_5
    refine lv_goto (tgt := 20) hx hb d_MD_setUp_16 (by decide) ?_
    have hP9 := hP.sub (ws' := [(h0, .inr (7, [.int 0, .int (nI nm), .ref ap, .int (nI no), .ref am, .ref aw, .ref az, .ref au, .int (nI no), .long (sr_cosine ((nI (sr_cu gu no)).toInt64) (sr_sm gu (md_g2 gp mk) no) (sr_sm gu (md_g3 gp mk) no) (sr_sm gu (md_g4 gw) no) (sr_sm gu (md_g5 gw) no) (sr_sm gu (md_g7 gp gw mk) no)), .long (sr_sine ((nI (sr_cu gu no)).toInt64) (sr_sm gu (md_g2 gp mk) no) (sr_sm gu (md_g3 gp mk) no) (sr_sm gu (md_g4 gw) no) (sr_sm gu (md_g5 gw) no) (sr_sm gu (md_g8 gp gw mk) no)), .long (sr_sm gu (md_g2 gp mk) no * sr_spread ((nI (sr_cu gu no)).toInt64) (sr_sm gu (md_g4 gw) no) (sr_sm gu (md_g5 gw) no) (sr_sm gu (md_g6 gw) no) - sr_cosine ((nI (sr_cu gu no)).toInt64) (sr_sm gu (md_g2 gp mk) no) (sr_sm gu (md_g3 gp mk) no) (sr_sm gu (md_g4 gw) no) (sr_sm gu (md_g5 gw) no) (sr_sm gu (md_g7 gp gw mk) no) * sr_sm gu (md_g4 gw) no + sr_sine ((nI (sr_cu gu no)).toInt64) (sr_sm gu (md_g2 gp mk) no) (sr_sm gu (md_g3 gp mk) no) (sr_sm gu (md_g4 gw) no) (sr_sm gu (md_g5 gw) no) (sr_sm gu (md_g8 gp gw mk) no) * sr_sm gu (md_g5 gw) no), .long (sr_sm gu (md_g3 gp mk) no * sr_spread ((nI (sr_cu gu no)).toInt64) (sr_sm gu (md_g4 gw) no) (sr_sm gu (md_g5 gw) no) (sr_sm gu (md_g6 gw) no) - sr_sine ((nI (sr_cu gu no)).toInt64) (sr_sm gu (md_g2 gp mk) no) (sr_sm gu (md_g3 gp mk) no) (sr_sm gu (md_g4 gw) no) (sr_sm gu (md_g5 gw) no) (sr_sm gu (md_g8 gp gw mk) no) * sr_sm gu (md_g4 gw) no - sr_cosine ((nI (sr_cu gu no)).toInt64) (sr_sm gu (md_g2 gp mk) no) (sr_sm gu (md_g3 gp mk) no) (sr_sm gu (md_g4 gw) no) (sr_sm gu (md_g5 gw) no) (sr_sm gu (md_g7 gp gw mk) no) * sr_sm gu (md_g5 gw) no), .long (sr_spread ((nI (sr_cu gu no)).toInt64) (sr_sm gu (md_g4 gw) no) (sr_sm gu (md_g5 gw) no) (sr_sm gu (md_g6 gw) no)), .long ((nI (sr_cu gu no)).toInt64), .long (sr_fd (sr_sm gu (md_g9 gp gw gz mk) no) ((nI (sr_cu gu no)).toInt64)), .ref ao, .ref ax, .int (nI np), .ref ay, .int (nI nl), .ref ad, .ref al, .int (nI sn), .ref ag, .int (nI ta), .int nb])), (ap, .inl (kp, 36, .inl gp)), (am, .inl (km, 20, .inl (md_mk mk))), (aw, .inl (kw, 60, .inl gw)), (az, .inl (kz, 20, .inl gz)), (au, .inl (ku, 20, .inl gu)), (ao, .inl (ko, 20, .inl (sr_cp 20 gz ho))), (ax, .inl (kx, 20, .inl (sr_cp 20 gu hx_)))]) [0, 1, 2, 3, 4, 5, 6, 7] rfl
    have hD9 := hD.sub (ws' := [(h0, .inr (7, [.int 0, .int (nI nm), .ref ap, .int (nI no), .ref am, .ref aw, .ref az, .ref au, .int (nI no), .long (sr_cosine ((nI (sr_cu gu no)).toInt64) (sr_sm gu (md_g2 gp mk) no) (sr_sm gu (md_g3 gp mk) no) (sr_sm gu (md_g4 gw) no) (sr_sm gu (md_g5 gw) no) (sr_sm gu (md_g7 gp gw mk) no)), .long (sr_sine ((nI (sr_cu gu no)).toInt64) (sr_sm gu (md_g2 gp mk) no) (sr_sm gu (md_g3 gp mk) no) (sr_sm gu (md_g4 gw) no) (sr_sm gu (md_g5 gw) no) (sr_sm gu (md_g8 gp gw mk) no)), .long (sr_sm gu (md_g2 gp mk) no * sr_spread ((nI (sr_cu gu no)).toInt64) (sr_sm gu (md_g4 gw) no) (sr_sm gu (md_g5 gw) no) (sr_sm gu (md_g6 gw) no) - sr_cosine ((nI (sr_cu gu no)).toInt64) (sr_sm gu (md_g2 gp mk) no) (sr_sm gu (md_g3 gp mk) no) (sr_sm gu (md_g4 gw) no) (sr_sm gu (md_g5 gw) no) (sr_sm gu (md_g7 gp gw mk) no) * sr_sm gu (md_g4 gw) no + sr_sine ((nI (sr_cu gu no)).toInt64) (sr_sm gu (md_g2 gp mk) no) (sr_sm gu (md_g3 gp mk) no) (sr_sm gu (md_g4 gw) no) (sr_sm gu (md_g5 gw) no) (sr_sm gu (md_g8 gp gw mk) no) * sr_sm gu (md_g5 gw) no), .long (sr_sm gu (md_g3 gp mk) no * sr_spread ((nI (sr_cu gu no)).toInt64) (sr_sm gu (md_g4 gw) no) (sr_sm gu (md_g5 gw) no) (sr_sm gu (md_g6 gw) no) - sr_sine ((nI (sr_cu gu no)).toInt64) (sr_sm gu (md_g2 gp mk) no) (sr_sm gu (md_g3 gp mk) no) (sr_sm gu (md_g4 gw) no) (sr_sm gu (md_g5 gw) no) (sr_sm gu (md_g8 gp gw mk) no) * sr_sm gu (md_g4 gw) no - sr_cosine ((nI (sr_cu gu no)).toInt64) (sr_sm gu (md_g2 gp mk) no) (sr_sm gu (md_g3 gp mk) no) (sr_sm gu (md_g4 gw) no) (sr_sm gu (md_g5 gw) no) (sr_sm gu (md_g7 gp gw mk) no) * sr_sm gu (md_g5 gw) no), .long (sr_spread ((nI (sr_cu gu no)).toInt64) (sr_sm gu (md_g4 gw) no) (sr_sm gu (md_g5 gw) no) (sr_sm gu (md_g6 gw) no)), .long ((nI (sr_cu gu no)).toInt64), .long (sr_fd (sr_sm gu (md_g9 gp gw gz mk) no) ((nI (sr_cu gu no)).toInt64)), .ref ao, .ref ax, .int (nI np), .ref ay, .int (nI nl), .ref ad, .ref al, .int (nI sn), .ref ag, .int (nI ta), .int nb])), (ap, .inl (kp, 36, .inl gp)), (am, .inl (km, 20, .inl (md_mk mk))), (aw, .inl (kw, 60, .inl gw)), (az, .inl (kz, 20, .inl gz)), (au, .inl (ku, 20, .inl gu)), (ao, .inl (ko, 20, .inl (sr_cp 20 gz ho))), (ax, .inl (kx, 20, .inl (sr_cp 20 gu hx_)))]) [0, 1, 2, 3, 4, 5, 6, 7] (by decide) rfl
    have hK9 := hK.sub (tys' := [(kp, .int), (km, .int), (kw, .int), (kz, .int), (ku, .boolean), (ko, .int), (kx, .boolean)]) [0, 1, 2, 3, 4, 5, 6] rfl
    exact W.iret (v := nI (sr_cu gu no)) hx hb hr (fun t ht hW => ⟨⟨nI (sr_cu gu no), (), rfl, rfl, ⟨by rw [ht]; exact hP9, va_K.moved hW.alike hK9, by exact hD9⟩⟩, hS.F ht⟩) hS.2.2 d_MD_setUp_20 hlocks
set_option maxHeartbeats 4000000 in
set_option maxRecDepth 100000 in
/-- millionths -/
theorem c_MD_millionths (l : Launch) (dC : Nat → ClassId) (dI : Nat → Nat → Nat) (x : Int64) (y : Int64) (hy : 0 < y) : Met l xy_MD_millionths xw_MD_millionths ({ frames := 1, cells := 0, slots := 0, locals := 25 }) (xp_r [.long x, .long y] (dC, dI) xCl [] []) (xr_l (fun r => r = md_mil x y)) 0 0 (fun _ => False) := by
  refine Met.ofW (cc := prog_9_method_16_code) (maxL := 6) (ret := (some .long)) (by decide) rfl ?_
  intro p e s m args below meth c s₁ B hml hv
  obtain ⟨rfl, hz, hP, hK⟩ := hv
  have hx := B.exec
  have hb := B.bytes
  have hr := B.returns
  have hts := atoms_spec (ws := xw_MD_millionths) B.pre
  have hown : s.vm.findClass xR_MD = some m.cls := findClass_of_methodNamed B.named
  have hlocks := B.notSynchronized
  have hP : va_P (dC, dI) xCl [] s.heap := hP
  have hl := lv_entry ([.long x, .long y]) (n := 6) (Nat.le_of_ble_eq_true rfl)
  rw [lg_entry_eq]
  generalize (lg_sl ([.long x, .long y]) ++ List.replicate (6 - (lg_sl ([.long x, .long y])).length) Slot.unset).toArray = ls at hl ⊢
  have hl : lv_has ls 6 [(0, .long x), (2, .long y)] := hl
  refine lv_lload_n hx hb d_MD_millionths_0 rfl (lv_at hl 0 rfl) ?_
  refine lv_lload_n hx hb d_MD_millionths_1 rfl (lv_at hl 1 rfl) ?_
  refine xr_calll (va_runS (As := [.long x, .long y]) (rest := []) ⟨hx, hb, hml, hown, hts⟩ (c_MD_down l dC dI x y (by first | assumption | omega | decide)) (va_cwS 2 hts (xgS wm_829 wm_830 wm_34 wm_831) rfl rfl rfl (by decide +kernel) ⟨Nat.le_of_ble_eq_true rfl, Nat.le_of_ble_eq_true rfl⟩) ⟨xp_blind, fun U hU hW => ⟨rfl, hz.warm hW, by rw [hU]; exact hP.sub [] rfl, va_K.moved hW.alike (hK.sub [] rfl)⟩⟩ rfl rfl hl.1 rfl (lv_room (Nat.le_of_ble_eq_true rfl)) d_MD_millionths_2 ⟨Nat.le_of_ble_eq_true rfl, Nat.le_of_ble_eq_true rfl⟩) (fun r_1 h_2 => ?_)
  subst h_2
  refine lv_lstore (lv' := [(4, .long (sr_fd x y)), (0, .long x), (2, .long y)]) hx hb d_MD_millionths_5 hl (by decide) rfl (fun ls hl => ?_)
  refine lv_ldc2 (v := 1000000) hx hb hown (hts _ (List.mem_cons_of_mem _ wm_839)) d_MD_millionths_7 ?_
  refine lv_lload hx hb d_MD_millionths_10 (lv_at hl 0 rfl) ?_
  refine lv_lmul hx hb d_MD_millionths_12 ?_
  refine lv_ldc2 (v := 1000000) hx hb hown (hts _ (List.mem_cons_of_mem _ wm_839)) d_MD_millionths_13 ?_
  refine lv_lload_n hx hb d_MD_millionths_16 rfl (lv_at hl 1 rfl) ?_
  refine lv_lload hx hb d_MD_millionths_17 (lv_at hl 0 rfl) ?_
  refine lv_lload_n hx hb d_MD_millionths_19 rfl (lv_at hl 2 rfl) ?_
  refine lv_lmul hx hb d_MD_millionths_20 ?_
  refine lv_lsub hx hb d_MD_millionths_21 ?_
  refine lv_lmul hx hb d_MD_millionths_22 ?_
  refine lv_lload_n hx hb d_MD_millionths_23 rfl (lv_at hl 2 rfl) ?_
  refine xr_calll (va_runS (As := [.long (1000000 * (x - ((sr_fd x y) * y))), .long y]) (rest := [.long (1000000 * (sr_fd x y))]) ⟨hx, hb, hml, hown, hts⟩ (c_MD_down l dC dI (1000000 * (x - ((sr_fd x y) * y))) y (by first | assumption | omega | decide)) (va_cwS 2 hts (xgS wm_829 wm_830 wm_34 wm_831) rfl rfl rfl (by decide +kernel) ⟨Nat.le_of_ble_eq_true rfl, Nat.le_of_ble_eq_true rfl⟩) ⟨xp_blind, fun U hU hW => ⟨rfl, hz.warm hW, by rw [hU]; exact hP.sub [] rfl, va_K.moved hW.alike (hK.sub [] rfl)⟩⟩ rfl rfl hl.1 rfl (lv_room (Nat.le_of_ble_eq_true rfl)) d_MD_millionths_24 ⟨Nat.le_of_ble_eq_true rfl, Nat.le_of_ble_eq_true rfl⟩) (fun r_3 h_4 => ?_)
  subst h_4
  refine lv_ladd hx hb d_MD_millionths_27 ?_
  exact xr_lret (v := (1000000 * (sr_fd x y)) + (sr_fd (1000000 * (x - ((sr_fd x y) * y))) y)) hx hb hr (by exact rfl) d_MD_millionths_28 hlocks
set_option maxHeartbeats 4000000 in
set_option maxRecDepth 100000 in
/-- turned(0) -/
theorem c_MD_turned_y0 (l : Launch) (dC : Nat → ClassId) (dI : Nat → Nat → Nat) (sz : Nat) (h0 : Nat) (th : Int32) (nm : Nat) (ap : Nat) (no : Nat) (am : Nat) (aw : Nat) (az : Nat) (au : Nat) (kn : Int32) (vP : Int64) (vQ : Int64) (vS : Int64) (vT : Int64) (vB : Int64) (vM : Int64) (vH : Int64) (ao : Nat) (ax : Nat) (np : Nat) (ay : Nat) (nl : Nat) (ad : Nat) (al : Nat) (sn : Nat) (ag : Nat) (ta : Nat) (nb : Int32) (hkn : ¬ kn = -1) (hB : 0 < vB) (hMB : 0 < vM * vB) : Met l xy_MD_turned xw_MD_turned ({ frames := 2, cells := 0, slots := 0, locals := 50 }) (xp_w [.ref h0, .int 0] sz (dC, dI) xCl [(h0, .inr (7, [.int th, .int (nI nm), .ref ap, .int (nI no), .ref am, .ref aw, .ref az, .ref au, .int kn, .long vP, .long vQ, .long vS, .long vT, .long vB, .long vM, .long vH, .ref ao, .ref ax, .int (nI np), .ref ay, .int (nI nl), .ref ad, .ref al, .int (nI sn), .ref ag, .int (nI ta), .int nb]))] []) (va_Ql (fun (r : Int64) (_ : Unit) => r = md_mil vP (vB)) (fun _ t => xb_w (dC, dI) xCl [(h0, .inr (7, [.int 0, .int (nI nm), .ref ap, .int (nI no), .ref am, .ref aw, .ref az, .ref au, .int kn, .long vP, .long vQ, .long vS, .long vT, .long vB, .long vM, .long vH, .ref ao, .ref ax, .int (nI np), .ref ay, .int (nI nl), .ref ad, .ref al, .int (nI sn), .ref ag, .int (nI ta), .int nb]))] [] (va_A [(h0, .inr (7, [.int th, .int (nI nm), .ref ap, .int (nI no), .ref am, .ref aw, .ref az, .ref au, .int kn, .long vP, .long vQ, .long vS, .long vT, .long vB, .long vM, .long vH, .ref ao, .ref ax, .int (nI np), .ref ay, .int (nI nl), .ref ad, .ref al, .int (nI sn), .ref ag, .int (nI ta), .int nb]))] sz) t) (va_A [(h0, .inr (7, [.int th, .int (nI nm), .ref ap, .int (nI no), .ref am, .ref aw, .ref az, .ref au, .int kn, .long vP, .long vQ, .long vS, .long vT, .long vB, .long vM, .long vH, .ref ao, .ref ax, .int (nI np), .ref ay, .int (nI nl), .ref ad, .ref al, .int (nI sn), .ref ag, .int (nI ta), .int nb]))] sz)) 0 0 (va_A [(h0, .inr (7, [.int th, .int (nI nm), .ref ap, .int (nI no), .ref am, .ref aw, .ref az, .ref au, .int kn, .long vP, .long vQ, .long vS, .long vT, .long vB, .long vM, .long vH, .ref ao, .ref ax, .int (nI np), .ref ay, .int (nI nl), .ref ad, .ref al, .int (nI sn), .ref ag, .int (nI ta), .int nb]))] sz) := by
  refine Met.ofW (cc := prog_9_method_17_code) (maxL := 2) (ret := (some .long)) (by decide) rfl ?_
  intro p e s m args below meth c s₁ B hml hv
  obtain ⟨rfl, hsz, hz, hP, hK, hD0⟩ := hv
  have hx := B.exec
  have hb := B.bytes
  have hr := B.returns
  have hts := atoms_spec (ws := xw_MD_turned) B.pre
  have hown : s.vm.findClass xR_MD = some m.cls := findClass_of_methodNamed B.named
  have hlocks := B.notSynchronized
  subst hsz
  have hD := hD0.self (sz := s.heap.size)
  generalize hAe : va_A [(h0, .inr (7, [.int th, .int (nI nm), .ref ap, .int (nI no), .ref am, .ref aw, .ref az, .ref au, .int kn, .long vP, .long vQ, .long vS, .long vT, .long vB, .long vM, .long vH, .ref ao, .ref ax, .int (nI np), .ref ay, .int (nI nl), .ref ad, .ref al, .int (nI sn), .ref ag, .int (nI ta), .int nb]))] s.heap.size = A at hD ⊢
  have hA : ∀ q : Nat, s.heap.size ≤ q → A q := fun q h => by rw [← hAe]; exact Or.inr h
  have hS : va_S A s.heap s.heap [] := va_S.rf
  have hP : va_P (dC, dI) xCl [(h0, .inr (7, [.int th, .int (nI nm), .ref ap, .int (nI no), .ref am, .ref aw, .ref az, .ref au, .int kn, .long vP, .long vQ, .long vS, .long vT, .long vB, .long vM, .long vH, .ref ao, .ref ax, .int (nI np), .ref ay, .int (nI nl), .ref ad, .ref al, .int (nI sn), .ref ag, .int (nI ta), .int nb]))] s.heap := hP
  have hl := lv_entry ([.ref h0, .int 0]) (n := 2) (Nat.le_of_ble_eq_true rfl)
  rw [lg_entry_eq]
  generalize (lg_sl ([.ref h0, .int 0]) ++ List.replicate (2 - (lg_sl ([.ref h0, .int 0])).length) Slot.unset).toArray = ls at hl ⊢
  have hl : lv_has ls 2 [(0, .ref h0), (1, .int 0)] := hl
  refine lv_aload_n hx hb d_MD_turned_0 rfl (lv_at hl 0 rfl) ?_
  refine lv_iload_n hx hb d_MD_turned_1 rfl (lv_at hl 1 rfl) ?_
  refine lv_iconst (v := 0) hx hb d_MD_turned_2 (by decide) ?_
  refine lv_iconst (v := 3) hx hb d_MD_turned_3 (by decide) ?_
  refine xr_calli (va_runS (As := [.int 0, .int 0, .int 3]) (rest := [.ref h0]) ⟨hx, hb, hml, hown, hts⟩ (c_MD_within l dC dI 0 0 3) (va_cwS 3 hts (xgS wm_790 wm_791 wm_34 wm_792) rfl rfl rfl (by decide +kernel) ⟨Nat.le_of_ble_eq_true rfl, Nat.le_of_ble_eq_true rfl⟩) ⟨xp_blind, fun U hU hW => ⟨rfl, hz.warm hW, by rw [hU]; exact hP.sub [] rfl, va_K.moved hW.alike (hK.sub [] rfl)⟩⟩ rfl rfl hl.1 rfl (lv_room (Nat.le_of_ble_eq_true rfl)) d_MD_turned_4 ⟨Nat.le_of_ble_eq_true rfl, Nat.le_of_ble_eq_true rfl⟩) (fun r_1 h_2 => ?_)
  subst h_2
  refine lv_aload_n hx hb d_MD_turned_7 rfl (lv_at hl 0 rfl) ?_
  refine va_get (D := (dC, dI)) (ci := 7) (v := .int kn) (C := xR_MD) (T := xT_MD) (N := 27) hx hb hts (fun w h => List.mem_cons_of_mem _ (iw_MD w h)) hown hK hP 0 rfl rfl 8 (by decide) (hts _ (List.mem_cons_of_mem _ wm_705)) (fun _ h9 => h9) rfl d_MD_turned_8 ?_
  refine lv_iconst (v := (-1)) hx hb d_MD_turned_11 (by decide) ?_
  refine lv_icmp_eq (tgt := 19) hx hb d_MD_turned_12 (by decide) (fun c_3 => ?_) (fun c_3 => ?_)
  · exact absurd c_3 hkn
  · refine lv_iconst (v := 1) hx hb d_MD_turned_15 (by decide) ?_
    refine lv_goto (tgt := 20) hx hb d_MD_turned_16 (by decide) ?_
    refine lv_iconst (v := 1) hx hb d_MD_turned_20 (by decide) ?_
    have hPc := hP.sub (ws' := [(h0, .inr (7, [.int th, .int (nI nm), .ref ap, .int (nI no), .ref am, .ref aw, .ref az, .ref au, .int kn, .long vP, .long vQ, .long vS, .long vT, .long vB, .long vM, .long vH, .ref ao, .ref ax, .int (nI np), .ref ay, .int (nI nl), .ref ad, .ref al, .int (nI sn), .ref ag, .int (nI ta), .int nb]))]) [0] rfl
    have hDc := hD.sub (ws' := [(h0, .inr (7, [.int th, .int (nI nm), .ref ap, .int (nI no), .ref am, .ref aw, .ref az, .ref au, .int kn, .long vP, .long vQ, .long vS, .long vT, .long vB, .long vM, .long vH, .ref ao, .ref ax, .int (nI np), .ref ay, .int (nI nl), .ref ad, .ref al, .int (nI sn), .ref ag, .int (nI ta), .int nb]))]) [0] (by decide) rfl
    have hKc := hK.sub (tys' := []) [] rfl
    have hFc := va_free (wc := [(h0, .inr (7, [.int th, .int (nI nm), .ref ap, .int (nI no), .ref am, .ref aw, .ref az, .ref au, .int kn, .long vP, .long vQ, .long vS, .long vT, .long vB, .long vM, .long vH, .ref ao, .ref ax, .int (nI np), .ref ay, .int (nI nl), .ref ad, .ref al, .int (nI sn), .ref ag, .int (nI ta), .int nb]))]) hD hS hA [0] rfl
    refine va_calli (va_runV (As := [.int (bI (md_win 0 0 3)), .int 1, .int 1]) (rest := []) ⟨hx, hb, hml, hown, hts⟩ (c_MD_goes l dC dI s.heap.size h0 th nm ap no am aw az au kn vP vQ vS vT vB vM vH ao ax np ay nl ad al sn ag ta nb (bI (md_win 0 0 3)) 1 1) (cwV 3 hts (xgV wm_793 wm_795 wm_13 wm_34 wm_796) rfl rfl rfl (by decide +kernel) ⟨Nat.le_of_ble_eq_true rfl, Nat.le_of_ble_eq_true rfl⟩) ⟨xw_blind, va_recv hKc hPc (ci := 7) (q0 := 0) rfl rfl, fun U hU hW => ⟨rfl, by rw [hU], hz.warm hW, by rw [hU]; exact hPc, va_K.moved hW.alike hKc, hDc.weaken (fun _ _ _ _ => trivial)⟩⟩ rfl rfl hl.1 rfl (lv_room (Nat.le_of_ble_eq_true rfl)) d_MD_turned_21 ⟨Nat.le_of_ble_eq_true rfl, Nat.le_of_ble_eq_true rfl⟩) hS (fun q _ h => hFc q h) hFc (fun r_4 _ t H1 locs ht hvm hw_5 hB hz1 hk1 hS => ?_)
    obtain ⟨hP1, hK1, hD1⟩ := hB
    rw [ht] at hP1
    have hK1 := va_K.moved hvm.symm hK1
    obtain ⟨hP, hD⟩ := va_join (wr := []) (w1 := [(h0, .inr (7, [.int (md_th (bI (md_win 0 0 3)) 1 1), .int (nI nm), .ref ap, .int (nI no), .ref am, .ref aw, .ref az, .ref au, .int kn, .long vP, .long vQ, .long vS, .long vT, .long vB, .long vM, .long vH, .ref ao, .ref ax, .int (nI np), .ref ay, .int (nI nl), .ref ad, .ref al, .int (nI sn), .ref ag, .int (nI ta), .int nb]))]) hP hD [0] [] rfl rfl (by decide) (by decide) hk1 hFc hP1 hD1
    generalize H1 = H at hP hS ⊢
    have hP : va_P (dC, dI) xCl [(h0, .inr (7, [.int (md_th (bI (md_win 0 0 3)) 1 1), .int (nI nm), .ref ap, .int (nI no), .ref am, .ref aw, .ref az, .ref au, .int kn, .long vP, .long vQ, .long vS, .long vT, .long vB, .long vM, .long vH, .ref ao, .ref ax, .int (nI np), .ref ay, .int (nI nl), .ref ad, .ref al, .int (nI sn), .ref ag, .int (nI ta), .int nb]))] H := hP
    have hD : va_D A [(h0, .inr (7, [.int (md_th (bI (md_win 0 0 3)) 1 1), .int (nI nm), .ref ap, .int (nI no), .ref am, .ref aw, .ref az, .ref au, .int kn, .long vP, .long vQ, .long vS, .long vT, .long vB, .long vM, .long vH, .ref ao, .ref ax, .int (nI np), .ref ay, .int (nI nl), .ref ad, .ref al, .int (nI sn), .ref ag, .int (nI ta), .int nb]))] := hD
    subst hw_5
    refine lv_if_ne (tgt := 29) hx hb d_MD_turned_24 (by decide) (fun c_6 => ?_) (fun c_6 => ?_)
    · have b_7 := bI_t (rfl : bI (md_th (bI (md_win 0 0 3)) 1 1 = 0) = _) c_6
      refine lv_iload_n hx hb d_MD_turned_29 rfl (lv_at hl 1 rfl) ?_
      refine lv_if_ne (tgt := 47) hx hb d_MD_turned_30 (by decide) (fun c_8 => ?_) (fun c_8 => ?_)
      · exact absurd c_8 (by decide)
      · refine lv_aload_n hx hb d_MD_turned_33 rfl (lv_at hl 0 rfl) ?_
        refine va_get (D := (dC, dI)) (ci := 7) (v := .long vP) (C := xR_MD) (T := xT_MD) (N := 27) hx hb hts (fun w h => List.mem_cons_of_mem _ (iw_MD w h)) hown hK hP 0 rfl rfl 9 (by decide) (hts _ (List.mem_cons_of_mem _ wm_706)) (fun _ h9 => h9) rfl d_MD_turned_34 ?_
        refine lv_aload_n hx hb d_MD_turned_37 rfl (lv_at hl 0 rfl) ?_
        refine va_get (D := (dC, dI)) (ci := 7) (v := .long vB) (C := xR_MD) (T := xT_MD) (N := 27) hx hb hts (fun w h => List.mem_cons_of_mem _ (iw_MD w h)) hown hK hP 0 rfl rfl 13 (by decide) (hts _ (List.mem_cons_of_mem _ wm_710)) (fun _ h9 => h9) rfl d_MD_turned_38 ?_
        refine xr_calll (va_runS (As := [.long vP, .long vB]) (rest := []) ⟨hx, hb, hml, hown, hts⟩ (c_MD_millionths l dC dI vP vB (by first | assumption | omega | decide)) (va_cwS 2 hts (xgS wm_836 wm_837 wm_34 wm_838) rfl rfl rfl (by decide +kernel) ⟨Nat.le_of_ble_eq_true rfl, Nat.le_of_ble_eq_true rfl⟩) ⟨xp_blind, fun U hU hW => ⟨rfl, hz.warm hW, by rw [hU]; exact hP.sub [] rfl, va_K.moved hW.alike (hK.sub [] rfl)⟩⟩ rfl rfl hl.1 rfl (lv_room (Nat.le_of_ble_eq_true rfl)) d_MD_turned_41 ⟨Nat.le_of_ble_eq_true rfl, Nat.le_of_ble_eq_true rfl⟩) (fun r_9 h_10 => ?_)
        subst h_10
        refine lv_goto (tgt := 106) hx hb d_MD_turned_44 (by decide) ?_
        rw [md_th_0 (bI_ne ⟨by decide, by decide⟩) (by decide) (by decide)] at hP hD
        have hP9 := hP.sub (ws' := [(h0, .inr (7, [.int 0, .int (nI nm), .ref ap, .int (nI no), .ref am, .ref aw, .ref az, .ref au, .int kn, .long vP, .long vQ, .long vS, .long vT, .long vB, .long vM, .long vH, .ref ao, .ref ax, .int (nI np), .ref ay, .int (nI nl), .ref ad, .ref al, .int (nI sn), .ref ag, .int (nI ta), .int nb]))]) [0] rfl
        have hD9 := hD.sub (ws' := [(h0, .inr (7, [.int 0, .int (nI nm), .ref ap, .int (nI no), .ref am, .ref aw, .ref az, .ref au, .int kn, .long vP, .long vQ, .long vS, .long vT, .long vB, .long vM, .long vH, .ref ao, .ref ax, .int (nI np), .ref ay, .int (nI nl), .ref ad, .ref al, .int (nI sn), .ref ag, .int (nI ta), .int nb]))]) [0] (by decide) rfl
        have hK9 := hK.sub (tys' := []) [] rfl
        exact W.lret (v := md_mil vP vB) hx hb hr (fun t ht hW => ⟨⟨md_mil vP vB, (), rfl, rfl, ⟨by rw [ht]; exact hP9, va_K.moved hW.alike hK9, by exact hD9⟩⟩, hS.F ht⟩) hS.2.2 d_MD_turned_106 hlocks
    · exact absurd (md_th_0 (bI_ne ⟨by decide, by decide⟩) (by decide) (by decide)) (bI_f rfl c_6)
set_option maxHeartbeats 4000000 in
set_option maxRecDepth 100000 in
/-- turned(1) -/
theorem c_MD_turned_y1 (l : Launch) (dC : Nat → ClassId) (dI : Nat → Nat → Nat) (sz : Nat) (h0 : Nat) (th : Int32) (nm : Nat) (ap : Nat) (no : Nat) (am : Nat) (aw : Nat) (az : Nat) (au : Nat) (kn : Int32) (vP : Int64) (vQ : Int64) (vS : Int64) (vT : Int64) (vB : Int64) (vM : Int64) (vH : Int64) (ao : Nat) (ax : Nat) (np : Nat) (ay : Nat) (nl : Nat) (ad : Nat) (al : Nat) (sn : Nat) (ag : Nat) (ta : Nat) (nb : Int32) (hkn : ¬ kn = -1) (hB : 0 < vB) (hMB : 0 < vM * vB) : Met l xy_MD_turned xw_MD_turned ({ frames := 2, cells := 0, slots := 0, locals := 50 }) (xp_w [.ref h0, .int 1] sz (dC, dI) xCl [(h0, .inr (7, [.int th, .int (nI nm), .ref ap, .int (nI no), .ref am, .ref aw, .ref az, .ref au, .int kn, .long vP, .long vQ, .long vS, .long vT, .long vB, .long vM, .long vH, .ref ao, .ref ax, .int (nI np), .ref ay, .int (nI nl), .ref ad, .ref al, .int (nI sn), .ref ag, .int (nI ta), .int nb]))] []) (va_Ql (fun (r : Int64) (_ : Unit) => r = md_mil vQ (vB)) (fun _ t => xb_w (dC, dI) xCl [(h0, .inr (7, [.int 0, .int (nI nm), .ref ap, .int (nI no), .ref am, .ref aw, .ref az, .ref au, .int kn, .long vP, .long vQ, .long vS, .long vT, .long vB, .long vM, .long vH, .ref ao, .ref ax, .int (nI np), .ref ay, .int (nI nl), .ref ad, .ref al, .int (nI sn), .ref ag, .int (nI ta), .int nb]))] [] (va_A [(h0, .inr (7, [.int th, .int (nI nm), .ref ap, .int (nI no), .ref am, .ref aw, .ref az, .ref au, .int kn, .long vP, .long vQ, .long vS, .long vT, .long vB, .long vM, .long vH, .ref ao, .ref ax, .int (nI np), .ref ay, .int (nI nl), .ref ad, .ref al, .int (nI sn), .ref ag, .int (nI ta), .int nb]))] sz) t) (va_A [(h0, .inr (7, [.int th, .int (nI nm), .ref ap, .int (nI no), .ref am, .ref aw, .ref az, .ref au, .int kn, .long vP, .long vQ, .long vS, .long vT, .long vB, .long vM, .long vH, .ref ao, .ref ax, .int (nI np), .ref ay, .int (nI nl), .ref ad, .ref al, .int (nI sn), .ref ag, .int (nI ta), .int nb]))] sz)) 0 0 (va_A [(h0, .inr (7, [.int th, .int (nI nm), .ref ap, .int (nI no), .ref am, .ref aw, .ref az, .ref au, .int kn, .long vP, .long vQ, .long vS, .long vT, .long vB, .long vM, .long vH, .ref ao, .ref ax, .int (nI np), .ref ay, .int (nI nl), .ref ad, .ref al, .int (nI sn), .ref ag, .int (nI ta), .int nb]))] sz) := by
  refine Met.ofW (cc := prog_9_method_17_code) (maxL := 2) (ret := (some .long)) (by decide) rfl ?_
  intro p e s m args below meth c s₁ B hml hv
  obtain ⟨rfl, hsz, hz, hP, hK, hD0⟩ := hv
  have hx := B.exec
  have hb := B.bytes
  have hr := B.returns
  have hts := atoms_spec (ws := xw_MD_turned) B.pre
  have hown : s.vm.findClass xR_MD = some m.cls := findClass_of_methodNamed B.named
  have hlocks := B.notSynchronized
  subst hsz
  have hD := hD0.self (sz := s.heap.size)
  generalize hAe : va_A [(h0, .inr (7, [.int th, .int (nI nm), .ref ap, .int (nI no), .ref am, .ref aw, .ref az, .ref au, .int kn, .long vP, .long vQ, .long vS, .long vT, .long vB, .long vM, .long vH, .ref ao, .ref ax, .int (nI np), .ref ay, .int (nI nl), .ref ad, .ref al, .int (nI sn), .ref ag, .int (nI ta), .int nb]))] s.heap.size = A at hD ⊢
  have hA : ∀ q : Nat, s.heap.size ≤ q → A q := fun q h => by rw [← hAe]; exact Or.inr h
  have hS : va_S A s.heap s.heap [] := va_S.rf
  have hP : va_P (dC, dI) xCl [(h0, .inr (7, [.int th, .int (nI nm), .ref ap, .int (nI no), .ref am, .ref aw, .ref az, .ref au, .int kn, .long vP, .long vQ, .long vS, .long vT, .long vB, .long vM, .long vH, .ref ao, .ref ax, .int (nI np), .ref ay, .int (nI nl), .ref ad, .ref al, .int (nI sn), .ref ag, .int (nI ta), .int nb]))] s.heap := hP
  have hl := lv_entry ([.ref h0, .int 1]) (n := 2) (Nat.le_of_ble_eq_true rfl)
  rw [lg_entry_eq]
  generalize (lg_sl ([.ref h0, .int 1]) ++ List.replicate (2 - (lg_sl ([.ref h0, .int 1])).length) Slot.unset).toArray = ls at hl ⊢
  have hl : lv_has ls 2 [(0, .ref h0), (1, .int 1)] := hl
  refine lv_aload_n hx hb d_MD_turned_0 rfl (lv_at hl 0 rfl) ?_
  refine lv_iload_n hx hb d_MD_turned_1 rfl (lv_at hl 1 rfl) ?_
  refine lv_iconst (v := 0) hx hb d_MD_turned_2 (by decide) ?_
  refine lv_iconst (v := 3) hx hb d_MD_turned_3 (by decide) ?_
  refine xr_calli (va_runS (As := [.int 1, .int 0, .int 3]) (rest := [.ref h0]) ⟨hx, hb, hml, hown, hts⟩ (c_MD_within l dC dI 1 0 3) (va_cwS 3 hts (xgS wm_790 wm_791 wm_34 wm_792) rfl rfl rfl (by decide +kernel) ⟨Nat.le_of_ble_eq_true rfl, Nat.le_of_ble_eq_true rfl⟩) ⟨xp_blind, fun U hU hW => ⟨rfl, hz.warm hW, by rw [hU]; exact hP.sub [] rfl, va_K.moved hW.alike (hK.sub [] rfl)⟩⟩ rfl rfl hl.1 rfl (lv_room (Nat.le_of_ble_eq_true rfl)) d_MD_turned_4 ⟨Nat.le_of_ble_eq_true rfl, Nat.le_of_ble_eq_true rfl⟩) (fun r_1 h_2 => ?_)
  subst h_2
  refine lv_aload_n hx hb d_MD_turned_7 rfl (lv_at hl 0 rfl) ?_
  refine va_get (D := (dC, dI)) (ci := 7) (v := .int kn) (C := xR_MD) (T := xT_MD) (N := 27) hx hb hts (fun w h => List.mem_cons_of_mem _ (iw_MD w h)) hown hK hP 0 rfl rfl 8 (by decide) (hts _ (List.mem_cons_of_mem _ wm_705)) (fun _ h9 => h9) rfl d_MD_turned_8 ?_
  refine lv_iconst (v := (-1)) hx hb d_MD_turned_11 (by decide) ?_
  refine lv_icmp_eq (tgt := 19) hx hb d_MD_turned_12 (by decide) (fun c_3 => ?_) (fun c_3 => ?_)
  · exact absurd c_3 hkn
  · refine lv_iconst (v := 1) hx hb d_MD_turned_15 (by decide) ?_
    refine lv_goto (tgt := 20) hx hb d_MD_turned_16 (by decide) ?_
    refine lv_iconst (v := 1) hx hb d_MD_turned_20 (by decide) ?_
    have hPc := hP.sub (ws' := [(h0, .inr (7, [.int th, .int (nI nm), .ref ap, .int (nI no), .ref am, .ref aw, .ref az, .ref au, .int kn, .long vP, .long vQ, .long vS, .long vT, .long vB, .long vM, .long vH, .ref ao, .ref ax, .int (nI np), .ref ay, .int (nI nl), .ref ad, .ref al, .int (nI sn), .ref ag, .int (nI ta), .int nb]))]) [0] rfl
    have hDc := hD.sub (ws' := [(h0, .inr (7, [.int th, .int (nI nm), .ref ap, .int (nI no), .ref am, .ref aw, .ref az, .ref au, .int kn, .long vP, .long vQ, .long vS, .long vT, .long vB, .long vM, .long vH, .ref ao, .ref ax, .int (nI np), .ref ay, .int (nI nl), .ref ad, .ref al, .int (nI sn), .ref ag, .int (nI ta), .int nb]))]) [0] (by decide) rfl
    have hKc := hK.sub (tys' := []) [] rfl
    have hFc := va_free (wc := [(h0, .inr (7, [.int th, .int (nI nm), .ref ap, .int (nI no), .ref am, .ref aw, .ref az, .ref au, .int kn, .long vP, .long vQ, .long vS, .long vT, .long vB, .long vM, .long vH, .ref ao, .ref ax, .int (nI np), .ref ay, .int (nI nl), .ref ad, .ref al, .int (nI sn), .ref ag, .int (nI ta), .int nb]))]) hD hS hA [0] rfl
    refine va_calli (va_runV (As := [.int (bI (md_win 1 0 3)), .int 1, .int 1]) (rest := []) ⟨hx, hb, hml, hown, hts⟩ (c_MD_goes l dC dI s.heap.size h0 th nm ap no am aw az au kn vP vQ vS vT vB vM vH ao ax np ay nl ad al sn ag ta nb (bI (md_win 1 0 3)) 1 1) (cwV 3 hts (xgV wm_793 wm_795 wm_13 wm_34 wm_796) rfl rfl rfl (by decide +kernel) ⟨Nat.le_of_ble_eq_true rfl, Nat.le_of_ble_eq_true rfl⟩) ⟨xw_blind, va_recv hKc hPc (ci := 7) (q0 := 0) rfl rfl, fun U hU hW => ⟨rfl, by rw [hU], hz.warm hW, by rw [hU]; exact hPc, va_K.moved hW.alike hKc, hDc.weaken (fun _ _ _ _ => trivial)⟩⟩ rfl rfl hl.1 rfl (lv_room (Nat.le_of_ble_eq_true rfl)) d_MD_turned_21 ⟨Nat.le_of_ble_eq_true rfl, Nat.le_of_ble_eq_true rfl⟩) hS (fun q _ h => hFc q h) hFc (fun r_4 _ t H1 locs ht hvm hw_5 hB hz1 hk1 hS => ?_)
    obtain ⟨hP1, hK1, hD1⟩ := hB
    rw [ht] at hP1
    have hK1 := va_K.moved hvm.symm hK1
    obtain ⟨hP, hD⟩ := va_join (wr := []) (w1 := [(h0, .inr (7, [.int (md_th (bI (md_win 1 0 3)) 1 1), .int (nI nm), .ref ap, .int (nI no), .ref am, .ref aw, .ref az, .ref au, .int kn, .long vP, .long vQ, .long vS, .long vT, .long vB, .long vM, .long vH, .ref ao, .ref ax, .int (nI np), .ref ay, .int (nI nl), .ref ad, .ref al, .int (nI sn), .ref ag, .int (nI ta), .int nb]))]) hP hD [0] [] rfl rfl (by decide) (by decide) hk1 hFc hP1 hD1
    generalize H1 = H at hP hS ⊢
    have hP : va_P (dC, dI) xCl [(h0, .inr (7, [.int (md_th (bI (md_win 1 0 3)) 1 1), .int (nI nm), .ref ap, .int (nI no), .ref am, .ref aw, .ref az, .ref au, .int kn, .long vP, .long vQ, .long vS, .long vT, .long vB, .long vM, .long vH, .ref ao, .ref ax, .int (nI np), .ref ay, .int (nI nl), .ref ad, .ref al, .int (nI sn), .ref ag, .int (nI ta), .int nb]))] H := hP
    have hD : va_D A [(h0, .inr (7, [.int (md_th (bI (md_win 1 0 3)) 1 1), .int (nI nm), .ref ap, .int (nI no), .ref am, .ref aw, .ref az, .ref au, .int kn, .long vP, .long vQ, .long vS, .long vT, .long vB, .long vM, .long vH, .ref ao, .ref ax, .int (nI np), .ref ay, .int (nI nl), .ref ad, .ref al, .int (nI sn), .ref ag, .int (nI ta), .int nb]))] := hD
    subst hw_5
    refine lv_if_ne (tgt := 29) hx hb d_MD_turned_24 (by decide) (fun c_6 => ?_) (fun c_6 => ?_)
    · have b_7 := bI_t (rfl : bI (md_th (bI (md_win 1 0 3)) 1 1 = 0) = _) c_6
      refine lv_iload_n hx hb d_MD_turned_29 rfl (lv_at hl 1 rfl) ?_
      refine lv_if_ne (tgt := 47) hx hb d_MD_turned_30 (by decide) (fun c_8 => ?_) (fun c_8 => ?_)
      · refine lv_iload_n hx hb d_MD_turned_47 rfl (lv_at hl 1 rfl) ?_
        refine lv_iconst (v := 1) hx hb d_MD_turned_48 (by decide) ?_
        refine lv_icmp_ne (tgt := 66) hx hb d_MD_turned_49 (by decide) (fun c_9 => ?_) (fun c_9 => ?_)
        · exact absurd c_9 (by decide)
        · refine lv_aload_n hx hb d_MD_turned_52 rfl (lv_at hl 0 rfl) ?_
          refine va_get (D := (dC, dI)) (ci := 7) (v := .long vQ) (C := xR_MD) (T := xT_MD) (N := 27) hx hb hts (fun w h => List.mem_cons_of_mem _ (iw_MD w h)) hown hK hP 0 rfl rfl 10 (by decide) (hts _ (List.mem_cons_of_mem _ wm_707)) (fun _ h9 => h9) rfl d_MD_turned_53 ?_
          refine lv_aload_n hx hb d_MD_turned_56 rfl (lv_at hl 0 rfl) ?_
          refine va_get (D := (dC, dI)) (ci := 7) (v := .long vB) (C := xR_MD) (T := xT_MD) (N := 27) hx hb hts (fun w h => List.mem_cons_of_mem _ (iw_MD w h)) hown hK hP 0 rfl rfl 13 (by decide) (hts _ (List.mem_cons_of_mem _ wm_710)) (fun _ h9 => h9) rfl d_MD_turned_57 ?_
          refine xr_calll (va_runS (As := [.long vQ, .long vB]) (rest := []) ⟨hx, hb, hml, hown, hts⟩ (c_MD_millionths l dC dI vQ vB (by first | assumption | omega | decide)) (va_cwS 2 hts (xgS wm_836 wm_837 wm_34 wm_838) rfl rfl rfl (by decide +kernel) ⟨Nat.le_of_ble_eq_true rfl, Nat.le_of_ble_eq_true rfl⟩) ⟨xp_blind, fun U hU hW => ⟨rfl, hz.warm hW, by rw [hU]; exact hP.sub [] rfl, va_K.moved hW.alike (hK.sub [] rfl)⟩⟩ rfl rfl hl.1 rfl (lv_room (Nat.le_of_ble_eq_true rfl)) d_MD_turned_60 ⟨Nat.le_of_ble_eq_true rfl, Nat.le_of_ble_eq_true rfl⟩) (fun r_10 h_11 => ?_)
          subst h_11
          refine lv_goto (tgt := 106) hx hb d_MD_turned_63 (by decide) ?_
          rw [md_th_0 (bI_ne ⟨by decide, by decide⟩) (by decide) (by decide)] at hP hD
          have hP9 := hP.sub (ws' := [(h0, .inr (7, [.int 0, .int (nI nm), .ref ap, .int (nI no), .ref am, .ref aw, .ref az, .ref au, .int kn, .long vP, .long vQ, .long vS, .long vT, .long vB, .long vM, .long vH, .ref ao, .ref ax, .int (nI np), .ref ay, .int (nI nl), .ref ad, .ref al, .int (nI sn), .ref ag, .int (nI ta), .int nb]))]) [0] rfl
          have hD9 := hD.sub (ws' := [(h0, .inr (7, [.int 0, .int (nI nm), .ref ap, .int (nI no), .ref am, .ref aw, .ref az, .ref au, .int kn, .long vP, .long vQ, .long vS, .long vT, .long vB, .long vM, .long vH, .ref ao, .ref ax, .int (nI np), .ref ay, .int (nI nl), .ref ad, .ref al, .int (nI sn), .ref ag, .int (nI ta), .int nb]))]) [0] (by decide) rfl
          have hK9 := hK.sub (tys' := []) [] rfl
          exact W.lret (v := md_mil vQ vB) hx hb hr (fun t ht hW => ⟨⟨md_mil vQ vB, (), rfl, rfl, ⟨by rw [ht]; exact hP9, va_K.moved hW.alike hK9, by exact hD9⟩⟩, hS.F ht⟩) hS.2.2 d_MD_turned_106 hlocks
      · exact absurd c_8 (by decide)
    · exact absurd (md_th_0 (bI_ne ⟨by decide, by decide⟩) (by decide) (by decide)) (bI_f rfl c_6)
set_option maxHeartbeats 4000000 in
set_option maxRecDepth 100000 in
/-- turned(2) -/
theorem c_MD_turned_y2 (l : Launch) (dC : Nat → ClassId) (dI : Nat → Nat → Nat) (sz : Nat) (h0 : Nat) (th : Int32) (nm : Nat) (ap : Nat) (no : Nat) (am : Nat) (aw : Nat) (az : Nat) (au : Nat) (kn : Int32) (vP : Int64) (vQ : Int64) (vS : Int64) (vT : Int64) (vB : Int64) (vM : Int64) (vH : Int64) (ao : Nat) (ax : Nat) (np : Nat) (ay : Nat) (nl : Nat) (ad : Nat) (al : Nat) (sn : Nat) (ag : Nat) (ta : Nat) (nb : Int32) (hkn : ¬ kn = -1) (hB : 0 < vB) (hMB : 0 < vM * vB) : Met l xy_MD_turned xw_MD_turned ({ frames := 2, cells := 0, slots := 0, locals := 50 }) (xp_w [.ref h0, .int 2] sz (dC, dI) xCl [(h0, .inr (7, [.int th, .int (nI nm), .ref ap, .int (nI no), .ref am, .ref aw, .ref az, .ref au, .int kn, .long vP, .long vQ, .long vS, .long vT, .long vB, .long vM, .long vH, .ref ao, .ref ax, .int (nI np), .ref ay, .int (nI nl), .ref ad, .ref al, .int (nI sn), .ref ag, .int (nI ta), .int nb]))] []) (va_Ql (fun (r : Int64) (_ : Unit) => r = md_mil vS (vM * vB)) (fun _ t => xb_w (dC, dI) xCl [(h0, .inr (7, [.int 0, .int (nI nm), .ref ap, .int (nI no), .ref am, .ref aw, .ref az, .ref au, .int kn, .long vP, .long vQ, .long vS, .long vT, .long vB, .long vM, .long vH, .ref ao, .ref ax, .int (nI np), .ref ay, .int (nI nl), .ref ad, .ref al, .int (nI sn), .ref ag, .int (nI ta), .int nb]))] [] (va_A [(h0, .inr (7, [.int th, .int (nI nm), .ref ap, .int (nI no), .ref am, .ref aw, .ref az, .ref au, .int kn, .long vP, .long vQ, .long vS, .long vT, .long vB, .long vM, .long vH, .ref ao, .ref ax, .int (nI np), .ref ay, .int (nI nl), .ref ad, .ref al, .int (nI sn), .ref ag, .int (nI ta), .int nb]))] sz) t) (va_A [(h0, .inr (7, [.int th, .int (nI nm), .ref ap, .int (nI no), .ref am, .ref aw, .ref az, .ref au, .int kn, .long vP, .long vQ, .long vS, .long vT, .long vB, .long vM, .long vH, .ref ao, .ref ax, .int (nI np), .ref ay, .int (nI nl), .ref ad, .ref al, .int (nI sn), .ref ag, .int (nI ta), .int nb]))] sz)) 0 0 (va_A [(h0, .inr (7, [.int th, .int (nI nm), .ref ap, .int (nI no), .ref am, .ref aw, .ref az, .ref au, .int kn, .long vP, .long vQ, .long vS, .long vT, .long vB, .long vM, .long vH, .ref ao, .ref ax, .int (nI np), .ref ay, .int (nI nl), .ref ad, .ref al, .int (nI sn), .ref ag, .int (nI ta), .int nb]))] sz) := by
  refine Met.ofW (cc := prog_9_method_17_code) (maxL := 2) (ret := (some .long)) (by decide) rfl ?_
  intro p e s m args below meth c s₁ B hml hv
  obtain ⟨rfl, hsz, hz, hP, hK, hD0⟩ := hv
  have hx := B.exec
  have hb := B.bytes
  have hr := B.returns
  have hts := atoms_spec (ws := xw_MD_turned) B.pre
  have hown : s.vm.findClass xR_MD = some m.cls := findClass_of_methodNamed B.named
  have hlocks := B.notSynchronized
  subst hsz
  have hD := hD0.self (sz := s.heap.size)
  generalize hAe : va_A [(h0, .inr (7, [.int th, .int (nI nm), .ref ap, .int (nI no), .ref am, .ref aw, .ref az, .ref au, .int kn, .long vP, .long vQ, .long vS, .long vT, .long vB, .long vM, .long vH, .ref ao, .ref ax, .int (nI np), .ref ay, .int (nI nl), .ref ad, .ref al, .int (nI sn), .ref ag, .int (nI ta), .int nb]))] s.heap.size = A at hD ⊢
  have hA : ∀ q : Nat, s.heap.size ≤ q → A q := fun q h => by rw [← hAe]; exact Or.inr h
  have hS : va_S A s.heap s.heap [] := va_S.rf
  have hP : va_P (dC, dI) xCl [(h0, .inr (7, [.int th, .int (nI nm), .ref ap, .int (nI no), .ref am, .ref aw, .ref az, .ref au, .int kn, .long vP, .long vQ, .long vS, .long vT, .long vB, .long vM, .long vH, .ref ao, .ref ax, .int (nI np), .ref ay, .int (nI nl), .ref ad, .ref al, .int (nI sn), .ref ag, .int (nI ta), .int nb]))] s.heap := hP
  have hl := lv_entry ([.ref h0, .int 2]) (n := 2) (Nat.le_of_ble_eq_true rfl)
  rw [lg_entry_eq]
  generalize (lg_sl ([.ref h0, .int 2]) ++ List.replicate (2 - (lg_sl ([.ref h0, .int 2])).length) Slot.unset).toArray = ls at hl ⊢
  have hl : lv_has ls 2 [(0, .ref h0), (1, .int 2)] := hl
  refine lv_aload_n hx hb d_MD_turned_0 rfl (lv_at hl 0 rfl) ?_
  refine lv_iload_n hx hb d_MD_turned_1 rfl (lv_at hl 1 rfl) ?_
  refine lv_iconst (v := 0) hx hb d_MD_turned_2 (by decide) ?_
  refine lv_iconst (v := 3) hx hb d_MD_turned_3 (by decide) ?_
  refine xr_calli (va_runS (As := [.int 2, .int 0, .int 3]) (rest := [.ref h0]) ⟨hx, hb, hml, hown, hts⟩ (c_MD_within l dC dI 2 0 3) (va_cwS 3 hts (xgS wm_790 wm_791 wm_34 wm_792) rfl rfl rfl (by decide +kernel) ⟨Nat.le_of_ble_eq_true rfl, Nat.le_of_ble_eq_true rfl⟩) ⟨xp_blind, fun U hU hW => ⟨rfl, hz.warm hW, by rw [hU]; exact hP.sub [] rfl, va_K.moved hW.alike (hK.sub [] rfl)⟩⟩ rfl rfl hl.1 rfl (lv_room (Nat.le_of_ble_eq_true rfl)) d_MD_turned_4 ⟨Nat.le_of_ble_eq_true rfl, Nat.le_of_ble_eq_true rfl⟩) (fun r_1 h_2 => ?_)
  subst h_2
  refine lv_aload_n hx hb d_MD_turned_7 rfl (lv_at hl 0 rfl) ?_
  refine va_get (D := (dC, dI)) (ci := 7) (v := .int kn) (C := xR_MD) (T := xT_MD) (N := 27) hx hb hts (fun w h => List.mem_cons_of_mem _ (iw_MD w h)) hown hK hP 0 rfl rfl 8 (by decide) (hts _ (List.mem_cons_of_mem _ wm_705)) (fun _ h9 => h9) rfl d_MD_turned_8 ?_
  refine lv_iconst (v := (-1)) hx hb d_MD_turned_11 (by decide) ?_
  refine lv_icmp_eq (tgt := 19) hx hb d_MD_turned_12 (by decide) (fun c_3 => ?_) (fun c_3 => ?_)
  · exact absurd c_3 hkn
  · refine lv_iconst (v := 1) hx hb d_MD_turned_15 (by decide) ?_
    refine lv_goto (tgt := 20) hx hb d_MD_turned_16 (by decide) ?_
    refine lv_iconst (v := 1) hx hb d_MD_turned_20 (by decide) ?_
    have hPc := hP.sub (ws' := [(h0, .inr (7, [.int th, .int (nI nm), .ref ap, .int (nI no), .ref am, .ref aw, .ref az, .ref au, .int kn, .long vP, .long vQ, .long vS, .long vT, .long vB, .long vM, .long vH, .ref ao, .ref ax, .int (nI np), .ref ay, .int (nI nl), .ref ad, .ref al, .int (nI sn), .ref ag, .int (nI ta), .int nb]))]) [0] rfl
    have hDc := hD.sub (ws' := [(h0, .inr (7, [.int th, .int (nI nm), .ref ap, .int (nI no), .ref am, .ref aw, .ref az, .ref au, .int kn, .long vP, .long vQ, .long vS, .long vT, .long vB, .long vM, .long vH, .ref ao, .ref ax, .int (nI np), .ref ay, .int (nI nl), .ref ad, .ref al, .int (nI sn), .ref ag, .int (nI ta), .int nb]))]) [0] (by decide) rfl
    have hKc := hK.sub (tys' := []) [] rfl
    have hFc := va_free (wc := [(h0, .inr (7, [.int th, .int (nI nm), .ref ap, .int (nI no), .ref am, .ref aw, .ref az, .ref au, .int kn, .long vP, .long vQ, .long vS, .long vT, .long vB, .long vM, .long vH, .ref ao, .ref ax, .int (nI np), .ref ay, .int (nI nl), .ref ad, .ref al, .int (nI sn), .ref ag, .int (nI ta), .int nb]))]) hD hS hA [0] rfl
    refine va_calli (va_runV (As := [.int (bI (md_win 2 0 3)), .int 1, .int 1]) (rest := []) ⟨hx, hb, hml, hown, hts⟩ (c_MD_goes l dC dI s.heap.size h0 th nm ap no am aw az au kn vP vQ vS vT vB vM vH ao ax np ay nl ad al sn ag ta nb (bI (md_win 2 0 3)) 1 1) (cwV 3 hts (xgV wm_793 wm_795 wm_13 wm_34 wm_796) rfl rfl rfl (by decide +kernel) ⟨Nat.le_of_ble_eq_true rfl, Nat.le_of_ble_eq_true rfl⟩) ⟨xw_blind, va_recv hKc hPc (ci := 7) (q0 := 0) rfl rfl, fun U hU hW => ⟨rfl, by rw [hU], hz.warm hW, by rw [hU]; exact hPc, va_K.moved hW.alike hKc, hDc.weaken (fun _ _ _ _ => trivial)⟩⟩ rfl rfl hl.1 rfl (lv_room (Nat.le_of_ble_eq_true rfl)) d_MD_turned_21 ⟨Nat.le_of_ble_eq_true rfl, Nat.le_of_ble_eq_true rfl⟩) hS (fun q _ h => hFc q h) hFc (fun r_4 _ t H1 locs ht hvm hw_5 hB hz1 hk1 hS => ?_)
    obtain ⟨hP1, hK1, hD1⟩ := hB
    rw [ht] at hP1
    have hK1 := va_K.moved hvm.symm hK1
    obtain ⟨hP, hD⟩ := va_join (wr := []) (w1 := [(h0, .inr (7, [.int (md_th (bI (md_win 2 0 3)) 1 1), .int (nI nm), .ref ap, .int (nI no), .ref am, .ref aw, .ref az, .ref au, .int kn, .long vP, .long vQ, .long vS, .long vT, .long vB, .long vM, .long vH, .ref ao, .ref ax, .int (nI np), .ref ay, .int (nI nl), .ref ad, .ref al, .int (nI sn), .ref ag, .int (nI ta), .int nb]))]) hP hD [0] [] rfl rfl (by decide) (by decide) hk1 hFc hP1 hD1
    generalize H1 = H at hP hS ⊢
    have hP : va_P (dC, dI) xCl [(h0, .inr (7, [.int (md_th (bI (md_win 2 0 3)) 1 1), .int (nI nm), .ref ap, .int (nI no), .ref am, .ref aw, .ref az, .ref au, .int kn, .long vP, .long vQ, .long vS, .long vT, .long vB, .long vM, .long vH, .ref ao, .ref ax, .int (nI np), .ref ay, .int (nI nl), .ref ad, .ref al, .int (nI sn), .ref ag, .int (nI ta), .int nb]))] H := hP
    have hD : va_D A [(h0, .inr (7, [.int (md_th (bI (md_win 2 0 3)) 1 1), .int (nI nm), .ref ap, .int (nI no), .ref am, .ref aw, .ref az, .ref au, .int kn, .long vP, .long vQ, .long vS, .long vT, .long vB, .long vM, .long vH, .ref ao, .ref ax, .int (nI np), .ref ay, .int (nI nl), .ref ad, .ref al, .int (nI sn), .ref ag, .int (nI ta), .int nb]))] := hD
    subst hw_5
    refine lv_if_ne (tgt := 29) hx hb d_MD_turned_24 (by decide) (fun c_6 => ?_) (fun c_6 => ?_)
    · have b_7 := bI_t (rfl : bI (md_th (bI (md_win 2 0 3)) 1 1 = 0) = _) c_6
      refine lv_iload_n hx hb d_MD_turned_29 rfl (lv_at hl 1 rfl) ?_
      refine lv_if_ne (tgt := 47) hx hb d_MD_turned_30 (by decide) (fun c_8 => ?_) (fun c_8 => ?_)
      · refine lv_iload_n hx hb d_MD_turned_47 rfl (lv_at hl 1 rfl) ?_
        refine lv_iconst (v := 1) hx hb d_MD_turned_48 (by decide) ?_
        refine lv_icmp_ne (tgt := 66) hx hb d_MD_turned_49 (by decide) (fun c_9 => ?_) (fun c_9 => ?_)
        · refine lv_iload_n hx hb d_MD_turned_66 rfl (lv_at hl 1 rfl) ?_
          refine lv_iconst (v := 2) hx hb d_MD_turned_67 (by decide) ?_
          refine lv_icmp_ne (tgt := 90) hx hb d_MD_turned_68 (by decide) (fun c_10 => ?_) (fun c_10 => ?_)
          · exact absurd c_10 (by decide)
          · refine lv_aload_n hx hb d_MD_turned_71 rfl (lv_at hl 0 rfl) ?_
            refine va_get (D := (dC, dI)) (ci := 7) (v := .long vS) (C := xR_MD) (T := xT_MD) (N := 27) hx hb hts (fun w h => List.mem_cons_of_mem _ (iw_MD w h)) hown hK hP 0 rfl rfl 11 (by decide) (hts _ (List.mem_cons_of_mem _ wm_708)) (fun _ h9 => h9) rfl d_MD_turned_72 ?_
            refine lv_aload_n hx hb d_MD_turned_75 rfl (lv_at hl 0 rfl) ?_
            refine va_get (D := (dC, dI)) (ci := 7) (v := .long vM) (C := xR_MD) (T := xT_MD) (N := 27) hx hb hts (fun w h => List.mem_cons_of_mem _ (iw_MD w h)) hown hK hP 0 rfl rfl 14 (by decide) (hts _ (List.mem_cons_of_mem _ wm_711)) (fun _ h9 => h9) rfl d_MD_turned_76 ?_
            refine lv_aload_n hx hb d_MD_turned_79 rfl (lv_at hl 0 rfl) ?_
            refine va_get (D := (dC, dI)) (ci := 7) (v := .long vB) (C := xR_MD) (T := xT_MD) (N := 27) hx hb hts (fun w h => List.mem_cons_of_mem _ (iw_MD w h)) hown hK hP 0 rfl rfl 13 (by decide) (hts _ (List.mem_cons_of_mem _ wm_710)) (fun _ h9 => h9) rfl d_MD_turned_80 ?_
            refine lv_lmul hx hb d_MD_turned_83 ?_
            refine xr_calll (va_runS (As := [.long vS, .long (vM * vB)]) (rest := []) ⟨hx, hb, hml, hown, hts⟩ (c_MD_millionths l dC dI vS (vM * vB) (by first | assumption | omega | decide)) (va_cwS 2 hts (xgS wm_836 wm_837 wm_34 wm_838) rfl rfl rfl (by decide +kernel) ⟨Nat.le_of_ble_eq_true rfl, Nat.le_of_ble_eq_true rfl⟩) ⟨xp_blind, fun U hU hW => ⟨rfl, hz.warm hW, by rw [hU]; exact hP.sub [] rfl, va_K.moved hW.alike (hK.sub [] rfl)⟩⟩ rfl rfl hl.1 rfl (lv_room (Nat.le_of_ble_eq_true rfl)) d_MD_turned_84 ⟨Nat.le_of_ble_eq_true rfl, Nat.le_of_ble_eq_true rfl⟩) (fun r_11 h_12 => ?_)
            subst h_12
            refine lv_goto (tgt := 106) hx hb d_MD_turned_87 (by decide) ?_
            rw [md_th_0 (bI_ne ⟨by decide, by decide⟩) (by decide) (by decide)] at hP hD
            have hP9 := hP.sub (ws' := [(h0, .inr (7, [.int 0, .int (nI nm), .ref ap, .int (nI no), .ref am, .ref aw, .ref az, .ref au, .int kn, .long vP, .long vQ, .long vS, .long vT, .long vB, .long vM, .long vH, .ref ao, .ref ax, .int (nI np), .ref ay, .int (nI nl), .ref ad, .ref al, .int (nI sn), .ref ag, .int (nI ta), .int nb]))]) [0] rfl
            have hD9 := hD.sub (ws' := [(h0, .inr (7, [.int 0, .int (nI nm), .ref ap, .int (nI no), .ref am, .ref aw, .ref az, .ref au, .int kn, .long vP, .long vQ, .long vS, .long vT, .long vB, .long vM, .long vH, .ref ao, .ref ax, .int (nI np), .ref ay, .int (nI nl), .ref ad, .ref al, .int (nI sn), .ref ag, .int (nI ta), .int nb]))]) [0] (by decide) rfl
            have hK9 := hK.sub (tys' := []) [] rfl
            exact W.lret (v := md_mil vS (vM * vB)) hx hb hr (fun t ht hW => ⟨⟨md_mil vS (vM * vB), (), rfl, rfl, ⟨by rw [ht]; exact hP9, va_K.moved hW.alike hK9, by exact hD9⟩⟩, hS.F ht⟩) hS.2.2 d_MD_turned_106 hlocks
        · exact absurd c_9 (by decide)
      · exact absurd c_8 (by decide)
    · exact absurd (md_th_0 (bI_ne ⟨by decide, by decide⟩) (by decide) (by decide)) (bI_f rfl c_6)
set_option maxHeartbeats 4000000 in
set_option maxRecDepth 100000 in
/-- turned(3) -/
theorem c_MD_turned_y3 (l : Launch) (dC : Nat → ClassId) (dI : Nat → Nat → Nat) (sz : Nat) (h0 : Nat) (th : Int32) (nm : Nat) (ap : Nat) (no : Nat) (am : Nat) (aw : Nat) (az : Nat) (au : Nat) (kn : Int32) (vP : Int64) (vQ : Int64) (vS : Int64) (vT : Int64) (vB : Int64) (vM : Int64) (vH : Int64) (ao : Nat) (ax : Nat) (np : Nat) (ay : Nat) (nl : Nat) (ad : Nat) (al : Nat) (sn : Nat) (ag : Nat) (ta : Nat) (nb : Int32) (hkn : ¬ kn = -1) (hB : 0 < vB) (hMB : 0 < vM * vB) : Met l xy_MD_turned xw_MD_turned ({ frames := 2, cells := 0, slots := 0, locals := 50 }) (xp_w [.ref h0, .int 3] sz (dC, dI) xCl [(h0, .inr (7, [.int th, .int (nI nm), .ref ap, .int (nI no), .ref am, .ref aw, .ref az, .ref au, .int kn, .long vP, .long vQ, .long vS, .long vT, .long vB, .long vM, .long vH, .ref ao, .ref ax, .int (nI np), .ref ay, .int (nI nl), .ref ad, .ref al, .int (nI sn), .ref ag, .int (nI ta), .int nb]))] []) (va_Ql (fun (r : Int64) (_ : Unit) => r = md_mil vT (vM * vB)) (fun _ t => xb_w (dC, dI) xCl [(h0, .inr (7, [.int 0, .int (nI nm), .ref ap, .int (nI no), .ref am, .ref aw, .ref az, .ref au, .int kn, .long vP, .long vQ, .long vS, .long vT, .long vB, .long vM, .long vH, .ref ao, .ref ax, .int (nI np), .ref ay, .int (nI nl), .ref ad, .ref al, .int (nI sn), .ref ag, .int (nI ta), .int nb]))] [] (va_A [(h0, .inr (7, [.int th, .int (nI nm), .ref ap, .int (nI no), .ref am, .ref aw, .ref az, .ref au, .int kn, .long vP, .long vQ, .long vS, .long vT, .long vB, .long vM, .long vH, .ref ao, .ref ax, .int (nI np), .ref ay, .int (nI nl), .ref ad, .ref al, .int (nI sn), .ref ag, .int (nI ta), .int nb]))] sz) t) (va_A [(h0, .inr (7, [.int th, .int (nI nm), .ref ap, .int (nI no), .ref am, .ref aw, .ref az, .ref au, .int kn, .long vP, .long vQ, .long vS, .long vT, .long vB, .long vM, .long vH, .ref ao, .ref ax, .int (nI np), .ref ay, .int (nI nl), .ref ad, .ref al, .int (nI sn), .ref ag, .int (nI ta), .int nb]))] sz)) 0 0 (va_A [(h0, .inr (7, [.int th, .int (nI nm), .ref ap, .int (nI no), .ref am, .ref aw, .ref az, .ref au, .int kn, .long vP, .long vQ, .long vS, .long vT, .long vB, .long vM, .long vH, .ref ao, .ref ax, .int (nI np), .ref ay, .int (nI nl), .ref ad, .ref al, .int (nI sn), .ref ag, .int (nI ta), .int nb]))] sz) := by
  refine Met.ofW (cc := prog_9_method_17_code) (maxL := 2) (ret := (some .long)) (by decide) rfl ?_
  intro p e s m args below meth c s₁ B hml hv
  obtain ⟨rfl, hsz, hz, hP, hK, hD0⟩ := hv
  have hx := B.exec
  have hb := B.bytes
  have hr := B.returns
  have hts := atoms_spec (ws := xw_MD_turned) B.pre
  have hown : s.vm.findClass xR_MD = some m.cls := findClass_of_methodNamed B.named
  have hlocks := B.notSynchronized
  subst hsz
  have hD := hD0.self (sz := s.heap.size)
  generalize hAe : va_A [(h0, .inr (7, [.int th, .int (nI nm), .ref ap, .int (nI no), .ref am, .ref aw, .ref az, .ref au, .int kn, .long vP, .long vQ, .long vS, .long vT, .long vB, .long vM, .long vH, .ref ao, .ref ax, .int (nI np), .ref ay, .int (nI nl), .ref ad, .ref al, .int (nI sn), .ref ag, .int (nI ta), .int nb]))] s.heap.size = A at hD ⊢
  have hA : ∀ q : Nat, s.heap.size ≤ q → A q := fun q h => by rw [← hAe]; exact Or.inr h
  have hS : va_S A s.heap s.heap [] := va_S.rf
  have hP : va_P (dC, dI) xCl [(h0, .inr (7, [.int th, .int (nI nm), .ref ap, .int (nI no), .ref am, .ref aw, .ref az, .ref au, .int kn, .long vP, .long vQ, .long vS, .long vT, .long vB, .long vM, .long vH, .ref ao, .ref ax, .int (nI np), .ref ay, .int (nI nl), .ref ad, .ref al, .int (nI sn), .ref ag, .int (nI ta), .int nb]))] s.heap := hP
  have hl := lv_entry ([.ref h0, .int 3]) (n := 2) (Nat.le_of_ble_eq_true rfl)
  rw [lg_entry_eq]
  generalize (lg_sl ([.ref h0, .int 3]) ++ List.replicate (2 - (lg_sl ([.ref h0, .int 3])).length) Slot.unset).toArray = ls at hl ⊢
  have hl : lv_has ls 2 [(0, .ref h0), (1, .int 3)] := hl
  refine lv_aload_n hx hb d_MD_turned_0 rfl (lv_at hl 0 rfl) ?_
  refine lv_iload_n hx hb d_MD_turned_1 rfl (lv_at hl 1 rfl) ?_
  refine lv_iconst (v := 0) hx hb d_MD_turned_2 (by decide) ?_
  refine lv_iconst (v := 3) hx hb d_MD_turned_3 (by decide) ?_
  refine xr_calli (va_runS (As := [.int 3, .int 0, .int 3]) (rest := [.ref h0]) ⟨hx, hb, hml, hown, hts⟩ (c_MD_within l dC dI 3 0 3) (va_cwS 3 hts (xgS wm_790 wm_791 wm_34 wm_792) rfl rfl rfl (by decide +kernel) ⟨Nat.le_of_ble_eq_true rfl, Nat.le_of_ble_eq_true rfl⟩) ⟨xp_blind, fun U hU hW => ⟨rfl, hz.warm hW, by rw [hU]; exact hP.sub [] rfl, va_K.moved hW.alike (hK.sub [] rfl)⟩⟩ rfl rfl hl.1 rfl (lv_room (Nat.le_of_ble_eq_true rfl)) d_MD_turned_4 ⟨Nat.le_of_ble_eq_true rfl, Nat.le_of_ble_eq_true rfl⟩) (fun r_1 h_2 => ?_)
  subst h_2
  refine lv_aload_n hx hb d_MD_turned_7 rfl (lv_at hl 0 rfl) ?_
  refine va_get (D := (dC, dI)) (ci := 7) (v := .int kn) (C := xR_MD) (T := xT_MD) (N := 27) hx hb hts (fun w h => List.mem_cons_of_mem _ (iw_MD w h)) hown hK hP 0 rfl rfl 8 (by decide) (hts _ (List.mem_cons_of_mem _ wm_705)) (fun _ h9 => h9) rfl d_MD_turned_8 ?_
  refine lv_iconst (v := (-1)) hx hb d_MD_turned_11 (by decide) ?_
  refine lv_icmp_eq (tgt := 19) hx hb d_MD_turned_12 (by decide) (fun c_3 => ?_) (fun c_3 => ?_)
  · exact absurd c_3 hkn
  · refine lv_iconst (v := 1) hx hb d_MD_turned_15 (by decide) ?_
    refine lv_goto (tgt := 20) hx hb d_MD_turned_16 (by decide) ?_
    refine lv_iconst (v := 1) hx hb d_MD_turned_20 (by decide) ?_
    have hPc := hP.sub (ws' := [(h0, .inr (7, [.int th, .int (nI nm), .ref ap, .int (nI no), .ref am, .ref aw, .ref az, .ref au, .int kn, .long vP, .long vQ, .long vS, .long vT, .long vB, .long vM, .long vH, .ref ao, .ref ax, .int (nI np), .ref ay, .int (nI nl), .ref ad, .ref al, .int (nI sn), .ref ag, .int (nI ta), .int nb]))]) [0] rfl
    have hDc := hD.sub (ws' := [(h0, .inr (7, [.int th, .int (nI nm), .ref ap, .int (nI no), .ref am, .ref aw, .ref az, .ref au, .int kn, .long vP, .long vQ, .long vS, .long vT, .long vB, .long vM, .long vH, .ref ao, .ref ax, .int (nI np), .ref ay, .int (nI nl), .ref ad, .ref al, .int (nI sn), .ref ag, .int (nI ta), .int nb]))]) [0] (by decide) rfl
    have hKc := hK.sub (tys' := []) [] rfl
    have hFc := va_free (wc := [(h0, .inr (7, [.int th, .int (nI nm), .ref ap, .int (nI no), .ref am, .ref aw, .ref az, .ref au, .int kn, .long vP, .long vQ, .long vS, .long vT, .long vB, .long vM, .long vH, .ref ao, .ref ax, .int (nI np), .ref ay, .int (nI nl), .ref ad, .ref al, .int (nI sn), .ref ag, .int (nI ta), .int nb]))]) hD hS hA [0] rfl
    refine va_calli (va_runV (As := [.int (bI (md_win 3 0 3)), .int 1, .int 1]) (rest := []) ⟨hx, hb, hml, hown, hts⟩ (c_MD_goes l dC dI s.heap.size h0 th nm ap no am aw az au kn vP vQ vS vT vB vM vH ao ax np ay nl ad al sn ag ta nb (bI (md_win 3 0 3)) 1 1) (cwV 3 hts (xgV wm_793 wm_795 wm_13 wm_34 wm_796) rfl rfl rfl (by decide +kernel) ⟨Nat.le_of_ble_eq_true rfl, Nat.le_of_ble_eq_true rfl⟩) ⟨xw_blind, va_recv hKc hPc (ci := 7) (q0 := 0) rfl rfl, fun U hU hW => ⟨rfl, by rw [hU], hz.warm hW, by rw [hU]; exact hPc, va_K.moved hW.alike hKc, hDc.weaken (fun _ _ _ _ => trivial)⟩⟩ rfl rfl hl.1 rfl (lv_room (Nat.le_of_ble_eq_true rfl)) d_MD_turned_21 ⟨Nat.le_of_ble_eq_true rfl, Nat.le_of_ble_eq_true rfl⟩) hS (fun q _ h => hFc q h) hFc (fun r_4 _ t H1 locs ht hvm hw_5 hB hz1 hk1 hS => ?_)
    obtain ⟨hP1, hK1, hD1⟩ := hB
    rw [ht] at hP1
    have hK1 := va_K.moved hvm.symm hK1
    obtain ⟨hP, hD⟩ := va_join (wr := []) (w1 := [(h0, .inr (7, [.int (md_th (bI (md_win 3 0 3)) 1 1), .int (nI nm), .ref ap, .int (nI no), .ref am, .ref aw, .ref az, .ref au, .int kn, .long vP, .long vQ, .long vS, .long vT, .long vB, .long vM, .long vH, .ref ao, .ref ax, .int (nI np), .ref ay, .int (nI nl), .ref ad, .ref al, .int (nI sn), .ref ag, .int (nI ta), .int nb]))]) hP hD [0] [] rfl rfl (by decide) (by decide) hk1 hFc hP1 hD1
    generalize H1 = H at hP hS ⊢
    have hP : va_P (dC, dI) xCl [(h0, .inr (7, [.int (md_th (bI (md_win 3 0 3)) 1 1), .int (nI nm), .ref ap, .int (nI no), .ref am, .ref aw, .ref az, .ref au, .int kn, .long vP, .long vQ, .long vS, .long vT, .long vB, .long vM, .long vH, .ref ao, .ref ax, .int (nI np), .ref ay, .int (nI nl), .ref ad, .ref al, .int (nI sn), .ref ag, .int (nI ta), .int nb]))] H := hP
    have hD : va_D A [(h0, .inr (7, [.int (md_th (bI (md_win 3 0 3)) 1 1), .int (nI nm), .ref ap, .int (nI no), .ref am, .ref aw, .ref az, .ref au, .int kn, .long vP, .long vQ, .long vS, .long vT, .long vB, .long vM, .long vH, .ref ao, .ref ax, .int (nI np), .ref ay, .int (nI nl), .ref ad, .ref al, .int (nI sn), .ref ag, .int (nI ta), .int nb]))] := hD
    subst hw_5
    refine lv_if_ne (tgt := 29) hx hb d_MD_turned_24 (by decide) (fun c_6 => ?_) (fun c_6 => ?_)
    · have b_7 := bI_t (rfl : bI (md_th (bI (md_win 3 0 3)) 1 1 = 0) = _) c_6
      refine lv_iload_n hx hb d_MD_turned_29 rfl (lv_at hl 1 rfl) ?_
      refine lv_if_ne (tgt := 47) hx hb d_MD_turned_30 (by decide) (fun c_8 => ?_) (fun c_8 => ?_)
      · refine lv_iload_n hx hb d_MD_turned_47 rfl (lv_at hl 1 rfl) ?_
        refine lv_iconst (v := 1) hx hb d_MD_turned_48 (by decide) ?_
        refine lv_icmp_ne (tgt := 66) hx hb d_MD_turned_49 (by decide) (fun c_9 => ?_) (fun c_9 => ?_)
        · refine lv_iload_n hx hb d_MD_turned_66 rfl (lv_at hl 1 rfl) ?_
          refine lv_iconst (v := 2) hx hb d_MD_turned_67 (by decide) ?_
          refine lv_icmp_ne (tgt := 90) hx hb d_MD_turned_68 (by decide) (fun c_10 => ?_) (fun c_10 => ?_)
          · refine lv_aload_n hx hb d_MD_turned_90 rfl (lv_at hl 0 rfl) ?_
            refine va_get (D := (dC, dI)) (ci := 7) (v := .long vT) (C := xR_MD) (T := xT_MD) (N := 27) hx hb hts (fun w h => List.mem_cons_of_mem _ (iw_MD w h)) hown hK hP 0 rfl rfl 12 (by decide) (hts _ (List.mem_cons_of_mem _ wm_709)) (fun _ h9 => h9) rfl d_MD_turned_91 ?_
            refine lv_aload_n hx hb d_MD_turned_94 rfl (lv_at hl 0 rfl) ?_
            refine va_get (D := (dC, dI)) (ci := 7) (v := .long vM) (C := xR_MD) (T := xT_MD) (N := 27) hx hb hts (fun w h => List.mem_cons_of_mem _ (iw_MD w h)) hown hK hP 0 rfl rfl 14 (by decide) (hts _ (List.mem_cons_of_mem _ wm_711)) (fun _ h9 => h9) rfl d_MD_turned_95 ?_
            refine lv_aload_n hx hb d_MD_turned_98 rfl (lv_at hl 0 rfl) ?_
            refine va_get (D := (dC, dI)) (ci := 7) (v := .long vB) (C := xR_MD) (T := xT_MD) (N := 27) hx hb hts (fun w h => List.mem_cons_of_mem _ (iw_MD w h)) hown hK hP 0 rfl rfl 13 (by decide) (hts _ (List.mem_cons_of_mem _ wm_710)) (fun _ h9 => h9) rfl d_MD_turned_99 ?_
            refine lv_lmul hx hb d_MD_turned_102 ?_
            refine xr_calll (va_runS (As := [.long vT, .long (vM * vB)]) (rest := []) ⟨hx, hb, hml, hown, hts⟩ (c_MD_millionths l dC dI vT (vM * vB) (by first | assumption | omega | decide)) (va_cwS 2 hts (xgS wm_836 wm_837 wm_34 wm_838) rfl rfl rfl (by decide +kernel) ⟨Nat.le_of_ble_eq_true rfl, Nat.le_of_ble_eq_true rfl⟩) ⟨xp_blind, fun U hU hW => ⟨rfl, hz.warm hW, by rw [hU]; exact hP.sub [] rfl, va_K.moved hW.alike (hK.sub [] rfl)⟩⟩ rfl rfl hl.1 rfl (lv_room (Nat.le_of_ble_eq_true rfl)) d_MD_turned_103 ⟨Nat.le_of_ble_eq_true rfl, Nat.le_of_ble_eq_true rfl⟩) (fun r_11 h_12 => ?_)
            subst h_12
            rw [md_th_0 (bI_ne ⟨by decide, by decide⟩) (by decide) (by decide)] at hP hD
            have hP9 := hP.sub (ws' := [(h0, .inr (7, [.int 0, .int (nI nm), .ref ap, .int (nI no), .ref am, .ref aw, .ref az, .ref au, .int kn, .long vP, .long vQ, .long vS, .long vT, .long vB, .long vM, .long vH, .ref ao, .ref ax, .int (nI np), .ref ay, .int (nI nl), .ref ad, .ref al, .int (nI sn), .ref ag, .int (nI ta), .int nb]))]) [0] rfl
            have hD9 := hD.sub (ws' := [(h0, .inr (7, [.int 0, .int (nI nm), .ref ap, .int (nI no), .ref am, .ref aw, .ref az, .ref au, .int kn, .long vP, .long vQ, .long vS, .long vT, .long vB, .long vM, .long vH, .ref ao, .ref ax, .int (nI np), .ref ay, .int (nI nl), .ref ad, .ref al, .int (nI sn), .ref ag, .int (nI ta), .int nb]))]) [0] (by decide) rfl
            have hK9 := hK.sub (tys' := []) [] rfl
            exact W.lret (v := md_mil vT (vM * vB)) hx hb hr (fun t ht hW => ⟨⟨md_mil vT (vM * vB), (), rfl, rfl, ⟨by rw [ht]; exact hP9, va_K.moved hW.alike hK9, by exact hD9⟩⟩, hS.F ht⟩) hS.2.2 d_MD_turned_106 hlocks
          · exact absurd c_10 (by decide)
        · exact absurd c_9 (by decide)
      · exact absurd c_8 (by decide)
    · exact absurd (md_th_0 (bI_ne ⟨by decide, by decide⟩) (by decide) (by decide)) (bI_f rfl c_6)
set_option maxHeartbeats 4000000 in
set_option maxRecDepth 100000 in
/-- turned, refused -/
theorem c_MD_turned_n (l : Launch) (dC : Nat → ClassId) (dI : Nat → Nat → Nat) (sz : Nat) (h0 : Nat) (th : Int32) (nm : Nat) (ap : Nat) (no : Nat) (am : Nat) (aw : Nat) (az : Nat) (au : Nat) (kn : Int32) (vP : Int64) (vQ : Int64) (vS : Int64) (vT : Int64) (vB : Int64) (vM : Int64) (vH : Int64) (ao : Nat) (ax : Nat) (np : Nat) (ay : Nat) (nl : Nat) (ad : Nat) (al : Nat) (sn : Nat) (ag : Nat) (ta : Nat) (nb : Int32) (k0 : Int32) (hn : ¬ (md_win k0 0 3 ∧ ¬ kn = -1)) : Met l xy_MD_turned xw_MD_turned ({ frames := 1, cells := 0, slots := 0, locals := 23 }) (xp_w [.ref h0, .int k0] sz (dC, dI) xCl [(h0, .inr (7, [.int th, .int (nI nm), .ref ap, .int (nI no), .ref am, .ref aw, .ref az, .ref au, .int kn, .long vP, .long vQ, .long vS, .long vT, .long vB, .long vM, .long vH, .ref ao, .ref ax, .int (nI np), .ref ay, .int (nI nl), .ref ad, .ref al, .int (nI sn), .ref ag, .int (nI ta), .int nb]))] []) (va_Ql (fun (r : Int64) (_ : Unit) => r = 0) (fun _ t => xb_w (dC, dI) xCl [(h0, .inr (7, [.int (md_th (bI (md_win k0 0 3)) (bI (¬ kn = -1)) 1), .int (nI nm), .ref ap, .int (nI no), .ref am, .ref aw, .ref az, .ref au, .int kn, .long vP, .long vQ, .long vS, .long vT, .long vB, .long vM, .long vH, .ref ao, .ref ax, .int (nI np), .ref ay, .int (nI nl), .ref ad, .ref al, .int (nI sn), .ref ag, .int (nI ta), .int nb]))] [] (va_A [(h0, .inr (7, [.int th, .int (nI nm), .ref ap, .int (nI no), .ref am, .ref aw, .ref az, .ref au, .int kn, .long vP, .long vQ, .long vS, .long vT, .long vB, .long vM, .long vH, .ref ao, .ref ax, .int (nI np), .ref ay, .int (nI nl), .ref ad, .ref al, .int (nI sn), .ref ag, .int (nI ta), .int nb]))] sz) t) (va_A [(h0, .inr (7, [.int th, .int (nI nm), .ref ap, .int (nI no), .ref am, .ref aw, .ref az, .ref au, .int kn, .long vP, .long vQ, .long vS, .long vT, .long vB, .long vM, .long vH, .ref ao, .ref ax, .int (nI np), .ref ay, .int (nI nl), .ref ad, .ref al, .int (nI sn), .ref ag, .int (nI ta), .int nb]))] sz)) 0 0 (va_A [(h0, .inr (7, [.int th, .int (nI nm), .ref ap, .int (nI no), .ref am, .ref aw, .ref az, .ref au, .int kn, .long vP, .long vQ, .long vS, .long vT, .long vB, .long vM, .long vH, .ref ao, .ref ax, .int (nI np), .ref ay, .int (nI nl), .ref ad, .ref al, .int (nI sn), .ref ag, .int (nI ta), .int nb]))] sz) := by
  refine Met.ofW (cc := prog_9_method_17_code) (maxL := 2) (ret := (some .long)) (by decide) rfl ?_
  intro p e s m args below meth c s₁ B hml hv
  obtain ⟨rfl, hsz, hz, hP, hK, hD0⟩ := hv
  have hx := B.exec
  have hb := B.bytes
  have hr := B.returns
  have hts := atoms_spec (ws := xw_MD_turned) B.pre
  have hown : s.vm.findClass xR_MD = some m.cls := findClass_of_methodNamed B.named
  have hlocks := B.notSynchronized
  subst hsz
  have hD := hD0.self (sz := s.heap.size)
  generalize hAe : va_A [(h0, .inr (7, [.int th, .int (nI nm), .ref ap, .int (nI no), .ref am, .ref aw, .ref az, .ref au, .int kn, .long vP, .long vQ, .long vS, .long vT, .long vB, .long vM, .long vH, .ref ao, .ref ax, .int (nI np), .ref ay, .int (nI nl), .ref ad, .ref al, .int (nI sn), .ref ag, .int (nI ta), .int nb]))] s.heap.size = A at hD ⊢
  have hA : ∀ q : Nat, s.heap.size ≤ q → A q := fun q h => by rw [← hAe]; exact Or.inr h
  have hS : va_S A s.heap s.heap [] := va_S.rf
  have hP : va_P (dC, dI) xCl [(h0, .inr (7, [.int th, .int (nI nm), .ref ap, .int (nI no), .ref am, .ref aw, .ref az, .ref au, .int kn, .long vP, .long vQ, .long vS, .long vT, .long vB, .long vM, .long vH, .ref ao, .ref ax, .int (nI np), .ref ay, .int (nI nl), .ref ad, .ref al, .int (nI sn), .ref ag, .int (nI ta), .int nb]))] s.heap := hP
  have hl := lv_entry ([.ref h0, .int k0]) (n := 2) (Nat.le_of_ble_eq_true rfl)
  rw [lg_entry_eq]
  generalize (lg_sl ([.ref h0, .int k0]) ++ List.replicate (2 - (lg_sl ([.ref h0, .int k0])).length) Slot.unset).toArray = ls at hl ⊢
  have hl : lv_has ls 2 [(0, .ref h0), (1, .int k0)] := hl
  refine lv_aload_n hx hb d_MD_turned_0 rfl (lv_at hl 0 rfl) ?_
  refine lv_iload_n hx hb d_MD_turned_1 rfl (lv_at hl 1 rfl) ?_
  refine lv_iconst (v := 0) hx hb d_MD_turned_2 (by decide) ?_
  refine lv_iconst (v := 3) hx hb d_MD_turned_3 (by decide) ?_
  refine xr_calli (va_runS (As := [.int k0, .int 0, .int 3]) (rest := [.ref h0]) ⟨hx, hb, hml, hown, hts⟩ (c_MD_within l dC dI k0 0 3) (va_cwS 3 hts (xgS wm_790 wm_791 wm_34 wm_792) rfl rfl rfl (by decide +kernel) ⟨Nat.le_of_ble_eq_true rfl, Nat.le_of_ble_eq_true rfl⟩) ⟨xp_blind, fun U hU hW => ⟨rfl, hz.warm hW, by rw [hU]; exact hP.sub [] rfl, va_K.moved hW.alike (hK.sub [] rfl)⟩⟩ rfl rfl hl.1 rfl (lv_room (Nat.le_of_ble_eq_true rfl)) d_MD_turned_4 ⟨Nat.le_of_ble_eq_true rfl, Nat.le_of_ble_eq_true rfl⟩) (fun r_1 h_2 => ?_)
  subst h_2
  refine lv_aload_n hx hb d_MD_turned_7 rfl (lv_at hl 0 rfl) ?_
  refine va_get (D := (dC, dI)) (ci := 7) (v := .int kn) (C := xR_MD) (T := xT_MD) (N := 27) hx hb hts (fun w h => List.mem_cons_of_mem _ (iw_MD w h)) hown hK hP 0 rfl rfl 8 (by decide) (hts _ (List.mem_cons_of_mem _ wm_705)) (fun _ h9 => h9) rfl d_MD_turned_8 ?_
  refine lv_iconst (v := (-1)) hx hb d_MD_turned_11 (by decide) ?_
  refine lv_icmp_eq (tgt := 19) hx hb d_MD_turned_12 (by decide) (fun c_3 => ?_) (fun c_3 => ?_)
  · refine lv_iconst (v := 0) hx hb d_MD_turned_19 (by decide) ?_
    refine lv_iconst (v := 1) hx hb d_MD_turned_20 (by decide) ?_
    have hPc := hP.sub (ws' := [(h0, .inr (7, [.int th, .int (nI nm), .ref ap, .int (nI no), .ref am, .ref aw, .ref az, .ref au, .int kn, .long vP, .long vQ, .long vS, .long vT, .long vB, .long vM, .long vH, .ref ao, .ref ax, .int (nI np), .ref ay, .int (nI nl), .ref ad, .ref al, .int (nI sn), .ref ag, .int (nI ta), .int nb]))]) [0] rfl
    have hDc := hD.sub (ws' := [(h0, .inr (7, [.int th, .int (nI nm), .ref ap, .int (nI no), .ref am, .ref aw, .ref az, .ref au, .int kn, .long vP, .long vQ, .long vS, .long vT, .long vB, .long vM, .long vH, .ref ao, .ref ax, .int (nI np), .ref ay, .int (nI nl), .ref ad, .ref al, .int (nI sn), .ref ag, .int (nI ta), .int nb]))]) [0] (by decide) rfl
    have hKc := hK.sub (tys' := []) [] rfl
    have hFc := va_free (wc := [(h0, .inr (7, [.int th, .int (nI nm), .ref ap, .int (nI no), .ref am, .ref aw, .ref az, .ref au, .int kn, .long vP, .long vQ, .long vS, .long vT, .long vB, .long vM, .long vH, .ref ao, .ref ax, .int (nI np), .ref ay, .int (nI nl), .ref ad, .ref al, .int (nI sn), .ref ag, .int (nI ta), .int nb]))]) hD hS hA [0] rfl
    refine va_calli (va_runV (As := [.int (bI (md_win k0 0 3)), .int 0, .int 1]) (rest := []) ⟨hx, hb, hml, hown, hts⟩ (c_MD_goes l dC dI s.heap.size h0 th nm ap no am aw az au kn vP vQ vS vT vB vM vH ao ax np ay nl ad al sn ag ta nb (bI (md_win k0 0 3)) 0 1) (cwV 3 hts (xgV wm_793 wm_795 wm_13 wm_34 wm_796) rfl rfl rfl (by decide +kernel) ⟨Nat.le_of_ble_eq_true rfl, Nat.le_of_ble_eq_true rfl⟩) ⟨xw_blind, va_recv hKc hPc (ci := 7) (q0 := 0) rfl rfl, fun U hU hW => ⟨rfl, by rw [hU], hz.warm hW, by rw [hU]; exact hPc, va_K.moved hW.alike hKc, hDc.weaken (fun _ _ _ _ => trivial)⟩⟩ rfl rfl hl.1 rfl (lv_room (Nat.le_of_ble_eq_true rfl)) d_MD_turned_21 ⟨Nat.le_of_ble_eq_true rfl, Nat.le_of_ble_eq_true rfl⟩) hS (fun q _ h => hFc q h) hFc (fun r_4 _ t H1 locs ht hvm hw_5 hB hz1 hk1 hS => ?_)
    obtain ⟨hP1, hK1, hD1⟩ := hB
    rw [ht] at hP1
    have hK1 := va_K.moved hvm.symm hK1
    obtain ⟨hP, hD⟩ := va_join (wr := []) (w1 := [(h0, .inr (7, [.int (md_th (bI (md_win k0 0 3)) 0 1), .int (nI nm), .ref ap, .int (nI no), .ref am, .ref aw, .ref az, .ref au, .int kn, .long vP, .long vQ, .long vS, .long vT, .long vB, .long vM, .long vH, .ref ao, .ref ax, .int (nI np), .ref ay, .int (nI nl), .ref ad, .ref al, .int (nI sn), .ref ag, .int (nI ta), .int nb]))]) hP hD [0] [] rfl rfl (by decide) (by decide) hk1 hFc hP1 hD1
    generalize H1 = H at hP hS ⊢
    have hP : va_P (dC, dI) xCl [(h0, .inr (7, [.int (md_th (bI (md_win k0 0 3)) 0 1), .int (nI nm), .ref ap, .int (nI no), .ref am, .ref aw, .ref az, .ref au, .int kn, .long vP, .long vQ, .long vS, .long vT, .long vB, .long vM, .long vH, .ref ao, .ref ax, .int (nI np), .ref ay, .int (nI nl), .ref ad, .ref al, .int (nI sn), .ref ag, .int (nI ta), .int nb]))] H := hP
    have hD : va_D A [(h0, .inr (7, [.int (md_th (bI (md_win k0 0 3)) 0 1), .int (nI nm), .ref ap, .int (nI no), .ref am, .ref aw, .ref az, .ref au, .int kn, .long vP, .long vQ, .long vS, .long vT, .long vB, .long vM, .long vH, .ref ao, .ref ax, .int (nI np), .ref ay, .int (nI nl), .ref ad, .ref al, .int (nI sn), .ref ag, .int (nI ta), .int nb]))] := hD
    subst hw_5
    refine lv_if_ne (tgt := 29) hx hb d_MD_turned_24 (by decide) (fun c_6 => ?_) (fun c_6 => ?_)
    · exact absurd (md_th_all (bI_t rfl c_6)) (fun q => q.2.1 rfl)
    · have b_7 := bI_f (rfl : bI (md_th (bI (md_win k0 0 3)) 0 1 = 0) = _) c_6
      refine lv_lconst (v := 0) hx hb d_MD_turned_27 (by decide) ?_
      have hP9 := hP.sub (ws' := [(h0, .inr (7, [.int (md_th (bI (md_win k0 0 3)) 0 1), .int (nI nm), .ref ap, .int (nI no), .ref am, .ref aw, .ref az, .ref au, .int kn, .long vP, .long vQ, .long vS, .long vT, .long vB, .long vM, .long vH, .ref ao, .ref ax, .int (nI np), .ref ay, .int (nI nl), .ref ad, .ref al, .int (nI sn), .ref ag, .int (nI ta), .int nb]))]) [0] rfl
      have hD9 := hD.sub (ws' := [(h0, .inr (7, [.int (md_th (bI (md_win k0 0 3)) 0 1), .int (nI nm), .ref ap, .int (nI no), .ref am, .ref aw, .ref az, .ref au, .int kn, .long vP, .long vQ, .long vS, .long vT, .long vB, .long vM, .long vH, .ref ao, .ref ax, .int (nI np), .ref ay, .int (nI nl), .ref ad, .ref al, .int (nI sn), .ref ag, .int (nI ta), .int nb]))]) [0] (by decide) rfl
      have hK9 := hK.sub (tys' := []) [] rfl
      exact W.lret (v := 0) hx hb hr (fun t ht hW => ⟨⟨0, (), rfl, rfl, ⟨by rw [ht]; rw [show bI (¬ kn = -1) = 0 from (bI_n (fun q => q c_3)).symm]; exact hP9, va_K.moved hW.alike hK9, by rw [show bI (¬ kn = -1) = 0 from (bI_n (fun q => q c_3)).symm]; exact hD9⟩⟩, hS.F ht⟩) hS.2.2 d_MD_turned_28 hlocks
  · refine lv_iconst (v := 1) hx hb d_MD_turned_15 (by decide) ?_
    refine lv_goto (tgt := 20) hx hb d_MD_turned_16 (by decide) ?_
    refine lv_iconst (v := 1) hx hb d_MD_turned_20 (by decide) ?_
    have hPc := hP.sub (ws' := [(h0, .inr (7, [.int th, .int (nI nm), .ref ap, .int (nI no), .ref am, .ref aw, .ref az, .ref au, .int kn, .long vP, .long vQ, .long vS, .long vT, .long vB, .long vM, .long vH, .ref ao, .ref ax, .int (nI np), .ref ay, .int (nI nl), .ref ad, .ref al, .int (nI sn), .ref ag, .int (nI ta), .int nb]))]) [0] rfl
    have hDc := hD.sub (ws' := [(h0, .inr (7, [.int th, .int (nI nm), .ref ap, .int (nI no), .ref am, .ref aw, .ref az, .ref au, .int kn, .long vP, .long vQ, .long vS, .long vT, .long vB, .long vM, .long vH, .ref ao, .ref ax, .int (nI np), .ref ay, .int (nI nl), .ref ad, .ref al, .int (nI sn), .ref ag, .int (nI ta), .int nb]))]) [0] (by decide) rfl
    have hKc := hK.sub (tys' := []) [] rfl
    have hFc := va_free (wc := [(h0, .inr (7, [.int th, .int (nI nm), .ref ap, .int (nI no), .ref am, .ref aw, .ref az, .ref au, .int kn, .long vP, .long vQ, .long vS, .long vT, .long vB, .long vM, .long vH, .ref ao, .ref ax, .int (nI np), .ref ay, .int (nI nl), .ref ad, .ref al, .int (nI sn), .ref ag, .int (nI ta), .int nb]))]) hD hS hA [0] rfl
    refine va_calli (va_runV (As := [.int (bI (md_win k0 0 3)), .int 1, .int 1]) (rest := []) ⟨hx, hb, hml, hown, hts⟩ (c_MD_goes l dC dI s.heap.size h0 th nm ap no am aw az au kn vP vQ vS vT vB vM vH ao ax np ay nl ad al sn ag ta nb (bI (md_win k0 0 3)) 1 1) (cwV 3 hts (xgV wm_793 wm_795 wm_13 wm_34 wm_796) rfl rfl rfl (by decide +kernel) ⟨Nat.le_of_ble_eq_true rfl, Nat.le_of_ble_eq_true rfl⟩) ⟨xw_blind, va_recv hKc hPc (ci := 7) (q0 := 0) rfl rfl, fun U hU hW => ⟨rfl, by rw [hU], hz.warm hW, by rw [hU]; exact hPc, va_K.moved hW.alike hKc, hDc.weaken (fun _ _ _ _ => trivial)⟩⟩ rfl rfl hl.1 rfl (lv_room (Nat.le_of_ble_eq_true rfl)) d_MD_turned_21 ⟨Nat.le_of_ble_eq_true rfl, Nat.le_of_ble_eq_true rfl⟩) hS (fun q _ h => hFc q h) hFc (fun r_8 _ t H1 locs ht hvm hw_9 hB hz1 hk1 hS => ?_)
    obtain ⟨hP1, hK1, hD1⟩ := hB
    rw [ht] at hP1
    have hK1 := va_K.moved hvm.symm hK1
    obtain ⟨hP, hD⟩ := va_join (wr := []) (w1 := [(h0, .inr (7, [.int (md_th (bI (md_win k0 0 3)) 1 1), .int (nI nm), .ref ap, .int (nI no), .ref am, .ref aw, .ref az, .ref au, .int kn, .long vP, .long vQ, .long vS, .long vT, .long vB, .long vM, .long vH, .ref ao, .ref ax, .int (nI np), .ref ay, .int (nI nl), .ref ad, .ref al, .int (nI sn), .ref ag, .int (nI ta), .int nb]))]) hP hD [0] [] rfl rfl (by decide) (by decide) hk1 hFc hP1 hD1
    generalize H1 = H at hP hS ⊢
    have hP : va_P (dC, dI) xCl [(h0, .inr (7, [.int (md_th (bI (md_win k0 0 3)) 1 1), .int (nI nm), .ref ap, .int (nI no), .ref am, .ref aw, .ref az, .ref au, .int kn, .long vP, .long vQ, .long vS, .long vT, .long vB, .long vM, .long vH, .ref ao, .ref ax, .int (nI np), .ref ay, .int (nI nl), .ref ad, .ref al, .int (nI sn), .ref ag, .int (nI ta), .int nb]))] H := hP
    have hD : va_D A [(h0, .inr (7, [.int (md_th (bI (md_win k0 0 3)) 1 1), .int (nI nm), .ref ap, .int (nI no), .ref am, .ref aw, .ref az, .ref au, .int kn, .long vP, .long vQ, .long vS, .long vT, .long vB, .long vM, .long vH, .ref ao, .ref ax, .int (nI np), .ref ay, .int (nI nl), .ref ad, .ref al, .int (nI sn), .ref ag, .int (nI ta), .int nb]))] := hD
    subst hw_9
    refine lv_if_ne (tgt := 29) hx hb d_MD_turned_24 (by decide) (fun c_10 => ?_) (fun c_10 => ?_)
    · exact absurd (md_th_all (bI_t rfl c_10)) (fun q => hn ⟨(bI_of q.1), c_3⟩)
    · have b_11 := bI_f (rfl : bI (md_th (bI (md_win k0 0 3)) 1 1 = 0) = _) c_10
      refine lv_lconst (v := 0) hx hb d_MD_turned_27 (by decide) ?_
      have hP9 := hP.sub (ws' := [(h0, .inr (7, [.int (md_th (bI (md_win k0 0 3)) 1 1), .int (nI nm), .ref ap, .int (nI no), .ref am, .ref aw, .ref az, .ref au, .int kn, .long vP, .long vQ, .long vS, .long vT, .long vB, .long vM, .long vH, .ref ao, .ref ax, .int (nI np), .ref ay, .int (nI nl), .ref ad, .ref al, .int (nI sn), .ref ag, .int (nI ta), .int nb]))]) [0] rfl
      have hD9 := hD.sub (ws' := [(h0, .inr (7, [.int (md_th (bI (md_win k0 0 3)) 1 1), .int (nI nm), .ref ap, .int (nI no), .ref am, .ref aw, .ref az, .ref au, .int kn, .long vP, .long vQ, .long vS, .long vT, .long vB, .long vM, .long vH, .ref ao, .ref ax, .int (nI np), .ref ay, .int (nI nl), .ref ad, .ref al, .int (nI sn), .ref ag, .int (nI ta), .int nb]))]) [0] (by decide) rfl
      have hK9 := hK.sub (tys' := []) [] rfl
      exact W.lret (v := 0) hx hb hr (fun t ht hW => ⟨⟨0, (), rfl, rfl, ⟨by rw [ht]; rw [show bI (¬ kn = -1) = 1 from (bI_p c_3).symm]; exact hP9, va_K.moved hW.alike hK9, by rw [show bI (¬ kn = -1) = 1 from (bI_p c_3).symm]; exact hD9⟩⟩, hS.F ht⟩) hS.2.2 d_MD_turned_28 hlocks
set_option maxHeartbeats 4000000 in
set_option maxRecDepth 100000 in
/-- placeOf(0) -/
theorem c_MD_placeOf0 (l : Launch) (dC : Nat → ClassId) (dI : Nat → Nat → Nat) (h0 : Nat) (th : Int32) (nm : Nat) (ap : Nat) (no : Nat) (am : Nat) (aw : Nat) (az : Nat) (au : Nat) (kn : Int32) (vP : Int64) (vQ : Int64) (vS : Int64) (vT : Int64) (vB : Int64) (vM : Int64) (vH : Int64) (ao : Nat) (ax : Nat) (np : Nat) (ay : Nat) (nl : Nat) (ad : Nat) (al : Nat) (sn : Nat) (ag : Nat) (ta : Nat) (nb : Int32) (a : Int32) (b : Int32) (d : Int32) (hMB : 0 < vM * vB) : Met l xy_MD_placeOf xw_MD_placeOf ({ frames := 1, cells := 0, slots := 0, locals := 25 }) (xp_r [.ref h0, .int a, .int b, .int d, .int 0] (dC, dI) xCl [(h0, .inr (7, [.int th, .int (nI nm), .ref ap, .int (nI no), .ref am, .ref aw, .ref az, .ref au, .int kn, .long vP, .long vQ, .long vS, .long vT, .long vB, .long vM, .long vH, .ref ao, .ref ax, .int (nI np), .ref ay, .int (nI nl), .ref ad, .ref al, .int (nI sn), .ref ag, .int (nI ta), .int nb]))] []) (xr_i (fun r => r = md_p0 vP vQ vS vM vB a b)) 0 0 (fun _ => False) := by
  refine Met.ofW (cc := prog_9_method_18_code) (maxL := 7) (ret := (some .int)) (by decide) rfl ?_
  intro p e s m args below meth c s₁ B hml hv
  obtain ⟨rfl, hz, hP, hK⟩ := hv
  have hx := B.exec
  have hb := B.bytes
  have hr := B.returns
  have hts := atoms_spec (ws := xw_MD_placeOf) B.pre
  have hown : s.vm.findClass xR_MD = some m.cls := findClass_of_methodNamed B.named
  have hlocks := B.notSynchronized
  have hP : va_P (dC, dI) xCl [(h0, .inr (7, [.int th, .int (nI nm), .ref ap, .int (nI no), .ref am, .ref aw, .ref az, .ref au, .int kn, .long vP, .long vQ, .long vS, .long vT, .long vB, .long vM, .long vH, .ref ao, .ref ax, .int (nI np), .ref ay, .int (nI nl), .ref ad, .ref al, .int (nI sn), .ref ag, .int (nI ta), .int nb]))] s.heap := hP
  have hl := lv_entry ([.ref h0, .int a, .int b, .int d, .int 0]) (n := 7) (Nat.le_of_ble_eq_true rfl)
  rw [lg_entry_eq]
  generalize (lg_sl ([.ref h0, .int a, .int b, .int d, .int 0]) ++ List.replicate (7 - (lg_sl ([.ref h0, .int a, .int b, .int d, .int 0])).length) Slot.unset).toArray = ls at hl ⊢
  have hl : lv_has ls 7 [(0, .ref h0), (1, .int a), (2, .int b), (3, .int d), (4, .int 0)] := hl
  refine lv_iload hx hb d_MD_placeOf_0 (lv_at hl 4 rfl) ?_
  refine lv_iconst (v := 2) hx hb d_MD_placeOf_2 (by decide) ?_
  refine lv_icmp_ne (tgt := 14) hx hb d_MD_placeOf_3 (by decide) (fun c_1 => ?_) (fun c_1 => ?_)
  · refine lv_iload hx hb d_MD_placeOf_14 (lv_at hl 4 rfl) ?_
    refine lv_if_ne (tgt := 37) hx hb d_MD_placeOf_16 (by decide) (fun c_2 => ?_) (fun c_2 => ?_)
    · exact absurd c_2 (by decide)
    · refine lv_aload_n hx hb d_MD_placeOf_19 rfl (lv_at hl 0 rfl) ?_
      refine va_get (D := (dC, dI)) (ci := 7) (v := .long vP) (C := xR_MD) (T := xT_MD) (N := 27) hx hb hts (fun w h => List.mem_cons_of_mem _ (iw_MD w h)) hown hK hP 0 rfl rfl 9 (by decide) (hts _ (List.mem_cons_of_mem _ wm_706)) (fun _ h9 => h9) rfl d_MD_placeOf_20 ?_
      refine lv_iload_n hx hb d_MD_placeOf_23 rfl (lv_at hl 1 rfl) ?_
      refine lv_i2l (v := a.toInt64) hx hb d_MD_placeOf_24 rfl ?_
      refine lv_lmul hx hb d_MD_placeOf_25 ?_
      refine lv_aload_n hx hb d_MD_placeOf_26 rfl (lv_at hl 0 rfl) ?_
      refine va_get (D := (dC, dI)) (ci := 7) (v := .long vQ) (C := xR_MD) (T := xT_MD) (N := 27) hx hb hts (fun w h => List.mem_cons_of_mem _ (iw_MD w h)) hown hK hP 0 rfl rfl 10 (by decide) (hts _ (List.mem_cons_of_mem _ wm_707)) (fun _ h9 => h9) rfl d_MD_placeOf_27 ?_
      refine lv_iload_n hx hb d_MD_placeOf_30 rfl (lv_at hl 2 rfl) ?_
      refine lv_i2l (v := b.toInt64) hx hb d_MD_placeOf_31 rfl ?_
      refine lv_lmul hx hb d_MD_placeOf_32 ?_
      refine lv_lsub hx hb d_MD_placeOf_33 ?_
      refine lv_goto (tgt := 52) hx hb d_MD_placeOf_34 (by decide) ?_
      refine lv_lstore (lv' := [(5, .long ((vP * a.toInt64) - (vQ * b.toInt64))), (0, .ref h0), (1, .int a), (2, .int b), (3, .int d), (4, .int 0)]) hx hb d_MD_placeOf_52 hl (by decide) rfl (fun ls hl => ?_)
      refine lv_aload_n hx hb d_MD_placeOf_54 rfl (lv_at hl 1 rfl) ?_
      refine va_get (D := (dC, dI)) (ci := 7) (v := .long vM) (C := xR_MD) (T := xT_MD) (N := 27) hx hb hts (fun w h => List.mem_cons_of_mem _ (iw_MD w h)) hown hK hP 0 rfl rfl 14 (by decide) (hts _ (List.mem_cons_of_mem _ wm_711)) (fun _ h9 => h9) rfl d_MD_placeOf_55 ?_
      refine lv_lload hx hb d_MD_placeOf_58 (lv_at hl 0 rfl) ?_
      refine lv_lmul hx hb d_MD_placeOf_60 ?_
      refine lv_iload hx hb d_MD_placeOf_61 (lv_at hl 5 rfl) ?_
      refine lv_if_ne (tgt := 73) hx hb d_MD_placeOf_63 (by decide) (fun c_3 => ?_) (fun c_3 => ?_)
      · exact absurd c_3 (by decide)
      · refine lv_aload_n hx hb d_MD_placeOf_66 rfl (lv_at hl 1 rfl) ?_
        refine va_get (D := (dC, dI)) (ci := 7) (v := .long vS) (C := xR_MD) (T := xT_MD) (N := 27) hx hb hts (fun w h => List.mem_cons_of_mem _ (iw_MD w h)) hown hK hP 0 rfl rfl 11 (by decide) (hts _ (List.mem_cons_of_mem _ wm_708)) (fun _ h9 => h9) rfl d_MD_placeOf_67 ?_
        refine lv_goto (tgt := 77) hx hb d_MD_placeOf_70 (by decide) ?_
        refine lv_ladd hx hb d_MD_placeOf_77 ?_
        refine lv_aload_n hx hb d_MD_placeOf_78 rfl (lv_at hl 1 rfl) ?_
        refine va_get (D := (dC, dI)) (ci := 7) (v := .long vM) (C := xR_MD) (T := xT_MD) (N := 27) hx hb hts (fun w h => List.mem_cons_of_mem _ (iw_MD w h)) hown hK hP 0 rfl rfl 14 (by decide) (hts _ (List.mem_cons_of_mem _ wm_711)) (fun _ h9 => h9) rfl d_MD_placeOf_79 ?_
        refine lv_aload_n hx hb d_MD_placeOf_82 rfl (lv_at hl 1 rfl) ?_
        refine va_get (D := (dC, dI)) (ci := 7) (v := .long vB) (C := xR_MD) (T := xT_MD) (N := 27) hx hb hts (fun w h => List.mem_cons_of_mem _ (iw_MD w h)) hown hK hP 0 rfl rfl 13 (by decide) (hts _ (List.mem_cons_of_mem _ wm_710)) (fun _ h9 => h9) rfl d_MD_placeOf_83 ?_
        refine lv_lmul hx hb d_MD_placeOf_86 ?_
        refine xr_calll (va_runS (As := [.long ((vM * ((vP * a.toInt64) - (vQ * b.toInt64))) + vS), .long (vM * vB)]) (rest := []) ⟨hx, hb, hml, hown, hts⟩ (c_MD_down l dC dI ((vM * ((vP * a.toInt64) - (vQ * b.toInt64))) + vS) (vM * vB) (by first | assumption | omega | decide)) (va_cwS 2 hts (xgS wm_829 wm_830 wm_34 wm_831) rfl rfl rfl (by decide +kernel) ⟨Nat.le_of_ble_eq_true rfl, Nat.le_of_ble_eq_true rfl⟩) ⟨xp_blind, fun U hU hW => ⟨rfl, hz.warm hW, by rw [hU]; exact hP.sub [] rfl, va_K.moved hW.alike (hK.sub [] rfl)⟩⟩ rfl rfl hl.1 rfl (lv_room (Nat.le_of_ble_eq_true rfl)) d_MD_placeOf_87 ⟨Nat.le_of_ble_eq_true rfl, Nat.le_of_ble_eq_true rfl⟩) (fun r_4 h_5 => ?_)
        subst h_5
        refine lv_l2i (v := (sr_fd ((vM * ((vP * a.toInt64) - (vQ * b.toInt64))) + vS) (vM * vB)).toInt32) hx hb d_MD_placeOf_90 rfl ?_
        exact xr_iret (v := (sr_fd ((vM * ((vP * a.toInt64) - (vQ * b.toInt64))) + vS) (vM * vB)).toInt32) hx hb hr (by exact rfl) d_MD_placeOf_91 hlocks
  · exact absurd c_1 (by decide)
set_option maxHeartbeats 4000000 in
set_option maxRecDepth 100000 in
/-- placeOf(1) -/
theorem c_MD_placeOf1 (l : Launch) (dC : Nat → ClassId) (dI : Nat → Nat → Nat) (h0 : Nat) (th : Int32) (nm : Nat) (ap : Nat) (no : Nat) (am : Nat) (aw : Nat) (az : Nat) (au : Nat) (kn : Int32) (vP : Int64) (vQ : Int64) (vS : Int64) (vT : Int64) (vB : Int64) (vM : Int64) (vH : Int64) (ao : Nat) (ax : Nat) (np : Nat) (ay : Nat) (nl : Nat) (ad : Nat) (al : Nat) (sn : Nat) (ag : Nat) (ta : Nat) (nb : Int32) (a : Int32) (b : Int32) (d : Int32) (hMB : 0 < vM * vB) : Met l xy_MD_placeOf xw_MD_placeOf ({ frames := 1, cells := 0, slots := 0, locals := 25 }) (xp_r [.ref h0, .int a, .int b, .int d, .int 1] (dC, dI) xCl [(h0, .inr (7, [.int th, .int (nI nm), .ref ap, .int (nI no), .ref am, .ref aw, .ref az, .ref au, .int kn, .long vP, .long vQ, .long vS, .long vT, .long vB, .long vM, .long vH, .ref ao, .ref ax, .int (nI np), .ref ay, .int (nI nl), .ref ad, .ref al, .int (nI sn), .ref ag, .int (nI ta), .int nb]))] []) (xr_i (fun r => r = md_p1 vP vQ vT vM vB a b)) 0 0 (fun _ => False) := by
  refine Met.ofW (cc := prog_9_method_18_code) (maxL := 7) (ret := (some .int)) (by decide) rfl ?_
  intro p e s m args below meth c s₁ B hml hv
  obtain ⟨rfl, hz, hP, hK⟩ := hv
  have hx := B.exec
  have hb := B.bytes
  have hr := B.returns
  have hts := atoms_spec (ws := xw_MD_placeOf) B.pre
  have hown : s.vm.findClass xR_MD = some m.cls := findClass_of_methodNamed B.named
  have hlocks := B.notSynchronized
  have hP : va_P (dC, dI) xCl [(h0, .inr (7, [.int th, .int (nI nm), .ref ap, .int (nI no), .ref am, .ref aw, .ref az, .ref au, .int kn, .long vP, .long vQ, .long vS, .long vT, .long vB, .long vM, .long vH, .ref ao, .ref ax, .int (nI np), .ref ay, .int (nI nl), .ref ad, .ref al, .int (nI sn), .ref ag, .int (nI ta), .int nb]))] s.heap := hP
  have hl := lv_entry ([.ref h0, .int a, .int b, .int d, .int 1]) (n := 7) (Nat.le_of_ble_eq_true rfl)
  rw [lg_entry_eq]
  generalize (lg_sl ([.ref h0, .int a, .int b, .int d, .int 1]) ++ List.replicate (7 - (lg_sl ([.ref h0, .int a, .int b, .int d, .int 1])).length) Slot.unset).toArray = ls at hl ⊢
  have hl : lv_has ls 7 [(0, .ref h0), (1, .int a), (2, .int b), (3, .int d), (4, .int 1)] := hl
  refine lv_iload hx hb d_MD_placeOf_0 (lv_at hl 4 rfl) ?_
  refine lv_iconst (v := 2) hx hb d_MD_placeOf_2 (by decide) ?_
  refine lv_icmp_ne (tgt := 14) hx hb d_MD_placeOf_3 (by decide) (fun c_1 => ?_) (fun c_1 => ?_)
  · refine lv_iload hx hb d_MD_placeOf_14 (lv_at hl 4 rfl) ?_
    refine lv_if_ne (tgt := 37) hx hb d_MD_placeOf_16 (by decide) (fun c_2 => ?_) (fun c_2 => ?_)
    · refine lv_aload_n hx hb d_MD_placeOf_37 rfl (lv_at hl 0 rfl) ?_
      refine va_get (D := (dC, dI)) (ci := 7) (v := .long vQ) (C := xR_MD) (T := xT_MD) (N := 27) hx hb hts (fun w h => List.mem_cons_of_mem _ (iw_MD w h)) hown hK hP 0 rfl rfl 10 (by decide) (hts _ (List.mem_cons_of_mem _ wm_707)) (fun _ h9 => h9) rfl d_MD_placeOf_38 ?_
      refine lv_iload_n hx hb d_MD_placeOf_41 rfl (lv_at hl 1 rfl) ?_
      refine lv_i2l (v := a.toInt64) hx hb d_MD_placeOf_42 rfl ?_
      refine lv_lmul hx hb d_MD_placeOf_43 ?_
      refine lv_aload_n hx hb d_MD_placeOf_44 rfl (lv_at hl 0 rfl) ?_
      refine va_get (D := (dC, dI)) (ci := 7) (v := .long vP) (C := xR_MD) (T := xT_MD) (N := 27) hx hb hts (fun w h => List.mem_cons_of_mem _ (iw_MD w h)) hown hK hP 0 rfl rfl 9 (by decide) (hts _ (List.mem_cons_of_mem _ wm_706)) (fun _ h9 => h9) rfl d_MD_placeOf_45 ?_
      refine lv_iload_n hx hb d_MD_placeOf_48 rfl (lv_at hl 2 rfl) ?_
      refine lv_i2l (v := b.toInt64) hx hb d_MD_placeOf_49 rfl ?_
      refine lv_lmul hx hb d_MD_placeOf_50 ?_
      refine lv_ladd hx hb d_MD_placeOf_51 ?_
      refine lv_lstore (lv' := [(5, .long ((vQ * a.toInt64) + (vP * b.toInt64))), (0, .ref h0), (1, .int a), (2, .int b), (3, .int d), (4, .int 1)]) hx hb d_MD_placeOf_52 hl (by decide) rfl (fun ls hl => ?_)
      refine lv_aload_n hx hb d_MD_placeOf_54 rfl (lv_at hl 1 rfl) ?_
      refine va_get (D := (dC, dI)) (ci := 7) (v := .long vM) (C := xR_MD) (T := xT_MD) (N := 27) hx hb hts (fun w h => List.mem_cons_of_mem _ (iw_MD w h)) hown hK hP 0 rfl rfl 14 (by decide) (hts _ (List.mem_cons_of_mem _ wm_711)) (fun _ h9 => h9) rfl d_MD_placeOf_55 ?_
      refine lv_lload hx hb d_MD_placeOf_58 (lv_at hl 0 rfl) ?_
      refine lv_lmul hx hb d_MD_placeOf_60 ?_
      refine lv_iload hx hb d_MD_placeOf_61 (lv_at hl 5 rfl) ?_
      refine lv_if_ne (tgt := 73) hx hb d_MD_placeOf_63 (by decide) (fun c_3 => ?_) (fun c_3 => ?_)
      · refine lv_aload_n hx hb d_MD_placeOf_73 rfl (lv_at hl 1 rfl) ?_
        refine va_get (D := (dC, dI)) (ci := 7) (v := .long vT) (C := xR_MD) (T := xT_MD) (N := 27) hx hb hts (fun w h => List.mem_cons_of_mem _ (iw_MD w h)) hown hK hP 0 rfl rfl 12 (by decide) (hts _ (List.mem_cons_of_mem _ wm_709)) (fun _ h9 => h9) rfl d_MD_placeOf_74 ?_
        refine lv_ladd hx hb d_MD_placeOf_77 ?_
        refine lv_aload_n hx hb d_MD_placeOf_78 rfl (lv_at hl 1 rfl) ?_
        refine va_get (D := (dC, dI)) (ci := 7) (v := .long vM) (C := xR_MD) (T := xT_MD) (N := 27) hx hb hts (fun w h => List.mem_cons_of_mem _ (iw_MD w h)) hown hK hP 0 rfl rfl 14 (by decide) (hts _ (List.mem_cons_of_mem _ wm_711)) (fun _ h9 => h9) rfl d_MD_placeOf_79 ?_
        refine lv_aload_n hx hb d_MD_placeOf_82 rfl (lv_at hl 1 rfl) ?_
        refine va_get (D := (dC, dI)) (ci := 7) (v := .long vB) (C := xR_MD) (T := xT_MD) (N := 27) hx hb hts (fun w h => List.mem_cons_of_mem _ (iw_MD w h)) hown hK hP 0 rfl rfl 13 (by decide) (hts _ (List.mem_cons_of_mem _ wm_710)) (fun _ h9 => h9) rfl d_MD_placeOf_83 ?_
        refine lv_lmul hx hb d_MD_placeOf_86 ?_
        refine xr_calll (va_runS (As := [.long ((vM * ((vQ * a.toInt64) + (vP * b.toInt64))) + vT), .long (vM * vB)]) (rest := []) ⟨hx, hb, hml, hown, hts⟩ (c_MD_down l dC dI ((vM * ((vQ * a.toInt64) + (vP * b.toInt64))) + vT) (vM * vB) (by first | assumption | omega | decide)) (va_cwS 2 hts (xgS wm_829 wm_830 wm_34 wm_831) rfl rfl rfl (by decide +kernel) ⟨Nat.le_of_ble_eq_true rfl, Nat.le_of_ble_eq_true rfl⟩) ⟨xp_blind, fun U hU hW => ⟨rfl, hz.warm hW, by rw [hU]; exact hP.sub [] rfl, va_K.moved hW.alike (hK.sub [] rfl)⟩⟩ rfl rfl hl.1 rfl (lv_room (Nat.le_of_ble_eq_true rfl)) d_MD_placeOf_87 ⟨Nat.le_of_ble_eq_true rfl, Nat.le_of_ble_eq_true rfl⟩) (fun r_4 h_5 => ?_)
        subst h_5
        refine lv_l2i (v := (sr_fd ((vM * ((vQ * a.toInt64) + (vP * b.toInt64))) + vT) (vM * vB)).toInt32) hx hb d_MD_placeOf_90 rfl ?_
        exact xr_iret (v := (sr_fd ((vM * ((vQ * a.toInt64) + (vP * b.toInt64))) + vT) (vM * vB)).toInt32) hx hb hr (by exact rfl) d_MD_placeOf_91 hlocks
      · exact absurd c_3 (by decide)
    · exact absurd c_2 (by decide)
  · exact absurd c_1 (by decide)
set_option maxHeartbeats 4000000 in
set_option maxRecDepth 100000 in
/-- placeOf(2) -/
theorem c_MD_placeOf2 (l : Launch) (dC : Nat → ClassId) (dI : Nat → Nat → Nat) (h0 : Nat) (th : Int32) (nm : Nat) (ap : Nat) (no : Nat) (am : Nat) (aw : Nat) (az : Nat) (au : Nat) (kn : Int32) (vP : Int64) (vQ : Int64) (vS : Int64) (vT : Int64) (vB : Int64) (vM : Int64) (vH : Int64) (ao : Nat) (ax : Nat) (np : Nat) (ay : Nat) (nl : Nat) (ad : Nat) (al : Nat) (sn : Nat) (ag : Nat) (ta : Nat) (nb : Int32) (a : Int32) (b : Int32) (d : Int32) (hMB : 0 < vM * vB) : Met l xy_MD_placeOf xw_MD_placeOf ({ frames := 0, cells := 0, slots := 0, locals := 0 }) (xp_r [.ref h0, .int a, .int b, .int d, .int 2] (dC, dI) xCl [(h0, .inr (7, [.int th, .int (nI nm), .ref ap, .int (nI no), .ref am, .ref aw, .ref az, .ref au, .int kn, .long vP, .long vQ, .long vS, .long vT, .long vB, .long vM, .long vH, .ref ao, .ref ax, .int (nI np), .ref ay, .int (nI nl), .ref ad, .ref al, .int (nI sn), .ref ag, .int (nI ta), .int nb]))] []) (xr_i (fun r => r = d + vH.toInt32)) 0 0 (fun _ => False) := by
  refine Met.ofW (cc := prog_9_method_18_code) (maxL := 7) (ret := (some .int)) (by decide) rfl ?_
  intro p e s m args below meth c s₁ B hml hv
  obtain ⟨rfl, hz, hP, hK⟩ := hv
  have hx := B.exec
  have hb := B.bytes
  have hr := B.returns
  have hts := atoms_spec (ws := xw_MD_placeOf) B.pre
  have hown : s.vm.findClass xR_MD = some m.cls := findClass_of_methodNamed B.named
  have hlocks := B.notSynchronized
  have hP : va_P (dC, dI) xCl [(h0, .inr (7, [.int th, .int (nI nm), .ref ap, .int (nI no), .ref am, .ref aw, .ref az, .ref au, .int kn, .long vP, .long vQ, .long vS, .long vT, .long vB, .long vM, .long vH, .ref ao, .ref ax, .int (nI np), .ref ay, .int (nI nl), .ref ad, .ref al, .int (nI sn), .ref ag, .int (nI ta), .int nb]))] s.heap := hP
  have hl := lv_entry ([.ref h0, .int a, .int b, .int d, .int 2]) (n := 7) (Nat.le_of_ble_eq_true rfl)
  rw [lg_entry_eq]
  generalize (lg_sl ([.ref h0, .int a, .int b, .int d, .int 2]) ++ List.replicate (7 - (lg_sl ([.ref h0, .int a, .int b, .int d, .int 2])).length) Slot.unset).toArray = ls at hl ⊢
  have hl : lv_has ls 7 [(0, .ref h0), (1, .int a), (2, .int b), (3, .int d), (4, .int 2)] := hl
  refine lv_iload hx hb d_MD_placeOf_0 (lv_at hl 4 rfl) ?_
  refine lv_iconst (v := 2) hx hb d_MD_placeOf_2 (by decide) ?_
  refine lv_icmp_ne (tgt := 14) hx hb d_MD_placeOf_3 (by decide) (fun c_1 => ?_) (fun c_1 => ?_)
  · exact absurd c_1 (by decide)
  · refine lv_iload_n hx hb d_MD_placeOf_6 rfl (lv_at hl 3 rfl) ?_
    refine lv_aload_n hx hb d_MD_placeOf_7 rfl (lv_at hl 0 rfl) ?_
    refine va_get (D := (dC, dI)) (ci := 7) (v := .long vH) (C := xR_MD) (T := xT_MD) (N := 27) hx hb hts (fun w h => List.mem_cons_of_mem _ (iw_MD w h)) hown hK hP 0 rfl rfl 15 (by decide) (hts _ (List.mem_cons_of_mem _ wm_712)) (fun _ h9 => h9) rfl d_MD_placeOf_8 ?_
    refine lv_l2i (v := vH.toInt32) hx hb d_MD_placeOf_11 rfl ?_
    refine lv_iadd hx hb d_MD_placeOf_12 ?_
    exact xr_iret (v := d + vH.toInt32) hx hb hr (by exact rfl) d_MD_placeOf_13 hlocks
set_option maxHeartbeats 4000000 in
set_option maxRecDepth 100000 in
/-- missed(0) -/
theorem c_MD_missed0 (l : Launch) (dC : Nat → ClassId) (dI : Nat → Nat → Nat) (h0 : Nat) (th : Int32) (nm : Nat) (ap : Nat) (no : Nat) (am : Nat) (aw : Nat) (az : Nat) (au : Nat) (kn : Int32) (vP : Int64) (vQ : Int64) (vS : Int64) (vT : Int64) (vB : Int64) (vM : Int64) (vH : Int64) (ao : Nat) (ax : Nat) (np : Nat) (ay : Nat) (nl : Nat) (ad : Nat) (al : Nat) (sn : Nat) (ag : Nat) (ta : Nat) (nb : Int32) (kp : ClassId) (km : ClassId) (kw : ClassId) (ko : ClassId) (mk : Nat → Nat) (gp : Nat → Int32) (gw : Nat → Int32) (ho : Nat → Int32) (k : Nat) (hMB : 0 < vM * vB) (hk : k < 20) (hmk : mk k < 12) : Met l xy_MD_missed xw_MD_missed ({ frames := 2, cells := 0, slots := 0, locals := 51 }) (xp_r [.ref h0, .int (nI k), .int 0] (dC, dI) xCl [(h0, .inr (7, [.int th, .int (nI nm), .ref ap, .int (nI no), .ref am, .ref aw, .ref az, .ref au, .int kn, .long vP, .long vQ, .long vS, .long vT, .long vB, .long vM, .long vH, .ref ao, .ref ax, .int (nI np), .ref ay, .int (nI nl), .ref ad, .ref al, .int (nI sn), .ref ag, .int (nI ta), .int nb])), (ap, .inl (kp, 36, .inl gp)), (am, .inl (km, 20, .inl (md_mk mk))), (aw, .inl (kw, 60, .inl gw)), (ao, .inl (ko, 20, .inl ho))] [(kp, .int), (km, .int), (kw, .int), (ko, .int)]) (xr_i (fun r => r = md_x0 gp gw mk vP vQ vS vM vB k)) 0 0 (fun _ => False) := by
  refine Met.ofW (cc := prog_9_method_19_code) (maxL := 3) (ret := (some .int)) (by decide) rfl ?_
  intro p e s m args below meth c s₁ B hml hv
  obtain ⟨rfl, hz, hP, hK⟩ := hv
  have hx := B.exec
  have hb := B.bytes
  have hr := B.returns
  have hts := atoms_spec (ws := xw_MD_missed) B.pre
  have hown : s.vm.findClass xR_MD = some m.cls := findClass_of_methodNamed B.named
  have hlocks := B.notSynchronized
  have hP : va_P (dC, dI) xCl [(h0, .inr (7, [.int th, .int (nI nm), .ref ap, .int (nI no), .ref am, .ref aw, .ref az, .ref au, .int kn, .long vP, .long vQ, .long vS, .long vT, .long vB, .long vM, .long vH, .ref ao, .ref ax, .int (nI np), .ref ay, .int (nI nl), .ref ad, .ref al, .int (nI sn), .ref ag, .int (nI ta), .int nb])), (ap, .inl (kp, 36, .inl gp)), (am, .inl (km, 20, .inl (md_mk mk))), (aw, .inl (kw, 60, .inl gw)), (ao, .inl (ko, 20, .inl ho))] s.heap := hP
  have hl := lv_entry ([.ref h0, .int (nI k), .int 0]) (n := 3) (Nat.le_of_ble_eq_true rfl)
  rw [lg_entry_eq]
  generalize (lg_sl ([.ref h0, .int (nI k), .int 0]) ++ List.replicate (3 - (lg_sl ([.ref h0, .int (nI k), .int 0])).length) Slot.unset).toArray = ls at hl ⊢
  have hl : lv_has ls 3 [(0, .ref h0), (1, .int (nI k)), (2, .int 0)] := hl
  refine lv_aload_n hx hb d_MD_missed_0 rfl (lv_at hl 0 rfl) ?_
  refine va_get (D := (dC, dI)) (ci := 7) (v := .ref ap) (C := xR_MD) (T := xT_MD) (N := 27) hx hb hts (fun w h => List.mem_cons_of_mem _ (iw_MD w h)) hown hK hP 0 rfl rfl 2 (by decide) (hts _ (List.mem_cons_of_mem _ wm_699)) (fun _ h9 => h9) rfl d_MD_missed_1 ?_
  refine lv_iconst (v := 3) hx hb d_MD_missed_4 (by decide) ?_
  refine lv_aload_n hx hb d_MD_missed_5 rfl (lv_at hl 0 rfl) ?_
  refine va_get (D := (dC, dI)) (ci := 7) (v := .ref am) (C := xR_MD) (T := xT_MD) (N := 27) hx hb hts (fun w h => List.mem_cons_of_mem _ (iw_MD w h)) hown hK hP 0 rfl rfl 4 (by decide) (hts _ (List.mem_cons_of_mem _ wm_701)) (fun _ h9 => h9) rfl d_MD_missed_6 ?_
  refine lv_iload_n hx hb d_MD_missed_9 rfl (lv_at hl 1 rfl) ?_
  refine xa_iald hx hb hK hP 2 1 rfl rfl k rfl (by omega) (by decide) d_MD_missed_10 ?_
  refine lv_imul hx hb d_MD_missed_11 ?_
  refine xv_i (y := nI (3 * (mk k))) (pk_mul 3 _) ?_
  refine lv_iload_n hx hb d_MD_missed_12 rfl (lv_at hl 2 rfl) ?_
  refine lv_iadd hx hb d_MD_missed_13 ?_
  refine xv_i (y := nI ((3 * (mk k)) + 0)) (nI_add _ 0) ?_
  refine xa_iald hx hb hK hP 1 0 rfl rfl ((3 * (mk k)) + 0) rfl (by omega) (by decide) d_MD_missed_14 ?_
  refine lv_aload_n hx hb d_MD_missed_15 rfl (lv_at hl 0 rfl) ?_
  refine lv_aload_n hx hb d_MD_missed_16 rfl (lv_at hl 0 rfl) ?_
  refine va_get (D := (dC, dI)) (ci := 7) (v := .ref aw) (C := xR_MD) (T := xT_MD) (N := 27) hx hb hts (fun w h => List.mem_cons_of_mem _ (iw_MD w h)) hown hK hP 0 rfl rfl 5 (by decide) (hts _ (List.mem_cons_of_mem _ wm_702)) (fun _ h9 => h9) rfl d_MD_missed_17 ?_
  refine lv_iconst (v := 3) hx hb d_MD_missed_20 (by decide) ?_
  refine lv_iload_n hx hb d_MD_missed_21 rfl (lv_at hl 1 rfl) ?_
  refine lv_imul hx hb d_MD_missed_22 ?_
  refine xv_i (y := nI (3 * k)) (pk_mul 3 _) ?_
  refine xa_iald hx hb hK hP 3 2 rfl rfl (3 * k) rfl (by omega) (by decide) d_MD_missed_23 ?_
  refine lv_aload_n hx hb d_MD_missed_24 rfl (lv_at hl 0 rfl) ?_
  refine va_get (D := (dC, dI)) (ci := 7) (v := .ref aw) (C := xR_MD) (T := xT_MD) (N := 27) hx hb hts (fun w h => List.mem_cons_of_mem _ (iw_MD w h)) hown hK hP 0 rfl rfl 5 (by decide) (hts _ (List.mem_cons_of_mem _ wm_702)) (fun _ h9 => h9) rfl d_MD_missed_25 ?_
  refine lv_iconst (v := 3) hx hb d_MD_missed_28 (by decide) ?_
  refine lv_iload_n hx hb d_MD_missed_29 rfl (lv_at hl 1 rfl) ?_
  refine lv_imul hx hb d_MD_missed_30 ?_
  refine xv_i (y := nI (3 * k)) (pk_mul 3 _) ?_
  refine lv_iconst (v := 1) hx hb d_MD_missed_31 (by decide) ?_
  refine lv_iadd hx hb d_MD_missed_32 ?_
  refine xv_i (y := nI ((3 * k) + 1)) (nI_1 _) ?_
  refine xa_iald hx hb hK hP 3 2 rfl rfl ((3 * k) + 1) rfl (by omega) (by decide) d_MD_missed_33 ?_
  refine lv_aload_n hx hb d_MD_missed_34 rfl (lv_at hl 0 rfl) ?_
  refine va_get (D := (dC, dI)) (ci := 7) (v := .ref aw) (C := xR_MD) (T := xT_MD) (N := 27) hx hb hts (fun w h => List.mem_cons_of_mem _ (iw_MD w h)) hown hK hP 0 rfl rfl 5 (by decide) (hts _ (List.mem_cons_of_mem _ wm_702)) (fun _ h9 => h9) rfl d_MD_missed_35 ?_
  refine lv_iconst (v := 3) hx hb d_MD_missed_38 (by decide) ?_
  refine lv_iload_n hx hb d_MD_missed_39 rfl (lv_at hl 1 rfl) ?_
  refine lv_imul hx hb d_MD_missed_40 ?_
  refine xv_i (y := nI (3 * k)) (pk_mul 3 _) ?_
  refine lv_iconst (v := 2) hx hb d_MD_missed_41 (by decide) ?_
  refine lv_iadd hx hb d_MD_missed_42 ?_
  refine xv_i (y := nI ((3 * k) + 2)) (nI_add _ 2) ?_
  refine xa_iald hx hb hK hP 3 2 rfl rfl ((3 * k) + 2) rfl (by omega) (by decide) d_MD_missed_43 ?_
  refine lv_aload_n hx hb d_MD_missed_44 rfl (lv_at hl 0 rfl) ?_
  refine va_get (D := (dC, dI)) (ci := 7) (v := .ref ao) (C := xR_MD) (T := xT_MD) (N := 27) hx hb hts (fun w h => List.mem_cons_of_mem _ (iw_MD w h)) hown hK hP 0 rfl rfl 16 (by decide) (hts _ (List.mem_cons_of_mem _ wm_713)) (fun _ h9 => h9) rfl d_MD_missed_45 ?_
  refine lv_iload_n hx hb d_MD_missed_48 rfl (lv_at hl 1 rfl) ?_
  refine xa_iald hx hb hK hP 4 3 rfl rfl k rfl (by omega) (by decide) d_MD_missed_49 ?_
  refine lv_isub hx hb d_MD_missed_50 ?_
  refine lv_iload_n hx hb d_MD_missed_51 rfl (lv_at hl 2 rfl) ?_
  refine xr_calli (va_runV (As := [.int (gw (3 * k)), .int (gw ((3 * k) + 1)), .int ((gw ((3 * k) + 2)) - (ho k)), .int 0]) (rest := [.int (gp ((3 * (mk k)) + 0))]) ⟨hx, hb, hml, hown, hts⟩ (c_MD_placeOf0 l dC dI h0 th nm ap no am aw az au kn vP vQ vS vT vB vM vH ao ax np ay nl ad al sn ag ta nb (gw (3 * k)) (gw ((3 * k) + 1)) ((gw ((3 * k) + 2)) - (ho k)) (by first | assumption | omega | decide)) (cwV 4 hts (xgV wm_848 wm_850 wm_19 wm_34 wm_851) rfl rfl rfl (by decide +kernel) ⟨Nat.le_of_ble_eq_true rfl, Nat.le_of_ble_eq_true rfl⟩) ⟨xp_blind, va_recv hK hP (ci := 7) (q0 := 0) rfl rfl, fun U hU hW => ⟨rfl, hz.warm hW, by rw [hU]; exact hP.sub [0] rfl, va_K.moved hW.alike (hK.sub [] rfl)⟩⟩ rfl rfl hl.1 rfl (lv_room (Nat.le_of_ble_eq_true rfl)) d_MD_missed_52 ⟨Nat.le_of_ble_eq_true rfl, Nat.le_of_ble_eq_true rfl⟩) (fun r_1 h_2 => ?_)
  subst h_2
  refine lv_isub hx hb d_MD_missed_55 ?_
  exact xr_iret (v := (gp ((3 * (mk k)) + 0)) - (md_p0 vP vQ vS vM vB (gw (3 * k)) (gw ((3 * k) + 1)))) hx hb hr (by exact rfl) d_MD_missed_56 hlocks
set_option maxHeartbeats 4000000 in
set_option maxRecDepth 100000 in
/-- missed(1) -/
theorem c_MD_missed1 (l : Launch) (dC : Nat → ClassId) (dI : Nat → Nat → Nat) (h0 : Nat) (th : Int32) (nm : Nat) (ap : Nat) (no : Nat) (am : Nat) (aw : Nat) (az : Nat) (au : Nat) (kn : Int32) (vP : Int64) (vQ : Int64) (vS : Int64) (vT : Int64) (vB : Int64) (vM : Int64) (vH : Int64) (ao : Nat) (ax : Nat) (np : Nat) (ay : Nat) (nl : Nat) (ad : Nat) (al : Nat) (sn : Nat) (ag : Nat) (ta : Nat) (nb : Int32) (kp : ClassId) (km : ClassId) (kw : ClassId) (ko : ClassId) (mk : Nat → Nat) (gp : Nat → Int32) (gw : Nat → Int32) (ho : Nat → Int32) (k : Nat) (hMB : 0 < vM * vB) (hk : k < 20) (hmk : mk k < 12) : Met l xy_MD_missed xw_MD_missed ({ frames := 2, cells := 0, slots := 0, locals := 51 }) (xp_r [.ref h0, .int (nI k), .int 1] (dC, dI) xCl [(h0, .inr (7, [.int th, .int (nI nm), .ref ap, .int (nI no), .ref am, .ref aw, .ref az, .ref au, .int kn, .long vP, .long vQ, .long vS, .long vT, .long vB, .long vM, .long vH, .ref ao, .ref ax, .int (nI np), .ref ay, .int (nI nl), .ref ad, .ref al, .int (nI sn), .ref ag, .int (nI ta), .int nb])), (ap, .inl (kp, 36, .inl gp)), (am, .inl (km, 20, .inl (md_mk mk))), (aw, .inl (kw, 60, .inl gw)), (ao, .inl (ko, 20, .inl ho))] [(kp, .int), (km, .int), (kw, .int), (ko, .int)]) (xr_i (fun r => r = md_x1 gp gw mk vP vQ vT vM vB k)) 0 0 (fun _ => False) := by
  refine Met.ofW (cc := prog_9_method_19_code) (maxL := 3) (ret := (some .int)) (by decide) rfl ?_
  intro p e s m args below meth c s₁ B hml hv
  obtain ⟨rfl, hz, hP, hK⟩ := hv
  have hx := B.exec
  have hb := B.bytes
  have hr := B.returns
  have hts := atoms_spec (ws := xw_MD_missed) B.pre
  have hown : s.vm.findClass xR_MD = some m.cls := findClass_of_methodNamed B.named
  have hlocks := B.notSynchronized
  have hP : va_P (dC, dI) xCl [(h0, .inr (7, [.int th, .int (nI nm), .ref ap, .int (nI no), .ref am, .ref aw, .ref az, .ref au, .int kn, .long vP, .long vQ, .long vS, .long vT, .long vB, .long vM, .long vH, .ref ao, .ref ax, .int (nI np), .ref ay, .int (nI nl), .ref ad, .ref al, .int (nI sn), .ref ag, .int (nI ta), .int nb])), (ap, .inl (kp, 36, .inl gp)), (am, .inl (km, 20, .inl (md_mk mk))), (aw, .inl (kw, 60, .inl gw)), (ao, .inl (ko, 20, .inl ho))] s.heap := hP
  have hl := lv_entry ([.ref h0, .int (nI k), .int 1]) (n := 3) (Nat.le_of_ble_eq_true rfl)
  rw [lg_entry_eq]
  generalize (lg_sl ([.ref h0, .int (nI k), .int 1]) ++ List.replicate (3 - (lg_sl ([.ref h0, .int (nI k), .int 1])).length) Slot.unset).toArray = ls at hl ⊢
  have hl : lv_has ls 3 [(0, .ref h0), (1, .int (nI k)), (2, .int 1)] := hl
  refine lv_aload_n hx hb d_MD_missed_0 rfl (lv_at hl 0 rfl) ?_
  refine va_get (D := (dC, dI)) (ci := 7) (v := .ref ap) (C := xR_MD) (T := xT_MD) (N := 27) hx hb hts (fun w h => List.mem_cons_of_mem _ (iw_MD w h)) hown hK hP 0 rfl rfl 2 (by decide) (hts _ (List.mem_cons_of_mem _ wm_699)) (fun _ h9 => h9) rfl d_MD_missed_1 ?_
  refine lv_iconst (v := 3) hx hb d_MD_missed_4 (by decide) ?_
  refine lv_aload_n hx hb d_MD_missed_5 rfl (lv_at hl 0 rfl) ?_
  refine va_get (D := (dC, dI)) (ci := 7) (v := .ref am) (C := xR_MD) (T := xT_MD) (N := 27) hx hb hts (fun w h => List.mem_cons_of_mem _ (iw_MD w h)) hown hK hP 0 rfl rfl 4 (by decide) (hts _ (List.mem_cons_of_mem _ wm_701)) (fun _ h9 => h9) rfl d_MD_missed_6 ?_
  refine lv_iload_n hx hb d_MD_missed_9 rfl (lv_at hl 1 rfl) ?_
  refine xa_iald hx hb hK hP 2 1 rfl rfl k rfl (by omega) (by decide) d_MD_missed_10 ?_
  refine lv_imul hx hb d_MD_missed_11 ?_
  refine xv_i (y := nI (3 * (mk k))) (pk_mul 3 _) ?_
  refine lv_iload_n hx hb d_MD_missed_12 rfl (lv_at hl 2 rfl) ?_
  refine lv_iadd hx hb d_MD_missed_13 ?_
  refine xv_i (y := nI ((3 * (mk k)) + 1)) (nI_1 _) ?_
  refine xa_iald hx hb hK hP 1 0 rfl rfl ((3 * (mk k)) + 1) rfl (by omega) (by decide) d_MD_missed_14 ?_
  refine lv_aload_n hx hb d_MD_missed_15 rfl (lv_at hl 0 rfl) ?_
  refine lv_aload_n hx hb d_MD_missed_16 rfl (lv_at hl 0 rfl) ?_
  refine va_get (D := (dC, dI)) (ci := 7) (v := .ref aw) (C := xR_MD) (T := xT_MD) (N := 27) hx hb hts (fun w h => List.mem_cons_of_mem _ (iw_MD w h)) hown hK hP 0 rfl rfl 5 (by decide) (hts _ (List.mem_cons_of_mem _ wm_702)) (fun _ h9 => h9) rfl d_MD_missed_17 ?_
  refine lv_iconst (v := 3) hx hb d_MD_missed_20 (by decide) ?_
  refine lv_iload_n hx hb d_MD_missed_21 rfl (lv_at hl 1 rfl) ?_
  refine lv_imul hx hb d_MD_missed_22 ?_
  refine xv_i (y := nI (3 * k)) (pk_mul 3 _) ?_
  refine xa_iald hx hb hK hP 3 2 rfl rfl (3 * k) rfl (by omega) (by decide) d_MD_missed_23 ?_
  refine lv_aload_n hx hb d_MD_missed_24 rfl (lv_at hl 0 rfl) ?_
  refine va_get (D := (dC, dI)) (ci := 7) (v := .ref aw) (C := xR_MD) (T := xT_MD) (N := 27) hx hb hts (fun w h => List.mem_cons_of_mem _ (iw_MD w h)) hown hK hP 0 rfl rfl 5 (by decide) (hts _ (List.mem_cons_of_mem _ wm_702)) (fun _ h9 => h9) rfl d_MD_missed_25 ?_
  refine lv_iconst (v := 3) hx hb d_MD_missed_28 (by decide) ?_
  refine lv_iload_n hx hb d_MD_missed_29 rfl (lv_at hl 1 rfl) ?_
  refine lv_imul hx hb d_MD_missed_30 ?_
  refine xv_i (y := nI (3 * k)) (pk_mul 3 _) ?_
  refine lv_iconst (v := 1) hx hb d_MD_missed_31 (by decide) ?_
  refine lv_iadd hx hb d_MD_missed_32 ?_
  refine xv_i (y := nI ((3 * k) + 1)) (nI_1 _) ?_
  refine xa_iald hx hb hK hP 3 2 rfl rfl ((3 * k) + 1) rfl (by omega) (by decide) d_MD_missed_33 ?_
  refine lv_aload_n hx hb d_MD_missed_34 rfl (lv_at hl 0 rfl) ?_
  refine va_get (D := (dC, dI)) (ci := 7) (v := .ref aw) (C := xR_MD) (T := xT_MD) (N := 27) hx hb hts (fun w h => List.mem_cons_of_mem _ (iw_MD w h)) hown hK hP 0 rfl rfl 5 (by decide) (hts _ (List.mem_cons_of_mem _ wm_702)) (fun _ h9 => h9) rfl d_MD_missed_35 ?_
  refine lv_iconst (v := 3) hx hb d_MD_missed_38 (by decide) ?_
  refine lv_iload_n hx hb d_MD_missed_39 rfl (lv_at hl 1 rfl) ?_
  refine lv_imul hx hb d_MD_missed_40 ?_
  refine xv_i (y := nI (3 * k)) (pk_mul 3 _) ?_
  refine lv_iconst (v := 2) hx hb d_MD_missed_41 (by decide) ?_
  refine lv_iadd hx hb d_MD_missed_42 ?_
  refine xv_i (y := nI ((3 * k) + 2)) (nI_add _ 2) ?_
  refine xa_iald hx hb hK hP 3 2 rfl rfl ((3 * k) + 2) rfl (by omega) (by decide) d_MD_missed_43 ?_
  refine lv_aload_n hx hb d_MD_missed_44 rfl (lv_at hl 0 rfl) ?_
  refine va_get (D := (dC, dI)) (ci := 7) (v := .ref ao) (C := xR_MD) (T := xT_MD) (N := 27) hx hb hts (fun w h => List.mem_cons_of_mem _ (iw_MD w h)) hown hK hP 0 rfl rfl 16 (by decide) (hts _ (List.mem_cons_of_mem _ wm_713)) (fun _ h9 => h9) rfl d_MD_missed_45 ?_
  refine lv_iload_n hx hb d_MD_missed_48 rfl (lv_at hl 1 rfl) ?_
  refine xa_iald hx hb hK hP 4 3 rfl rfl k rfl (by omega) (by decide) d_MD_missed_49 ?_
  refine lv_isub hx hb d_MD_missed_50 ?_
  refine lv_iload_n hx hb d_MD_missed_51 rfl (lv_at hl 2 rfl) ?_
  refine xr_calli (va_runV (As := [.int (gw (3 * k)), .int (gw ((3 * k) + 1)), .int ((gw ((3 * k) + 2)) - (ho k)), .int 1]) (rest := [.int (gp ((3 * (mk k)) + 1))]) ⟨hx, hb, hml, hown, hts⟩ (c_MD_placeOf1 l dC dI h0 th nm ap no am aw az au kn vP vQ vS vT vB vM vH ao ax np ay nl ad al sn ag ta nb (gw (3 * k)) (gw ((3 * k) + 1)) ((gw ((3 * k) + 2)) - (ho k)) (by first | assumption | omega | decide)) (cwV 4 hts (xgV wm_848 wm_850 wm_19 wm_34 wm_851) rfl rfl rfl (by decide +kernel) ⟨Nat.le_of_ble_eq_true rfl, Nat.le_of_ble_eq_true rfl⟩) ⟨xp_blind, va_recv hK hP (ci := 7) (q0 := 0) rfl rfl, fun U hU hW => ⟨rfl, hz.warm hW, by rw [hU]; exact hP.sub [0] rfl, va_K.moved hW.alike (hK.sub [] rfl)⟩⟩ rfl rfl hl.1 rfl (lv_room (Nat.le_of_ble_eq_true rfl)) d_MD_missed_52 ⟨Nat.le_of_ble_eq_true rfl, Nat.le_of_ble_eq_true rfl⟩) (fun r_1 h_2 => ?_)
  subst h_2
  refine lv_isub hx hb d_MD_missed_55 ?_
  exact xr_iret (v := (gp ((3 * (mk k)) + 1)) - (md_p1 vP vQ vT vM vB (gw (3 * k)) (gw ((3 * k) + 1)))) hx hb hr (by exact rfl) d_MD_missed_56 hlocks
set_option maxHeartbeats 4000000 in
set_option maxRecDepth 100000 in
/-- missed(2) -/
theorem c_MD_missed2 (l : Launch) (dC : Nat → ClassId) (dI : Nat → Nat → Nat) (h0 : Nat) (th : Int32) (nm : Nat) (ap : Nat) (no : Nat) (am : Nat) (aw : Nat) (az : Nat) (au : Nat) (kn : Int32) (vP : Int64) (vQ : Int64) (vS : Int64) (vT : Int64) (vB : Int64) (vM : Int64) (vH : Int64) (ao : Nat) (ax : Nat) (np : Nat) (ay : Nat) (nl : Nat) (ad : Nat) (al : Nat) (sn : Nat) (ag : Nat) (ta : Nat) (nb : Int32) (kp : ClassId) (km : ClassId) (kw : ClassId) (ko : ClassId) (mk : Nat → Nat) (gp : Nat → Int32) (gw : Nat → Int32) (ho : Nat → Int32) (k : Nat) (hMB : 0 < vM * vB) (hk : k < 20) (hmk : mk k < 12) : Met l xy_MD_missed xw_MD_missed ({ frames := 1, cells := 0, slots := 0, locals := 26 }) (xp_r [.ref h0, .int (nI k), .int 2] (dC, dI) xCl [(h0, .inr (7, [.int th, .int (nI nm), .ref ap, .int (nI no), .ref am, .ref aw, .ref az, .ref au, .int kn, .long vP, .long vQ, .long vS, .long vT, .long vB, .long vM, .long vH, .ref ao, .ref ax, .int (nI np), .ref ay, .int (nI nl), .ref ad, .ref al, .int (nI sn), .ref ag, .int (nI ta), .int nb])), (ap, .inl (kp, 36, .inl gp)), (am, .inl (km, 20, .inl (md_mk mk))), (aw, .inl (kw, 60, .inl gw)), (ao, .inl (ko, 20, .inl ho))] [(kp, .int), (km, .int), (kw, .int), (ko, .int)]) (xr_i (fun r => r = md_x2 gp gw ho mk vH k)) 0 0 (fun _ => False) := by
  refine Met.ofW (cc := prog_9_method_19_code) (maxL := 3) (ret := (some .int)) (by decide) rfl ?_
  intro p e s m args below meth c s₁ B hml hv
  obtain ⟨rfl, hz, hP, hK⟩ := hv
  have hx := B.exec
  have hb := B.bytes
  have hr := B.returns
  have hts := atoms_spec (ws := xw_MD_missed) B.pre
  have hown : s.vm.findClass xR_MD = some m.cls := findClass_of_methodNamed B.named
  have hlocks := B.notSynchronized
  have hP : va_P (dC, dI) xCl [(h0, .inr (7, [.int th, .int (nI nm), .ref ap, .int (nI no), .ref am, .ref aw, .ref az, .ref au, .int kn, .long vP, .long vQ, .long vS, .long vT, .long vB, .long vM, .long vH, .ref ao, .ref ax, .int (nI np), .ref ay, .int (nI nl), .ref ad, .ref al, .int (nI sn), .ref ag, .int (nI ta), .int nb])), (ap, .inl (kp, 36, .inl gp)), (am, .inl (km, 20, .inl (md_mk mk))), (aw, .inl (kw, 60, .inl gw)), (ao, .inl (ko, 20, .inl ho))] s.heap := hP
  have hl := lv_entry ([.ref h0, .int (nI k), .int 2]) (n := 3) (Nat.le_of_ble_eq_true rfl)
  rw [lg_entry_eq]
  generalize (lg_sl ([.ref h0, .int (nI k), .int 2]) ++ List.replicate (3 - (lg_sl ([.ref h0, .int (nI k), .int 2])).length) Slot.unset).toArray = ls at hl ⊢
  have hl : lv_has ls 3 [(0, .ref h0), (1, .int (nI k)), (2, .int 2)] := hl
  refine lv_aload_n hx hb d_MD_missed_0 rfl (lv_at hl 0 rfl) ?_
  refine va_get (D := (dC, dI)) (ci := 7) (v := .ref ap) (C := xR_MD) (T := xT_MD) (N := 27) hx hb hts (fun w h => List.mem_cons_of_mem _ (iw_MD w h)) hown hK hP 0 rfl rfl 2 (by decide) (hts _ (List.mem_cons_of_mem _ wm_699)) (fun _ h9 => h9) rfl d_MD_missed_1 ?_
  refine lv_iconst (v := 3) hx hb d_MD_missed_4 (by decide) ?_
  refine lv_aload_n hx hb d_MD_missed_5 rfl (lv_at hl 0 rfl) ?_
  refine va_get (D := (dC, dI)) (ci := 7) (v := .ref am) (C := xR_MD) (T := xT_MD) (N := 27) hx hb hts (fun w h => List.mem_cons_of_mem _ (iw_MD w h)) hown hK hP 0 rfl rfl 4 (by decide) (hts _ (List.mem_cons_of_mem _ wm_701)) (fun _ h9 => h9) rfl d_MD_missed_6 ?_
  refine lv_iload_n hx hb d_MD_missed_9 rfl (lv_at hl 1 rfl) ?_
  refine xa_iald hx hb hK hP 2 1 rfl rfl k rfl (by omega) (by decide) d_MD_missed_10 ?_
  refine lv_imul hx hb d_MD_missed_11 ?_
  refine xv_i (y := nI (3 * (mk k))) (pk_mul 3 _) ?_
  refine lv_iload_n hx hb d_MD_missed_12 rfl (lv_at hl 2 rfl) ?_
  refine lv_iadd hx hb d_MD_missed_13 ?_
  refine xv_i (y := nI ((3 * (mk k)) + 2)) (nI_add _ 2) ?_
  refine xa_iald hx hb hK hP 1 0 rfl rfl ((3 * (mk k)) + 2) rfl (by omega) (by decide) d_MD_missed_14 ?_
  refine lv_aload_n hx hb d_MD_missed_15 rfl (lv_at hl 0 rfl) ?_
  refine lv_aload_n hx hb d_MD_missed_16 rfl (lv_at hl 0 rfl) ?_
  refine va_get (D := (dC, dI)) (ci := 7) (v := .ref aw) (C := xR_MD) (T := xT_MD) (N := 27) hx hb hts (fun w h => List.mem_cons_of_mem _ (iw_MD w h)) hown hK hP 0 rfl rfl 5 (by decide) (hts _ (List.mem_cons_of_mem _ wm_702)) (fun _ h9 => h9) rfl d_MD_missed_17 ?_
  refine lv_iconst (v := 3) hx hb d_MD_missed_20 (by decide) ?_
  refine lv_iload_n hx hb d_MD_missed_21 rfl (lv_at hl 1 rfl) ?_
  refine lv_imul hx hb d_MD_missed_22 ?_
  refine xv_i (y := nI (3 * k)) (pk_mul 3 _) ?_
  refine xa_iald hx hb hK hP 3 2 rfl rfl (3 * k) rfl (by omega) (by decide) d_MD_missed_23 ?_
  refine lv_aload_n hx hb d_MD_missed_24 rfl (lv_at hl 0 rfl) ?_
  refine va_get (D := (dC, dI)) (ci := 7) (v := .ref aw) (C := xR_MD) (T := xT_MD) (N := 27) hx hb hts (fun w h => List.mem_cons_of_mem _ (iw_MD w h)) hown hK hP 0 rfl rfl 5 (by decide) (hts _ (List.mem_cons_of_mem _ wm_702)) (fun _ h9 => h9) rfl d_MD_missed_25 ?_
  refine lv_iconst (v := 3) hx hb d_MD_missed_28 (by decide) ?_
  refine lv_iload_n hx hb d_MD_missed_29 rfl (lv_at hl 1 rfl) ?_
  refine lv_imul hx hb d_MD_missed_30 ?_
  refine xv_i (y := nI (3 * k)) (pk_mul 3 _) ?_
  refine lv_iconst (v := 1) hx hb d_MD_missed_31 (by decide) ?_
  refine lv_iadd hx hb d_MD_missed_32 ?_
  refine xv_i (y := nI ((3 * k) + 1)) (nI_1 _) ?_
  refine xa_iald hx hb hK hP 3 2 rfl rfl ((3 * k) + 1) rfl (by omega) (by decide) d_MD_missed_33 ?_
  refine lv_aload_n hx hb d_MD_missed_34 rfl (lv_at hl 0 rfl) ?_
  refine va_get (D := (dC, dI)) (ci := 7) (v := .ref aw) (C := xR_MD) (T := xT_MD) (N := 27) hx hb hts (fun w h => List.mem_cons_of_mem _ (iw_MD w h)) hown hK hP 0 rfl rfl 5 (by decide) (hts _ (List.mem_cons_of_mem _ wm_702)) (fun _ h9 => h9) rfl d_MD_missed_35 ?_
  refine lv_iconst (v := 3) hx hb d_MD_missed_38 (by decide) ?_
  refine lv_iload_n hx hb d_MD_missed_39 rfl (lv_at hl 1 rfl) ?_
  refine lv_imul hx hb d_MD_missed_40 ?_
  refine xv_i (y := nI (3 * k)) (pk_mul 3 _) ?_
  refine lv_iconst (v := 2) hx hb d_MD_missed_41 (by decide) ?_
  refine lv_iadd hx hb d_MD_missed_42 ?_
  refine xv_i (y := nI ((3 * k) + 2)) (nI_add _ 2) ?_
  refine xa_iald hx hb hK hP 3 2 rfl rfl ((3 * k) + 2) rfl (by omega) (by decide) d_MD_missed_43 ?_
  refine lv_aload_n hx hb d_MD_missed_44 rfl (lv_at hl 0 rfl) ?_
  refine va_get (D := (dC, dI)) (ci := 7) (v := .ref ao) (C := xR_MD) (T := xT_MD) (N := 27) hx hb hts (fun w h => List.mem_cons_of_mem _ (iw_MD w h)) hown hK hP 0 rfl rfl 16 (by decide) (hts _ (List.mem_cons_of_mem _ wm_713)) (fun _ h9 => h9) rfl d_MD_missed_45 ?_
  refine lv_iload_n hx hb d_MD_missed_48 rfl (lv_at hl 1 rfl) ?_
  refine xa_iald hx hb hK hP 4 3 rfl rfl k rfl (by omega) (by decide) d_MD_missed_49 ?_
  refine lv_isub hx hb d_MD_missed_50 ?_
  refine lv_iload_n hx hb d_MD_missed_51 rfl (lv_at hl 2 rfl) ?_
  refine xr_calli (va_runV (As := [.int (gw (3 * k)), .int (gw ((3 * k) + 1)), .int ((gw ((3 * k) + 2)) - (ho k)), .int 2]) (rest := [.int (gp ((3 * (mk k)) + 2))]) ⟨hx, hb, hml, hown, hts⟩ (c_MD_placeOf2 l dC dI h0 th nm ap no am aw az au kn vP vQ vS vT vB vM vH ao ax np ay nl ad al sn ag ta nb (gw (3 * k)) (gw ((3 * k) + 1)) ((gw ((3 * k) + 2)) - (ho k)) (by first | assumption | omega | decide)) (cwV 4 hts (xgV wm_848 wm_850 wm_19 wm_34 wm_851) rfl rfl rfl (by decide +kernel) ⟨Nat.le_of_ble_eq_true rfl, Nat.le_of_ble_eq_true rfl⟩) ⟨xp_blind, va_recv hK hP (ci := 7) (q0 := 0) rfl rfl, fun U hU hW => ⟨rfl, hz.warm hW, by rw [hU]; exact hP.sub [0] rfl, va_K.moved hW.alike (hK.sub [] rfl)⟩⟩ rfl rfl hl.1 rfl (lv_room (Nat.le_of_ble_eq_true rfl)) d_MD_missed_52 ⟨Nat.le_of_ble_eq_true rfl, Nat.le_of_ble_eq_true rfl⟩) (fun r_1 h_2 => ?_)
  subst h_2
  refine lv_isub hx hb d_MD_missed_55 ?_
  exact xr_iret (v := (gp ((3 * (mk k)) + 2)) - (((gw ((3 * k) + 2)) - (ho k)) + vH.toInt32)) hx hb hr (by exact rfl) d_MD_missed_56 hlocks
set_option maxHeartbeats 4000000 in
set_option maxRecDepth 100000 in
/-- flat -/
theorem c_MD_flat (l : Launch) (dC : Nat → ClassId) (dI : Nat → Nat → Nat) (h0 : Nat) (th : Int32) (nm : Nat) (ap : Nat) (no : Nat) (am : Nat) (aw : Nat) (az : Nat) (au : Nat) (kn : Int32) (vP : Int64) (vQ : Int64) (vS : Int64) (vT : Int64) (vB : Int64) (vM : Int64) (vH : Int64) (ao : Nat) (ax : Nat) (np : Nat) (ay : Nat) (nl : Nat) (ad : Nat) (al : Nat) (sn : Nat) (ag : Nat) (ta : Nat) (nb : Int32) (kp : ClassId) (km : ClassId) (kw : ClassId) (ko : ClassId) (mk : Nat → Nat) (gp : Nat → Int32) (gw : Nat → Int32) (ho : Nat → Int32) (k : Nat) (hMB : 0 < vM * vB) (hk : k < 20) (hmk : mk k < 12) : Met l xy_MD_flat xw_MD_flat ({ frames := 3, cells := 0, slots := 0, locals := 73 }) (xp_r [.ref h0, .int (nI k)] (dC, dI) xCl [(h0, .inr (7, [.int th, .int (nI nm), .ref ap, .int (nI no), .ref am, .ref aw, .ref az, .ref au, .int kn, .long vP, .long vQ, .long vS, .long vT, .long vB, .long vM, .long vH, .ref ao, .ref ax, .int (nI np), .ref ay, .int (nI nl), .ref ad, .ref al, .int (nI sn), .ref ag, .int (nI ta), .int nb])), (ap, .inl (kp, 36, .inl gp)), (am, .inl (km, 20, .inl (md_mk mk))), (aw, .inl (kw, 60, .inl gw)), (ao, .inl (ko, 20, .inl ho))] [(kp, .int), (km, .int), (kw, .int), (ko, .int)]) (xr_l (fun r => r = md_fl gp gw mk vP vQ vS vT vM vB k)) 0 0 (fun _ => False) := by
  refine Met.ofW (cc := prog_9_method_21_code) (maxL := 6) (ret := (some .long)) (by decide) rfl ?_
  intro p e s m args below meth c s₁ B hml hv
  obtain ⟨rfl, hz, hP, hK⟩ := hv
  have hx := B.exec
  have hb := B.bytes
  have hr := B.returns
  have hts := atoms_spec (ws := xw_MD_flat) B.pre
  have hown : s.vm.findClass xR_MD = some m.cls := findClass_of_methodNamed B.named
  have hlocks := B.notSynchronized
  have hP : va_P (dC, dI) xCl [(h0, .inr (7, [.int th, .int (nI nm), .ref ap, .int (nI no), .ref am, .ref aw, .ref az, .ref au, .int kn, .long vP, .long vQ, .long vS, .long vT, .long vB, .long vM, .long vH, .ref ao, .ref ax, .int (nI np), .ref ay, .int (nI nl), .ref ad, .ref al, .int (nI sn), .ref ag, .int (nI ta), .int nb])), (ap, .inl (kp, 36, .inl gp)), (am, .inl (km, 20, .inl (md_mk mk))), (aw, .inl (kw, 60, .inl gw)), (ao, .inl (ko, 20, .inl ho))] s.heap := hP
  have hl := lv_entry ([.ref h0, .int (nI k)]) (n := 6) (Nat.le_of_ble_eq_true rfl)
  rw [lg_entry_eq]
  generalize (lg_sl ([.ref h0, .int (nI k)]) ++ List.replicate (6 - (lg_sl ([.ref h0, .int (nI k)])).length) Slot.unset).toArray = ls at hl ⊢
  have hl : lv_has ls 6 [(0, .ref h0), (1, .int (nI k))] := hl
  refine lv_aload_n hx hb d_MD_flat_0 rfl (lv_at hl 0 rfl) ?_
  refine lv_iload_n hx hb d_MD_flat_1 rfl (lv_at hl 1 rfl) ?_
  refine lv_iconst (v := 0) hx hb d_MD_flat_2 (by decide) ?_
  refine xr_calli (va_runV (As := [.int (nI k), .int 0]) (rest := []) ⟨hx, hb, hml, hown, hts⟩ (c_MD_missed0 l dC dI h0 th nm ap no am aw az au kn vP vQ vS vT vB vM vH ao ax np ay nl ad al sn ag ta nb kp km kw ko mk gp gw ho k (by first | assumption | omega | decide) (by first | assumption | omega | decide) (by first | assumption | omega | decide)) (cwV 2 hts (xgV wm_844 wm_846 wm_18 wm_34 wm_847) rfl rfl rfl (by decide +kernel) ⟨Nat.le_of_ble_eq_true rfl, Nat.le_of_ble_eq_true rfl⟩) ⟨xp_blind, va_recv hK hP (ci := 7) (q0 := 0) rfl rfl, fun U hU hW => ⟨rfl, hz.warm hW, by rw [hU]; exact hP.sub [0, 1, 2, 3, 4] rfl, va_K.moved hW.alike (hK.sub [0, 1, 2, 3] rfl)⟩⟩ rfl rfl hl.1 rfl (lv_room (Nat.le_of_ble_eq_true rfl)) d_MD_flat_3 ⟨Nat.le_of_ble_eq_true rfl, Nat.le_of_ble_eq_true rfl⟩) (fun r_1 h_2 => ?_)
  subst h_2
  refine lv_i2l (v := (md_x0 gp gw mk vP vQ vS vM vB k).toInt64) hx hb d_MD_flat_6 rfl ?_
  refine lv_lstore_n (lv' := [(2, .long ((md_x0 gp gw mk vP vQ vS vM vB k).toInt64)), (0, .ref h0), (1, .int (nI k))]) hx hb d_MD_flat_7 rfl hl (by decide) rfl (fun ls hl => ?_)
  refine lv_aload_n hx hb d_MD_flat_8 rfl (lv_at hl 1 rfl) ?_
  refine lv_iload_n hx hb d_MD_flat_9 rfl (lv_at hl 2 rfl) ?_
  refine lv_iconst (v := 1) hx hb d_MD_flat_10 (by decide) ?_
  refine xr_calli (va_runV (As := [.int (nI k), .int 1]) (rest := []) ⟨hx, hb, hml, hown, hts⟩ (c_MD_missed1 l dC dI h0 th nm ap no am aw az au kn vP vQ vS vT vB vM vH ao ax np ay nl ad al sn ag ta nb kp km kw ko mk gp gw ho k (by first | assumption | omega | decide) (by first | assumption | omega | decide) (by first | assumption | omega | decide)) (cwV 2 hts (xgV wm_844 wm_846 wm_18 wm_34 wm_847) rfl rfl rfl (by decide +kernel) ⟨Nat.le_of_ble_eq_true rfl, Nat.le_of_ble_eq_true rfl⟩) ⟨xp_blind, va_recv hK hP (ci := 7) (q0 := 0) rfl rfl, fun U hU hW => ⟨rfl, hz.warm hW, by rw [hU]; exact hP.sub [0, 1, 2, 3, 4] rfl, va_K.moved hW.alike (hK.sub [0, 1, 2, 3] rfl)⟩⟩ rfl rfl hl.1 rfl (lv_room (Nat.le_of_ble_eq_true rfl)) d_MD_flat_11 ⟨Nat.le_of_ble_eq_true rfl, Nat.le_of_ble_eq_true rfl⟩) (fun r_3 h_4 => ?_)
  subst h_4
  refine lv_i2l (v := (md_x1 gp gw mk vP vQ vT vM vB k).toInt64) hx hb d_MD_flat_14 rfl ?_
  refine lv_lstore (lv' := [(4, .long ((md_x1 gp gw mk vP vQ vT vM vB k).toInt64)), (2, .long ((md_x0 gp gw mk vP vQ vS vM vB k).toInt64)), (0, .ref h0), (1, .int (nI k))]) hx hb d_MD_flat_15 hl (by decide) rfl (fun ls hl => ?_)
  refine lv_lload_n hx hb d_MD_flat_17 rfl (lv_at hl 1 rfl) ?_
  refine lv_lload_n hx hb d_MD_flat_18 rfl (lv_at hl 1 rfl) ?_
  refine lv_lmul hx hb d_MD_flat_19 ?_
  refine lv_lload hx hb d_MD_flat_20 (lv_at hl 0 rfl) ?_
  refine lv_lload hx hb d_MD_flat_22 (lv_at hl 0 rfl) ?_
  refine lv_lmul hx hb d_MD_flat_24 ?_
  refine lv_ladd hx hb d_MD_flat_25 ?_
  exact xr_lret (v := (((md_x0 gp gw mk vP vQ vS vM vB k).toInt64) * ((md_x0 gp gw mk vP vQ vS vM vB k).toInt64)) + (((md_x1 gp gw mk vP vQ vT vM vB k).toInt64) * ((md_x1 gp gw mk vP vQ vT vM vB k).toInt64))) hx hb hr (by exact rfl) d_MD_flat_26 hlocks
set_option maxHeartbeats 4000000 in
set_option maxRecDepth 100000 in
/-- place(0) -/
theorem c_MD_place_y0 (l : Launch) (dC : Nat → ClassId) (dI : Nat → Nat → Nat) (sz : Nat) (h0 : Nat) (th : Int32) (nm : Nat) (ap : Nat) (no : Nat) (am : Nat) (aw : Nat) (az : Nat) (au : Nat) (kn : Int32) (vP : Int64) (vQ : Int64) (vS : Int64) (vT : Int64) (vB : Int64) (vM : Int64) (vH : Int64) (ao : Nat) (ax : Nat) (np : Nat) (ay : Nat) (nl : Nat) (ad : Nat) (al : Nat) (sn : Nat) (ag : Nat) (ta : Nat) (nb : Int32) (ky : ClassId) (gy : Nat → Int32) (k : Nat) (hw : md_win (nI k) 0 (nI np - 1) ∧ md_win 0 0 2) (hkn : ¬ kn = -1) (hk : k < 30) (hMB : 0 < vM * vB) : Met l xy_MD_place xw_MD_place ({ frames := 2, cells := 0, slots := 0, locals := 51 }) (xp_w [.ref h0, .int (nI k), .int 0] sz (dC, dI) xCl [(h0, .inr (7, [.int th, .int (nI nm), .ref ap, .int (nI no), .ref am, .ref aw, .ref az, .ref au, .int kn, .long vP, .long vQ, .long vS, .long vT, .long vB, .long vM, .long vH, .ref ao, .ref ax, .int (nI np), .ref ay, .int (nI nl), .ref ad, .ref al, .int (nI sn), .ref ag, .int (nI ta), .int nb])), (ay, .inl (ky, 90, .inl gy))] [(ky, .int)]) (va_Qi (fun (r : Int32) (_ : Unit) => r = md_p0 vP vQ vS vM vB (gy (3 * k)) (gy (3 * k + 1))) (fun _ t => xb_w (dC, dI) xCl [(h0, .inr (7, [.int 0, .int (nI nm), .ref ap, .int (nI no), .ref am, .ref aw, .ref az, .ref au, .int kn, .long vP, .long vQ, .long vS, .long vT, .long vB, .long vM, .long vH, .ref ao, .ref ax, .int (nI np), .ref ay, .int (nI nl), .ref ad, .ref al, .int (nI sn), .ref ag, .int (nI ta), .int nb])), (ay, .inl (ky, 90, .inl gy))] [(ky, .int)] (va_A [(h0, .inr (7, [.int th, .int (nI nm), .ref ap, .int (nI no), .ref am, .ref aw, .ref az, .ref au, .int kn, .long vP, .long vQ, .long vS, .long vT, .long vB, .long vM, .long vH, .ref ao, .ref ax, .int (nI np), .ref ay, .int (nI nl), .ref ad, .ref al, .int (nI sn), .ref ag, .int (nI ta), .int nb])), (ay, .inl (ky, 90, .inl gy))] sz) t) (va_A [(h0, .inr (7, [.int th, .int (nI nm), .ref ap, .int (nI no), .ref am, .ref aw, .ref az, .ref au, .int kn, .long vP, .long vQ, .long vS, .long vT, .long vB, .long vM, .long vH, .ref ao, .ref ax, .int (nI np), .ref ay, .int (nI nl), .ref ad, .ref al, .int (nI sn), .ref ag, .int (nI ta), .int nb])), (ay, .inl (ky, 90, .inl gy))] sz)) 0 0 (va_A [(h0, .inr (7, [.int th, .int (nI nm), .ref ap, .int (nI no), .ref am, .ref aw, .ref az, .ref au, .int kn, .long vP, .long vQ, .long vS, .long vT, .long vB, .long vM, .long vH, .ref ao, .ref ax, .int (nI np), .ref ay, .int (nI nl), .ref ad, .ref al, .int (nI sn), .ref ag, .int (nI ta), .int nb])), (ay, .inl (ky, 90, .inl gy))] sz) := by
  refine Met.ofW (cc := prog_9_method_25_code) (maxL := 3) (ret := (some .int)) (by decide) rfl ?_
  intro p e s m args below meth c s₁ B hml hv
  obtain ⟨rfl, hsz, hz, hP, hK, hD0⟩ := hv
  have hx := B.exec
  have hb := B.bytes
  have hr := B.returns
  have hts := atoms_spec (ws := xw_MD_place) B.pre
  have hown : s.vm.findClass xR_MD = some m.cls := findClass_of_methodNamed B.named
  have hlocks := B.notSynchronized
  subst hsz
  have hD := hD0.self (sz := s.heap.size)
  generalize hAe : va_A [(h0, .inr (7, [.int th, .int (nI nm), .ref ap, .int (nI no), .ref am, .ref aw, .ref az, .ref au, .int kn, .long vP, .long vQ, .long vS, .long vT, .long vB, .long vM, .long vH, .ref ao, .ref ax, .int (nI np), .ref ay, .int (nI nl), .ref ad, .ref al, .int (nI sn), .ref ag, .int (nI ta), .int nb])), (ay, .inl (ky, 90, .inl gy))] s.heap.size = A at hD ⊢
  have hA : ∀ q : Nat, s.heap.size ≤ q → A q := fun q h => by rw [← hAe]; exact Or.inr h
  have hS : va_S A s.heap s.heap [] := va_S.rf
  have hP : va_P (dC, dI) xCl [(h0, .inr (7, [.int th, .int (nI nm), .ref ap, .int (nI no), .ref am, .ref aw, .ref az, .ref au, .int kn, .long vP, .long vQ, .long vS, .long vT, .long vB, .long vM, .long vH, .ref ao, .ref ax, .int (nI np), .ref ay, .int (nI nl), .ref ad, .ref al, .int (nI sn), .ref ag, .int (nI ta), .int nb])), (ay, .inl (ky, 90, .inl gy))] s.heap := hP
  have hl := lv_entry ([.ref h0, .int (nI k), .int 0]) (n := 3) (Nat.le_of_ble_eq_true rfl)
  rw [lg_entry_eq]
  generalize (lg_sl ([.ref h0, .int (nI k), .int 0]) ++ List.replicate (3 - (lg_sl ([.ref h0, .int (nI k), .int 0])).length) Slot.unset).toArray = ls at hl ⊢
  have hl : lv_has ls 3 [(0, .ref h0), (1, .int (nI k)), (2, .int 0)] := hl
  refine lv_aload_n hx hb d_MD_place_0 rfl (lv_at hl 0 rfl) ?_
  refine lv_iload_n hx hb d_MD_place_1 rfl (lv_at hl 1 rfl) ?_
  refine lv_iconst (v := 0) hx hb d_MD_place_2 (by decide) ?_
  refine lv_aload_n hx hb d_MD_place_3 rfl (lv_at hl 0 rfl) ?_
  refine va_get (D := (dC, dI)) (ci := 7) (v := .int (nI np)) (C := xR_MD) (T := xT_MD) (N := 27) hx hb hts (fun w h => List.mem_cons_of_mem _ (iw_MD w h)) hown hK hP 0 rfl rfl 18 (by decide) (hts _ (List.mem_cons_of_mem _ wm_715)) (fun _ h9 => h9) rfl d_MD_place_4 ?_
  refine lv_iconst (v := 1) hx hb d_MD_place_7 (by decide) ?_
  refine lv_isub hx hb d_MD_place_8 ?_
  refine xr_calli (va_runS (As := [.int (nI k), .int 0, .int ((nI np) - 1)]) (rest := [.ref h0]) ⟨hx, hb, hml, hown, hts⟩ (c_MD_within l dC dI (nI k) 0 ((nI np) - 1)) (va_cwS 3 hts (xgS wm_790 wm_791 wm_34 wm_792) rfl rfl rfl (by decide +kernel) ⟨Nat.le_of_ble_eq_true rfl, Nat.le_of_ble_eq_true rfl⟩) ⟨xp_blind, fun U hU hW => ⟨rfl, hz.warm hW, by rw [hU]; exact hP.sub [] rfl, va_K.moved hW.alike (hK.sub [] rfl)⟩⟩ rfl rfl hl.1 rfl (lv_room (Nat.le_of_ble_eq_true rfl)) d_MD_place_9 ⟨Nat.le_of_ble_eq_true rfl, Nat.le_of_ble_eq_true rfl⟩) (fun r_1 h_2 => ?_)
  subst h_2
  refine lv_if_eq (tgt := 28) hx hb d_MD_place_12 (by decide) (fun c_3 => ?_) (fun c_3 => ?_)
  · exact absurd hw.1 (bI_f rfl c_3)
  · have b_4 := bI_t (rfl : bI (md_win (nI k) 0 ((nI np) - 1)) = _) c_3
    refine lv_iload_n hx hb d_MD_place_15 rfl (lv_at hl 2 rfl) ?_
    refine lv_iconst (v := 0) hx hb d_MD_place_16 (by decide) ?_
    refine lv_iconst (v := 2) hx hb d_MD_place_17 (by decide) ?_
    refine xr_calli (va_runS (As := [.int 0, .int 0, .int 2]) (rest := [.ref h0]) ⟨hx, hb, hml, hown, hts⟩ (c_MD_within l dC dI 0 0 2) (va_cwS 3 hts (xgS wm_790 wm_791 wm_34 wm_792) rfl rfl rfl (by decide +kernel) ⟨Nat.le_of_ble_eq_true rfl, Nat.le_of_ble_eq_true rfl⟩) ⟨xp_blind, fun U hU hW => ⟨rfl, hz.warm hW, by rw [hU]; exact hP.sub [] rfl, va_K.moved hW.alike (hK.sub [] rfl)⟩⟩ rfl rfl hl.1 rfl (lv_room (Nat.le_of_ble_eq_true rfl)) d_MD_place_18 ⟨Nat.le_of_ble_eq_true rfl, Nat.le_of_ble_eq_true rfl⟩) (fun r_5 h_6 => ?_)
    subst h_6
    refine lv_if_eq (tgt := 28) hx hb d_MD_place_21 (by decide) (fun c_7 => ?_) (fun c_7 => ?_)
    · exact absurd hw.2 (bI_f rfl c_7)
    · have b_8 := bI_t (rfl : bI (md_win 0 0 2) = _) c_7
      refine lv_iconst (v := 1) hx hb d_MD_place_24 (by decide) ?_
      refine lv_goto (tgt := 29) hx hb d_MD_place_25 (by decide) ?_
      refine lv_aload_n hx hb d_MD_place_29 rfl (lv_at hl 0 rfl) ?_
      refine va_get (D := (dC, dI)) (ci := 7) (v := .int kn) (C := xR_MD) (T := xT_MD) (N := 27) hx hb hts (fun w h => List.mem_cons_of_mem _ (iw_MD w h)) hown hK hP 0 rfl rfl 8 (by decide) (hts _ (List.mem_cons_of_mem _ wm_705)) (fun _ h9 => h9) rfl d_MD_place_30 ?_
      refine lv_iconst (v := (-1)) hx hb d_MD_place_33 (by decide) ?_
      refine lv_icmp_eq (tgt := 41) hx hb d_MD_place_34 (by decide) (fun c_9 => ?_) (fun c_9 => ?_)
      · exact absurd c_9 hkn
      · refine lv_iconst (v := 1) hx hb d_MD_place_37 (by decide) ?_
        refine lv_goto (tgt := 42) hx hb d_MD_place_38 (by decide) ?_
        refine lv_iconst (v := 1) hx hb d_MD_place_42 (by decide) ?_
        have hPc := hP.sub (ws' := [(h0, .inr (7, [.int th, .int (nI nm), .ref ap, .int (nI no), .ref am, .ref aw, .ref az, .ref au, .int kn, .long vP, .long vQ, .long vS, .long vT, .long vB, .long vM, .long vH, .ref ao, .ref ax, .int (nI np), .ref ay, .int (nI nl), .ref ad, .ref al, .int (nI sn), .ref ag, .int (nI ta), .int nb]))]) [0] rfl
        have hDc := hD.sub (ws' := [(h0, .inr (7, [.int th, .int (nI nm), .ref ap, .int (nI no), .ref am, .ref aw, .ref az, .ref au, .int kn, .long vP, .long vQ, .long vS, .long vT, .long vB, .long vM, .long vH, .ref ao, .ref ax, .int (nI np), .ref ay, .int (nI nl), .ref ad, .ref al, .int (nI sn), .ref ag, .int (nI ta), .int nb]))]) [0] (by decide) rfl
        have hKc := hK.sub (tys' := []) [] rfl
        have hFc := va_free (wc := [(h0, .inr (7, [.int th, .int (nI nm), .ref ap, .int (nI no), .ref am, .ref aw, .ref az, .ref au, .int kn, .long vP, .long vQ, .long vS, .long vT, .long vB, .long vM, .long vH, .ref ao, .ref ax, .int (nI np), .ref ay, .int (nI nl), .ref ad, .ref al, .int (nI sn), .ref ag, .int (nI ta), .int nb]))]) hD hS hA [0] rfl
        refine va_calli (va_runV (As := [.int 1, .int 1, .int 1]) (rest := []) ⟨hx, hb, hml, hown, hts⟩ (c_MD_goes l dC dI s.heap.size h0 th nm ap no am aw az au kn vP vQ vS vT vB vM vH ao ax np ay nl ad al sn ag ta nb 1 1 1) (cwV 3 hts (xgV wm_793 wm_795 wm_13 wm_34 wm_796) rfl rfl rfl (by decide +kernel) ⟨Nat.le_of_ble_eq_true rfl, Nat.le_of_ble_eq_true rfl⟩) ⟨xw_blind, va_recv hKc hPc (ci := 7) (q0 := 0) rfl rfl, fun U hU hW => ⟨rfl, by rw [hU], hz.warm hW, by rw [hU]; exact hPc, va_K.moved hW.alike hKc, hDc.weaken (fun _ _ _ _ => trivial)⟩⟩ rfl rfl hl.1 rfl (lv_room (Nat.le_of_ble_eq_true rfl)) d_MD_place_43 ⟨Nat.le_of_ble_eq_true rfl, Nat.le_of_ble_eq_true rfl⟩) hS (fun q _ h => hFc q h) hFc (fun r_10 _ t H1 locs ht hvm hw_11 hB hz1 hk1 hS => ?_)
        obtain ⟨hP1, hK1, hD1⟩ := hB
        rw [ht] at hP1
        have hK1 := va_K.moved hvm.symm hK1
        obtain ⟨hP, hD⟩ := va_join (wr := [(ay, .inl (ky, 90, .inl gy))]) (w1 := [(h0, .inr (7, [.int (md_th 1 1 1), .int (nI nm), .ref ap, .int (nI no), .ref am, .ref aw, .ref az, .ref au, .int kn, .long vP, .long vQ, .long vS, .long vT, .long vB, .long vM, .long vH, .ref ao, .ref ax, .int (nI np), .ref ay, .int (nI nl), .ref ad, .ref al, .int (nI sn), .ref ag, .int (nI ta), .int nb]))]) hP hD [0] [1] rfl rfl (by decide) (by decide) hk1 hFc hP1 hD1
        generalize H1 = H at hP hS ⊢
        have hP : va_P (dC, dI) xCl [(ay, .inl (ky, 90, .inl gy)), (h0, .inr (7, [.int (md_th 1 1 1), .int (nI nm), .ref ap, .int (nI no), .ref am, .ref aw, .ref az, .ref au, .int kn, .long vP, .long vQ, .long vS, .long vT, .long vB, .long vM, .long vH, .ref ao, .ref ax, .int (nI np), .ref ay, .int (nI nl), .ref ad, .ref al, .int (nI sn), .ref ag, .int (nI ta), .int nb]))] H := hP
        have hD : va_D A [(ay, .inl (ky, 90, .inl gy)), (h0, .inr (7, [.int (md_th 1 1 1), .int (nI nm), .ref ap, .int (nI no), .ref am, .ref aw, .ref az, .ref au, .int kn, .long vP, .long vQ, .long vS, .long vT, .long vB, .long vM, .long vH, .ref ao, .ref ax, .int (nI np), .ref ay, .int (nI nl), .ref ad, .ref al, .int (nI sn), .ref ag, .int (nI ta), .int nb]))] := hD
        subst hw_11
        refine lv_if_ne (tgt := 51) hx hb d_MD_place_46 (by decide) (fun c_12 => ?_) (fun c_12 => ?_)
        · have b_13 := bI_t (rfl : bI (md_th 1 1 1 = 0) = _) c_12
          refine lv_aload_n hx hb d_MD_place_51 rfl (lv_at hl 0 rfl) ?_
          refine lv_aload_n hx hb d_MD_place_52 rfl (lv_at hl 0 rfl) ?_
          refine va_get (D := (dC, dI)) (ci := 7) (v := .ref ay) (C := xR_MD) (T := xT_MD) (N := 27) hx hb hts (fun w h => List.mem_cons_of_mem _ (iw_MD w h)) hown hK hP 1 rfl rfl 19 (by decide) (hts _ (List.mem_cons_of_mem _ wm_716)) (fun _ h9 => h9) rfl d_MD_place_53 ?_
          refine lv_iconst (v := 3) hx hb d_MD_place_56 (by decide) ?_
          refine lv_iload_n hx hb d_MD_place_57 rfl (lv_at hl 1 rfl) ?_
          refine lv_imul hx hb d_MD_place_58 ?_
          refine xv_i (y := nI (3 * k)) (pk_mul 3 _) ?_
          refine xa_iald hx hb hK hP 0 0 rfl rfl (3 * k) rfl (by omega) (by decide) d_MD_place_59 ?_
          refine lv_aload_n hx hb d_MD_place_60 rfl (lv_at hl 0 rfl) ?_
          refine va_get (D := (dC, dI)) (ci := 7) (v := .ref ay) (C := xR_MD) (T := xT_MD) (N := 27) hx hb hts (fun w h => List.mem_cons_of_mem _ (iw_MD w h)) hown hK hP 1 rfl rfl 19 (by decide) (hts _ (List.mem_cons_of_mem _ wm_716)) (fun _ h9 => h9) rfl d_MD_place_61 ?_
          refine lv_iconst (v := 3) hx hb d_MD_place_64 (by decide) ?_
          refine lv_iload_n hx hb d_MD_place_65 rfl (lv_at hl 1 rfl) ?_
          refine lv_imul hx hb d_MD_place_66 ?_
          refine xv_i (y := nI (3 * k)) (pk_mul 3 _) ?_
          refine lv_iconst (v := 1) hx hb d_MD_place_67 (by decide) ?_
          refine lv_iadd hx hb d_MD_place_68 ?_
          refine xv_i (y := nI ((3 * k) + 1)) (nI_1 _) ?_
          refine xa_iald hx hb hK hP 0 0 rfl rfl ((3 * k) + 1) rfl (by omega) (by decide) d_MD_place_69 ?_
          refine lv_aload_n hx hb d_MD_place_70 rfl (lv_at hl 0 rfl) ?_
          refine va_get (D := (dC, dI)) (ci := 7) (v := .ref ay) (C := xR_MD) (T := xT_MD) (N := 27) hx hb hts (fun w h => List.mem_cons_of_mem _ (iw_MD w h)) hown hK hP 1 rfl rfl 19 (by decide) (hts _ (List.mem_cons_of_mem _ wm_716)) (fun _ h9 => h9) rfl d_MD_place_71 ?_
          refine lv_iconst (v := 3) hx hb d_MD_place_74 (by decide) ?_
          refine lv_iload_n hx hb d_MD_place_75 rfl (lv_at hl 1 rfl) ?_
          refine lv_imul hx hb d_MD_place_76 ?_
          refine xv_i (y := nI (3 * k)) (pk_mul 3 _) ?_
          refine lv_iconst (v := 2) hx hb d_MD_place_77 (by decide) ?_
          refine lv_iadd hx hb d_MD_place_78 ?_
          refine xv_i (y := nI ((3 * k) + 2)) (nI_add _ 2) ?_
          refine xa_iald hx hb hK hP 0 0 rfl rfl ((3 * k) + 2) rfl (by omega) (by decide) d_MD_place_79 ?_
          refine lv_iload_n hx hb d_MD_place_80 rfl (lv_at hl 2 rfl) ?_
          refine xr_calli (va_runV (As := [.int (gy (3 * k)), .int (gy ((3 * k) + 1)), .int (gy ((3 * k) + 2)), .int 0]) (rest := []) ⟨hx, hb, hml, hown, hts⟩ (c_MD_placeOf0 l dC dI h0 (md_th 1 1 1) nm ap no am aw az au kn vP vQ vS vT vB vM vH ao ax np ay nl ad al sn ag ta nb (gy (3 * k)) (gy ((3 * k) + 1)) (gy ((3 * k) + 2)) (by first | assumption | omega | decide)) (cwV 4 hts (xgV wm_848 wm_850 wm_19 wm_34 wm_851) rfl rfl rfl (by decide +kernel) ⟨Nat.le_of_ble_eq_true rfl, Nat.le_of_ble_eq_true rfl⟩) ⟨xp_blind, va_recv hK hP (ci := 7) (q0 := 1) rfl rfl, fun U hU hW => ⟨rfl, hz.warm hW, by rw [hU]; exact hP.sub [1] rfl, va_K.moved hW.alike (hK.sub [] rfl)⟩⟩ rfl rfl hl.1 rfl (lv_room (Nat.le_of_ble_eq_true rfl)) d_MD_place_81 ⟨Nat.le_of_ble_eq_true rfl, Nat.le_of_ble_eq_true rfl⟩) (fun r_14 h_15 => ?_)
          subst h_15
          rw [md_th_0 (by decide) (by decide) (by decide)] at hP hD
          have hP9 := hP.sub (ws' := [(h0, .inr (7, [.int 0, .int (nI nm), .ref ap, .int (nI no), .ref am, .ref aw, .ref az, .ref au, .int kn, .long vP, .long vQ, .long vS, .long vT, .long vB, .long vM, .long vH, .ref ao, .ref ax, .int (nI np), .ref ay, .int (nI nl), .ref ad, .ref al, .int (nI sn), .ref ag, .int (nI ta), .int nb])), (ay, .inl (ky, 90, .inl gy))]) [1, 0] rfl
          have hD9 := hD.sub (ws' := [(h0, .inr (7, [.int 0, .int (nI nm), .ref ap, .int (nI no), .ref am, .ref aw, .ref az, .ref au, .int kn, .long vP, .long vQ, .long vS, .long vT, .long vB, .long vM, .long vH, .ref ao, .ref ax, .int (nI np), .ref ay, .int (nI nl), .ref ad, .ref al, .int (nI sn), .ref ag, .int (nI ta), .int nb])), (ay, .inl (ky, 90, .inl gy))]) [1, 0] (by decide) rfl
          have hK9 := hK.sub (tys' := [(ky, .int)]) [0] rfl
          exact W.iret (v := md_p0 vP vQ vS vM vB (gy (3 * k)) (gy ((3 * k) + 1))) hx hb hr (fun t ht hW => ⟨⟨md_p0 vP vQ vS vM vB (gy (3 * k)) (gy ((3 * k) + 1)), (), rfl, rfl, ⟨by rw [ht]; exact hP9, va_K.moved hW.alike hK9, by exact hD9⟩⟩, hS.F ht⟩) hS.2.2 d_MD_place_84 hlocks
        · exact absurd (md_th_0 (by decide) (by decide) (by decide)) (bI_f rfl c_12)
set_option maxHeartbeats 4000000 in
set_option maxRecDepth 100000 in
/-- place(1) -/
theorem c_MD_place_y1 (l : Launch) (dC : Nat → ClassId) (dI : Nat → Nat → Nat) (sz : Nat) (h0 : Nat) (th : Int32) (nm : Nat) (ap : Nat) (no : Nat) (am : Nat) (aw : Nat) (az : Nat) (au : Nat) (kn : Int32) (vP : Int64) (vQ : Int64) (vS : Int64) (vT : Int64) (vB : Int64) (vM : Int64) (vH : Int64) (ao : Nat) (ax : Nat) (np : Nat) (ay : Nat) (nl : Nat) (ad : Nat) (al : Nat) (sn : Nat) (ag : Nat) (ta : Nat) (nb : Int32) (ky : ClassId) (gy : Nat → Int32) (k : Nat) (hw : md_win (nI k) 0 (nI np - 1) ∧ md_win 1 0 2) (hkn : ¬ kn = -1) (hk : k < 30) (hMB : 0 < vM * vB) : Met l xy_MD_place xw_MD_place ({ frames := 2, cells := 0, slots := 0, locals := 51 }) (xp_w [.ref h0, .int (nI k), .int 1] sz (dC, dI) xCl [(h0, .inr (7, [.int th, .int (nI nm), .ref ap, .int (nI no), .ref am, .ref aw, .ref az, .ref au, .int kn, .long vP, .long vQ, .long vS, .long vT, .long vB, .long vM, .long vH, .ref ao, .ref ax, .int (nI np), .ref ay, .int (nI nl), .ref ad, .ref al, .int (nI sn), .ref ag, .int (nI ta), .int nb])), (ay, .inl (ky, 90, .inl gy))] [(ky, .int)]) (va_Qi (fun (r : Int32) (_ : Unit) => r = md_p1 vP vQ vT vM vB (gy (3 * k)) (gy (3 * k + 1))) (fun _ t => xb_w (dC, dI) xCl [(h0, .inr (7, [.int 0, .int (nI nm), .ref ap, .int (nI no), .ref am, .ref aw, .ref az, .ref au, .int kn, .long vP, .long vQ, .long vS, .long vT, .long vB, .long vM, .long vH, .ref ao, .ref ax, .int (nI np), .ref ay, .int (nI nl), .ref ad, .ref al, .int (nI sn), .ref ag, .int (nI ta), .int nb])), (ay, .inl (ky, 90, .inl gy))] [(ky, .int)] (va_A [(h0, .inr (7, [.int th, .int (nI nm), .ref ap, .int (nI no), .ref am, .ref aw, .ref az, .ref au, .int kn, .long vP, .long vQ, .long vS, .long vT, .long vB, .long vM, .long vH, .ref ao, .ref ax, .int (nI np), .ref ay, .int (nI nl), .ref ad, .ref al, .int (nI sn), .ref ag, .int (nI ta), .int nb])), (ay, .inl (ky, 90, .inl gy))] sz) t) (va_A [(h0, .inr (7, [.int th, .int (nI nm), .ref ap, .int (nI no), .ref am, .ref aw, .ref az, .ref au, .int kn, .long vP, .long vQ, .long vS, .long vT, .long vB, .long vM, .long vH, .ref ao, .ref ax, .int (nI np), .ref ay, .int (nI nl), .ref ad, .ref al, .int (nI sn), .ref ag, .int (nI ta), .int nb])), (ay, .inl (ky, 90, .inl gy))] sz)) 0 0 (va_A [(h0, .inr (7, [.int th, .int (nI nm), .ref ap, .int (nI no), .ref am, .ref aw, .ref az, .ref au, .int kn, .long vP, .long vQ, .long vS, .long vT, .long vB, .long vM, .long vH, .ref ao, .ref ax, .int (nI np), .ref ay, .int (nI nl), .ref ad, .ref al, .int (nI sn), .ref ag, .int (nI ta), .int nb])), (ay, .inl (ky, 90, .inl gy))] sz) := by
  refine Met.ofW (cc := prog_9_method_25_code) (maxL := 3) (ret := (some .int)) (by decide) rfl ?_
  intro p e s m args below meth c s₁ B hml hv
  obtain ⟨rfl, hsz, hz, hP, hK, hD0⟩ := hv
  have hx := B.exec
  have hb := B.bytes
  have hr := B.returns
  have hts := atoms_spec (ws := xw_MD_place) B.pre
  have hown : s.vm.findClass xR_MD = some m.cls := findClass_of_methodNamed B.named
  have hlocks := B.notSynchronized
  subst hsz
  have hD := hD0.self (sz := s.heap.size)
  generalize hAe : va_A [(h0, .inr (7, [.int th, .int (nI nm), .ref ap, .int (nI no), .ref am, .ref aw, .ref az, .ref au, .int kn, .long vP, .long vQ, .long vS, .long vT, .long vB, .long vM, .long vH, .ref ao, .ref ax, .int (nI np), .ref ay, .int (nI nl), .ref ad, .ref al, .int (nI sn), .ref ag, .int (nI ta), .int nb])), (ay, .inl (ky, 90, .inl gy))] s.heap.size = A at hD ⊢
  have hA : ∀ q : Nat, s.heap.size ≤ q → A q := fun q h => by rw [← hAe]; exact Or.inr h
  have hS : va_S A s.heap s.heap [] := va_S.rf
  have hP : va_P (dC, dI) xCl [(h0, .inr (7, [.int th, .int (nI nm), .ref ap, .int (nI no), .ref am, .ref aw, .ref az, .ref au, .int kn, .long vP, .long vQ, .long vS, .long vT, .long vB, .long vM, .long vH, .ref ao, .ref ax, .int (nI np), .ref ay, .int (nI nl), .ref ad, .ref al, .int (nI sn), .ref ag, .int (nI ta), .int nb])), (ay, .inl (ky, 90, .inl gy))] s.heap := hP
  have hl := lv_entry ([.ref h0, .int (nI k), .int 1]) (n := 3) (Nat.le_of_ble_eq_true rfl)
  rw [lg_entry_eq]
  generalize (lg_sl ([.ref h0, .int (nI k), .int 1]) ++ List.replicate (3 - (lg_sl ([.ref h0, .int (nI k), .int 1])).length) Slot.unset).toArray = ls at hl ⊢
  have hl : lv_has ls 3 [(0, .ref h0), (1, .int (nI k)), (2, .int 1)] := hl
  refine lv_aload_n hx hb d_MD_place_0 rfl (lv_at hl 0 rfl) ?_
  refine lv_iload_n hx hb d_MD_place_1 rfl (lv_at hl 1 rfl) ?_
  refine lv_iconst (v := 0) hx hb d_MD_place_2 (by decide) ?_
  refine lv_aload_n hx hb d_MD_place_3 rfl (lv_at hl 0 rfl) ?_
  refine va_get (D := (dC, dI)) (ci := 7) (v := .int (nI np)) (C := xR_MD) (T := xT_MD) (N := 27) hx hb hts (fun w h => List.mem_cons_of_mem _ (iw_MD w h)) hown hK hP 0 rfl rfl 18 (by decide) (hts _ (List.mem_cons_of_mem _ wm_715)) (fun _ h9 => h9) rfl d_MD_place_4 ?_
  refine lv_iconst (v := 1) hx hb d_MD_place_7 (by decide) ?_
  refine lv_isub hx hb d_MD_place_8 ?_
  refine xr_calli (va_runS (As := [.int (nI k), .int 0, .int ((nI np) - 1)]) (rest := [.ref h0]) ⟨hx, hb, hml, hown, hts⟩ (c_MD_within l dC dI (nI k) 0 ((nI np) - 1)) (va_cwS 3 hts (xgS wm_790 wm_791 wm_34 wm_792) rfl rfl rfl (by decide +kernel) ⟨Nat.le_of_ble_eq_true rfl, Nat.le_of_ble_eq_true rfl⟩) ⟨xp_blind, fun U hU hW => ⟨rfl, hz.warm hW, by rw [hU]; exact hP.sub [] rfl, va_K.moved hW.alike (hK.sub [] rfl)⟩⟩ rfl rfl hl.1 rfl (lv_room (Nat.le_of_ble_eq_true rfl)) d_MD_place_9 ⟨Nat.le_of_ble_eq_true rfl, Nat.le_of_ble_eq_true rfl⟩) (fun r_1 h_2 => ?_)
  subst h_2
  refine lv_if_eq (tgt := 28) hx hb d_MD_place_12 (by decide) (fun c_3 => ?_) (fun c_3 => ?_)
  · exact absurd hw.1 (bI_f rfl c_3)
  · have b_4 := bI_t (rfl : bI (md_win (nI k) 0 ((nI np) - 1)) = _) c_3
    refine lv_iload_n hx hb d_MD_place_15 rfl (lv_at hl 2 rfl) ?_
    refine lv_iconst (v := 0) hx hb d_MD_place_16 (by decide) ?_
    refine lv_iconst (v := 2) hx hb d_MD_place_17 (by decide) ?_
    refine xr_calli (va_runS (As := [.int 1, .int 0, .int 2]) (rest := [.ref h0]) ⟨hx, hb, hml, hown, hts⟩ (c_MD_within l dC dI 1 0 2) (va_cwS 3 hts (xgS wm_790 wm_791 wm_34 wm_792) rfl rfl rfl (by decide +kernel) ⟨Nat.le_of_ble_eq_true rfl, Nat.le_of_ble_eq_true rfl⟩) ⟨xp_blind, fun U hU hW => ⟨rfl, hz.warm hW, by rw [hU]; exact hP.sub [] rfl, va_K.moved hW.alike (hK.sub [] rfl)⟩⟩ rfl rfl hl.1 rfl (lv_room (Nat.le_of_ble_eq_true rfl)) d_MD_place_18 ⟨Nat.le_of_ble_eq_true rfl, Nat.le_of_ble_eq_true rfl⟩) (fun r_5 h_6 => ?_)
    subst h_6
    refine lv_if_eq (tgt := 28) hx hb d_MD_place_21 (by decide) (fun c_7 => ?_) (fun c_7 => ?_)
    · exact absurd hw.2 (bI_f rfl c_7)
    · have b_8 := bI_t (rfl : bI (md_win 1 0 2) = _) c_7
      refine lv_iconst (v := 1) hx hb d_MD_place_24 (by decide) ?_
      refine lv_goto (tgt := 29) hx hb d_MD_place_25 (by decide) ?_
      refine lv_aload_n hx hb d_MD_place_29 rfl (lv_at hl 0 rfl) ?_
      refine va_get (D := (dC, dI)) (ci := 7) (v := .int kn) (C := xR_MD) (T := xT_MD) (N := 27) hx hb hts (fun w h => List.mem_cons_of_mem _ (iw_MD w h)) hown hK hP 0 rfl rfl 8 (by decide) (hts _ (List.mem_cons_of_mem _ wm_705)) (fun _ h9 => h9) rfl d_MD_place_30 ?_
      refine lv_iconst (v := (-1)) hx hb d_MD_place_33 (by decide) ?_
      refine lv_icmp_eq (tgt := 41) hx hb d_MD_place_34 (by decide) (fun c_9 => ?_) (fun c_9 => ?_)
      · exact absurd c_9 hkn
      · refine lv_iconst (v := 1) hx hb d_MD_place_37 (by decide) ?_
        refine lv_goto (tgt := 42) hx hb d_MD_place_38 (by decide) ?_
        refine lv_iconst (v := 1) hx hb d_MD_place_42 (by decide) ?_
        have hPc := hP.sub (ws' := [(h0, .inr (7, [.int th, .int (nI nm), .ref ap, .int (nI no), .ref am, .ref aw, .ref az, .ref au, .int kn, .long vP, .long vQ, .long vS, .long vT, .long vB, .long vM, .long vH, .ref ao, .ref ax, .int (nI np), .ref ay, .int (nI nl), .ref ad, .ref al, .int (nI sn), .ref ag, .int (nI ta), .int nb]))]) [0] rfl
        have hDc := hD.sub (ws' := [(h0, .inr (7, [.int th, .int (nI nm), .ref ap, .int (nI no), .ref am, .ref aw, .ref az, .ref au, .int kn, .long vP, .long vQ, .long vS, .long vT, .long vB, .long vM, .long vH, .ref ao, .ref ax, .int (nI np), .ref ay, .int (nI nl), .ref ad, .ref al, .int (nI sn), .ref ag, .int (nI ta), .int nb]))]) [0] (by decide) rfl
        have hKc := hK.sub (tys' := []) [] rfl
        have hFc := va_free (wc := [(h0, .inr (7, [.int th, .int (nI nm), .ref ap, .int (nI no), .ref am, .ref aw, .ref az, .ref au, .int kn, .long vP, .long vQ, .long vS, .long vT, .long vB, .long vM, .long vH, .ref ao, .ref ax, .int (nI np), .ref ay, .int (nI nl), .ref ad, .ref al, .int (nI sn), .ref ag, .int (nI ta), .int nb]))]) hD hS hA [0] rfl
        refine va_calli (va_runV (As := [.int 1, .int 1, .int 1]) (rest := []) ⟨hx, hb, hml, hown, hts⟩ (c_MD_goes l dC dI s.heap.size h0 th nm ap no am aw az au kn vP vQ vS vT vB vM vH ao ax np ay nl ad al sn ag ta nb 1 1 1) (cwV 3 hts (xgV wm_793 wm_795 wm_13 wm_34 wm_796) rfl rfl rfl (by decide +kernel) ⟨Nat.le_of_ble_eq_true rfl, Nat.le_of_ble_eq_true rfl⟩) ⟨xw_blind, va_recv hKc hPc (ci := 7) (q0 := 0) rfl rfl, fun U hU hW => ⟨rfl, by rw [hU], hz.warm hW, by rw [hU]; exact hPc, va_K.moved hW.alike hKc, hDc.weaken (fun _ _ _ _ => trivial)⟩⟩ rfl rfl hl.1 rfl (lv_room (Nat.le_of_ble_eq_true rfl)) d_MD_place_43 ⟨Nat.le_of_ble_eq_true rfl, Nat.le_of_ble_eq_true rfl⟩) hS (fun q _ h => hFc q h) hFc (fun r_10 _ t H1 locs ht hvm hw_11 hB hz1 hk1 hS => ?_)
        obtain ⟨hP1, hK1, hD1⟩ := hB
        rw [ht] at hP1
        have hK1 := va_K.moved hvm.symm hK1
        obtain ⟨hP, hD⟩ := va_join (wr := [(ay, .inl (ky, 90, .inl gy))]) (w1 := [(h0, .inr (7, [.int (md_th 1 1 1), .int (nI nm), .ref ap, .int (nI no), .ref am, .ref aw, .ref az, .ref au, .int kn, .long vP, .long vQ, .long vS, .long vT, .long vB, .long vM, .long vH, .ref ao, .ref ax, .int (nI np), .ref ay, .int (nI nl), .ref ad, .ref al, .int (nI sn), .ref ag, .int (nI ta), .int nb]))]) hP hD [0] [1] rfl rfl (by decide) (by decide) hk1 hFc hP1 hD1
        generalize H1 = H at hP hS ⊢
        have hP : va_P (dC, dI) xCl [(ay, .inl (ky, 90, .inl gy)), (h0, .inr (7, [.int (md_th 1 1 1), .int (nI nm), .ref ap, .int (nI no), .ref am, .ref aw, .ref az, .ref au, .int kn, .long vP, .long vQ, .long vS, .long vT, .long vB, .long vM, .long vH, .ref ao, .ref ax, .int (nI np), .ref ay, .int (nI nl), .ref ad, .ref al, .int (nI sn), .ref ag, .int (nI ta), .int nb]))] H := hP
        have hD : va_D A [(ay, .inl (ky, 90, .inl gy)), (h0, .inr (7, [.int (md_th 1 1 1), .int (nI nm), .ref ap, .int (nI no), .ref am, .ref aw, .ref az, .ref au, .int kn, .long vP, .long vQ, .long vS, .long vT, .long vB, .long vM, .long vH, .ref ao, .ref ax, .int (nI np), .ref ay, .int (nI nl), .ref ad, .ref al, .int (nI sn), .ref ag, .int (nI ta), .int nb]))] := hD
        subst hw_11
        refine lv_if_ne (tgt := 51) hx hb d_MD_place_46 (by decide) (fun c_12 => ?_) (fun c_12 => ?_)
        · have b_13 := bI_t (rfl : bI (md_th 1 1 1 = 0) = _) c_12
          refine lv_aload_n hx hb d_MD_place_51 rfl (lv_at hl 0 rfl) ?_
          refine lv_aload_n hx hb d_MD_place_52 rfl (lv_at hl 0 rfl) ?_
          refine va_get (D := (dC, dI)) (ci := 7) (v := .ref ay) (C := xR_MD) (T := xT_MD) (N := 27) hx hb hts (fun w h => List.mem_cons_of_mem _ (iw_MD w h)) hown hK hP 1 rfl rfl 19 (by decide) (hts _ (List.mem_cons_of_mem _ wm_716)) (fun _ h9 => h9) rfl d_MD_place_53 ?_
          refine lv_iconst (v := 3) hx hb d_MD_place_56 (by decide) ?_
          refine lv_iload_n hx hb d_MD_place_57 rfl (lv_at hl 1 rfl) ?_
          refine lv_imul hx hb d_MD_place_58 ?_
          refine xv_i (y := nI (3 * k)) (pk_mul 3 _) ?_
          refine xa_iald hx hb hK hP 0 0 rfl rfl (3 * k) rfl (by omega) (by decide) d_MD_place_59 ?_
          refine lv_aload_n hx hb d_MD_place_60 rfl (lv_at hl 0 rfl) ?_
          refine va_get (D := (dC, dI)) (ci := 7) (v := .ref ay) (C := xR_MD) (T := xT_MD) (N := 27) hx hb hts (fun w h => List.mem_cons_of_mem _ (iw_MD w h)) hown hK hP 1 rfl rfl 19 (by decide) (hts _ (List.mem_cons_of_mem _ wm_716)) (fun _ h9 => h9) rfl d_MD_place_61 ?_
          refine lv_iconst (v := 3) hx hb d_MD_place_64 (by decide) ?_
          refine lv_iload_n hx hb d_MD_place_65 rfl (lv_at hl 1 rfl) ?_
          refine lv_imul hx hb d_MD_place_66 ?_
          refine xv_i (y := nI (3 * k)) (pk_mul 3 _) ?_
          refine lv_iconst (v := 1) hx hb d_MD_place_67 (by decide) ?_
          refine lv_iadd hx hb d_MD_place_68 ?_
          refine xv_i (y := nI ((3 * k) + 1)) (nI_1 _) ?_
          refine xa_iald hx hb hK hP 0 0 rfl rfl ((3 * k) + 1) rfl (by omega) (by decide) d_MD_place_69 ?_
          refine lv_aload_n hx hb d_MD_place_70 rfl (lv_at hl 0 rfl) ?_
          refine va_get (D := (dC, dI)) (ci := 7) (v := .ref ay) (C := xR_MD) (T := xT_MD) (N := 27) hx hb hts (fun w h => List.mem_cons_of_mem _ (iw_MD w h)) hown hK hP 1 rfl rfl 19 (by decide) (hts _ (List.mem_cons_of_mem _ wm_716)) (fun _ h9 => h9) rfl d_MD_place_71 ?_
          refine lv_iconst (v := 3) hx hb d_MD_place_74 (by decide) ?_
          refine lv_iload_n hx hb d_MD_place_75 rfl (lv_at hl 1 rfl) ?_
          refine lv_imul hx hb d_MD_place_76 ?_
          refine xv_i (y := nI (3 * k)) (pk_mul 3 _) ?_
          refine lv_iconst (v := 2) hx hb d_MD_place_77 (by decide) ?_
          refine lv_iadd hx hb d_MD_place_78 ?_
          refine xv_i (y := nI ((3 * k) + 2)) (nI_add _ 2) ?_
          refine xa_iald hx hb hK hP 0 0 rfl rfl ((3 * k) + 2) rfl (by omega) (by decide) d_MD_place_79 ?_
          refine lv_iload_n hx hb d_MD_place_80 rfl (lv_at hl 2 rfl) ?_
          refine xr_calli (va_runV (As := [.int (gy (3 * k)), .int (gy ((3 * k) + 1)), .int (gy ((3 * k) + 2)), .int 1]) (rest := []) ⟨hx, hb, hml, hown, hts⟩ (c_MD_placeOf1 l dC dI h0 (md_th 1 1 1) nm ap no am aw az au kn vP vQ vS vT vB vM vH ao ax np ay nl ad al sn ag ta nb (gy (3 * k)) (gy ((3 * k) + 1)) (gy ((3 * k) + 2)) (by first | assumption | omega | decide)) (cwV 4 hts (xgV wm_848 wm_850 wm_19 wm_34 wm_851) rfl rfl rfl (by decide +kernel) ⟨Nat.le_of_ble_eq_true rfl, Nat.le_of_ble_eq_true rfl⟩) ⟨xp_blind, va_recv hK hP (ci := 7) (q0 := 1) rfl rfl, fun U hU hW => ⟨rfl, hz.warm hW, by rw [hU]; exact hP.sub [1] rfl, va_K.moved hW.alike (hK.sub [] rfl)⟩⟩ rfl rfl hl.1 rfl (lv_room (Nat.le_of_ble_eq_true rfl)) d_MD_place_81 ⟨Nat.le_of_ble_eq_true rfl, Nat.le_of_ble_eq_true rfl⟩) (fun r_14 h_15 => ?_)
          subst h_15
          rw [md_th_0 (by decide) (by decide) (by decide)] at hP hD
          have hP9 := hP.sub (ws' := [(h0, .inr (7, [.int 0, .int (nI nm), .ref ap, .int (nI no), .ref am, .ref aw, .ref az, .ref au, .int kn, .long vP, .long vQ, .long vS, .long vT, .long vB, .long vM, .long vH, .ref ao, .ref ax, .int (nI np), .ref ay, .int (nI nl), .ref ad, .ref al, .int (nI sn), .ref ag, .int (nI ta), .int nb])), (ay, .inl (ky, 90, .inl gy))]) [1, 0] rfl
          have hD9 := hD.sub (ws' := [(h0, .inr (7, [.int 0, .int (nI nm), .ref ap, .int (nI no), .ref am, .ref aw, .ref az, .ref au, .int kn, .long vP, .long vQ, .long vS, .long vT, .long vB, .long vM, .long vH, .ref ao, .ref ax, .int (nI np), .ref ay, .int (nI nl), .ref ad, .ref al, .int (nI sn), .ref ag, .int (nI ta), .int nb])), (ay, .inl (ky, 90, .inl gy))]) [1, 0] (by decide) rfl
          have hK9 := hK.sub (tys' := [(ky, .int)]) [0] rfl
          exact W.iret (v := md_p1 vP vQ vT vM vB (gy (3 * k)) (gy ((3 * k) + 1))) hx hb hr (fun t ht hW => ⟨⟨md_p1 vP vQ vT vM vB (gy (3 * k)) (gy ((3 * k) + 1)), (), rfl, rfl, ⟨by rw [ht]; exact hP9, va_K.moved hW.alike hK9, by exact hD9⟩⟩, hS.F ht⟩) hS.2.2 d_MD_place_84 hlocks
        · exact absurd (md_th_0 (by decide) (by decide) (by decide)) (bI_f rfl c_12)
set_option maxHeartbeats 4000000 in
set_option maxRecDepth 100000 in
/-- place(2) -/
theorem c_MD_place_y2 (l : Launch) (dC : Nat → ClassId) (dI : Nat → Nat → Nat) (sz : Nat) (h0 : Nat) (th : Int32) (nm : Nat) (ap : Nat) (no : Nat) (am : Nat) (aw : Nat) (az : Nat) (au : Nat) (kn : Int32) (vP : Int64) (vQ : Int64) (vS : Int64) (vT : Int64) (vB : Int64) (vM : Int64) (vH : Int64) (ao : Nat) (ax : Nat) (np : Nat) (ay : Nat) (nl : Nat) (ad : Nat) (al : Nat) (sn : Nat) (ag : Nat) (ta : Nat) (nb : Int32) (ky : ClassId) (gy : Nat → Int32) (k : Nat) (hw : md_win (nI k) 0 (nI np - 1) ∧ md_win 2 0 2) (hkn : ¬ kn = -1) (hk : k < 30) (hMB : 0 < vM * vB) : Met l xy_MD_place xw_MD_place ({ frames := 1, cells := 0, slots := 0, locals := 26 }) (xp_w [.ref h0, .int (nI k), .int 2] sz (dC, dI) xCl [(h0, .inr (7, [.int th, .int (nI nm), .ref ap, .int (nI no), .ref am, .ref aw, .ref az, .ref au, .int kn, .long vP, .long vQ, .long vS, .long vT, .long vB, .long vM, .long vH, .ref ao, .ref ax, .int (nI np), .ref ay, .int (nI nl), .ref ad, .ref al, .int (nI sn), .ref ag, .int (nI ta), .int nb])), (ay, .inl (ky, 90, .inl gy))] [(ky, .int)]) (va_Qi (fun (r : Int32) (_ : Unit) => r = gy (3 * k + 2) + vH.toInt32) (fun _ t => xb_w (dC, dI) xCl [(h0, .inr (7, [.int 0, .int (nI nm), .ref ap, .int (nI no), .ref am, .ref aw, .ref az, .ref au, .int kn, .long vP, .long vQ, .long vS, .long vT, .long vB, .long vM, .long vH, .ref ao, .ref ax, .int (nI np), .ref ay, .int (nI nl), .ref ad, .ref al, .int (nI sn), .ref ag, .int (nI ta), .int nb])), (ay, .inl (ky, 90, .inl gy))] [(ky, .int)] (va_A [(h0, .inr (7, [.int th, .int (nI nm), .ref ap, .int (nI no), .ref am, .ref aw, .ref az, .ref au, .int kn, .long vP, .long vQ, .long vS, .long vT, .long vB, .long vM, .long vH, .ref ao, .ref ax, .int (nI np), .ref ay, .int (nI nl), .ref ad, .ref al, .int (nI sn), .ref ag, .int (nI ta), .int nb])), (ay, .inl (ky, 90, .inl gy))] sz) t) (va_A [(h0, .inr (7, [.int th, .int (nI nm), .ref ap, .int (nI no), .ref am, .ref aw, .ref az, .ref au, .int kn, .long vP, .long vQ, .long vS, .long vT, .long vB, .long vM, .long vH, .ref ao, .ref ax, .int (nI np), .ref ay, .int (nI nl), .ref ad, .ref al, .int (nI sn), .ref ag, .int (nI ta), .int nb])), (ay, .inl (ky, 90, .inl gy))] sz)) 0 0 (va_A [(h0, .inr (7, [.int th, .int (nI nm), .ref ap, .int (nI no), .ref am, .ref aw, .ref az, .ref au, .int kn, .long vP, .long vQ, .long vS, .long vT, .long vB, .long vM, .long vH, .ref ao, .ref ax, .int (nI np), .ref ay, .int (nI nl), .ref ad, .ref al, .int (nI sn), .ref ag, .int (nI ta), .int nb])), (ay, .inl (ky, 90, .inl gy))] sz) := by
  refine Met.ofW (cc := prog_9_method_25_code) (maxL := 3) (ret := (some .int)) (by decide) rfl ?_
  intro p e s m args below meth c s₁ B hml hv
  obtain ⟨rfl, hsz, hz, hP, hK, hD0⟩ := hv
  have hx := B.exec
  have hb := B.bytes
  have hr := B.returns
  have hts := atoms_spec (ws := xw_MD_place) B.pre
  have hown : s.vm.findClass xR_MD = some m.cls := findClass_of_methodNamed B.named
  have hlocks := B.notSynchronized
  subst hsz
  have hD := hD0.self (sz := s.heap.size)
  generalize hAe : va_A [(h0, .inr (7, [.int th, .int (nI nm), .ref ap, .int (nI no), .ref am, .ref aw, .ref az, .ref au, .int kn, .long vP, .long vQ, .long vS, .long vT, .long vB, .long vM, .long vH, .ref ao, .ref ax, .int (nI np), .ref ay, .int (nI nl), .ref ad, .ref al, .int (nI sn), .ref ag, .int (nI ta), .int nb])), (ay, .inl (ky, 90, .inl gy))] s.heap.size = A at hD ⊢
  have hA : ∀ q : Nat, s.heap.size ≤ q → A q := fun q h => by rw [← hAe]; exact Or.inr h
  have hS : va_S A s.heap s.heap [] := va_S.rf
  have hP : va_P (dC, dI) xCl [(h0, .inr (7, [.int th, .int (nI nm), .ref ap, .int (nI no), .ref am, .ref aw, .ref az, .ref au, .int kn, .long vP, .long vQ, .long vS, .long vT, .long vB, .long vM, .long vH, .ref ao, .ref ax, .int (nI np), .ref ay, .int (nI nl), .ref ad, .ref al, .int (nI sn), .ref ag, .int (nI ta), .int nb])), (ay, .inl (ky, 90, .inl gy))] s.heap := hP
  have hl := lv_entry ([.ref h0, .int (nI k), .int 2]) (n := 3) (Nat.le_of_ble_eq_true rfl)
  rw [lg_entry_eq]
  generalize (lg_sl ([.ref h0, .int (nI k), .int 2]) ++ List.replicate (3 - (lg_sl ([.ref h0, .int (nI k), .int 2])).length) Slot.unset).toArray = ls at hl ⊢
  have hl : lv_has ls 3 [(0, .ref h0), (1, .int (nI k)), (2, .int 2)] := hl
  refine lv_aload_n hx hb d_MD_place_0 rfl (lv_at hl 0 rfl) ?_
  refine lv_iload_n hx hb d_MD_place_1 rfl (lv_at hl 1 rfl) ?_
  refine lv_iconst (v := 0) hx hb d_MD_place_2 (by decide) ?_
  refine lv_aload_n hx hb d_MD_place_3 rfl (lv_at hl 0 rfl) ?_
  refine va_get (D := (dC, dI)) (ci := 7) (v := .int (nI np)) (C := xR_MD) (T := xT_MD) (N := 27) hx hb hts (fun w h => List.mem_cons_of_mem _ (iw_MD w h)) hown hK hP 0 rfl rfl 18 (by decide) (hts _ (List.mem_cons_of_mem _ wm_715)) (fun _ h9 => h9) rfl d_MD_place_4 ?_
  refine lv_iconst (v := 1) hx hb d_MD_place_7 (by decide) ?_
  refine lv_isub hx hb d_MD_place_8 ?_
  refine xr_calli (va_runS (As := [.int (nI k), .int 0, .int ((nI np) - 1)]) (rest := [.ref h0]) ⟨hx, hb, hml, hown, hts⟩ (c_MD_within l dC dI (nI k) 0 ((nI np) - 1)) (va_cwS 3 hts (xgS wm_790 wm_791 wm_34 wm_792) rfl rfl rfl (by decide +kernel) ⟨Nat.le_of_ble_eq_true rfl, Nat.le_of_ble_eq_true rfl⟩) ⟨xp_blind, fun U hU hW => ⟨rfl, hz.warm hW, by rw [hU]; exact hP.sub [] rfl, va_K.moved hW.alike (hK.sub [] rfl)⟩⟩ rfl rfl hl.1 rfl (lv_room (Nat.le_of_ble_eq_true rfl)) d_MD_place_9 ⟨Nat.le_of_ble_eq_true rfl, Nat.le_of_ble_eq_true rfl⟩) (fun r_1 h_2 => ?_)
  subst h_2
  refine lv_if_eq (tgt := 28) hx hb d_MD_place_12 (by decide) (fun c_3 => ?_) (fun c_3 => ?_)
  · exact absurd hw.1 (bI_f rfl c_3)
  · have b_4 := bI_t (rfl : bI (md_win (nI k) 0 ((nI np) - 1)) = _) c_3
    refine lv_iload_n hx hb d_MD_place_15 rfl (lv_at hl 2 rfl) ?_
    refine lv_iconst (v := 0) hx hb d_MD_place_16 (by decide) ?_
    refine lv_iconst (v := 2) hx hb d_MD_place_17 (by decide) ?_
    refine xr_calli (va_runS (As := [.int 2, .int 0, .int 2]) (rest := [.ref h0]) ⟨hx, hb, hml, hown, hts⟩ (c_MD_within l dC dI 2 0 2) (va_cwS 3 hts (xgS wm_790 wm_791 wm_34 wm_792) rfl rfl rfl (by decide +kernel) ⟨Nat.le_of_ble_eq_true rfl, Nat.le_of_ble_eq_true rfl⟩) ⟨xp_blind, fun U hU hW => ⟨rfl, hz.warm hW, by rw [hU]; exact hP.sub [] rfl, va_K.moved hW.alike (hK.sub [] rfl)⟩⟩ rfl rfl hl.1 rfl (lv_room (Nat.le_of_ble_eq_true rfl)) d_MD_place_18 ⟨Nat.le_of_ble_eq_true rfl, Nat.le_of_ble_eq_true rfl⟩) (fun r_5 h_6 => ?_)
    subst h_6
    refine lv_if_eq (tgt := 28) hx hb d_MD_place_21 (by decide) (fun c_7 => ?_) (fun c_7 => ?_)
    · exact absurd hw.2 (bI_f rfl c_7)
    · have b_8 := bI_t (rfl : bI (md_win 2 0 2) = _) c_7
      refine lv_iconst (v := 1) hx hb d_MD_place_24 (by decide) ?_
      refine lv_goto (tgt := 29) hx hb d_MD_place_25 (by decide) ?_
      refine lv_aload_n hx hb d_MD_place_29 rfl (lv_at hl 0 rfl) ?_
      refine va_get (D := (dC, dI)) (ci := 7) (v := .int kn) (C := xR_MD) (T := xT_MD) (N := 27) hx hb hts (fun w h => List.mem_cons_of_mem _ (iw_MD w h)) hown hK hP 0 rfl rfl 8 (by decide) (hts _ (List.mem_cons_of_mem _ wm_705)) (fun _ h9 => h9) rfl d_MD_place_30 ?_
      refine lv_iconst (v := (-1)) hx hb d_MD_place_33 (by decide) ?_
      refine lv_icmp_eq (tgt := 41) hx hb d_MD_place_34 (by decide) (fun c_9 => ?_) (fun c_9 => ?_)
      · exact absurd c_9 hkn
      · refine lv_iconst (v := 1) hx hb d_MD_place_37 (by decide) ?_
        refine lv_goto (tgt := 42) hx hb d_MD_place_38 (by decide) ?_
        refine lv_iconst (v := 1) hx hb d_MD_place_42 (by decide) ?_
        have hPc := hP.sub (ws' := [(h0, .inr (7, [.int th, .int (nI nm), .ref ap, .int (nI no), .ref am, .ref aw, .ref az, .ref au, .int kn, .long vP, .long vQ, .long vS, .long vT, .long vB, .long vM, .long vH, .ref ao, .ref ax, .int (nI np), .ref ay, .int (nI nl), .ref ad, .ref al, .int (nI sn), .ref ag, .int (nI ta), .int nb]))]) [0] rfl
        have hDc := hD.sub (ws' := [(h0, .inr (7, [.int th, .int (nI nm), .ref ap, .int (nI no), .ref am, .ref aw, .ref az, .ref au, .int kn, .long vP, .long vQ, .long vS, .long vT, .long vB, .long vM, .long vH, .ref ao, .ref ax, .int (nI np), .ref ay, .int (nI nl), .ref ad, .ref al, .int (nI sn), .ref ag, .int (nI ta), .int nb]))]) [0] (by decide) rfl
        have hKc := hK.sub (tys' := []) [] rfl
        have hFc := va_free (wc := [(h0, .inr (7, [.int th, .int (nI nm), .ref ap, .int (nI no), .ref am, .ref aw, .ref az, .ref au, .int kn, .long vP, .long vQ, .long vS, .long vT, .long vB, .long vM, .long vH, .ref ao, .ref ax, .int (nI np), .ref ay, .int (nI nl), .ref ad, .ref al, .int (nI sn), .ref ag, .int (nI ta), .int nb]))]) hD hS hA [0] rfl
        refine va_calli (va_runV (As := [.int 1, .int 1, .int 1]) (rest := []) ⟨hx, hb, hml, hown, hts⟩ (c_MD_goes l dC dI s.heap.size h0 th nm ap no am aw az au kn vP vQ vS vT vB vM vH ao ax np ay nl ad al sn ag ta nb 1 1 1) (cwV 3 hts (xgV wm_793 wm_795 wm_13 wm_34 wm_796) rfl rfl rfl (by decide +kernel) ⟨Nat.le_of_ble_eq_true rfl, Nat.le_of_ble_eq_true rfl⟩) ⟨xw_blind, va_recv hKc hPc (ci := 7) (q0 := 0) rfl rfl, fun U hU hW => ⟨rfl, by rw [hU], hz.warm hW, by rw [hU]; exact hPc, va_K.moved hW.alike hKc, hDc.weaken (fun _ _ _ _ => trivial)⟩⟩ rfl rfl hl.1 rfl (lv_room (Nat.le_of_ble_eq_true rfl)) d_MD_place_43 ⟨Nat.le_of_ble_eq_true rfl, Nat.le_of_ble_eq_true rfl⟩) hS (fun q _ h => hFc q h) hFc (fun r_10 _ t H1 locs ht hvm hw_11 hB hz1 hk1 hS => ?_)
        obtain ⟨hP1, hK1, hD1⟩ := hB
        rw [ht] at hP1
        have hK1 := va_K.moved hvm.symm hK1
        obtain ⟨hP, hD⟩ := va_join (wr := [(ay, .inl (ky, 90, .inl gy))]) (w1 := [(h0, .inr (7, [.int (md_th 1 1 1), .int (nI nm), .ref ap, .int (nI no), .ref am, .ref aw, .ref az, .ref au, .int kn, .long vP, .long vQ, .long vS, .long vT, .long vB, .long vM, .long vH, .ref ao, .ref ax, .int (nI np), .ref ay, .int (nI nl), .ref ad, .ref al, .int (nI sn), .ref ag, .int (nI ta), .int nb]))]) hP hD [0] [1] rfl rfl (by decide) (by decide) hk1 hFc hP1 hD1
        generalize H1 = H at hP hS ⊢
        have hP : va_P (dC, dI) xCl [(ay, .inl (ky, 90, .inl gy)), (h0, .inr (7, [.int (md_th 1 1 1), .int (nI nm), .ref ap, .int (nI no), .ref am, .ref aw, .ref az, .ref au, .int kn, .long vP, .long vQ, .long vS, .long vT, .long vB, .long vM, .long vH, .ref ao, .ref ax, .int (nI np), .ref ay, .int (nI nl), .ref ad, .ref al, .int (nI sn), .ref ag, .int (nI ta), .int nb]))] H := hP
        have hD : va_D A [(ay, .inl (ky, 90, .inl gy)), (h0, .inr (7, [.int (md_th 1 1 1), .int (nI nm), .ref ap, .int (nI no), .ref am, .ref aw, .ref az, .ref au, .int kn, .long vP, .long vQ, .long vS, .long vT, .long vB, .long vM, .long vH, .ref ao, .ref ax, .int (nI np), .ref ay, .int (nI nl), .ref ad, .ref al, .int (nI sn), .ref ag, .int (nI ta), .int nb]))] := hD
        subst hw_11
        refine lv_if_ne (tgt := 51) hx hb d_MD_place_46 (by decide) (fun c_12 => ?_) (fun c_12 => ?_)
        · have b_13 := bI_t (rfl : bI (md_th 1 1 1 = 0) = _) c_12
          refine lv_aload_n hx hb d_MD_place_51 rfl (lv_at hl 0 rfl) ?_
          refine lv_aload_n hx hb d_MD_place_52 rfl (lv_at hl 0 rfl) ?_
          refine va_get (D := (dC, dI)) (ci := 7) (v := .ref ay) (C := xR_MD) (T := xT_MD) (N := 27) hx hb hts (fun w h => List.mem_cons_of_mem _ (iw_MD w h)) hown hK hP 1 rfl rfl 19 (by decide) (hts _ (List.mem_cons_of_mem _ wm_716)) (fun _ h9 => h9) rfl d_MD_place_53 ?_
          refine lv_iconst (v := 3) hx hb d_MD_place_56 (by decide) ?_
          refine lv_iload_n hx hb d_MD_place_57 rfl (lv_at hl 1 rfl) ?_
          refine lv_imul hx hb d_MD_place_58 ?_
          refine xv_i (y := nI (3 * k)) (pk_mul 3 _) ?_
          refine xa_iald hx hb hK hP 0 0 rfl rfl (3 * k) rfl (by omega) (by decide) d_MD_place_59 ?_
          refine lv_aload_n hx hb d_MD_place_60 rfl (lv_at hl 0 rfl) ?_
          refine va_get (D := (dC, dI)) (ci := 7) (v := .ref ay) (C := xR_MD) (T := xT_MD) (N := 27) hx hb hts (fun w h => List.mem_cons_of_mem _ (iw_MD w h)) hown hK hP 1 rfl rfl 19 (by decide) (hts _ (List.mem_cons_of_mem _ wm_716)) (fun _ h9 => h9) rfl d_MD_place_61 ?_
          refine lv_iconst (v := 3) hx hb d_MD_place_64 (by decide) ?_
          refine lv_iload_n hx hb d_MD_place_65 rfl (lv_at hl 1 rfl) ?_
          refine lv_imul hx hb d_MD_place_66 ?_
          refine xv_i (y := nI (3 * k)) (pk_mul 3 _) ?_
          refine lv_iconst (v := 1) hx hb d_MD_place_67 (by decide) ?_
          refine lv_iadd hx hb d_MD_place_68 ?_
          refine xv_i (y := nI ((3 * k) + 1)) (nI_1 _) ?_
          refine xa_iald hx hb hK hP 0 0 rfl rfl ((3 * k) + 1) rfl (by omega) (by decide) d_MD_place_69 ?_
          refine lv_aload_n hx hb d_MD_place_70 rfl (lv_at hl 0 rfl) ?_
          refine va_get (D := (dC, dI)) (ci := 7) (v := .ref ay) (C := xR_MD) (T := xT_MD) (N := 27) hx hb hts (fun w h => List.mem_cons_of_mem _ (iw_MD w h)) hown hK hP 1 rfl rfl 19 (by decide) (hts _ (List.mem_cons_of_mem _ wm_716)) (fun _ h9 => h9) rfl d_MD_place_71 ?_
          refine lv_iconst (v := 3) hx hb d_MD_place_74 (by decide) ?_
          refine lv_iload_n hx hb d_MD_place_75 rfl (lv_at hl 1 rfl) ?_
          refine lv_imul hx hb d_MD_place_76 ?_
          refine xv_i (y := nI (3 * k)) (pk_mul 3 _) ?_
          refine lv_iconst (v := 2) hx hb d_MD_place_77 (by decide) ?_
          refine lv_iadd hx hb d_MD_place_78 ?_
          refine xv_i (y := nI ((3 * k) + 2)) (nI_add _ 2) ?_
          refine xa_iald hx hb hK hP 0 0 rfl rfl ((3 * k) + 2) rfl (by omega) (by decide) d_MD_place_79 ?_
          refine lv_iload_n hx hb d_MD_place_80 rfl (lv_at hl 2 rfl) ?_
          refine xr_calli (va_runV (As := [.int (gy (3 * k)), .int (gy ((3 * k) + 1)), .int (gy ((3 * k) + 2)), .int 2]) (rest := []) ⟨hx, hb, hml, hown, hts⟩ (c_MD_placeOf2 l dC dI h0 (md_th 1 1 1) nm ap no am aw az au kn vP vQ vS vT vB vM vH ao ax np ay nl ad al sn ag ta nb (gy (3 * k)) (gy ((3 * k) + 1)) (gy ((3 * k) + 2)) (by first | assumption | omega | decide)) (cwV 4 hts (xgV wm_848 wm_850 wm_19 wm_34 wm_851) rfl rfl rfl (by decide +kernel) ⟨Nat.le_of_ble_eq_true rfl, Nat.le_of_ble_eq_true rfl⟩) ⟨xp_blind, va_recv hK hP (ci := 7) (q0 := 1) rfl rfl, fun U hU hW => ⟨rfl, hz.warm hW, by rw [hU]; exact hP.sub [1] rfl, va_K.moved hW.alike (hK.sub [] rfl)⟩⟩ rfl rfl hl.1 rfl (lv_room (Nat.le_of_ble_eq_true rfl)) d_MD_place_81 ⟨Nat.le_of_ble_eq_true rfl, Nat.le_of_ble_eq_true rfl⟩) (fun r_14 h_15 => ?_)
          subst h_15
          rw [md_th_0 (by decide) (by decide) (by decide)] at hP hD
          have hP9 := hP.sub (ws' := [(h0, .inr (7, [.int 0, .int (nI nm), .ref ap, .int (nI no), .ref am, .ref aw, .ref az, .ref au, .int kn, .long vP, .long vQ, .long vS, .long vT, .long vB, .long vM, .long vH, .ref ao, .ref ax, .int (nI np), .ref ay, .int (nI nl), .ref ad, .ref al, .int (nI sn), .ref ag, .int (nI ta), .int nb])), (ay, .inl (ky, 90, .inl gy))]) [1, 0] rfl
          have hD9 := hD.sub (ws' := [(h0, .inr (7, [.int 0, .int (nI nm), .ref ap, .int (nI no), .ref am, .ref aw, .ref az, .ref au, .int kn, .long vP, .long vQ, .long vS, .long vT, .long vB, .long vM, .long vH, .ref ao, .ref ax, .int (nI np), .ref ay, .int (nI nl), .ref ad, .ref al, .int (nI sn), .ref ag, .int (nI ta), .int nb])), (ay, .inl (ky, 90, .inl gy))]) [1, 0] (by decide) rfl
          have hK9 := hK.sub (tys' := [(ky, .int)]) [0] rfl
          exact W.iret (v := (gy ((3 * k) + 2)) + vH.toInt32) hx hb hr (fun t ht hW => ⟨⟨(gy ((3 * k) + 2)) + vH.toInt32, (), rfl, rfl, ⟨by rw [ht]; exact hP9, va_K.moved hW.alike hK9, by exact hD9⟩⟩, hS.F ht⟩) hS.2.2 d_MD_place_84 hlocks
        · exact absurd (md_th_0 (by decide) (by decide) (by decide)) (bI_f rfl c_12)
set_option maxHeartbeats 4000000 in
set_option maxRecDepth 100000 in
/-- place, refused -/
theorem c_MD_place_n (l : Launch) (dC : Nat → ClassId) (dI : Nat → Nat → Nat) (sz : Nat) (h0 : Nat) (th : Int32) (nm : Nat) (ap : Nat) (no : Nat) (am : Nat) (aw : Nat) (az : Nat) (au : Nat) (kn : Int32) (vP : Int64) (vQ : Int64) (vS : Int64) (vT : Int64) (vB : Int64) (vM : Int64) (vH : Int64) (ao : Nat) (ax : Nat) (np : Nat) (ay : Nat) (nl : Nat) (ad : Nat) (al : Nat) (sn : Nat) (ag : Nat) (ta : Nat) (nb : Int32) (k0 : Int32) (a : Int32) (hn : ¬ ((md_win k0 0 (nI np - 1) ∧ md_win a 0 2) ∧ ¬ kn = -1)) : Met l xy_MD_place xw_MD_place ({ frames := 1, cells := 0, slots := 0, locals := 23 }) (xp_w [.ref h0, .int k0, .int a] sz (dC, dI) xCl [(h0, .inr (7, [.int th, .int (nI nm), .ref ap, .int (nI no), .ref am, .ref aw, .ref az, .ref au, .int kn, .long vP, .long vQ, .long vS, .long vT, .long vB, .long vM, .long vH, .ref ao, .ref ax, .int (nI np), .ref ay, .int (nI nl), .ref ad, .ref al, .int (nI sn), .ref ag, .int (nI ta), .int nb]))] []) (va_Qi (fun (r : Int32) (_ : Unit) => r = 0) (fun _ t => xb_w (dC, dI) xCl [(h0, .inr (7, [.int (md_th (bI (md_win k0 0 (nI np - 1) ∧ md_win a 0 2)) (bI (¬ kn = -1)) 1), .int (nI nm), .ref ap, .int (nI no), .ref am, .ref aw, .ref az, .ref au, .int kn, .long vP, .long vQ, .long vS, .long vT, .long vB, .long vM, .long vH, .ref ao, .ref ax, .int (nI np), .ref ay, .int (nI nl), .ref ad, .ref al, .int (nI sn), .ref ag, .int (nI ta), .int nb]))] [] (va_A [(h0, .inr (7, [.int th, .int (nI nm), .ref ap, .int (nI no), .ref am, .ref aw, .ref az, .ref au, .int kn, .long vP, .long vQ, .long vS, .long vT, .long vB, .long vM, .long vH, .ref ao, .ref ax, .int (nI np), .ref ay, .int (nI nl), .ref ad, .ref al, .int (nI sn), .ref ag, .int (nI ta), .int nb]))] sz) t) (va_A [(h0, .inr (7, [.int th, .int (nI nm), .ref ap, .int (nI no), .ref am, .ref aw, .ref az, .ref au, .int kn, .long vP, .long vQ, .long vS, .long vT, .long vB, .long vM, .long vH, .ref ao, .ref ax, .int (nI np), .ref ay, .int (nI nl), .ref ad, .ref al, .int (nI sn), .ref ag, .int (nI ta), .int nb]))] sz)) 0 0 (va_A [(h0, .inr (7, [.int th, .int (nI nm), .ref ap, .int (nI no), .ref am, .ref aw, .ref az, .ref au, .int kn, .long vP, .long vQ, .long vS, .long vT, .long vB, .long vM, .long vH, .ref ao, .ref ax, .int (nI np), .ref ay, .int (nI nl), .ref ad, .ref al, .int (nI sn), .ref ag, .int (nI ta), .int nb]))] sz) := by
  refine Met.ofW (cc := prog_9_method_25_code) (maxL := 3) (ret := (some .int)) (by decide) rfl ?_
  intro p e s m args below meth c s₁ B hml hv
  obtain ⟨rfl, hsz, hz, hP, hK, hD0⟩ := hv
  have hx := B.exec
  have hb := B.bytes
  have hr := B.returns
  have hts := atoms_spec (ws := xw_MD_place) B.pre
  have hown : s.vm.findClass xR_MD = some m.cls := findClass_of_methodNamed B.named
  have hlocks := B.notSynchronized
  subst hsz
  have hD := hD0.self (sz := s.heap.size)
  generalize hAe : va_A [(h0, .inr (7, [.int th, .int (nI nm), .ref ap, .int (nI no), .ref am, .ref aw, .ref az, .ref au, .int kn, .long vP, .long vQ, .long vS, .long vT, .long vB, .long vM, .long vH, .ref ao, .ref ax, .int (nI np), .ref ay, .int (nI nl), .ref ad, .ref al, .int (nI sn), .ref ag, .int (nI ta), .int nb]))] s.heap.size = A at hD ⊢
  have hA : ∀ q : Nat, s.heap.size ≤ q → A q := fun q h => by rw [← hAe]; exact Or.inr h
  have hS : va_S A s.heap s.heap [] := va_S.rf
  have hP : va_P (dC, dI) xCl [(h0, .inr (7, [.int th, .int (nI nm), .ref ap, .int (nI no), .ref am, .ref aw, .ref az, .ref au, .int kn, .long vP, .long vQ, .long vS, .long vT, .long vB, .long vM, .long vH, .ref ao, .ref ax, .int (nI np), .ref ay, .int (nI nl), .ref ad, .ref al, .int (nI sn), .ref ag, .int (nI ta), .int nb]))] s.heap := hP
  have hl := lv_entry ([.ref h0, .int k0, .int a]) (n := 3) (Nat.le_of_ble_eq_true rfl)
  rw [lg_entry_eq]
  generalize (lg_sl ([.ref h0, .int k0, .int a]) ++ List.replicate (3 - (lg_sl ([.ref h0, .int k0, .int a])).length) Slot.unset).toArray = ls at hl ⊢
  have hl : lv_has ls 3 [(0, .ref h0), (1, .int k0), (2, .int a)] := hl
  refine lv_aload_n hx hb d_MD_place_0 rfl (lv_at hl 0 rfl) ?_
  refine lv_iload_n hx hb d_MD_place_1 rfl (lv_at hl 1 rfl) ?_
  refine lv_iconst (v := 0) hx hb d_MD_place_2 (by decide) ?_
  refine lv_aload_n hx hb d_MD_place_3 rfl (lv_at hl 0 rfl) ?_
  refine va_get (D := (dC, dI)) (ci := 7) (v := .int (nI np)) (C := xR_MD) (T := xT_MD) (N := 27) hx hb hts (fun w h => List.mem_cons_of_mem _ (iw_MD w h)) hown hK hP 0 rfl rfl 18 (by decide) (hts _ (List.mem_cons_of_mem _ wm_715)) (fun _ h9 => h9) rfl d_MD_place_4 ?_
  refine lv_iconst (v := 1) hx hb d_MD_place_7 (by decide) ?_
  refine lv_isub hx hb d_MD_place_8 ?_
  refine xr_calli (va_runS (As := [.int k0, .int 0, .int ((nI np) - 1)]) (rest := [.ref h0]) ⟨hx, hb, hml, hown, hts⟩ (c_MD_within l dC dI k0 0 ((nI np) - 1)) (va_cwS 3 hts (xgS wm_790 wm_791 wm_34 wm_792) rfl rfl rfl (by decide +kernel) ⟨Nat.le_of_ble_eq_true rfl, Nat.le_of_ble_eq_true rfl⟩) ⟨xp_blind, fun U hU hW => ⟨rfl, hz.warm hW, by rw [hU]; exact hP.sub [] rfl, va_K.moved hW.alike (hK.sub [] rfl)⟩⟩ rfl rfl hl.1 rfl (lv_room (Nat.le_of_ble_eq_true rfl)) d_MD_place_9 ⟨Nat.le_of_ble_eq_true rfl, Nat.le_of_ble_eq_true rfl⟩) (fun r_1 h_2 => ?_)
  subst h_2
  refine lv_if_eq (tgt := 28) hx hb d_MD_place_12 (by decide) (fun c_3 => ?_) (fun c_3 => ?_)
  · have b_4 := bI_f (rfl : bI (md_win k0 0 ((nI np) - 1)) = _) c_3
    refine lv_iconst (v := 0) hx hb d_MD_place_28 (by decide) ?_
    refine lv_aload_n hx hb d_MD_place_29 rfl (lv_at hl 0 rfl) ?_
    refine va_get (D := (dC, dI)) (ci := 7) (v := .int kn) (C := xR_MD) (T := xT_MD) (N := 27) hx hb hts (fun w h => List.mem_cons_of_mem _ (iw_MD w h)) hown hK hP 0 rfl rfl 8 (by decide) (hts _ (List.mem_cons_of_mem _ wm_705)) (fun _ h9 => h9) rfl d_MD_place_30 ?_
    refine lv_iconst (v := (-1)) hx hb d_MD_place_33 (by decide) ?_
    refine lv_icmp_eq (tgt := 41) hx hb d_MD_place_34 (by decide) (fun c_5 => ?_) (fun c_5 => ?_)
    · refine lv_iconst (v := 0) hx hb d_MD_place_41 (by decide) ?_
      refine lv_iconst (v := 1) hx hb d_MD_place_42 (by decide) ?_
      have hPc := hP.sub (ws' := [(h0, .inr (7, [.int th, .int (nI nm), .ref ap, .int (nI no), .ref am, .ref aw, .ref az, .ref au, .int kn, .long vP, .long vQ, .long vS, .long vT, .long vB, .long vM, .long vH, .ref ao, .ref ax, .int (nI np), .ref ay, .int (nI nl), .ref ad, .ref al, .int (nI sn), .ref ag, .int (nI ta), .int nb]))]) [0] rfl
      have hDc := hD.sub (ws' := [(h0, .inr (7, [.int th, .int (nI nm), .ref ap, .int (nI no), .ref am, .ref aw, .ref az, .ref au, .int kn, .long vP, .long vQ, .long vS, .long vT, .long vB, .long vM, .long vH, .ref ao, .ref ax, .int (nI np), .ref ay, .int (nI nl), .ref ad, .ref al, .int (nI sn), .ref ag, .int (nI ta), .int nb]))]) [0] (by decide) rfl
      have hKc := hK.sub (tys' := []) [] rfl
      have hFc := va_free (wc := [(h0, .inr (7, [.int th, .int (nI nm), .ref ap, .int (nI no), .ref am, .ref aw, .ref az, .ref au, .int kn, .long vP, .long vQ, .long vS, .long vT, .long vB, .long vM, .long vH, .ref ao, .ref ax, .int (nI np), .ref ay, .int (nI nl), .ref ad, .ref al, .int (nI sn), .ref ag, .int (nI ta), .int nb]))]) hD hS hA [0] rfl
      refine va_calli (va_runV (As := [.int 0, .int 0, .int 1]) (rest := []) ⟨hx, hb, hml, hown, hts⟩ (c_MD_goes l dC dI s.heap.size h0 th nm ap no am aw az au kn vP vQ vS vT vB vM vH ao ax np ay nl ad al sn ag ta nb 0 0 1) (cwV 3 hts (xgV wm_793 wm_795 wm_13 wm_34 wm_796) rfl rfl rfl (by decide +kernel) ⟨Nat.le_of_ble_eq_true rfl, Nat.le_of_ble_eq_true rfl⟩) ⟨xw_blind, va_recv hKc hPc (ci := 7) (q0 := 0) rfl rfl, fun U hU hW => ⟨rfl, by rw [hU], hz.warm hW, by rw [hU]; exact hPc, va_K.moved hW.alike hKc, hDc.weaken (fun _ _ _ _ => trivial)⟩⟩ rfl rfl hl.1 rfl (lv_room (Nat.le_of_ble_eq_true rfl)) d_MD_place_43 ⟨Nat.le_of_ble_eq_true rfl, Nat.le_of_ble_eq_true rfl⟩) hS (fun q _ h => hFc q h) hFc (fun r_6 _ t H1 locs ht hvm hw_7 hB hz1 hk1 hS => ?_)
      obtain ⟨hP1, hK1, hD1⟩ := hB
      rw [ht] at hP1
      have hK1 := va_K.moved hvm.symm hK1
      obtain ⟨hP, hD⟩ := va_join (wr := []) (w1 := [(h0, .inr (7, [.int (md_th 0 0 1), .int (nI nm), .ref ap, .int (nI no), .ref am, .ref aw, .ref az, .ref au, .int kn, .long vP, .long vQ, .long vS, .long vT, .long vB, .long vM, .long vH, .ref ao, .ref ax, .int (nI np), .ref ay, .int (nI nl), .ref ad, .ref al, .int (nI sn), .ref ag, .int (nI ta), .int nb]))]) hP hD [0] [] rfl rfl (by decide) (by decide) hk1 hFc hP1 hD1
      generalize H1 = H at hP hS ⊢
      have hP : va_P (dC, dI) xCl [(h0, .inr (7, [.int (md_th 0 0 1), .int (nI nm), .ref ap, .int (nI no), .ref am, .ref aw, .ref az, .ref au, .int kn, .long vP, .long vQ, .long vS, .long vT, .long vB, .long vM, .long vH, .ref ao, .ref ax, .int (nI np), .ref ay, .int (nI nl), .ref ad, .ref al, .int (nI sn), .ref ag, .int (nI ta), .int nb]))] H := hP
      have hD : va_D A [(h0, .inr (7, [.int (md_th 0 0 1), .int (nI nm), .ref ap, .int (nI no), .ref am, .ref aw, .ref az, .ref au, .int kn, .long vP, .long vQ, .long vS, .long vT, .long vB, .long vM, .long vH, .ref ao, .ref ax, .int (nI np), .ref ay, .int (nI nl), .ref ad, .ref al, .int (nI sn), .ref ag, .int (nI ta), .int nb]))] := hD
      subst hw_7
      refine lv_if_ne (tgt := 51) hx hb d_MD_place_46 (by decide) (fun c_8 => ?_) (fun c_8 => ?_)
      · exact absurd (md_th_all (bI_t rfl c_8)) (fun q => q.1 rfl)
      · have b_9 := bI_f (rfl : bI (md_th 0 0 1 = 0) = _) c_8
        refine lv_iconst (v := 0) hx hb d_MD_place_49 (by decide) ?_
        have hP9 := hP.sub (ws' := [(h0, .inr (7, [.int (md_th 0 0 1), .int (nI nm), .ref ap, .int (nI no), .ref am, .ref aw, .ref az, .ref au, .int kn, .long vP, .long vQ, .long vS, .long vT, .long vB, .long vM, .long vH, .ref ao, .ref ax, .int (nI np), .ref ay, .int (nI nl), .ref ad, .ref al, .int (nI sn), .ref ag, .int (nI ta), .int nb]))]) [0] rfl
        have hD9 := hD.sub (ws' := [(h0, .inr (7, [.int (md_th 0 0 1), .int (nI nm), .ref ap, .int (nI no), .ref am, .ref aw, .ref az, .ref au, .int kn, .long vP, .long vQ, .long vS, .long vT, .long vB, .long vM, .long vH, .ref ao, .ref ax, .int (nI np), .ref ay, .int (nI nl), .ref ad, .ref al, .int (nI sn), .ref ag, .int (nI ta), .int nb]))]) [0] (by decide) rfl
        have hK9 := hK.sub (tys' := []) [] rfl
        exact W.iret (v := 0) hx hb hr (fun t ht hW => ⟨⟨0, (), rfl, rfl, ⟨by rw [ht]; rw [show bI (md_win k0 0 (nI np - 1) ∧ md_win a 0 2) = 0 from (bI_n (fun q => b_4 q.1)).symm, show bI (¬ kn = -1) = 0 from (bI_n (fun q => q c_5)).symm]; exact hP9, va_K.moved hW.alike hK9, by rw [show bI (md_win k0 0 (nI np - 1) ∧ md_win a 0 2) = 0 from (bI_n (fun q => b_4 q.1)).symm, show bI (¬ kn = -1) = 0 from (bI_n (fun q => q c_5)).symm]; exact hD9⟩⟩, hS.F ht⟩) hS.2.2 d_MD_place_50 hlocks
    · refine lv_iconst (v := 1) hx hb d_MD_place_37 (by decide) ?_
      refine lv_goto (tgt := 42) hx hb d_MD_place_38 (by decide) ?_
      refine lv_iconst (v := 1) hx hb d_MD_place_42 (by decide) ?_
      have hPc := hP.sub (ws' := [(h0, .inr (7, [.int th, .int (nI nm), .ref ap, .int (nI no), .ref am, .ref aw, .ref az, .ref au, .int kn, .long vP, .long vQ, .long vS, .long vT, .long vB, .long vM, .long vH, .ref ao, .ref ax, .int (nI np), .ref ay, .int (nI nl), .ref ad, .ref al, .int (nI sn), .ref ag, .int (nI ta), .int nb]))]) [0] rfl
      have hDc := hD.sub (ws' := [(h0, .inr (7, [.int th, .int (nI nm), .ref ap, .int (nI no), .ref am, .ref aw, .ref az, .ref au, .int kn, .long vP, .long vQ, .long vS, .long vT, .long vB, .long vM, .long vH, .ref ao, .ref ax, .int (nI np), .ref ay, .int (nI nl), .ref ad, .ref al, .int (nI sn), .ref ag, .int (nI ta), .int nb]))]) [0] (by decide) rfl
      have hKc := hK.sub (tys' := []) [] rfl
      have hFc := va_free (wc := [(h0, .inr (7, [.int th, .int (nI nm), .ref ap, .int (nI no), .ref am, .ref aw, .ref az, .ref au, .int kn, .long vP, .long vQ, .long vS, .long vT, .long vB, .long vM, .long vH, .ref ao, .ref ax, .int (nI np), .ref ay, .int (nI nl), .ref ad, .ref al, .int (nI sn), .ref ag, .int (nI ta), .int nb]))]) hD hS hA [0] rfl
      refine va_calli (va_runV (As := [.int 0, .int 1, .int 1]) (rest := []) ⟨hx, hb, hml, hown, hts⟩ (c_MD_goes l dC dI s.heap.size h0 th nm ap no am aw az au kn vP vQ vS vT vB vM vH ao ax np ay nl ad al sn ag ta nb 0 1 1) (cwV 3 hts (xgV wm_793 wm_795 wm_13 wm_34 wm_796) rfl rfl rfl (by decide +kernel) ⟨Nat.le_of_ble_eq_true rfl, Nat.le_of_ble_eq_true rfl⟩) ⟨xw_blind, va_recv hKc hPc (ci := 7) (q0 := 0) rfl rfl, fun U hU hW => ⟨rfl, by rw [hU], hz.warm hW, by rw [hU]; exact hPc, va_K.moved hW.alike hKc, hDc.weaken (fun _ _ _ _ => trivial)⟩⟩ rfl rfl hl.1 rfl (lv_room (Nat.le_of_ble_eq_true rfl)) d_MD_place_43 ⟨Nat.le_of_ble_eq_true rfl, Nat.le_of_ble_eq_true rfl⟩) hS (fun q _ h => hFc q h) hFc (fun r_10 _ t H1 locs ht hvm hw_11 hB hz1 hk1 hS => ?_)
      obtain ⟨hP1, hK1, hD1⟩ := hB
      rw [ht] at hP1
      have hK1 := va_K.moved hvm.symm hK1
      obtain ⟨hP, hD⟩ := va_join (wr := []) (w1 := [(h0, .inr (7, [.int (md_th 0 1 1), .int (nI nm), .ref ap, .int (nI no), .ref am, .ref aw, .ref az, .ref au, .int kn, .long vP, .long vQ, .long vS, .long vT, .long vB, .long vM, .long vH, .ref ao, .ref ax, .int (nI np), .ref ay, .int (nI nl), .ref ad, .ref al, .int (nI sn), .ref ag, .int (nI ta), .int nb]))]) hP hD [0] [] rfl rfl (by decide) (by decide) hk1 hFc hP1 hD1
      generalize H1 = H at hP hS ⊢
      have hP : va_P (dC, dI) xCl [(h0, .inr (7, [.int (md_th 0 1 1), .int (nI nm), .ref ap, .int (nI no), .ref am, .ref aw, .ref az, .ref au, .int kn, .long vP, .long vQ, .long vS, .long vT, .long vB, .long vM, .long vH, .ref ao, .ref ax, .int (nI np), .ref ay, .int (nI nl), .ref ad, .ref al, .int (nI sn), .ref ag, .int (nI ta), .int nb]))] H := hP
      have hD : va_D A [(h0, .inr (7, [.int (md_th 0 1 1), .int (nI nm), .ref ap, .int (nI no), .ref am, .ref aw, .ref az, .ref au, .int kn, .long vP, .long vQ, .long vS, .long vT, .long vB, .long vM, .long vH, .ref ao, .ref ax, .int (nI np), .ref ay, .int (nI nl), .ref ad, .ref al, .int (nI sn), .ref ag, .int (nI ta), .int nb]))] := hD
      subst hw_11
      refine lv_if_ne (tgt := 51) hx hb d_MD_place_46 (by decide) (fun c_12 => ?_) (fun c_12 => ?_)
      · exact absurd (md_th_all (bI_t rfl c_12)) (fun q => q.1 rfl)
      · have b_13 := bI_f (rfl : bI (md_th 0 1 1 = 0) = _) c_12
        refine lv_iconst (v := 0) hx hb d_MD_place_49 (by decide) ?_
        have hP9 := hP.sub (ws' := [(h0, .inr (7, [.int (md_th 0 1 1), .int (nI nm), .ref ap, .int (nI no), .ref am, .ref aw, .ref az, .ref au, .int kn, .long vP, .long vQ, .long vS, .long vT, .long vB, .long vM, .long vH, .ref ao, .ref ax, .int (nI np), .ref ay, .int (nI nl), .ref ad, .ref al, .int (nI sn), .ref ag, .int (nI ta), .int nb]))]) [0] rfl
        have hD9 := hD.sub (ws' := [(h0, .inr (7, [.int (md_th 0 1 1), .int (nI nm), .ref ap, .int (nI no), .ref am, .ref aw, .ref az, .ref au, .int kn, .long vP, .long vQ, .long vS, .long vT, .long vB, .long vM, .long vH, .ref ao, .ref ax, .int (nI np), .ref ay, .int (nI nl), .ref ad, .ref al, .int (nI sn), .ref ag, .int (nI ta), .int nb]))]) [0] (by decide) rfl
        have hK9 := hK.sub (tys' := []) [] rfl
        exact W.iret (v := 0) hx hb hr (fun t ht hW => ⟨⟨0, (), rfl, rfl, ⟨by rw [ht]; rw [show bI (md_win k0 0 (nI np - 1) ∧ md_win a 0 2) = 0 from (bI_n (fun q => b_4 q.1)).symm, show bI (¬ kn = -1) = 1 from (bI_p c_5).symm]; exact hP9, va_K.moved hW.alike hK9, by rw [show bI (md_win k0 0 (nI np - 1) ∧ md_win a 0 2) = 0 from (bI_n (fun q => b_4 q.1)).symm, show bI (¬ kn = -1) = 1 from (bI_p c_5).symm]; exact hD9⟩⟩, hS.F ht⟩) hS.2.2 d_MD_place_50 hlocks
  · have b_14 := bI_t (rfl : bI (md_win k0 0 ((nI np) - 1)) = _) c_3
    refine lv_iload_n hx hb d_MD_place_15 rfl (lv_at hl 2 rfl) ?_
    refine lv_iconst (v := 0) hx hb d_MD_place_16 (by decide) ?_
    refine lv_iconst (v := 2) hx hb d_MD_place_17 (by decide) ?_
    refine xr_calli (va_runS (As := [.int a, .int 0, .int 2]) (rest := [.ref h0]) ⟨hx, hb, hml, hown, hts⟩ (c_MD_within l dC dI a 0 2) (va_cwS 3 hts (xgS wm_790 wm_791 wm_34 wm_792) rfl rfl rfl (by decide +kernel) ⟨Nat.le_of_ble_eq_true rfl, Nat.le_of_ble_eq_true rfl⟩) ⟨xp_blind, fun U hU hW => ⟨rfl, hz.warm hW, by rw [hU]; exact hP.sub [] rfl, va_K.moved hW.alike (hK.sub [] rfl)⟩⟩ rfl rfl hl.1 rfl (lv_room (Nat.le_of_ble_eq_true rfl)) d_MD_place_18 ⟨Nat.le_of_ble_eq_true rfl, Nat.le_of_ble_eq_true rfl⟩) (fun r_15 h_16 => ?_)
    subst h_16
    refine lv_if_eq (tgt := 28) hx hb d_MD_place_21 (by decide) (fun c_17 => ?_) (fun c_17 => ?_)
    · have b_18 := bI_f (rfl : bI (md_win a 0 2) = _) c_17
      refine lv_iconst (v := 0) hx hb d_MD_place_28 (by decide) ?_
      refine lv_aload_n hx hb d_MD_place_29 rfl (lv_at hl 0 rfl) ?_
      refine va_get (D := (dC, dI)) (ci := 7) (v := .int kn) (C := xR_MD) (T := xT_MD) (N := 27) hx hb hts (fun w h => List.mem_cons_of_mem _ (iw_MD w h)) hown hK hP 0 rfl rfl 8 (by decide) (hts _ (List.mem_cons_of_mem _ wm_705)) (fun _ h9 => h9) rfl d_MD_place_30 ?_
      refine lv_iconst (v := (-1)) hx hb d_MD_place_33 (by decide) ?_
      refine lv_icmp_eq (tgt := 41) hx hb d_MD_place_34 (by decide) (fun c_19 => ?_) (fun c_19 => ?_)
      · refine lv_iconst (v := 0) hx hb d_MD_place_41 (by decide) ?_
        refine lv_iconst (v := 1) hx hb d_MD_place_42 (by decide) ?_
        have hPc := hP.sub (ws' := [(h0, .inr (7, [.int th, .int (nI nm), .ref ap, .int (nI no), .ref am, .ref aw, .ref az, .ref au, .int kn, .long vP, .long vQ, .long vS, .long vT, .long vB, .long vM, .long vH, .ref ao, .ref ax, .int (nI np), .ref ay, .int (nI nl), .ref ad, .ref al, .int (nI sn), .ref ag, .int (nI ta), .int nb]))]) [0] rfl
        have hDc := hD.sub (ws' := [(h0, .inr (7, [.int th, .int (nI nm), .ref ap, .int (nI no), .ref am, .ref aw, .ref az, .ref au, .int kn, .long vP, .long vQ, .long vS, .long vT, .long vB, .long vM, .long vH, .ref ao, .ref ax, .int (nI np), .ref ay, .int (nI nl), .ref ad, .ref al, .int (nI sn), .ref ag, .int (nI ta), .int nb]))]) [0] (by decide) rfl
        have hKc := hK.sub (tys' := []) [] rfl
        have hFc := va_free (wc := [(h0, .inr (7, [.int th, .int (nI nm), .ref ap, .int (nI no), .ref am, .ref aw, .ref az, .ref au, .int kn, .long vP, .long vQ, .long vS, .long vT, .long vB, .long vM, .long vH, .ref ao, .ref ax, .int (nI np), .ref ay, .int (nI nl), .ref ad, .ref al, .int (nI sn), .ref ag, .int (nI ta), .int nb]))]) hD hS hA [0] rfl
        refine va_calli (va_runV (As := [.int 0, .int 0, .int 1]) (rest := []) ⟨hx, hb, hml, hown, hts⟩ (c_MD_goes l dC dI s.heap.size h0 th nm ap no am aw az au kn vP vQ vS vT vB vM vH ao ax np ay nl ad al sn ag ta nb 0 0 1) (cwV 3 hts (xgV wm_793 wm_795 wm_13 wm_34 wm_796) rfl rfl rfl (by decide +kernel) ⟨Nat.le_of_ble_eq_true rfl, Nat.le_of_ble_eq_true rfl⟩) ⟨xw_blind, va_recv hKc hPc (ci := 7) (q0 := 0) rfl rfl, fun U hU hW => ⟨rfl, by rw [hU], hz.warm hW, by rw [hU]; exact hPc, va_K.moved hW.alike hKc, hDc.weaken (fun _ _ _ _ => trivial)⟩⟩ rfl rfl hl.1 rfl (lv_room (Nat.le_of_ble_eq_true rfl)) d_MD_place_43 ⟨Nat.le_of_ble_eq_true rfl, Nat.le_of_ble_eq_true rfl⟩) hS (fun q _ h => hFc q h) hFc (fun r_20 _ t H1 locs ht hvm hw_21 hB hz1 hk1 hS => ?_)
        obtain ⟨hP1, hK1, hD1⟩ := hB
        rw [ht] at hP1
        have hK1 := va_K.moved hvm.symm hK1
        obtain ⟨hP, hD⟩ := va_join (wr := []) (w1 := [(h0, .inr (7, [.int (md_th 0 0 1), .int (nI nm), .ref ap, .int (nI no), .ref am, .ref aw, .ref az, .ref au, .int kn, .long vP, .long vQ, .long vS, .long vT, .long vB, .long vM, .long vH, .ref ao, .ref ax, .int (nI np), .ref ay, .int (nI nl), .ref ad, .ref al, .int (nI sn), .ref ag, .int (nI ta), .int nb]))]) hP hD [0] [] rfl rfl (by decide) (by decide) hk1 hFc hP1 hD1
        generalize H1 = H at hP hS ⊢
        have hP : va_P (dC, dI) xCl [(h0, .inr (7, [.int (md_th 0 0 1), .int (nI nm), .ref ap, .int (nI no), .ref am, .ref aw, .ref az, .ref au, .int kn, .long vP, .long vQ, .long vS, .long vT, .long vB, .long vM, .long vH, .ref ao, .ref ax, .int (nI np), .ref ay, .int (nI nl), .ref ad, .ref al, .int (nI sn), .ref ag, .int (nI ta), .int nb]))] H := hP
        have hD : va_D A [(h0, .inr (7, [.int (md_th 0 0 1), .int (nI nm), .ref ap, .int (nI no), .ref am, .ref aw, .ref az, .ref au, .int kn, .long vP, .long vQ, .long vS, .long vT, .long vB, .long vM, .long vH, .ref ao, .ref ax, .int (nI np), .ref ay, .int (nI nl), .ref ad, .ref al, .int (nI sn), .ref ag, .int (nI ta), .int nb]))] := hD
        subst hw_21
        refine lv_if_ne (tgt := 51) hx hb d_MD_place_46 (by decide) (fun c_22 => ?_) (fun c_22 => ?_)
        · exact absurd (md_th_all (bI_t rfl c_22)) (fun q => q.1 rfl)
        · have b_23 := bI_f (rfl : bI (md_th 0 0 1 = 0) = _) c_22
          refine lv_iconst (v := 0) hx hb d_MD_place_49 (by decide) ?_
          have hP9 := hP.sub (ws' := [(h0, .inr (7, [.int (md_th 0 0 1), .int (nI nm), .ref ap, .int (nI no), .ref am, .ref aw, .ref az, .ref au, .int kn, .long vP, .long vQ, .long vS, .long vT, .long vB, .long vM, .long vH, .ref ao, .ref ax, .int (nI np), .ref ay, .int (nI nl), .ref ad, .ref al, .int (nI sn), .ref ag, .int (nI ta), .int nb]))]) [0] rfl
          have hD9 := hD.sub (ws' := [(h0, .inr (7, [.int (md_th 0 0 1), .int (nI nm), .ref ap, .int (nI no), .ref am, .ref aw, .ref az, .ref au, .int kn, .long vP, .long vQ, .long vS, .long vT, .long vB, .long vM, .long vH, .ref ao, .ref ax, .int (nI np), .ref ay, .int (nI nl), .ref ad, .ref al, .int (nI sn), .ref ag, .int (nI ta), .int nb]))]) [0] (by decide) rfl
          have hK9 := hK.sub (tys' := []) [] rfl
          exact W.iret (v := 0) hx hb hr (fun t ht hW => ⟨⟨0, (), rfl, rfl, ⟨by rw [ht]; rw [show bI (md_win k0 0 (nI np - 1) ∧ md_win a 0 2) = 0 from (bI_n (fun q => b_18 q.2)).symm, show bI (¬ kn = -1) = 0 from (bI_n (fun q => q c_19)).symm]; exact hP9, va_K.moved hW.alike hK9, by rw [show bI (md_win k0 0 (nI np - 1) ∧ md_win a 0 2) = 0 from (bI_n (fun q => b_18 q.2)).symm, show bI (¬ kn = -1) = 0 from (bI_n (fun q => q c_19)).symm]; exact hD9⟩⟩, hS.F ht⟩) hS.2.2 d_MD_place_50 hlocks
      · refine lv_iconst (v := 1) hx hb d_MD_place_37 (by decide) ?_
        refine lv_goto (tgt := 42) hx hb d_MD_place_38 (by decide) ?_
        refine lv_iconst (v := 1) hx hb d_MD_place_42 (by decide) ?_
        have hPc := hP.sub (ws' := [(h0, .inr (7, [.int th, .int (nI nm), .ref ap, .int (nI no), .ref am, .ref aw, .ref az, .ref au, .int kn, .long vP, .long vQ, .long vS, .long vT, .long vB, .long vM, .long vH, .ref ao, .ref ax, .int (nI np), .ref ay, .int (nI nl), .ref ad, .ref al, .int (nI sn), .ref ag, .int (nI ta), .int nb]))]) [0] rfl
        have hDc := hD.sub (ws' := [(h0, .inr (7, [.int th, .int (nI nm), .ref ap, .int (nI no), .ref am, .ref aw, .ref az, .ref au, .int kn, .long vP, .long vQ, .long vS, .long vT, .long vB, .long vM, .long vH, .ref ao, .ref ax, .int (nI np), .ref ay, .int (nI nl), .ref ad, .ref al, .int (nI sn), .ref ag, .int (nI ta), .int nb]))]) [0] (by decide) rfl
        have hKc := hK.sub (tys' := []) [] rfl
        have hFc := va_free (wc := [(h0, .inr (7, [.int th, .int (nI nm), .ref ap, .int (nI no), .ref am, .ref aw, .ref az, .ref au, .int kn, .long vP, .long vQ, .long vS, .long vT, .long vB, .long vM, .long vH, .ref ao, .ref ax, .int (nI np), .ref ay, .int (nI nl), .ref ad, .ref al, .int (nI sn), .ref ag, .int (nI ta), .int nb]))]) hD hS hA [0] rfl
        refine va_calli (va_runV (As := [.int 0, .int 1, .int 1]) (rest := []) ⟨hx, hb, hml, hown, hts⟩ (c_MD_goes l dC dI s.heap.size h0 th nm ap no am aw az au kn vP vQ vS vT vB vM vH ao ax np ay nl ad al sn ag ta nb 0 1 1) (cwV 3 hts (xgV wm_793 wm_795 wm_13 wm_34 wm_796) rfl rfl rfl (by decide +kernel) ⟨Nat.le_of_ble_eq_true rfl, Nat.le_of_ble_eq_true rfl⟩) ⟨xw_blind, va_recv hKc hPc (ci := 7) (q0 := 0) rfl rfl, fun U hU hW => ⟨rfl, by rw [hU], hz.warm hW, by rw [hU]; exact hPc, va_K.moved hW.alike hKc, hDc.weaken (fun _ _ _ _ => trivial)⟩⟩ rfl rfl hl.1 rfl (lv_room (Nat.le_of_ble_eq_true rfl)) d_MD_place_43 ⟨Nat.le_of_ble_eq_true rfl, Nat.le_of_ble_eq_true rfl⟩) hS (fun q _ h => hFc q h) hFc (fun r_24 _ t H1 locs ht hvm hw_25 hB hz1 hk1 hS => ?_)
        obtain ⟨hP1, hK1, hD1⟩ := hB
        rw [ht] at hP1
        have hK1 := va_K.moved hvm.symm hK1
        obtain ⟨hP, hD⟩ := va_join (wr := []) (w1 := [(h0, .inr (7, [.int (md_th 0 1 1), .int (nI nm), .ref ap, .int (nI no), .ref am, .ref aw, .ref az, .ref au, .int kn, .long vP, .long vQ, .long vS, .long vT, .long vB, .long vM, .long vH, .ref ao, .ref ax, .int (nI np), .ref ay, .int (nI nl), .ref ad, .ref al, .int (nI sn), .ref ag, .int (nI ta), .int nb]))]) hP hD [0] [] rfl rfl (by decide) (by decide) hk1 hFc hP1 hD1
        generalize H1 = H at hP hS ⊢
        have hP : va_P (dC, dI) xCl [(h0, .inr (7, [.int (md_th 0 1 1), .int (nI nm), .ref ap, .int (nI no), .ref am, .ref aw, .ref az, .ref au, .int kn, .long vP, .long vQ, .long vS, .long vT, .long vB, .long vM, .long vH, .ref ao, .ref ax, .int (nI np), .ref ay, .int (nI nl), .ref ad, .ref al, .int (nI sn), .ref ag, .int (nI ta), .int nb]))] H := hP
        have hD : va_D A [(h0, .inr (7, [.int (md_th 0 1 1), .int (nI nm), .ref ap, .int (nI no), .ref am, .ref aw, .ref az, .ref au, .int kn, .long vP, .long vQ, .long vS, .long vT, .long vB, .long vM, .long vH, .ref ao, .ref ax, .int (nI np), .ref ay, .int (nI nl), .ref ad, .ref al, .int (nI sn), .ref ag, .int (nI ta), .int nb]))] := hD
        subst hw_25
        refine lv_if_ne (tgt := 51) hx hb d_MD_place_46 (by decide) (fun c_26 => ?_) (fun c_26 => ?_)
        · exact absurd (md_th_all (bI_t rfl c_26)) (fun q => q.1 rfl)
        · have b_27 := bI_f (rfl : bI (md_th 0 1 1 = 0) = _) c_26
          refine lv_iconst (v := 0) hx hb d_MD_place_49 (by decide) ?_
          have hP9 := hP.sub (ws' := [(h0, .inr (7, [.int (md_th 0 1 1), .int (nI nm), .ref ap, .int (nI no), .ref am, .ref aw, .ref az, .ref au, .int kn, .long vP, .long vQ, .long vS, .long vT, .long vB, .long vM, .long vH, .ref ao, .ref ax, .int (nI np), .ref ay, .int (nI nl), .ref ad, .ref al, .int (nI sn), .ref ag, .int (nI ta), .int nb]))]) [0] rfl
          have hD9 := hD.sub (ws' := [(h0, .inr (7, [.int (md_th 0 1 1), .int (nI nm), .ref ap, .int (nI no), .ref am, .ref aw, .ref az, .ref au, .int kn, .long vP, .long vQ, .long vS, .long vT, .long vB, .long vM, .long vH, .ref ao, .ref ax, .int (nI np), .ref ay, .int (nI nl), .ref ad, .ref al, .int (nI sn), .ref ag, .int (nI ta), .int nb]))]) [0] (by decide) rfl
          have hK9 := hK.sub (tys' := []) [] rfl
          exact W.iret (v := 0) hx hb hr (fun t ht hW => ⟨⟨0, (), rfl, rfl, ⟨by rw [ht]; rw [show bI (md_win k0 0 (nI np - 1) ∧ md_win a 0 2) = 0 from (bI_n (fun q => b_18 q.2)).symm, show bI (¬ kn = -1) = 1 from (bI_p c_19).symm]; exact hP9, va_K.moved hW.alike hK9, by rw [show bI (md_win k0 0 (nI np - 1) ∧ md_win a 0 2) = 0 from (bI_n (fun q => b_18 q.2)).symm, show bI (¬ kn = -1) = 1 from (bI_p c_19).symm]; exact hD9⟩⟩, hS.F ht⟩) hS.2.2 d_MD_place_50 hlocks
    · have b_28 := bI_t (rfl : bI (md_win a 0 2) = _) c_17
      refine lv_iconst (v := 1) hx hb d_MD_place_24 (by decide) ?_
      refine lv_goto (tgt := 29) hx hb d_MD_place_25 (by decide) ?_
      refine lv_aload_n hx hb d_MD_place_29 rfl (lv_at hl 0 rfl) ?_
      refine va_get (D := (dC, dI)) (ci := 7) (v := .int kn) (C := xR_MD) (T := xT_MD) (N := 27) hx hb hts (fun w h => List.mem_cons_of_mem _ (iw_MD w h)) hown hK hP 0 rfl rfl 8 (by decide) (hts _ (List.mem_cons_of_mem _ wm_705)) (fun _ h9 => h9) rfl d_MD_place_30 ?_
      refine lv_iconst (v := (-1)) hx hb d_MD_place_33 (by decide) ?_
      refine lv_icmp_eq (tgt := 41) hx hb d_MD_place_34 (by decide) (fun c_29 => ?_) (fun c_29 => ?_)
      · refine lv_iconst (v := 0) hx hb d_MD_place_41 (by decide) ?_
        refine lv_iconst (v := 1) hx hb d_MD_place_42 (by decide) ?_
        have hPc := hP.sub (ws' := [(h0, .inr (7, [.int th, .int (nI nm), .ref ap, .int (nI no), .ref am, .ref aw, .ref az, .ref au, .int kn, .long vP, .long vQ, .long vS, .long vT, .long vB, .long vM, .long vH, .ref ao, .ref ax, .int (nI np), .ref ay, .int (nI nl), .ref ad, .ref al, .int (nI sn), .ref ag, .int (nI ta), .int nb]))]) [0] rfl
        have hDc := hD.sub (ws' := [(h0, .inr (7, [.int th, .int (nI nm), .ref ap, .int (nI no), .ref am, .ref aw, .ref az, .ref au, .int kn, .long vP, .long vQ, .long vS, .long vT, .long vB, .long vM, .long vH, .ref ao, .ref ax, .int (nI np), .ref ay, .int (nI nl), .ref ad, .ref al, .int (nI sn), .ref ag, .int (nI ta), .int nb]))]) [0] (by decide) rfl
        have hKc := hK.sub (tys' := []) [] rfl
        have hFc := va_free (wc := [(h0, .inr (7, [.int th, .int (nI nm), .ref ap, .int (nI no), .ref am, .ref aw, .ref az, .ref au, .int kn, .long vP, .long vQ, .long vS, .long vT, .long vB, .long vM, .long vH, .ref ao, .ref ax, .int (nI np), .ref ay, .int (nI nl), .ref ad, .ref al, .int (nI sn), .ref ag, .int (nI ta), .int nb]))]) hD hS hA [0] rfl
        refine va_calli (va_runV (As := [.int 1, .int 0, .int 1]) (rest := []) ⟨hx, hb, hml, hown, hts⟩ (c_MD_goes l dC dI s.heap.size h0 th nm ap no am aw az au kn vP vQ vS vT vB vM vH ao ax np ay nl ad al sn ag ta nb 1 0 1) (cwV 3 hts (xgV wm_793 wm_795 wm_13 wm_34 wm_796) rfl rfl rfl (by decide +kernel) ⟨Nat.le_of_ble_eq_true rfl, Nat.le_of_ble_eq_true rfl⟩) ⟨xw_blind, va_recv hKc hPc (ci := 7) (q0 := 0) rfl rfl, fun U hU hW => ⟨rfl, by rw [hU], hz.warm hW, by rw [hU]; exact hPc, va_K.moved hW.alike hKc, hDc.weaken (fun _ _ _ _ => trivial)⟩⟩ rfl rfl hl.1 rfl (lv_room (Nat.le_of_ble_eq_true rfl)) d_MD_place_43 ⟨Nat.le_of_ble_eq_true rfl, Nat.le_of_ble_eq_true rfl⟩) hS (fun q _ h => hFc q h) hFc (fun r_30 _ t H1 locs ht hvm hw_31 hB hz1 hk1 hS => ?_)
        obtain ⟨hP1, hK1, hD1⟩ := hB
        rw [ht] at hP1
        have hK1 := va_K.moved hvm.symm hK1
        obtain ⟨hP, hD⟩ := va_join (wr := []) (w1 := [(h0, .inr (7, [.int (md_th 1 0 1), .int (nI nm), .ref ap, .int (nI no), .ref am, .ref aw, .ref az, .ref au, .int kn, .long vP, .long vQ, .long vS, .long vT, .long vB, .long vM, .long vH, .ref ao, .ref ax, .int (nI np), .ref ay, .int (nI nl), .ref ad, .ref al, .int (nI sn), .ref ag, .int (nI ta), .int nb]))]) hP hD [0] [] rfl rfl (by decide) (by decide) hk1 hFc hP1 hD1
        generalize H1 = H at hP hS ⊢
        have hP : va_P (dC, dI) xCl [(h0, .inr (7, [.int (md_th 1 0 1), .int (nI nm), .ref ap, .int (nI no), .ref am, .ref aw, .ref az, .ref au, .int kn, .long vP, .long vQ, .long vS, .long vT, .long vB, .long vM, .long vH, .ref ao, .ref ax, .int (nI np), .ref ay, .int (nI nl), .ref ad, .ref al, .int (nI sn), .ref ag, .int (nI ta), .int nb]))] H := hP
        have hD : va_D A [(h0, .inr (7, [.int (md_th 1 0 1), .int (nI nm), .ref ap, .int (nI no), .ref am, .ref aw, .ref az, .ref au, .int kn, .long vP, .long vQ, .long vS, .long vT, .long vB, .long vM, .long vH, .ref ao, .ref ax, .int (nI np), .ref ay, .int (nI nl), .ref ad, .ref al, .int (nI sn), .ref ag, .int (nI ta), .int nb]))] := hD
        subst hw_31
        refine lv_if_ne (tgt := 51) hx hb d_MD_place_46 (by decide) (fun c_32 => ?_) (fun c_32 => ?_)
        · exact absurd (md_th_all (bI_t rfl c_32)) (fun q => q.2.1 rfl)
        · have b_33 := bI_f (rfl : bI (md_th 1 0 1 = 0) = _) c_32
          refine lv_iconst (v := 0) hx hb d_MD_place_49 (by decide) ?_
          have hP9 := hP.sub (ws' := [(h0, .inr (7, [.int (md_th 1 0 1), .int (nI nm), .ref ap, .int (nI no), .ref am, .ref aw, .ref az, .ref au, .int kn, .long vP, .long vQ, .long vS, .long vT, .long vB, .long vM, .long vH, .ref ao, .ref ax, .int (nI np), .ref ay, .int (nI nl), .ref ad, .ref al, .int (nI sn), .ref ag, .int (nI ta), .int nb]))]) [0] rfl
          have hD9 := hD.sub (ws' := [(h0, .inr (7, [.int (md_th 1 0 1), .int (nI nm), .ref ap, .int (nI no), .ref am, .ref aw, .ref az, .ref au, .int kn, .long vP, .long vQ, .long vS, .long vT, .long vB, .long vM, .long vH, .ref ao, .ref ax, .int (nI np), .ref ay, .int (nI nl), .ref ad, .ref al, .int (nI sn), .ref ag, .int (nI ta), .int nb]))]) [0] (by decide) rfl
          have hK9 := hK.sub (tys' := []) [] rfl
          exact W.iret (v := 0) hx hb hr (fun t ht hW => ⟨⟨0, (), rfl, rfl, ⟨by rw [ht]; rw [show bI (md_win k0 0 (nI np - 1) ∧ md_win a 0 2) = 1 from (bI_p ⟨b_14, b_28⟩).symm, show bI (¬ kn = -1) = 0 from (bI_n (fun q => q c_29)).symm]; exact hP9, va_K.moved hW.alike hK9, by rw [show bI (md_win k0 0 (nI np - 1) ∧ md_win a 0 2) = 1 from (bI_p ⟨b_14, b_28⟩).symm, show bI (¬ kn = -1) = 0 from (bI_n (fun q => q c_29)).symm]; exact hD9⟩⟩, hS.F ht⟩) hS.2.2 d_MD_place_50 hlocks
      · refine lv_iconst (v := 1) hx hb d_MD_place_37 (by decide) ?_
        refine lv_goto (tgt := 42) hx hb d_MD_place_38 (by decide) ?_
        refine lv_iconst (v := 1) hx hb d_MD_place_42 (by decide) ?_
        have hPc := hP.sub (ws' := [(h0, .inr (7, [.int th, .int (nI nm), .ref ap, .int (nI no), .ref am, .ref aw, .ref az, .ref au, .int kn, .long vP, .long vQ, .long vS, .long vT, .long vB, .long vM, .long vH, .ref ao, .ref ax, .int (nI np), .ref ay, .int (nI nl), .ref ad, .ref al, .int (nI sn), .ref ag, .int (nI ta), .int nb]))]) [0] rfl
        have hDc := hD.sub (ws' := [(h0, .inr (7, [.int th, .int (nI nm), .ref ap, .int (nI no), .ref am, .ref aw, .ref az, .ref au, .int kn, .long vP, .long vQ, .long vS, .long vT, .long vB, .long vM, .long vH, .ref ao, .ref ax, .int (nI np), .ref ay, .int (nI nl), .ref ad, .ref al, .int (nI sn), .ref ag, .int (nI ta), .int nb]))]) [0] (by decide) rfl
        have hKc := hK.sub (tys' := []) [] rfl
        have hFc := va_free (wc := [(h0, .inr (7, [.int th, .int (nI nm), .ref ap, .int (nI no), .ref am, .ref aw, .ref az, .ref au, .int kn, .long vP, .long vQ, .long vS, .long vT, .long vB, .long vM, .long vH, .ref ao, .ref ax, .int (nI np), .ref ay, .int (nI nl), .ref ad, .ref al, .int (nI sn), .ref ag, .int (nI ta), .int nb]))]) hD hS hA [0] rfl
        refine va_calli (va_runV (As := [.int 1, .int 1, .int 1]) (rest := []) ⟨hx, hb, hml, hown, hts⟩ (c_MD_goes l dC dI s.heap.size h0 th nm ap no am aw az au kn vP vQ vS vT vB vM vH ao ax np ay nl ad al sn ag ta nb 1 1 1) (cwV 3 hts (xgV wm_793 wm_795 wm_13 wm_34 wm_796) rfl rfl rfl (by decide +kernel) ⟨Nat.le_of_ble_eq_true rfl, Nat.le_of_ble_eq_true rfl⟩) ⟨xw_blind, va_recv hKc hPc (ci := 7) (q0 := 0) rfl rfl, fun U hU hW => ⟨rfl, by rw [hU], hz.warm hW, by rw [hU]; exact hPc, va_K.moved hW.alike hKc, hDc.weaken (fun _ _ _ _ => trivial)⟩⟩ rfl rfl hl.1 rfl (lv_room (Nat.le_of_ble_eq_true rfl)) d_MD_place_43 ⟨Nat.le_of_ble_eq_true rfl, Nat.le_of_ble_eq_true rfl⟩) hS (fun q _ h => hFc q h) hFc (fun r_34 _ t H1 locs ht hvm hw_35 hB hz1 hk1 hS => ?_)
        obtain ⟨hP1, hK1, hD1⟩ := hB
        rw [ht] at hP1
        have hK1 := va_K.moved hvm.symm hK1
        obtain ⟨hP, hD⟩ := va_join (wr := []) (w1 := [(h0, .inr (7, [.int (md_th 1 1 1), .int (nI nm), .ref ap, .int (nI no), .ref am, .ref aw, .ref az, .ref au, .int kn, .long vP, .long vQ, .long vS, .long vT, .long vB, .long vM, .long vH, .ref ao, .ref ax, .int (nI np), .ref ay, .int (nI nl), .ref ad, .ref al, .int (nI sn), .ref ag, .int (nI ta), .int nb]))]) hP hD [0] [] rfl rfl (by decide) (by decide) hk1 hFc hP1 hD1
        generalize H1 = H at hP hS ⊢
        have hP : va_P (dC, dI) xCl [(h0, .inr (7, [.int (md_th 1 1 1), .int (nI nm), .ref ap, .int (nI no), .ref am, .ref aw, .ref az, .ref au, .int kn, .long vP, .long vQ, .long vS, .long vT, .long vB, .long vM, .long vH, .ref ao, .ref ax, .int (nI np), .ref ay, .int (nI nl), .ref ad, .ref al, .int (nI sn), .ref ag, .int (nI ta), .int nb]))] H := hP
        have hD : va_D A [(h0, .inr (7, [.int (md_th 1 1 1), .int (nI nm), .ref ap, .int (nI no), .ref am, .ref aw, .ref az, .ref au, .int kn, .long vP, .long vQ, .long vS, .long vT, .long vB, .long vM, .long vH, .ref ao, .ref ax, .int (nI np), .ref ay, .int (nI nl), .ref ad, .ref al, .int (nI sn), .ref ag, .int (nI ta), .int nb]))] := hD
        subst hw_35
        refine lv_if_ne (tgt := 51) hx hb d_MD_place_46 (by decide) (fun c_36 => ?_) (fun c_36 => ?_)
        · exact absurd (md_th_all (bI_t rfl c_36)) (fun q => hn ⟨⟨b_14, b_28⟩, c_29⟩)
        · have b_37 := bI_f (rfl : bI (md_th 1 1 1 = 0) = _) c_36
          refine lv_iconst (v := 0) hx hb d_MD_place_49 (by decide) ?_
          have hP9 := hP.sub (ws' := [(h0, .inr (7, [.int (md_th 1 1 1), .int (nI nm), .ref ap, .int (nI no), .ref am, .ref aw, .ref az, .ref au, .int kn, .long vP, .long vQ, .long vS, .long vT, .long vB, .long vM, .long vH, .ref ao, .ref ax, .int (nI np), .ref ay, .int (nI nl), .ref ad, .ref al, .int (nI sn), .ref ag, .int (nI ta), .int nb]))]) [0] rfl
          have hD9 := hD.sub (ws' := [(h0, .inr (7, [.int (md_th 1 1 1), .int (nI nm), .ref ap, .int (nI no), .ref am, .ref aw, .ref az, .ref au, .int kn, .long vP, .long vQ, .long vS, .long vT, .long vB, .long vM, .long vH, .ref ao, .ref ax, .int (nI np), .ref ay, .int (nI nl), .ref ad, .ref al, .int (nI sn), .ref ag, .int (nI ta), .int nb]))]) [0] (by decide) rfl
          have hK9 := hK.sub (tys' := []) [] rfl
          exact W.iret (v := 0) hx hb hr (fun t ht hW => ⟨⟨0, (), rfl, rfl, ⟨by rw [ht]; rw [show bI (md_win k0 0 (nI np - 1) ∧ md_win a 0 2) = 1 from (bI_p ⟨b_14, b_28⟩).symm, show bI (¬ kn = -1) = 1 from (bI_p c_29).symm]; exact hP9, va_K.moved hW.alike hK9, by rw [show bI (md_win k0 0 (nI np - 1) ∧ md_win a 0 2) = 1 from (bI_p ⟨b_14, b_28⟩).symm, show bI (¬ kn = -1) = 1 from (bI_p c_29).symm]; exact hD9⟩⟩, hS.F ht⟩) hS.2.2 d_MD_place_50 hlocks
set_option maxHeartbeats 4000000 in
set_option maxRecDepth 100000 in
/-- sum -/
theorem c_MD_sum_y (l : Launch) (dC : Nat → ClassId) (dI : Nat → Nat → Nat) (sz : Nat) (h0 : Nat) (th : Int32) (nm : Nat) (ap : Nat) (no : Nat) (am : Nat) (aw : Nat) (az : Nat) (au : Nat) (kn : Int32) (vP : Int64) (vQ : Int64) (vS : Int64) (vT : Int64) (vB : Int64) (vM : Int64) (vH : Int64) (ao : Nat) (ax : Nat) (np : Nat) (ay : Nat) (nl : Nat) (ad : Nat) (al : Nat) (sn : Nat) (ag : Nat) (ta : Nat) (nb : Int32) (kp : ClassId) (km : ClassId) (kw : ClassId) (ko : ClassId) (mk : Nat → Nat) (gp : Nat → Int32) (gw : Nat → Int32) (ho : Nat → Int32) (kx : ClassId) (hx_ : Nat → Int32) (k1 : Nat) (hkn : ¬ kn = -1) (hMB : 0 < vM * vB) (hk0 : kn = nI k1) (hk1 : k1 ≤ 20) (hmk : ∀ o, o < k1 → mk o < 12) : Met l xy_MD_sum xw_MD_sum ({ frames := 4, cells := 0, slots := 0, locals := 98 }) (xp_w [.ref h0] sz (dC, dI) xCl [(h0, .inr (7, [.int th, .int (nI nm), .ref ap, .int (nI no), .ref am, .ref aw, .ref az, .ref au, .int kn, .long vP, .long vQ, .long vS, .long vT, .long vB, .long vM, .long vH, .ref ao, .ref ax, .int (nI np), .ref ay, .int (nI nl), .ref ad, .ref al, .int (nI sn), .ref ag, .int (nI ta), .int nb])), (ap, .inl (kp, 36, .inl gp)), (am, .inl (km, 20, .inl (md_mk mk))), (aw, .inl (kw, 60, .inl gw)), (ao, .inl (ko, 20, .inl ho)), (ax, .inl (kx, 20, .inl hx_))] [(kp, .int), (km, .int), (kw, .int), (ko, .int), (kx, .boolean)]) (va_Ql (fun (r : Int64) (_ : Unit) => r = md_ss gp gw ho mk vP vQ vS vT vM vB vH hx_ k1) (fun _ t => xb_w (dC, dI) xCl [(h0, .inr (7, [.int 0, .int (nI nm), .ref ap, .int (nI no), .ref am, .ref aw, .ref az, .ref au, .int kn, .long vP, .long vQ, .long vS, .long vT, .long vB, .long vM, .long vH, .ref ao, .ref ax, .int (nI np), .ref ay, .int (nI nl), .ref ad, .ref al, .int (nI sn), .ref ag, .int (nI ta), .int nb])), (ap, .inl (kp, 36, .inl gp)), (am, .inl (km, 20, .inl (md_mk mk))), (aw, .inl (kw, 60, .inl gw)), (ao, .inl (ko, 20, .inl ho)), (ax, .inl (kx, 20, .inl hx_))] [(kp, .int), (km, .int), (kw, .int), (ko, .int), (kx, .boolean)] (va_A [(h0, .inr (7, [.int th, .int (nI nm), .ref ap, .int (nI no), .ref am, .ref aw, .ref az, .ref au, .int kn, .long vP, .long vQ, .long vS, .long vT, .long vB, .long vM, .long vH, .ref ao, .ref ax, .int (nI np), .ref ay, .int (nI nl), .ref ad, .ref al, .int (nI sn), .ref ag, .int (nI ta), .int nb])), (ap, .inl (kp, 36, .inl gp)), (am, .inl (km, 20, .inl (md_mk mk))), (aw, .inl (kw, 60, .inl gw)), (ao, .inl (ko, 20, .inl ho)), (ax, .inl (kx, 20, .inl hx_))] sz) t) (va_A [(h0, .inr (7, [.int th, .int (nI nm), .ref ap, .int (nI no), .ref am, .ref aw, .ref az, .ref au, .int kn, .long vP, .long vQ, .long vS, .long vT, .long vB, .long vM, .long vH, .ref ao, .ref ax, .int (nI np), .ref ay, .int (nI nl), .ref ad, .ref al, .int (nI sn), .ref ag, .int (nI ta), .int nb])), (ap, .inl (kp, 36, .inl gp)), (am, .inl (km, 20, .inl (md_mk mk))), (aw, .inl (kw, 60, .inl gw)), (ao, .inl (ko, 20, .inl ho)), (ax, .inl (kx, 20, .inl hx_))] sz)) 0 0 (va_A [(h0, .inr (7, [.int th, .int (nI nm), .ref ap, .int (nI no), .ref am, .ref aw, .ref az, .ref au, .int kn, .long vP, .long vQ, .long vS, .long vT, .long vB, .long vM, .long vH, .ref ao, .ref ax, .int (nI np), .ref ay, .int (nI nl), .ref ad, .ref al, .int (nI sn), .ref ag, .int (nI ta), .int nb])), (ap, .inl (kp, 36, .inl gp)), (am, .inl (km, 20, .inl (md_mk mk))), (aw, .inl (kw, 60, .inl gw)), (ao, .inl (ko, 20, .inl ho)), (ax, .inl (kx, 20, .inl hx_))] sz) := by
  refine Met.ofW (cc := prog_9_method_23_code) (maxL := 6) (ret := (some .long)) (by decide) rfl ?_
  intro p e s m args below meth c s₁ B hml hv
  obtain ⟨rfl, hsz, hz, hP, hK, hD0⟩ := hv
  have hx := B.exec
  have hb := B.bytes
  have hr := B.returns
  have hts := atoms_spec (ws := xw_MD_sum) B.pre
  have hown : s.vm.findClass xR_MD = some m.cls := findClass_of_methodNamed B.named
  have hlocks := B.notSynchronized
  subst hsz
  have hD := hD0.self (sz := s.heap.size)
  generalize hAe : va_A [(h0, .inr (7, [.int th, .int (nI nm), .ref ap, .int (nI no), .ref am, .ref aw, .ref az, .ref au, .int kn, .long vP, .long vQ, .long vS, .long vT, .long vB, .long vM, .long vH, .ref ao, .ref ax, .int (nI np), .ref ay, .int (nI nl), .ref ad, .ref al, .int (nI sn), .ref ag, .int (nI ta), .int nb])), (ap, .inl (kp, 36, .inl gp)), (am, .inl (km, 20, .inl (md_mk mk))), (aw, .inl (kw, 60, .inl gw)), (ao, .inl (ko, 20, .inl ho)), (ax, .inl (kx, 20, .inl hx_))] s.heap.size = A at hD ⊢
  have hA : ∀ q : Nat, s.heap.size ≤ q → A q := fun q h => by rw [← hAe]; exact Or.inr h
  have hS : va_S A s.heap s.heap [] := va_S.rf
  have hP : va_P (dC, dI) xCl [(h0, .inr (7, [.int th, .int (nI nm), .ref ap, .int (nI no), .ref am, .ref aw, .ref az, .ref au, .int kn, .long vP, .long vQ, .long vS, .long vT, .long vB, .long vM, .long vH, .ref ao, .ref ax, .int (nI np), .ref ay, .int (nI nl), .ref ad, .ref al, .int (nI sn), .ref ag, .int (nI ta), .int nb])), (ap, .inl (kp, 36, .inl gp)), (am, .inl (km, 20, .inl (md_mk mk))), (aw, .inl (kw, 60, .inl gw)), (ao, .inl (ko, 20, .inl ho)), (ax, .inl (kx, 20, .inl hx_))] s.heap := hP
  have hl := lv_entry ([.ref h0]) (n := 6) (Nat.le_of_ble_eq_true rfl)
  rw [lg_entry_eq]
  generalize (lg_sl ([.ref h0]) ++ List.replicate (6 - (lg_sl ([.ref h0])).length) Slot.unset).toArray = ls at hl ⊢
  have hl : lv_has ls 6 [(0, .ref h0)] := hl
  refine lv_aload_n hx hb d_MD_sum_0 rfl (lv_at hl 0 rfl) ?_
  refine lv_aload_n hx hb d_MD_sum_1 rfl (lv_at hl 0 rfl) ?_
  refine va_get (D := (dC, dI)) (ci := 7) (v := .int kn) (C := xR_MD) (T := xT_MD) (N := 27) hx hb hts (fun w h => List.mem_cons_of_mem _ (iw_MD w h)) hown hK hP 0 rfl rfl 8 (by decide) (hts _ (List.mem_cons_of_mem _ wm_705)) (fun _ h9 => h9) rfl d_MD_sum_2 ?_
  refine lv_iconst (v := (-1)) hx hb d_MD_sum_5 (by decide) ?_
  refine lv_icmp_eq (tgt := 13) hx hb d_MD_sum_6 (by decide) (fun c_1 => ?_) (fun c_1 => ?_)
  · exact absurd c_1 hkn
  · refine lv_iconst (v := 1) hx hb d_MD_sum_9 (by decide) ?_
    refine lv_goto (tgt := 14) hx hb d_MD_sum_10 (by decide) ?_
    refine lv_iconst (v := 1) hx hb d_MD_sum_14 (by decide) ?_
    refine lv_iconst (v := 1) hx hb d_MD_sum_15 (by decide) ?_
    have hPc := hP.sub (ws' := [(h0, .inr (7, [.int th, .int (nI nm), .ref ap, .int (nI no), .ref am, .ref aw, .ref az, .ref au, .int kn, .long vP, .long vQ, .long vS, .long vT, .long vB, .long vM, .long vH, .ref ao, .ref ax, .int (nI np), .ref ay, .int (nI nl), .ref ad, .ref al, .int (nI sn), .ref ag, .int (nI ta), .int nb]))]) [0] rfl
    have hDc := hD.sub (ws' := [(h0, .inr (7, [.int th, .int (nI nm), .ref ap, .int (nI no), .ref am, .ref aw, .ref az, .ref au, .int kn, .long vP, .long vQ, .long vS, .long vT, .long vB, .long vM, .long vH, .ref ao, .ref ax, .int (nI np), .ref ay, .int (nI nl), .ref ad, .ref al, .int (nI sn), .ref ag, .int (nI ta), .int nb]))]) [0] (by decide) rfl
    have hKc := hK.sub (tys' := []) [] rfl
    have hFc := va_free (wc := [(h0, .inr (7, [.int th, .int (nI nm), .ref ap, .int (nI no), .ref am, .ref aw, .ref az, .ref au, .int kn, .long vP, .long vQ, .long vS, .long vT, .long vB, .long vM, .long vH, .ref ao, .ref ax, .int (nI np), .ref ay, .int (nI nl), .ref ad, .ref al, .int (nI sn), .ref ag, .int (nI ta), .int nb]))]) hD hS hA [0] rfl
    refine va_calli (va_runV (As := [.int 1, .int 1, .int 1]) (rest := []) ⟨hx, hb, hml, hown, hts⟩ (c_MD_goes l dC dI s.heap.size h0 th nm ap no am aw az au kn vP vQ vS vT vB vM vH ao ax np ay nl ad al sn ag ta nb 1 1 1) (cwV 3 hts (xgV wm_793 wm_795 wm_13 wm_34 wm_796) rfl rfl rfl (by decide +kernel) ⟨Nat.le_of_ble_eq_true rfl, Nat.le_of_ble_eq_true rfl⟩) ⟨xw_blind, va_recv hKc hPc (ci := 7) (q0 := 0) rfl rfl, fun U hU hW => ⟨rfl, by rw [hU], hz.warm hW, by rw [hU]; exact hPc, va_K.moved hW.alike hKc, hDc.weaken (fun _ _ _ _ => trivial)⟩⟩ rfl rfl hl.1 rfl (lv_room (Nat.le_of_ble_eq_true rfl)) d_MD_sum_16 ⟨Nat.le_of_ble_eq_true rfl, Nat.le_of_ble_eq_true rfl⟩) hS (fun q _ h => hFc q h) hFc (fun r_2 _ t H1 locs ht hvm hw_3 hB hz1 hk1 hS => ?_)
    obtain ⟨hP1, hK1, hD1⟩ := hB
    rw [ht] at hP1
    have hK1 := va_K.moved hvm.symm hK1
    obtain ⟨hP, hD⟩ := va_join (wr := [(ap, .inl (kp, 36, .inl gp)), (am, .inl (km, 20, .inl (md_mk mk))), (aw, .inl (kw, 60, .inl gw)), (ao, .inl (ko, 20, .inl ho)), (ax, .inl (kx, 20, .inl hx_))]) (w1 := [(h0, .inr (7, [.int (md_th 1 1 1), .int (nI nm), .ref ap, .int (nI no), .ref am, .ref aw, .ref az, .ref au, .int kn, .long vP, .long vQ, .long vS, .long vT, .long vB, .long vM, .long vH, .ref ao, .ref ax, .int (nI np), .ref ay, .int (nI nl), .ref ad, .ref al, .int (nI sn), .ref ag, .int (nI ta), .int nb]))]) hP hD [0] [1, 2, 3, 4, 5] rfl rfl (by decide) (by decide) hk1 hFc hP1 hD1
    generalize H1 = H at hP hS ⊢
    have hP : va_P (dC, dI) xCl [(ap, .inl (kp, 36, .inl gp)), (am, .inl (km, 20, .inl (md_mk mk))), (aw, .inl (kw, 60, .inl gw)), (ao, .inl (ko, 20, .inl ho)), (ax, .inl (kx, 20, .inl hx_)), (h0, .inr (7, [.int (md_th 1 1 1), .int (nI nm), .ref ap, .int (nI no), .ref am, .ref aw, .ref az, .ref au, .int kn, .long vP, .long vQ, .long vS, .long vT, .long vB, .long vM, .long vH, .ref ao, .ref ax, .int (nI np), .ref ay, .int (nI nl), .ref ad, .ref al, .int (nI sn), .ref ag, .int (nI ta), .int nb]))] H := hP
    have hD : va_D A [(ap, .inl (kp, 36, .inl gp)), (am, .inl (km, 20, .inl (md_mk mk))), (aw, .inl (kw, 60, .inl gw)), (ao, .inl (ko, 20, .inl ho)), (ax, .inl (kx, 20, .inl hx_)), (h0, .inr (7, [.int (md_th 1 1 1), .int (nI nm), .ref ap, .int (nI no), .ref am, .ref aw, .ref az, .ref au, .int kn, .long vP, .long vQ, .long vS, .long vT, .long vB, .long vM, .long vH, .ref ao, .ref ax, .int (nI np), .ref ay, .int (nI nl), .ref ad, .ref al, .int (nI sn), .ref ag, .int (nI ta), .int nb]))] := hD
    subst hw_3
    refine lv_if_ne (tgt := 24) hx hb d_MD_sum_19 (by decide) (fun c_4 => ?_) (fun c_4 => ?_)
    · have b_5 := bI_t (rfl : bI (md_th 1 1 1 = 0) = _) c_4
      rw [hk0] at hP hD
      have hP : va_P (dC, dI) xCl [(ap, .inl (kp, 36, .inl gp)), (am, .inl (km, 20, .inl (md_mk mk))), (aw, .inl (kw, 60, .inl gw)), (ao, .inl (ko, 20, .inl ho)), (ax, .inl (kx, 20, .inl hx_)), (h0, .inr (7, [.int (md_th 1 1 1), .int (nI nm), .ref ap, .int (nI no), .ref am, .ref aw, .ref az, .ref au, .int (nI k1), .long vP, .long vQ, .long vS, .long vT, .long vB, .long vM, .long vH, .ref ao, .ref ax, .int (nI np), .ref ay, .int (nI nl), .ref ad, .ref al, .int (nI sn), .ref ag, .int (nI ta), .int nb]))] H := hP
      have hD : va_D A [(ap, .inl (kp, 36, .inl gp)), (am, .inl (km, 20, .inl (md_mk mk))), (aw, .inl (kw, 60, .inl gw)), (ao, .inl (ko, 20, .inl ho)), (ax, .inl (kx, 20, .inl hx_)), (h0, .inr (7, [.int (md_th 1 1 1), .int (nI nm), .ref ap, .int (nI no), .ref am, .ref aw, .ref az, .ref au, .int (nI k1), .long vP, .long vQ, .long vS, .long vT, .long vB, .long vM, .long vH, .ref ao, .ref ax, .int (nI np), .ref ay, .int (nI nl), .ref ad, .ref al, .int (nI sn), .ref ag, .int (nI ta), .int nb]))] := hD
      refine lv_lconst (v := 0) hx hb d_MD_sum_24 (by decide) ?_
      refine lv_lstore_n (lv' := [(1, .long 0), (0, .ref h0)]) hx hb d_MD_sum_25 rfl hl (by decide) rfl (fun ls hl => ?_)
      refine lv_iconst (v := 0) hx hb d_MD_sum_26 (by decide) ?_
      refine lv_istore_n (lv' := [(3, .int 0), (1, .long 0), (0, .ref h0)]) hx hb d_MD_sum_27 rfl hl (by decide) rfl (fun ls hl => ?_)
      have lp28 : ∀ (fuel : Nat) (i : Nat) (g : Int64), k1 - i < fuel → i ≤ k1 → g = md_ss gp gw ho mk vP vQ vS vT vM vB vH hx_ i → ∀ (H : Heap) (locs : List Loc), va_P (dC, dI) xCl [(ap, .inl (kp, 36, .inl gp)), (am, .inl (km, 20, .inl (md_mk mk))), (aw, .inl (kw, 60, .inl gw)), (ao, .inl (ko, 20, .inl ho)), (ax, .inl (kx, 20, .inl hx_)), (h0, .inr (7, [.int (md_th 1 1 1), .int (nI nm), .ref ap, .int (nI no), .ref am, .ref aw, .ref az, .ref au, .int (nI k1), .long vP, .long vQ, .long vS, .long vT, .long vB, .long vM, .long vH, .ref ao, .ref ax, .int (nI np), .ref ay, .int (nI nl), .ref ad, .ref al, .int (nI sn), .ref ag, .int (nI ta), .int nb]))] H → va_D A [(ap, .inl (kp, 36, .inl gp)), (am, .inl (km, 20, .inl (md_mk mk))), (aw, .inl (kw, 60, .inl gw)), (ao, .inl (ko, 20, .inl ho)), (ax, .inl (kx, 20, .inl hx_)), (h0, .inr (7, [.int (md_th 1 1 1), .int (nI nm), .ref ap, .int (nI no), .ref am, .ref aw, .ref az, .ref au, .int (nI k1), .long vP, .long vQ, .long vS, .long vT, .long vB, .long vM, .long vH, .ref ao, .ref ax, .int (nI np), .ref ay, .int (nI nl), .ref ad, .ref al, .int (nI sn), .ref ag, .int (nI ta), .int nb]))] → va_S A s.heap H locs → ∀ (ls : Array Slot), lv_has ls 6 [(0, .ref h0), (1, .long g), (3, .int (nI i))] → W p l e (headSpec xw_MD_sum ({ frames := 4, cells := 0, slots := 0, locals := 98 })).room s m ([.ref h0] : List Value).toArray below meth c H locs 0 0 (MQ below (va_Ql (fun (r : Int64) (_ : Unit) => r = md_ss gp gw ho mk vP vQ vS vT vM vB vH hx_ k1) (fun _ t => xb_w (dC, dI) xCl [(h0, .inr (7, [.int 0, .int (nI nm), .ref ap, .int (nI no), .ref am, .ref aw, .ref az, .ref au, .int kn, .long vP, .long vQ, .long vS, .long vT, .long vB, .long vM, .long vH, .ref ao, .ref ax, .int (nI np), .ref ay, .int (nI nl), .ref ad, .ref al, .int (nI sn), .ref ag, .int (nI ta), .int nb])), (ap, .inl (kp, 36, .inl gp)), (am, .inl (km, 20, .inl (md_mk mk))), (aw, .inl (kw, 60, .inl gw)), (ao, .inl (ko, 20, .inl ho)), (ax, .inl (kx, 20, .inl hx_))] [(kp, .int), (km, .int), (kw, .int), (ko, .int), (kx, .boolean)] A t) A) ([.ref h0] : List Value).toArray s 0 0 A) (F0 m 28 ls []) := by
        intro fuel
        induction fuel with
        | zero => intro i g hfu; exact absurd hfu (Nat.not_lt_zero _)
        | succ fuel ih =>
          intro i g hfu hi hg H locs hP hD hS ls hl
          subst hg
          refine lv_iload_n hx hb d_MD_sum_28 rfl (lv_at hl 2 rfl) ?_
          refine lv_aload_n hx hb d_MD_sum_29 rfl (lv_at hl 0 rfl) ?_
          refine va_get (D := (dC, dI)) (ci := 7) (v := .int (nI k1)) (C := xR_MD) (T := xT_MD) (N := 27) hx hb hts (fun w h => List.mem_cons_of_mem _ (iw_MD w h)) hown hK hP 5 rfl rfl 8 (by decide) (hts _ (List.mem_cons_of_mem _ wm_705)) (fun _ h9 => h9) rfl d_MD_sum_30 ?_
          refine lv_icmp_ge (tgt := 78) hx hb d_MD_sum_33 (by decide) (fun c_6 => ?_) (fun c_6 => ?_)
          · have n_7 := xn_le (a := k1) (b := i) c_6 rfl rfl (by omega) (by omega)
            refine lv_lload_n hx hb d_MD_sum_78 rfl (lv_at hl 1 rfl) ?_
            rw [md_th_0 (by decide) (by decide) (by decide)] at hP hD
            rw [← hk0] at hP hD
            have hP9 := hP.sub (ws' := [(h0, .inr (7, [.int 0, .int (nI nm), .ref ap, .int (nI no), .ref am, .ref aw, .ref az, .ref au, .int kn, .long vP, .long vQ, .long vS, .long vT, .long vB, .long vM, .long vH, .ref ao, .ref ax, .int (nI np), .ref ay, .int (nI nl), .ref ad, .ref al, .int (nI sn), .ref ag, .int (nI ta), .int nb])), (ap, .inl (kp, 36, .inl gp)), (am, .inl (km, 20, .inl (md_mk mk))), (aw, .inl (kw, 60, .inl gw)), (ao, .inl (ko, 20, .inl ho)), (ax, .inl (kx, 20, .inl hx_))]) [5, 0, 1, 2, 3, 4] rfl
            have hD9 := hD.sub (ws' := [(h0, .inr (7, [.int 0, .int (nI nm), .ref ap, .int (nI no), .ref am, .ref aw, .ref az, .ref au, .int kn, .long vP, .long vQ, .long vS, .long vT, .long vB, .long vM, .long vH, .ref ao, .ref ax, .int (nI np), .ref ay, .int (nI nl), .ref ad, .ref al, .int (nI sn), .ref ag, .int (nI ta), .int nb])), (ap, .inl (kp, 36, .inl gp)), (am, .inl (km, 20, .inl (md_mk mk))), (aw, .inl (kw, 60, .inl gw)), (ao, .inl (ko, 20, .inl ho)), (ax, .inl (kx, 20, .inl hx_))]) [5, 0, 1, 2, 3, 4] (by decide) rfl
            have hK9 := hK.sub (tys' := [(kp, .int), (km, .int), (kw, .int), (ko, .int), (kx, .boolean)]) [0, 1, 2, 3, 4] rfl
            exact W.lret (v := md_ss gp gw ho mk vP vQ vS vT vM vB vH hx_ i) hx hb hr (fun t ht hW => ⟨⟨md_ss gp gw ho mk vP vQ vS vT vM vB vH hx_ i, (), rfl, (by rw [show i = k1 by omega]), ⟨by rw [ht]; exact hP9, va_K.moved hW.alike hK9, by exact hD9⟩⟩, hS.F ht⟩) hS.2.2 d_MD_sum_79 hlocks
          · have n_8 := xn_nle (a := k1) (b := i) c_6 rfl rfl (by omega) (by omega)
            have hmi := hmk i (by omega)
            refine lv_aload_n hx hb d_MD_sum_36 rfl (lv_at hl 0 rfl) ?_
            refine lv_iload_n hx hb d_MD_sum_37 rfl (lv_at hl 2 rfl) ?_
            refine lv_iconst (v := 2) hx hb d_MD_sum_38 (by decide) ?_
            refine xr_calli (va_runV (As := [.int (nI i), .int 2]) (rest := []) ⟨hx, hb, hml, hown, hts⟩ (c_MD_missed2 l dC dI h0 (md_th 1 1 1) nm ap no am aw az au (nI k1) vP vQ vS vT vB vM vH ao ax np ay nl ad al sn ag ta nb kp km kw ko mk gp gw ho i (by first | assumption | omega | decide) (by first | assumption | omega | decide) (by first | assumption | omega | decide)) (cwV 2 hts (xgV wm_844 wm_846 wm_18 wm_34 wm_847) rfl rfl rfl (by decide +kernel) ⟨Nat.le_of_ble_eq_true rfl, Nat.le_of_ble_eq_true rfl⟩) ⟨xp_blind, va_recv hK hP (ci := 7) (q0 := 5) rfl rfl, fun U hU hW => ⟨rfl, hz.warm hW, by rw [hU]; exact hP.sub [5, 0, 1, 2, 3] rfl, va_K.moved hW.alike (hK.sub [0, 1, 2, 3] rfl)⟩⟩ rfl rfl hl.1 rfl (lv_room (Nat.le_of_ble_eq_true rfl)) d_MD_sum_39 ⟨Nat.le_of_ble_eq_true rfl, Nat.le_of_ble_eq_true rfl⟩) (fun r_9 h_10 => ?_)
            subst h_10
            refine lv_i2l (v := (md_x2 gp gw ho mk vH i).toInt64) hx hb d_MD_sum_42 rfl ?_
            refine lv_lstore (lv' := [(4, .long ((md_x2 gp gw ho mk vH i).toInt64)), (0, .ref h0), (1, .long (md_ss gp gw ho mk vP vQ vS vT vM vB vH hx_ i)), (3, .int (nI i))]) hx hb d_MD_sum_43 hl (by decide) rfl (fun ls hl => ?_)
            refine lv_aload_n hx hb d_MD_sum_45 rfl (lv_at hl 1 rfl) ?_
            refine va_get (D := (dC, dI)) (ci := 7) (v := .ref ax) (C := xR_MD) (T := xT_MD) (N := 27) hx hb hts (fun w h => List.mem_cons_of_mem _ (iw_MD w h)) hown hK hP 5 rfl rfl 17 (by decide) (hts _ (List.mem_cons_of_mem _ wm_714)) (fun _ h9 => h9) rfl d_MD_sum_46 ?_
            refine lv_iload_n hx hb d_MD_sum_49 rfl (lv_at hl 3 rfl) ?_
            refine xa_zald hx hb hK hP 4 4 rfl rfl i rfl (by omega) (by decide) d_MD_sum_50 ?_
            refine lv_if_eq (tgt := 70) hx hb d_MD_sum_51 (by decide) (fun c_11 => ?_) (fun c_11 => ?_)
            · refine lv_lload_n hx hb d_MD_sum_70 rfl (lv_at hl 2 rfl) ?_
              refine lv_lstore_n (lv' := [(1, .long (md_ss gp gw ho mk vP vQ vS vT vM vB vH hx_ i)), (4, .long ((md_x2 gp gw ho mk vH i).toInt64)), (0, .ref h0), (3, .int (nI i))]) hx hb d_MD_sum_71 rfl hl (by decide) rfl (fun ls hl => ?_)
              refine lv_iinc (v := nI (i + 1)) (lv' := [(3, .int (nI (i + 1))), (1, .long (md_ss gp gw ho mk vP vQ vS vT vM vB vH hx_ i)), (4, .long ((md_x2 gp gw ho mk vH i).toInt64)), (0, .ref h0)]) hx hb d_MD_sum_72 hl (k := 3) rfl (nI_1 _) (by decide) rfl (fun ls hl => ?_)
              refine lv_goto (tgt := 28) hx hb d_MD_sum_75 (by decide) ?_
              exact ih  (i + 1) (md_ss gp gw ho mk vP vQ vS vT vM vB vH hx_ i) (by omega) (by omega) (md_ss_f c_11).symm _ _ (hP.sub [0, 1, 2, 3, 4, 5] rfl) (hD.sub [0, 1, 2, 3, 4, 5] (by decide) rfl) hS ls (lv_sub hl [3, 1, 0] rfl)
            · refine lv_lload_n hx hb d_MD_sum_54 rfl (lv_at hl 2 rfl) ?_
              refine lv_aload_n hx hb d_MD_sum_55 rfl (lv_at hl 1 rfl) ?_
              refine lv_iload_n hx hb d_MD_sum_56 rfl (lv_at hl 3 rfl) ?_
              refine xr_calll (va_runV (As := [.int (nI i)]) (rest := [.long (md_ss gp gw ho mk vP vQ vS vT vM vB vH hx_ i)]) ⟨hx, hb, hml, hown, hts⟩ (c_MD_flat l dC dI h0 (md_th 1 1 1) nm ap no am aw az au (nI k1) vP vQ vS vT vB vM vH ao ax np ay nl ad al sn ag ta nb kp km kw ko mk gp gw ho i (by first | assumption | omega | decide) (by first | assumption | omega | decide) (by first | assumption | omega | decide)) (cwV 1 hts (xgV wm_857 wm_859 wm_20 wm_34 wm_860) rfl rfl rfl (by decide +kernel) ⟨Nat.le_of_ble_eq_true rfl, Nat.le_of_ble_eq_true rfl⟩) ⟨xp_blind, va_recv hK hP (ci := 7) (q0 := 5) rfl rfl, fun U hU hW => ⟨rfl, hz.warm hW, by rw [hU]; exact hP.sub [5, 0, 1, 2, 3] rfl, va_K.moved hW.alike (hK.sub [0, 1, 2, 3] rfl)⟩⟩ rfl rfl hl.1 rfl (lv_room (Nat.le_of_ble_eq_true rfl)) d_MD_sum_57 ⟨Nat.le_of_ble_eq_true rfl, Nat.le_of_ble_eq_true rfl⟩) (fun r_12 h_13 => ?_)
              subst h_13
              refine lv_ladd hx hb d_MD_sum_60 ?_
              refine lv_lload hx hb d_MD_sum_61 (lv_at hl 0 rfl) ?_
              refine lv_lload hx hb d_MD_sum_63 (lv_at hl 0 rfl) ?_
              refine lv_lmul hx hb d_MD_sum_65 ?_
              refine lv_ladd hx hb d_MD_sum_66 ?_
              refine lv_goto (tgt := 71) hx hb d_MD_sum_67 (by decide) ?_
              refine lv_lstore_n (lv' := [(1, .long (((md_ss gp gw ho mk vP vQ vS vT vM vB vH hx_ i) + (md_fl gp gw mk vP vQ vS vT vM vB i)) + (((md_x2 gp gw ho mk vH i).toInt64) * ((md_x2 gp gw ho mk vH i).toInt64)))), (4, .long ((md_x2 gp gw ho mk vH i).toInt64)), (0, .ref h0), (3, .int (nI i))]) hx hb d_MD_sum_71 rfl hl (by decide) rfl (fun ls hl => ?_)
              refine lv_iinc (v := nI (i + 1)) (lv' := [(3, .int (nI (i + 1))), (1, .long (((md_ss gp gw ho mk vP vQ vS vT vM vB vH hx_ i) + (md_fl gp gw mk vP vQ vS vT vM vB i)) + (((md_x2 gp gw ho mk vH i).toInt64) * ((md_x2 gp gw ho mk vH i).toInt64)))), (4, .long ((md_x2 gp gw ho mk vH i).toInt64)), (0, .ref h0)]) hx hb d_MD_sum_72 hl (k := 3) rfl (nI_1 _) (by decide) rfl (fun ls hl => ?_)
              refine lv_goto (tgt := 28) hx hb d_MD_sum_75 (by decide) ?_
              exact ih  (i + 1) (((md_ss gp gw ho mk vP vQ vS vT vM vB vH hx_ i) + (md_fl gp gw mk vP vQ vS vT vM vB i)) + (((md_x2 gp gw ho mk vH i).toInt64) * ((md_x2 gp gw ho mk vH i).toInt64))) (by omega) (by omega) (md_ss_t c_11).symm _ _ (hP.sub [0, 1, 2, 3, 4, 5] rfl) (hD.sub [0, 1, 2, 3, 4, 5] (by decide) rfl) hS ls (lv_sub hl [3, 1, 0] rfl)
      exact lp28 (k1 - 0 + 1) 0 0 (by omega) (by omega) rfl _ _ (hP.sub [0, 1, 2, 3, 4, 5] rfl) (hD.sub [0, 1, 2, 3, 4, 5] (by decide) rfl) hS ls (lv_sub hl [2, 1, 0] rfl)
    · exact absurd (md_th_0 (by decide) (by decide) (by decide)) (bI_f rfl c_4)
set_option maxHeartbeats 4000000 in
set_option maxRecDepth 100000 in
/-- sum, refused -/
theorem c_MD_sum_n (l : Launch) (dC : Nat → ClassId) (dI : Nat → Nat → Nat) (sz : Nat) (h0 : Nat) (th : Int32) (nm : Nat) (ap : Nat) (no : Nat) (am : Nat) (aw : Nat) (az : Nat) (au : Nat) (kn : Int32) (vP : Int64) (vQ : Int64) (vS : Int64) (vT : Int64) (vB : Int64) (vM : Int64) (vH : Int64) (ao : Nat) (ax : Nat) (np : Nat) (ay : Nat) (nl : Nat) (ad : Nat) (al : Nat) (sn : Nat) (ag : Nat) (ta : Nat) (nb : Int32) (hn : ¬ (¬ kn = -1)) : Met l xy_MD_sum xw_MD_sum ({ frames := 1, cells := 0, slots := 0, locals := 23 }) (xp_w [.ref h0] sz (dC, dI) xCl [(h0, .inr (7, [.int th, .int (nI nm), .ref ap, .int (nI no), .ref am, .ref aw, .ref az, .ref au, .int kn, .long vP, .long vQ, .long vS, .long vT, .long vB, .long vM, .long vH, .ref ao, .ref ax, .int (nI np), .ref ay, .int (nI nl), .ref ad, .ref al, .int (nI sn), .ref ag, .int (nI ta), .int nb]))] []) (va_Ql (fun (r : Int64) (_ : Unit) => r = 0) (fun _ t => xb_w (dC, dI) xCl [(h0, .inr (7, [.int (md_th (bI (¬ kn = -1)) 1 1), .int (nI nm), .ref ap, .int (nI no), .ref am, .ref aw, .ref az, .ref au, .int kn, .long vP, .long vQ, .long vS, .long vT, .long vB, .long vM, .long vH, .ref ao, .ref ax, .int (nI np), .ref ay, .int (nI nl), .ref ad, .ref al, .int (nI sn), .ref ag, .int (nI ta), .int nb]))] [] (va_A [(h0, .inr (7, [.int th, .int (nI nm), .ref ap, .int (nI no), .ref am, .ref aw, .ref az, .ref au, .int kn, .long vP, .long vQ, .long vS, .long vT, .long vB, .long vM, .long vH, .ref ao, .ref ax, .int (nI np), .ref ay, .int (nI nl), .ref ad, .ref al, .int (nI sn), .ref ag, .int (nI ta), .int nb]))] sz) t) (va_A [(h0, .inr (7, [.int th, .int (nI nm), .ref ap, .int (nI no), .ref am, .ref aw, .ref az, .ref au, .int kn, .long vP, .long vQ, .long vS, .long vT, .long vB, .long vM, .long vH, .ref ao, .ref ax, .int (nI np), .ref ay, .int (nI nl), .ref ad, .ref al, .int (nI sn), .ref ag, .int (nI ta), .int nb]))] sz)) 0 0 (va_A [(h0, .inr (7, [.int th, .int (nI nm), .ref ap, .int (nI no), .ref am, .ref aw, .ref az, .ref au, .int kn, .long vP, .long vQ, .long vS, .long vT, .long vB, .long vM, .long vH, .ref ao, .ref ax, .int (nI np), .ref ay, .int (nI nl), .ref ad, .ref al, .int (nI sn), .ref ag, .int (nI ta), .int nb]))] sz) := by
  refine Met.ofW (cc := prog_9_method_23_code) (maxL := 6) (ret := (some .long)) (by decide) rfl ?_
  intro p e s m args below meth c s₁ B hml hv
  obtain ⟨rfl, hsz, hz, hP, hK, hD0⟩ := hv
  have hx := B.exec
  have hb := B.bytes
  have hr := B.returns
  have hts := atoms_spec (ws := xw_MD_sum) B.pre
  have hown : s.vm.findClass xR_MD = some m.cls := findClass_of_methodNamed B.named
  have hlocks := B.notSynchronized
  subst hsz
  have hD := hD0.self (sz := s.heap.size)
  generalize hAe : va_A [(h0, .inr (7, [.int th, .int (nI nm), .ref ap, .int (nI no), .ref am, .ref aw, .ref az, .ref au, .int kn, .long vP, .long vQ, .long vS, .long vT, .long vB, .long vM, .long vH, .ref ao, .ref ax, .int (nI np), .ref ay, .int (nI nl), .ref ad, .ref al, .int (nI sn), .ref ag, .int (nI ta), .int nb]))] s.heap.size = A at hD ⊢
  have hA : ∀ q : Nat, s.heap.size ≤ q → A q := fun q h => by rw [← hAe]; exact Or.inr h
  have hS : va_S A s.heap s.heap [] := va_S.rf
  have hP : va_P (dC, dI) xCl [(h0, .inr (7, [.int th, .int (nI nm), .ref ap, .int (nI no), .ref am, .ref aw, .ref az, .ref au, .int kn, .long vP, .long vQ, .long vS, .long vT, .long vB, .long vM, .long vH, .ref ao, .ref ax, .int (nI np), .ref ay, .int (nI nl), .ref ad, .ref al, .int (nI sn), .ref ag, .int (nI ta), .int nb]))] s.heap := hP
  have hl := lv_entry ([.ref h0]) (n := 6) (Nat.le_of_ble_eq_true rfl)
  rw [lg_entry_eq]
  generalize (lg_sl ([.ref h0]) ++ List.replicate (6 - (lg_sl ([.ref h0])).length) Slot.unset).toArray = ls at hl ⊢
  have hl : lv_has ls 6 [(0, .ref h0)] := hl
  refine lv_aload_n hx hb d_MD_sum_0 rfl (lv_at hl 0 rfl) ?_
  refine lv_aload_n hx hb d_MD_sum_1 rfl (lv_at hl 0 rfl) ?_
  refine va_get (D := (dC, dI)) (ci := 7) (v := .int kn) (C := xR_MD) (T := xT_MD) (N := 27) hx hb hts (fun w h => List.mem_cons_of_mem _ (iw_MD w h)) hown hK hP 0 rfl rfl 8 (by decide) (hts _ (List.mem_cons_of_mem _ wm_705)) (fun _ h9 => h9) rfl d_MD_sum_2 ?_
  refine lv_iconst (v := (-1)) hx hb d_MD_sum_5 (by decide) ?_
  refine lv_icmp_eq (tgt := 13) hx hb d_MD_sum_6 (by decide) (fun c_1 => ?_) (fun c_1 => ?_)
  · refine lv_iconst (v := 0) hx hb d_MD_sum_13 (by decide) ?_
    refine lv_iconst (v := 1) hx hb d_MD_sum_14 (by decide) ?_
    refine lv_iconst (v := 1) hx hb d_MD_sum_15 (by decide) ?_
    have hPc := hP.sub (ws' := [(h0, .inr (7, [.int th, .int (nI nm), .ref ap, .int (nI no), .ref am, .ref aw, .ref az, .ref au, .int kn, .long vP, .long vQ, .long vS, .long vT, .long vB, .long vM, .long vH, .ref ao, .ref ax, .int (nI np), .ref ay, .int (nI nl), .ref ad, .ref al, .int (nI sn), .ref ag, .int (nI ta), .int nb]))]) [0] rfl
    have hDc := hD.sub (ws' := [(h0, .inr (7, [.int th, .int (nI nm), .ref ap, .int (nI no), .ref am, .ref aw, .ref az, .ref au, .int kn, .long vP, .long vQ, .long vS, .long vT, .long vB, .long vM, .long vH, .ref ao, .ref ax, .int (nI np), .ref ay, .int (nI nl), .ref ad, .ref al, .int (nI sn), .ref ag, .int (nI ta), .int nb]))]) [0] (by decide) rfl
    have hKc := hK.sub (tys' := []) [] rfl
    have hFc := va_free (wc := [(h0, .inr (7, [.int th, .int (nI nm), .ref ap, .int (nI no), .ref am, .ref aw, .ref az, .ref au, .int kn, .long vP, .long vQ, .long vS, .long vT, .long vB, .long vM, .long vH, .ref ao, .ref ax, .int (nI np), .ref ay, .int (nI nl), .ref ad, .ref al, .int (nI sn), .ref ag, .int (nI ta), .int nb]))]) hD hS hA [0] rfl
    refine va_calli (va_runV (As := [.int 0, .int 1, .int 1]) (rest := []) ⟨hx, hb, hml, hown, hts⟩ (c_MD_goes l dC dI s.heap.size h0 th nm ap no am aw az au kn vP vQ vS vT vB vM vH ao ax np ay nl ad al sn ag ta nb 0 1 1) (cwV 3 hts (xgV wm_793 wm_795 wm_13 wm_34 wm_796) rfl rfl rfl (by decide +kernel) ⟨Nat.le_of_ble_eq_true rfl, Nat.le_of_ble_eq_true rfl⟩) ⟨xw_blind, va_recv hKc hPc (ci := 7) (q0 := 0) rfl rfl, fun U hU hW => ⟨rfl, by rw [hU], hz.warm hW, by rw [hU]; exact hPc, va_K.moved hW.alike hKc, hDc.weaken (fun _ _ _ _ => trivial)⟩⟩ rfl rfl hl.1 rfl (lv_room (Nat.le_of_ble_eq_true rfl)) d_MD_sum_16 ⟨Nat.le_of_ble_eq_true rfl, Nat.le_of_ble_eq_true rfl⟩) hS (fun q _ h => hFc q h) hFc (fun r_2 _ t H1 locs ht hvm hw_3 hB hz1 hk1 hS => ?_)
    obtain ⟨hP1, hK1, hD1⟩ := hB
    rw [ht] at hP1
    have hK1 := va_K.moved hvm.symm hK1
    obtain ⟨hP, hD⟩ := va_join (wr := []) (w1 := [(h0, .inr (7, [.int (md_th 0 1 1), .int (nI nm), .ref ap, .int (nI no), .ref am, .ref aw, .ref az, .ref au, .int kn, .long vP, .long vQ, .long vS, .long vT, .long vB, .long vM, .long vH, .ref ao, .ref ax, .int (nI np), .ref ay, .int (nI nl), .ref ad, .ref al, .int (nI sn), .ref ag, .int (nI ta), .int nb]))]) hP hD [0] [] rfl rfl (by decide) (by decide) hk1 hFc hP1 hD1
    generalize H1 = H at hP hS ⊢
    have hP : va_P (dC, dI) xCl [(h0, .inr (7, [.int (md_th 0 1 1), .int (nI nm), .ref ap, .int (nI no), .ref am, .ref aw, .ref az, .ref au, .int kn, .long vP, .long vQ, .long vS, .long vT, .long vB, .long vM, .long vH, .ref ao, .ref ax, .int (nI np), .ref ay, .int (nI nl), .ref ad, .ref al, .int (nI sn), .ref ag, .int (nI ta), .int nb]))] H := hP
    have hD : va_D A [(h0, .inr (7, [.int (md_th 0 1 1), .int (nI nm), .ref ap, .int (nI no), .ref am, .ref aw, .ref az, .ref au, .int kn, .long vP, .long vQ, .long vS, .long vT, .long vB, .long vM, .long vH, .ref ao, .ref ax, .int (nI np), .ref ay, .int (nI nl), .ref ad, .ref al, .int (nI sn), .ref ag, .int (nI ta), .int nb]))] := hD
    subst hw_3
    refine lv_if_ne (tgt := 24) hx hb d_MD_sum_19 (by decide) (fun c_4 => ?_) (fun c_4 => ?_)
    · exact absurd (md_th_all (bI_t rfl c_4)) (fun q => q.1 rfl)
    · have b_5 := bI_f (rfl : bI (md_th 0 1 1 = 0) = _) c_4
      refine lv_lconst (v := 0) hx hb d_MD_sum_22 (by decide) ?_
      have hP9 := hP.sub (ws' := [(h0, .inr (7, [.int (md_th 0 1 1), .int (nI nm), .ref ap, .int (nI no), .ref am, .ref aw, .ref az, .ref au, .int kn, .long vP, .long vQ, .long vS, .long vT, .long vB, .long vM, .long vH, .ref ao, .ref ax, .int (nI np), .ref ay, .int (nI nl), .ref ad, .ref al, .int (nI sn), .ref ag, .int (nI ta), .int nb]))]) [0] rfl
      have hD9 := hD.sub (ws' := [(h0, .inr (7, [.int (md_th 0 1 1), .int (nI nm), .ref ap, .int (nI no), .ref am, .ref aw, .ref az, .ref au, .int kn, .long vP, .long vQ, .long vS, .long vT, .long vB, .long vM, .long vH, .ref ao, .ref ax, .int (nI np), .ref ay, .int (nI nl), .ref ad, .ref al, .int (nI sn), .ref ag, .int (nI ta), .int nb]))]) [0] (by decide) rfl
      have hK9 := hK.sub (tys' := []) [] rfl
      exact W.lret (v := 0) hx hb hr (fun t ht hW => ⟨⟨0, (), rfl, rfl, ⟨by rw [ht]; rw [show bI (¬ kn = -1) = 0 from (bI_n (fun q => q c_1)).symm]; exact hP9, va_K.moved hW.alike hK9, by rw [show bI (¬ kn = -1) = 0 from (bI_n (fun q => q c_1)).symm]; exact hD9⟩⟩, hS.F ht⟩) hS.2.2 d_MD_sum_23 hlocks
  · refine lv_iconst (v := 1) hx hb d_MD_sum_9 (by decide) ?_
    refine lv_goto (tgt := 14) hx hb d_MD_sum_10 (by decide) ?_
    refine lv_iconst (v := 1) hx hb d_MD_sum_14 (by decide) ?_
    refine lv_iconst (v := 1) hx hb d_MD_sum_15 (by decide) ?_
    have hPc := hP.sub (ws' := [(h0, .inr (7, [.int th, .int (nI nm), .ref ap, .int (nI no), .ref am, .ref aw, .ref az, .ref au, .int kn, .long vP, .long vQ, .long vS, .long vT, .long vB, .long vM, .long vH, .ref ao, .ref ax, .int (nI np), .ref ay, .int (nI nl), .ref ad, .ref al, .int (nI sn), .ref ag, .int (nI ta), .int nb]))]) [0] rfl
    have hDc := hD.sub (ws' := [(h0, .inr (7, [.int th, .int (nI nm), .ref ap, .int (nI no), .ref am, .ref aw, .ref az, .ref au, .int kn, .long vP, .long vQ, .long vS, .long vT, .long vB, .long vM, .long vH, .ref ao, .ref ax, .int (nI np), .ref ay, .int (nI nl), .ref ad, .ref al, .int (nI sn), .ref ag, .int (nI ta), .int nb]))]) [0] (by decide) rfl
    have hKc := hK.sub (tys' := []) [] rfl
    have hFc := va_free (wc := [(h0, .inr (7, [.int th, .int (nI nm), .ref ap, .int (nI no), .ref am, .ref aw, .ref az, .ref au, .int kn, .long vP, .long vQ, .long vS, .long vT, .long vB, .long vM, .long vH, .ref ao, .ref ax, .int (nI np), .ref ay, .int (nI nl), .ref ad, .ref al, .int (nI sn), .ref ag, .int (nI ta), .int nb]))]) hD hS hA [0] rfl
    refine va_calli (va_runV (As := [.int 1, .int 1, .int 1]) (rest := []) ⟨hx, hb, hml, hown, hts⟩ (c_MD_goes l dC dI s.heap.size h0 th nm ap no am aw az au kn vP vQ vS vT vB vM vH ao ax np ay nl ad al sn ag ta nb 1 1 1) (cwV 3 hts (xgV wm_793 wm_795 wm_13 wm_34 wm_796) rfl rfl rfl (by decide +kernel) ⟨Nat.le_of_ble_eq_true rfl, Nat.le_of_ble_eq_true rfl⟩) ⟨xw_blind, va_recv hKc hPc (ci := 7) (q0 := 0) rfl rfl, fun U hU hW => ⟨rfl, by rw [hU], hz.warm hW, by rw [hU]; exact hPc, va_K.moved hW.alike hKc, hDc.weaken (fun _ _ _ _ => trivial)⟩⟩ rfl rfl hl.1 rfl (lv_room (Nat.le_of_ble_eq_true rfl)) d_MD_sum_16 ⟨Nat.le_of_ble_eq_true rfl, Nat.le_of_ble_eq_true rfl⟩) hS (fun q _ h => hFc q h) hFc (fun r_6 _ t H1 locs ht hvm hw_7 hB hz1 hk1 hS => ?_)
    obtain ⟨hP1, hK1, hD1⟩ := hB
    rw [ht] at hP1
    have hK1 := va_K.moved hvm.symm hK1
    obtain ⟨hP, hD⟩ := va_join (wr := []) (w1 := [(h0, .inr (7, [.int (md_th 1 1 1), .int (nI nm), .ref ap, .int (nI no), .ref am, .ref aw, .ref az, .ref au, .int kn, .long vP, .long vQ, .long vS, .long vT, .long vB, .long vM, .long vH, .ref ao, .ref ax, .int (nI np), .ref ay, .int (nI nl), .ref ad, .ref al, .int (nI sn), .ref ag, .int (nI ta), .int nb]))]) hP hD [0] [] rfl rfl (by decide) (by decide) hk1 hFc hP1 hD1
    generalize H1 = H at hP hS ⊢
    have hP : va_P (dC, dI) xCl [(h0, .inr (7, [.int (md_th 1 1 1), .int (nI nm), .ref ap, .int (nI no), .ref am, .ref aw, .ref az, .ref au, .int kn, .long vP, .long vQ, .long vS, .long vT, .long vB, .long vM, .long vH, .ref ao, .ref ax, .int (nI np), .ref ay, .int (nI nl), .ref ad, .ref al, .int (nI sn), .ref ag, .int (nI ta), .int nb]))] H := hP
    have hD : va_D A [(h0, .inr (7, [.int (md_th 1 1 1), .int (nI nm), .ref ap, .int (nI no), .ref am, .ref aw, .ref az, .ref au, .int kn, .long vP, .long vQ, .long vS, .long vT, .long vB, .long vM, .long vH, .ref ao, .ref ax, .int (nI np), .ref ay, .int (nI nl), .ref ad, .ref al, .int (nI sn), .ref ag, .int (nI ta), .int nb]))] := hD
    subst hw_7
    refine lv_if_ne (tgt := 24) hx hb d_MD_sum_19 (by decide) (fun c_8 => ?_) (fun c_8 => ?_)
    · exact absurd (md_th_all (bI_t rfl c_8)) (fun q => hn c_1)
    · have b_9 := bI_f (rfl : bI (md_th 1 1 1 = 0) = _) c_8
      refine lv_lconst (v := 0) hx hb d_MD_sum_22 (by decide) ?_
      have hP9 := hP.sub (ws' := [(h0, .inr (7, [.int (md_th 1 1 1), .int (nI nm), .ref ap, .int (nI no), .ref am, .ref aw, .ref az, .ref au, .int kn, .long vP, .long vQ, .long vS, .long vT, .long vB, .long vM, .long vH, .ref ao, .ref ax, .int (nI np), .ref ay, .int (nI nl), .ref ad, .ref al, .int (nI sn), .ref ag, .int (nI ta), .int nb]))]) [0] rfl
      have hD9 := hD.sub (ws' := [(h0, .inr (7, [.int (md_th 1 1 1), .int (nI nm), .ref ap, .int (nI no), .ref am, .ref aw, .ref az, .ref au, .int kn, .long vP, .long vQ, .long vS, .long vT, .long vB, .long vM, .long vH, .ref ao, .ref ax, .int (nI np), .ref ay, .int (nI nl), .ref ad, .ref al, .int (nI sn), .ref ag, .int (nI ta), .int nb]))]) [0] (by decide) rfl
      have hK9 := hK.sub (tys' := []) [] rfl
      exact W.lret (v := 0) hx hb hr (fun t ht hW => ⟨⟨0, (), rfl, rfl, ⟨by rw [ht]; rw [show bI (¬ kn = -1) = 1 from (bI_p c_1).symm]; exact hP9, va_K.moved hW.alike hK9, by rw [show bI (¬ kn = -1) = 1 from (bI_p c_1).symm]; exact hD9⟩⟩, hS.F ht⟩) hS.2.2 d_MD_sum_23 hlocks
