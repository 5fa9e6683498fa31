theorem d_MD_mark_0 : decode prog_9_method_8_code 0 = .ok (.aload_n 0, 1) := by decide +kernel
theorem d_MD_mark_1 : decode prog_9_method_8_code 1 = .ok (.aload_n 0, 1) := by decide +kernel
theorem d_MD_mark_2 : decode prog_9_method_8_code 2 = .ok (.getfield 58, 3) := by decide +kernel
theorem d_MD_mark_5 : decode prog_9_method_8_code 5 = .ok (.bipush 12, 2) := by decide +kernel
theorem d_MD_mark_7 : decode prog_9_method_8_code 7 = .ok (.if_icmp .ge 7, 3) := by decide +kernel
theorem d_MD_mark_10 : decode prog_9_method_8_code 10 = .ok (.iconst 1, 1) := by decide +kernel
theorem d_MD_mark_11 : decode prog_9_method_8_code 11 = .ok (.goto 4, 3) := by decide +kernel
theorem d_MD_mark_14 : decode prog_9_method_8_code 14 = .ok (.iconst 0, 1) := by decide +kernel
theorem d_MD_mark_15 : decode prog_9_method_8_code 15 = .ok (.iload_n 1, 1) := by decide +kernel
theorem d_MD_mark_16 : decode prog_9_method_8_code 16 = .ok (.iload_n 2, 1) := by decide +kernel
theorem d_MD_mark_17 : decode prog_9_method_8_code 17 = .ok (.iload_n 3, 1) := by decide +kernel
theorem d_MD_mark_18 : decode prog_9_method_8_code 18 = .ok (.invokestatic 61, 3) := by decide +kernel
theorem d_MD_mark_21 : decode prog_9_method_8_code 21 = .ok (.iconst 1, 1) := by decide +kernel
theorem d_MD_mark_22 : decode prog_9_method_8_code 22 = .ok (.invokevirtual 64, 3) := by decide +kernel
theorem d_MD_mark_25 : decode prog_9_method_8_code 25 = .ok (.ifCond .ne 5, 3) := by decide +kernel
theorem d_MD_mark_28 : decode prog_9_method_8_code 28 = .ok (.iconst 0, 1) := by decide +kernel
theorem d_MD_mark_29 : decode prog_9_method_8_code 29 = .ok (.ireturn, 1) := by decide +kernel
theorem d_MD_mark_30 : decode prog_9_method_8_code 30 = .ok (.aload_n 0, 1) := by decide +kernel
theorem d_MD_mark_31 : decode prog_9_method_8_code 31 = .ok (.getfield 7, 3) := by decide +kernel
theorem d_MD_mark_34 : decode prog_9_method_8_code 34 = .ok (.iconst 3, 1) := by decide +kernel
theorem d_MD_mark_35 : decode prog_9_method_8_code 35 = .ok (.aload_n 0, 1) := by decide +kernel
theorem d_MD_mark_36 : decode prog_9_method_8_code 36 = .ok (.getfield 58, 3) := by decide +kernel
theorem d_MD_mark_39 : decode prog_9_method_8_code 39 = .ok (.imul, 1) := by decide +kernel
theorem d_MD_mark_40 : decode prog_9_method_8_code 40 = .ok (.iload_n 1, 1) := by decide +kernel
theorem d_MD_mark_41 : decode prog_9_method_8_code 41 = .ok (.iastore, 1) := by decide +kernel
theorem d_MD_mark_42 : decode prog_9_method_8_code 42 = .ok (.aload_n 0, 1) := by decide +kernel
theorem d_MD_mark_43 : decode prog_9_method_8_code 43 = .ok (.getfield 7, 3) := by decide +kernel
theorem d_MD_mark_46 : decode prog_9_method_8_code 46 = .ok (.iconst 3, 1) := by decide +kernel
theorem d_MD_mark_47 : decode prog_9_method_8_code 47 = .ok (.aload_n 0, 1) := by decide +kernel
theorem d_MD_mark_48 : decode prog_9_method_8_code 48 = .ok (.getfield 58, 3) := by decide +kernel
theorem d_MD_mark_51 : decode prog_9_method_8_code 51 = .ok (.imul, 1) := by decide +kernel
theorem d_MD_mark_52 : decode prog_9_method_8_code 52 = .ok (.iconst 1, 1) := by decide +kernel
theorem d_MD_mark_53 : decode prog_9_method_8_code 53 = .ok (.iadd, 1) := by decide +kernel
theorem d_MD_mark_54 : decode prog_9_method_8_code 54 = .ok (.iload_n 2, 1) := by decide +kernel
theorem d_MD_mark_55 : decode prog_9_method_8_code 55 = .ok (.iastore, 1) := by decide +kernel
theorem d_MD_mark_56 : decode prog_9_method_8_code 56 = .ok (.aload_n 0, 1) := by decide +kernel
theorem d_MD_mark_57 : decode prog_9_method_8_code 57 = .ok (.getfield 7, 3) := by decide +kernel
theorem d_MD_mark_60 : decode prog_9_method_8_code 60 = .ok (.iconst 3, 1) := by decide +kernel
theorem d_MD_mark_61 : decode prog_9_method_8_code 61 = .ok (.aload_n 0, 1) := by decide +kernel
theorem d_MD_mark_62 : decode prog_9_method_8_code 62 = .ok (.getfield 58, 3) := by decide +kernel
theorem d_MD_mark_65 : decode prog_9_method_8_code 65 = .ok (.imul, 1) := by decide +kernel
theorem d_MD_mark_66 : decode prog_9_method_8_code 66 = .ok (.iconst 2, 1) := by decide +kernel
theorem d_MD_mark_67 : decode prog_9_method_8_code 67 = .ok (.iadd, 1) := by decide +kernel
theorem d_MD_mark_68 : decode prog_9_method_8_code 68 = .ok (.iload_n 3, 1) := by decide +kernel
theorem d_MD_mark_69 : decode prog_9_method_8_code 69 = .ok (.iastore, 1) := by decide +kernel
theorem d_MD_mark_70 : decode prog_9_method_8_code 70 = .ok (.aload_n 0, 1) := by decide +kernel
theorem d_MD_mark_71 : decode prog_9_method_8_code 71 = .ok (.dup, 1) := by decide +kernel
theorem d_MD_mark_72 : decode prog_9_method_8_code 72 = .ok (.getfield 58, 3) := by decide +kernel
theorem d_MD_mark_75 : decode prog_9_method_8_code 75 = .ok (.iconst 1, 1) := by decide +kernel
theorem d_MD_mark_76 : decode prog_9_method_8_code 76 = .ok (.iadd, 1) := by decide +kernel
theorem d_MD_mark_77 : decode prog_9_method_8_code 77 = .ok (.putfield 58, 3) := by decide +kernel
theorem d_MD_mark_80 : decode prog_9_method_8_code 80 = .ok (.aload_n 0, 1) := by decide +kernel
theorem d_MD_mark_81 : decode prog_9_method_8_code 81 = .ok (.getfield 58, 3) := by decide +kernel
theorem d_MD_mark_84 : decode prog_9_method_8_code 84 = .ok (.iconst 1, 1) := by decide +kernel
theorem d_MD_mark_85 : decode prog_9_method_8_code 85 = .ok (.isub, 1) := by decide +kernel
theorem d_MD_mark_86 : decode prog_9_method_8_code 86 = .ok (.ireturn, 1) := by decide +kernel
theorem d_MD_point_0 : decode prog_9_method_24_code 0 = .ok (.aload_n 0, 1) := by decide +kernel
theorem d_MD_point_1 : decode prog_9_method_24_code 1 = .ok (.aload_n 0, 1) := by decide +kernel
theorem d_MD_point_2 : decode prog_9_method_24_code 2 = .ok (.getfield 128, 3) := by decide +kernel
theorem d_MD_point_5 : decode prog_9_method_24_code 5 = .ok (.bipush 30, 2) := by decide +kernel
theorem d_MD_point_7 : decode prog_9_method_24_code 7 = .ok (.if_icmp .ge 7, 3) := by decide +kernel
theorem d_MD_point_10 : decode prog_9_method_24_code 10 = .ok (.iconst 1, 1) := by decide +kernel
theorem d_MD_point_11 : decode prog_9_method_24_code 11 = .ok (.goto 4, 3) := by decide +kernel
theorem d_MD_point_14 : decode prog_9_method_24_code 14 = .ok (.iconst 0, 1) := by decide +kernel
theorem d_MD_point_15 : decode prog_9_method_24_code 15 = .ok (.iload_n 1, 1) := by decide +kernel
theorem d_MD_point_16 : decode prog_9_method_24_code 16 = .ok (.iload_n 2, 1) := by decide +kernel
theorem d_MD_point_17 : decode prog_9_method_24_code 17 = .ok (.iload_n 3, 1) := by decide +kernel
theorem d_MD_point_18 : decode prog_9_method_24_code 18 = .ok (.invokestatic 61, 3) := by decide +kernel
theorem d_MD_point_21 : decode prog_9_method_24_code 21 = .ok (.iconst 1, 1) := by decide +kernel
theorem d_MD_point_22 : decode prog_9_method_24_code 22 = .ok (.invokevirtual 64, 3) := by decide +kernel
theorem d_MD_point_25 : decode prog_9_method_24_code 25 = .ok (.ifCond .ne 5, 3) := by decide +kernel
theorem d_MD_point_28 : decode prog_9_method_24_code 28 = .ok (.iconst 0, 1) := by decide +kernel
theorem d_MD_point_29 : decode prog_9_method_24_code 29 = .ok (.ireturn, 1) := by decide +kernel
theorem d_MD_point_30 : decode prog_9_method_24_code 30 = .ok (.aload_n 0, 1) := by decide +kernel
theorem d_MD_point_31 : decode prog_9_method_24_code 31 = .ok (.getfield 36, 3) := by decide +kernel
theorem d_MD_point_34 : decode prog_9_method_24_code 34 = .ok (.iconst 3, 1) := by decide +kernel
theorem d_MD_point_35 : decode prog_9_method_24_code 35 = .ok (.aload_n 0, 1) := by decide +kernel
theorem d_MD_point_36 : decode prog_9_method_24_code 36 = .ok (.getfield 128, 3) := by decide +kernel
theorem d_MD_point_39 : decode prog_9_method_24_code 39 = .ok (.imul, 1) := by decide +kernel
theorem d_MD_point_40 : decode prog_9_method_24_code 40 = .ok (.iload_n 1, 1) := by decide +kernel
theorem d_MD_point_41 : decode prog_9_method_24_code 41 = .ok (.iastore, 1) := by decide +kernel
theorem d_MD_point_42 : decode prog_9_method_24_code 42 = .ok (.aload_n 0, 1) := by decide +kernel
theorem d_MD_point_43 : decode prog_9_method_24_code 43 = .ok (.getfield 36, 3) := by decide +kernel
theorem d_MD_point_46 : decode prog_9_method_24_code 46 = .ok (.iconst 3, 1) := by decide +kernel
theorem d_MD_point_47 : decode prog_9_method_24_code 47 = .ok (.aload_n 0, 1) := by decide +kernel
theorem d_MD_point_48 : decode prog_9_method_24_code 48 = .ok (.getfield 128, 3) := by decide +kernel
theorem d_MD_point_51 : decode prog_9_method_24_code 51 = .ok (.imul, 1) := by decide +kernel
theorem d_MD_point_52 : decode prog_9_method_24_code 52 = .ok (.iconst 1, 1) := by decide +kernel
theorem d_MD_point_53 : decode prog_9_method_24_code 53 = .ok (.iadd, 1) := by decide +kernel
theorem d_MD_point_54 : decode prog_9_method_24_code 54 = .ok (.iload_n 2, 1) := by decide +kernel
theorem d_MD_point_55 : decode prog_9_method_24_code 55 = .ok (.iastore, 1) := by decide +kernel
theorem d_MD_point_56 : decode prog_9_method_24_code 56 = .ok (.aload_n 0, 1) := by decide +kernel
theorem d_MD_point_57 : decode prog_9_method_24_code 57 = .ok (.getfield 36, 3) := by decide +kernel
theorem d_MD_point_60 : decode prog_9_method_24_code 60 = .ok (.iconst 3, 1) := by decide +kernel
theorem d_MD_point_61 : decode prog_9_method_24_code 61 = .ok (.aload_n 0, 1) := by decide +kernel
theorem d_MD_point_62 : decode prog_9_method_24_code 62 = .ok (.getfield 128, 3) := by decide +kernel
theorem d_MD_point_65 : decode prog_9_method_24_code 65 = .ok (.imul, 1) := by decide +kernel
theorem d_MD_point_66 : decode prog_9_method_24_code 66 = .ok (.iconst 2, 1) := by decide +kernel
theorem d_MD_point_67 : decode prog_9_method_24_code 67 = .ok (.iadd, 1) := by decide +kernel
theorem d_MD_point_68 : decode prog_9_method_24_code 68 = .ok (.iload_n 3, 1) := by decide +kernel
theorem d_MD_point_69 : decode prog_9_method_24_code 69 = .ok (.iastore, 1) := by decide +kernel
theorem d_MD_point_70 : decode prog_9_method_24_code 70 = .ok (.aload_n 0, 1) := by decide +kernel
theorem d_MD_point_71 : decode prog_9_method_24_code 71 = .ok (.dup, 1) := by decide +kernel
theorem d_MD_point_72 : decode prog_9_method_24_code 72 = .ok (.getfield 128, 3) := by decide +kernel
theorem d_MD_point_75 : decode prog_9_method_24_code 75 = .ok (.iconst 1, 1) := by decide +kernel
theorem d_MD_point_76 : decode prog_9_method_24_code 76 = .ok (.iadd, 1) := by decide +kernel
theorem d_MD_point_77 : decode prog_9_method_24_code 77 = .ok (.putfield 128, 3) := by decide +kernel
theorem d_MD_point_80 : decode prog_9_method_24_code 80 = .ok (.aload_n 0, 1) := by decide +kernel
theorem d_MD_point_81 : decode prog_9_method_24_code 81 = .ok (.getfield 128, 3) := by decide +kernel
theorem d_MD_point_84 : decode prog_9_method_24_code 84 = .ok (.iconst 1, 1) := by decide +kernel
theorem d_MD_point_85 : decode prog_9_method_24_code 85 = .ok (.isub, 1) := by decide +kernel
theorem d_MD_point_86 : decode prog_9_method_24_code 86 = .ok (.ireturn, 1) := by decide +kernel
theorem d_MD_observe_0 : decode prog_9_method_10_code 0 = .ok (.aload_n 0, 1) := by decide +kernel
theorem d_MD_observe_1 : decode prog_9_method_10_code 1 = .ok (.iload_n 1, 1) := by decide +kernel
theorem d_MD_observe_2 : decode prog_9_method_10_code 2 = .ok (.iconst 0, 1) := by decide +kernel
theorem d_MD_observe_3 : decode prog_9_method_10_code 3 = .ok (.aload_n 0, 1) := by decide +kernel
theorem d_MD_observe_4 : decode prog_9_method_10_code 4 = .ok (.getfield 58, 3) := by decide +kernel
theorem d_MD_observe_7 : decode prog_9_method_10_code 7 = .ok (.iconst 1, 1) := by decide +kernel
theorem d_MD_observe_8 : decode prog_9_method_10_code 8 = .ok (.isub, 1) := by decide +kernel
theorem d_MD_observe_9 : decode prog_9_method_10_code 9 = .ok (.invokestatic 51, 3) := by decide +kernel
theorem d_MD_observe_12 : decode prog_9_method_10_code 12 = .ok (.aload_n 0, 1) := by decide +kernel
theorem d_MD_observe_13 : decode prog_9_method_10_code 13 = .ok (.getfield 55, 3) := by decide +kernel
theorem d_MD_observe_16 : decode prog_9_method_10_code 16 = .ok (.bipush 20, 2) := by decide +kernel
theorem d_MD_observe_18 : decode prog_9_method_10_code 18 = .ok (.if_icmp .ge 7, 3) := by decide +kernel
theorem d_MD_observe_21 : decode prog_9_method_10_code 21 = .ok (.iconst 1, 1) := by decide +kernel
theorem d_MD_observe_22 : decode prog_9_method_10_code 22 = .ok (.goto 4, 3) := by decide +kernel
theorem d_MD_observe_25 : decode prog_9_method_10_code 25 = .ok (.iconst 0, 1) := by decide +kernel
theorem d_MD_observe_26 : decode prog_9_method_10_code 26 = .ok (.iload_n 2, 1) := by decide +kernel
theorem d_MD_observe_27 : decode prog_9_method_10_code 27 = .ok (.iload_n 3, 1) := by decide +kernel
theorem d_MD_observe_28 : decode prog_9_method_10_code 28 = .ok (.iload 4, 2) := by decide +kernel
theorem d_MD_observe_30 : decode prog_9_method_10_code 30 = .ok (.invokestatic 61, 3) := by decide +kernel
theorem d_MD_observe_33 : decode prog_9_method_10_code 33 = .ok (.invokevirtual 64, 3) := by decide +kernel
theorem d_MD_observe_36 : decode prog_9_method_10_code 36 = .ok (.ifCond .ne 5, 3) := by decide +kernel
theorem d_MD_observe_39 : decode prog_9_method_10_code 39 = .ok (.iconst 0, 1) := by decide +kernel
theorem d_MD_observe_40 : decode prog_9_method_10_code 40 = .ok (.ireturn, 1) := by decide +kernel
theorem d_MD_observe_41 : decode prog_9_method_10_code 41 = .ok (.aload_n 0, 1) := by decide +kernel
theorem d_MD_observe_42 : decode prog_9_method_10_code 42 = .ok (.iload_n 1, 1) := by decide +kernel
theorem d_MD_observe_43 : decode prog_9_method_10_code 43 = .ok (.iload_n 2, 1) := by decide +kernel
theorem d_MD_observe_44 : decode prog_9_method_10_code 44 = .ok (.iload_n 3, 1) := by decide +kernel
theorem d_MD_observe_45 : decode prog_9_method_10_code 45 = .ok (.iload 4, 2) := by decide +kernel
theorem d_MD_observe_47 : decode prog_9_method_10_code 47 = .ok (.invokevirtual 68, 3) := by decide +kernel
theorem d_MD_observe_50 : decode prog_9_method_10_code 50 = .ok (.aload_n 0, 1) := by decide +kernel
theorem d_MD_observe_51 : decode prog_9_method_10_code 51 = .ok (.getfield 55, 3) := by decide +kernel
theorem d_MD_observe_54 : decode prog_9_method_10_code 54 = .ok (.iconst 1, 1) := by decide +kernel
theorem d_MD_observe_55 : decode prog_9_method_10_code 55 = .ok (.isub, 1) := by decide +kernel
theorem d_MD_observe_56 : decode prog_9_method_10_code 56 = .ok (.ireturn, 1) := by decide +kernel
theorem d_MD_prism_0 : decode prog_9_method_11_code 0 = .ok (.aload_n 0, 1) := by decide +kernel
theorem d_MD_prism_1 : decode prog_9_method_11_code 1 = .ok (.aload_n 0, 1) := by decide +kernel
theorem d_MD_prism_2 : decode prog_9_method_11_code 2 = .ok (.iload_n 1, 1) := by decide +kernel
theorem d_MD_prism_3 : decode prog_9_method_11_code 3 = .ok (.invokevirtual 72, 3) := by decide +kernel
theorem d_MD_prism_6 : decode prog_9_method_11_code 6 = .ok (.iload_n 2, 1) := by decide +kernel
theorem d_MD_prism_7 : decode prog_9_method_11_code 7 = .ok (.iconst 0, 1) := by decide +kernel
theorem d_MD_prism_8 : decode prog_9_method_11_code 8 = .ok (.sipush 3000, 3) := by decide +kernel
theorem d_MD_prism_11 : decode prog_9_method_11_code 11 = .ok (.invokestatic 51, 3) := by decide +kernel
theorem d_MD_prism_14 : decode prog_9_method_11_code 14 = .ok (.iconst 1, 1) := by decide +kernel
theorem d_MD_prism_15 : decode prog_9_method_11_code 15 = .ok (.invokevirtual 64, 3) := by decide +kernel
theorem d_MD_prism_18 : decode prog_9_method_11_code 18 = .ok (.ifCond .ne 5, 3) := by decide +kernel
theorem d_MD_prism_21 : decode prog_9_method_11_code 21 = .ok (.iconst 0, 1) := by decide +kernel
theorem d_MD_prism_22 : decode prog_9_method_11_code 22 = .ok (.ireturn, 1) := by decide +kernel
theorem d_MD_prism_23 : decode prog_9_method_11_code 23 = .ok (.aload_n 0, 1) := by decide +kernel
theorem d_MD_prism_24 : decode prog_9_method_11_code 24 = .ok (.getfield 19, 3) := by decide +kernel
theorem d_MD_prism_27 : decode prog_9_method_11_code 27 = .ok (.iload_n 1, 1) := by decide +kernel
theorem d_MD_prism_28 : decode prog_9_method_11_code 28 = .ok (.iaload, 1) := by decide +kernel
theorem d_MD_prism_29 : decode prog_9_method_11_code 29 = .ok (.istore_n 3, 1) := by decide +kernel
theorem d_MD_prism_30 : decode prog_9_method_11_code 30 = .ok (.aload_n 0, 1) := by decide +kernel
theorem d_MD_prism_31 : decode prog_9_method_11_code 31 = .ok (.getfield 19, 3) := by decide +kernel
theorem d_MD_prism_34 : decode prog_9_method_11_code 34 = .ok (.iload_n 1, 1) := by decide +kernel
theorem d_MD_prism_35 : decode prog_9_method_11_code 35 = .ok (.iload_n 2, 1) := by decide +kernel
theorem d_MD_prism_36 : decode prog_9_method_11_code 36 = .ok (.iastore, 1) := by decide +kernel
theorem d_MD_prism_37 : decode prog_9_method_11_code 37 = .ok (.iload_n 3, 1) := by decide +kernel
theorem d_MD_prism_38 : decode prog_9_method_11_code 38 = .ok (.ireturn, 1) := by decide +kernel
theorem d_MD_use_0 : decode prog_9_method_12_code 0 = .ok (.aload_n 0, 1) := by decide +kernel
theorem d_MD_use_1 : decode prog_9_method_12_code 1 = .ok (.aload_n 0, 1) := by decide +kernel
theorem d_MD_use_2 : decode prog_9_method_12_code 2 = .ok (.iload_n 1, 1) := by decide +kernel
theorem d_MD_use_3 : decode prog_9_method_12_code 3 = .ok (.invokevirtual 72, 3) := by decide +kernel
theorem d_MD_use_6 : decode prog_9_method_12_code 6 = .ok (.iconst 1, 1) := by decide +kernel
theorem d_MD_use_7 : decode prog_9_method_12_code 7 = .ok (.iconst 1, 1) := by decide +kernel
theorem d_MD_use_8 : decode prog_9_method_12_code 8 = .ok (.invokevirtual 64, 3) := by decide +kernel
theorem d_MD_use_11 : decode prog_9_method_12_code 11 = .ok (.ifCond .ne 5, 3) := by decide +kernel
theorem d_MD_use_14 : decode prog_9_method_12_code 14 = .ok (.iconst 0, 1) := by decide +kernel
theorem d_MD_use_15 : decode prog_9_method_12_code 15 = .ok (.ireturn, 1) := by decide +kernel
theorem d_MD_use_16 : decode prog_9_method_12_code 16 = .ok (.aload_n 0, 1) := by decide +kernel
theorem d_MD_use_17 : decode prog_9_method_12_code 17 = .ok (.getfield 22, 3) := by decide +kernel
theorem d_MD_use_20 : decode prog_9_method_12_code 20 = .ok (.iload_n 1, 1) := by decide +kernel
theorem d_MD_use_21 : decode prog_9_method_12_code 21 = .ok (.baload, 1) := by decide +kernel
theorem d_MD_use_22 : decode prog_9_method_12_code 22 = .ok (.istore_n 3, 1) := by decide +kernel
theorem d_MD_use_23 : decode prog_9_method_12_code 23 = .ok (.aload_n 0, 1) := by decide +kernel
theorem d_MD_use_24 : decode prog_9_method_12_code 24 = .ok (.getfield 22, 3) := by decide +kernel
theorem d_MD_use_27 : decode prog_9_method_12_code 27 = .ok (.iload_n 1, 1) := by decide +kernel
theorem d_MD_use_28 : decode prog_9_method_12_code 28 = .ok (.iload_n 2, 1) := by decide +kernel
theorem d_MD_use_29 : decode prog_9_method_12_code 29 = .ok (.bastore, 1) := by decide +kernel
theorem d_MD_use_30 : decode prog_9_method_12_code 30 = .ok (.iload_n 3, 1) := by decide +kernel
theorem d_MD_use_31 : decode prog_9_method_12_code 31 = .ok (.iload_n 2, 1) := by decide +kernel
theorem d_MD_use_32 : decode prog_9_method_12_code 32 = .ok (.if_icmp .eq 7, 3) := by decide +kernel
theorem d_MD_use_35 : decode prog_9_method_12_code 35 = .ok (.iconst 1, 1) := by decide +kernel
theorem d_MD_use_36 : decode prog_9_method_12_code 36 = .ok (.goto 4, 3) := by decide +kernel
theorem d_MD_use_39 : decode prog_9_method_12_code 39 = .ok (.iconst 0, 1) := by decide +kernel
theorem d_MD_use_40 : decode prog_9_method_12_code 40 = .ok (.ireturn, 1) := by decide +kernel
theorem d_MD_level_0 : decode prog_9_method_26_code 0 = .ok (.aload_n 0, 1) := by decide +kernel
theorem d_MD_level_1 : decode prog_9_method_26_code 1 = .ok (.aload_n 0, 1) := by decide +kernel
theorem d_MD_level_2 : decode prog_9_method_26_code 2 = .ok (.getfield 131, 3) := by decide +kernel
theorem d_MD_level_5 : decode prog_9_method_26_code 5 = .ok (.bipush 12, 2) := by decide +kernel
theorem d_MD_level_7 : decode prog_9_method_26_code 7 = .ok (.if_icmp .ge 7, 3) := by decide +kernel
theorem d_MD_level_10 : decode prog_9_method_26_code 10 = .ok (.iconst 1, 1) := by decide +kernel
theorem d_MD_level_11 : decode prog_9_method_26_code 11 = .ok (.goto 4, 3) := by decide +kernel
theorem d_MD_level_14 : decode prog_9_method_26_code 14 = .ok (.iconst 0, 1) := by decide +kernel
theorem d_MD_level_15 : decode prog_9_method_26_code 15 = .ok (.iload_n 1, 1) := by decide +kernel
theorem d_MD_level_16 : decode prog_9_method_26_code 16 = .ok (.ldc 134, 2) := by decide +kernel
theorem d_MD_level_18 : decode prog_9_method_26_code 18 = .ok (.ldc 123, 2) := by decide +kernel
theorem d_MD_level_20 : decode prog_9_method_26_code 20 = .ok (.invokestatic 51, 3) := by decide +kernel
theorem d_MD_level_23 : decode prog_9_method_26_code 23 = .ok (.ifCond .eq 18, 3) := by decide +kernel
theorem d_MD_level_26 : decode prog_9_method_26_code 26 = .ok (.iload_n 2, 1) := by decide +kernel
theorem d_MD_level_27 : decode prog_9_method_26_code 27 = .ok (.iconst 1, 1) := by decide +kernel
theorem d_MD_level_28 : decode prog_9_method_26_code 28 = .ok (.sipush 10000, 3) := by decide +kernel
theorem d_MD_level_31 : decode prog_9_method_26_code 31 = .ok (.invokestatic 51, 3) := by decide +kernel
theorem d_MD_level_34 : decode prog_9_method_26_code 34 = .ok (.ifCond .eq 7, 3) := by decide +kernel
theorem d_MD_level_37 : decode prog_9_method_26_code 37 = .ok (.iconst 1, 1) := by decide +kernel
theorem d_MD_level_38 : decode prog_9_method_26_code 38 = .ok (.goto 4, 3) := by decide +kernel
theorem d_MD_level_41 : decode prog_9_method_26_code 41 = .ok (.iconst 0, 1) := by decide +kernel
theorem d_MD_level_42 : decode prog_9_method_26_code 42 = .ok (.iconst 1, 1) := by decide +kernel
theorem d_MD_level_43 : decode prog_9_method_26_code 43 = .ok (.invokevirtual 64, 3) := by decide +kernel
theorem d_MD_level_46 : decode prog_9_method_26_code 46 = .ok (.ifCond .ne 5, 3) := by decide +kernel
theorem d_MD_level_49 : decode prog_9_method_26_code 49 = .ok (.iconst 0, 1) := by decide +kernel
theorem d_MD_level_50 : decode prog_9_method_26_code 50 = .ok (.ireturn, 1) := by decide +kernel
theorem d_MD_level_51 : decode prog_9_method_26_code 51 = .ok (.aload_n 0, 1) := by decide +kernel
theorem d_MD_level_52 : decode prog_9_method_26_code 52 = .ok (.getfield 39, 3) := by decide +kernel
theorem d_MD_level_55 : decode prog_9_method_26_code 55 = .ok (.aload_n 0, 1) := by decide +kernel
theorem d_MD_level_56 : decode prog_9_method_26_code 56 = .ok (.getfield 131, 3) := by decide +kernel
theorem d_MD_level_59 : decode prog_9_method_26_code 59 = .ok (.iload_n 1, 1) := by decide +kernel
theorem d_MD_level_60 : decode prog_9_method_26_code 60 = .ok (.iastore, 1) := by decide +kernel
theorem d_MD_level_61 : decode prog_9_method_26_code 61 = .ok (.aload_n 0, 1) := by decide +kernel
theorem d_MD_level_62 : decode prog_9_method_26_code 62 = .ok (.getfield 42, 3) := by decide +kernel
theorem d_MD_level_65 : decode prog_9_method_26_code 65 = .ok (.aload_n 0, 1) := by decide +kernel
theorem d_MD_level_66 : decode prog_9_method_26_code 66 = .ok (.getfield 131, 3) := by decide +kernel
theorem d_MD_level_69 : decode prog_9_method_26_code 69 = .ok (.iload_n 2, 1) := by decide +kernel
theorem d_MD_level_70 : decode prog_9_method_26_code 70 = .ok (.iastore, 1) := by decide +kernel
theorem d_MD_level_71 : decode prog_9_method_26_code 71 = .ok (.aload_n 0, 1) := by decide +kernel
theorem d_MD_level_72 : decode prog_9_method_26_code 72 = .ok (.dup, 1) := by decide +kernel
theorem d_MD_level_73 : decode prog_9_method_26_code 73 = .ok (.getfield 131, 3) := by decide +kernel
theorem d_MD_level_76 : decode prog_9_method_26_code 76 = .ok (.iconst 1, 1) := by decide +kernel
theorem d_MD_level_77 : decode prog_9_method_26_code 77 = .ok (.iadd, 1) := by decide +kernel
theorem d_MD_level_78 : decode prog_9_method_26_code 78 = .ok (.putfield 131, 3) := by decide +kernel
theorem d_MD_level_81 : decode prog_9_method_26_code 81 = .ok (.aload_n 0, 1) := by decide +kernel
theorem d_MD_level_82 : decode prog_9_method_26_code 82 = .ok (.getfield 131, 3) := by decide +kernel
theorem d_MD_level_85 : decode prog_9_method_26_code 85 = .ok (.iconst 1, 1) := by decide +kernel
theorem d_MD_level_86 : decode prog_9_method_26_code 86 = .ok (.isub, 1) := by decide +kernel
theorem d_MD_level_87 : decode prog_9_method_26_code 87 = .ok (.ireturn, 1) := by decide +kernel
theorem d_MD_open_0 : decode prog_9_method_29_code 0 = .ok (.aload_n 0, 1) := by decide +kernel
theorem d_MD_open_1 : decode prog_9_method_29_code 1 = .ok (.iconst 0, 1) := by decide +kernel
theorem d_MD_open_2 : decode prog_9_method_29_code 2 = .ok (.putfield 48, 3) := by decide +kernel
theorem d_MD_open_5 : decode prog_9_method_29_code 5 = .ok (.aload_n 0, 1) := by decide +kernel
theorem d_MD_open_6 : decode prog_9_method_29_code 6 = .ok (.getfield 131, 3) := by decide +kernel
theorem d_MD_open_9 : decode prog_9_method_29_code 9 = .ok (.istore_n 1, 1) := by decide +kernel
theorem d_MD_open_10 : decode prog_9_method_29_code 10 = .ok (.aload_n 0, 1) := by decide +kernel
theorem d_MD_open_11 : decode prog_9_method_29_code 11 = .ok (.iconst 0, 1) := by decide +kernel
theorem d_MD_open_12 : decode prog_9_method_29_code 12 = .ok (.putfield 131, 3) := by decide +kernel
theorem d_MD_open_15 : decode prog_9_method_29_code 15 = .ok (.iload_n 1, 1) := by decide +kernel
theorem d_MD_open_16 : decode prog_9_method_29_code 16 = .ok (.ireturn, 1) := by decide +kernel
set_option maxHeartbeats 4000000 in
set_option maxRecDepth 100000 in
/-- mark -/
theorem c_MD_mark_y (l : Launch) (dC : Nat → ClassId) (dI : Nat → Nat → Nat) (sz : Nat) (h0 : Nat) (th : Int32) (nm : Nat) (ap : Nat) (no : Nat) (am : Nat) (aw : Nat) (az : Nat) (au : Nat) (kn : Int32) (vP : Int64) (vQ : Int64) (vS : Int64) (vT : Int64) (vB : Int64) (vM : Int64) (vH : Int64) (ao : Nat) (ax : Nat) (np : Nat) (ay : Nat) (nl : Nat) (ad : Nat) (al : Nat) (sn : Nat) (ag : Nat) (ta : Nat) (nb : Int32) (kp : ClassId) (gp : Nat → Int32) (a : Int32) (b : Int32) (d : Int32) (hc : nm < 12) (hn : sr_near a ∧ sr_near b ∧ sr_near d) : Met l xy_MD_mark xw_MD_mark ({ frames := 2, cells := 0, slots := 0, locals := 44 }) (xp_w [.ref h0, .int a, .int b, .int d] sz (dC, dI) xCl [(h0, .inr (7, [.int th, .int (nI nm), .ref ap, .int (nI no), .ref am, .ref aw, .ref az, .ref au, .int kn, .long vP, .long vQ, .long vS, .long vT, .long vB, .long vM, .long vH, .ref ao, .ref ax, .int (nI np), .ref ay, .int (nI nl), .ref ad, .ref al, .int (nI sn), .ref ag, .int (nI ta), .int nb])), (ap, .inl (kp, 36, .inl gp))] [(kp, .int)]) (va_Qi (fun (r : Int32) (_ : Unit) => r = nI nm) (fun _ t => xb_w (dC, dI) xCl [(h0, .inr (7, [.int 0, .int (nI (nm + 1)), .ref ap, .int (nI no), .ref am, .ref aw, .ref az, .ref au, .int kn, .long vP, .long vQ, .long vS, .long vT, .long vB, .long vM, .long vH, .ref ao, .ref ax, .int (nI np), .ref ay, .int (nI nl), .ref ad, .ref al, .int (nI sn), .ref ag, .int (nI ta), .int nb])), (ap, .inl (kp, 36, .inl (upd (upd (upd gp (3 * nm) a) (3 * nm + 1) b) (3 * nm + 2) d)))] [(kp, .int)] (va_A [(h0, .inr (7, [.int th, .int (nI nm), .ref ap, .int (nI no), .ref am, .ref aw, .ref az, .ref au, .int kn, .long vP, .long vQ, .long vS, .long vT, .long vB, .long vM, .long vH, .ref ao, .ref ax, .int (nI np), .ref ay, .int (nI nl), .ref ad, .ref al, .int (nI sn), .ref ag, .int (nI ta), .int nb])), (ap, .inl (kp, 36, .inl gp))] sz) t) (va_A [(h0, .inr (7, [.int th, .int (nI nm), .ref ap, .int (nI no), .ref am, .ref aw, .ref az, .ref au, .int kn, .long vP, .long vQ, .long vS, .long vT, .long vB, .long vM, .long vH, .ref ao, .ref ax, .int (nI np), .ref ay, .int (nI nl), .ref ad, .ref al, .int (nI sn), .ref ag, .int (nI ta), .int nb])), (ap, .inl (kp, 36, .inl gp))] sz)) 0 0 (va_A [(h0, .inr (7, [.int th, .int (nI nm), .ref ap, .int (nI no), .ref am, .ref aw, .ref az, .ref au, .int kn, .long vP, .long vQ, .long vS, .long vT, .long vB, .long vM, .long vH, .ref ao, .ref ax, .int (nI np), .ref ay, .int (nI nl), .ref ad, .ref al, .int (nI sn), .ref ag, .int (nI ta), .int nb])), (ap, .inl (kp, 36, .inl gp))] sz) := by
  refine Met.ofW (cc := prog_9_method_8_code) (maxL := 4) (ret := (some .int)) (by decide) rfl ?_
  intro p e s m args below meth c s₁ B hml hv
  obtain ⟨rfl, hsz, hz, hP, hK, hD0⟩ := hv
  have hx := B.exec
  have hb := B.bytes
  have hr := B.returns
  have hts := atoms_spec (ws := xw_MD_mark) B.pre
  have hown : s.vm.findClass xR_MD = some m.cls := findClass_of_methodNamed B.named
  have hlocks := B.notSynchronized
  subst hsz
  have hD := hD0.self (sz := s.heap.size)
  generalize hAe : va_A [(h0, .inr (7, [.int th, .int (nI nm), .ref ap, .int (nI no), .ref am, .ref aw, .ref az, .ref au, .int kn, .long vP, .long vQ, .long vS, .long vT, .long vB, .long vM, .long vH, .ref ao, .ref ax, .int (nI np), .ref ay, .int (nI nl), .ref ad, .ref al, .int (nI sn), .ref ag, .int (nI ta), .int nb])), (ap, .inl (kp, 36, .inl gp))] s.heap.size = A at hD ⊢
  have hA : ∀ q : Nat, s.heap.size ≤ q → A q := fun q h => by rw [← hAe]; exact Or.inr h
  have hS : va_S A s.heap s.heap [] := va_S.rf
  have hP : va_P (dC, dI) xCl [(h0, .inr (7, [.int th, .int (nI nm), .ref ap, .int (nI no), .ref am, .ref aw, .ref az, .ref au, .int kn, .long vP, .long vQ, .long vS, .long vT, .long vB, .long vM, .long vH, .ref ao, .ref ax, .int (nI np), .ref ay, .int (nI nl), .ref ad, .ref al, .int (nI sn), .ref ag, .int (nI ta), .int nb])), (ap, .inl (kp, 36, .inl gp))] s.heap := hP
  have hl := lv_entry ([.ref h0, .int a, .int b, .int d]) (n := 4) (Nat.le_of_ble_eq_true rfl)
  rw [lg_entry_eq]
  generalize (lg_sl ([.ref h0, .int a, .int b, .int d]) ++ List.replicate (4 - (lg_sl ([.ref h0, .int a, .int b, .int d])).length) Slot.unset).toArray = ls at hl ⊢
  have hl : lv_has ls 4 [(0, .ref h0), (1, .int a), (2, .int b), (3, .int d)] := hl
  refine lv_aload_n hx hb d_MD_mark_0 rfl (lv_at hl 0 rfl) ?_
  refine lv_aload_n hx hb d_MD_mark_1 rfl (lv_at hl 0 rfl) ?_
  refine va_get (D := (dC, dI)) (ci := 7) (v := .int (nI nm)) (C := xR_MD) (T := xT_MD) (N := 27) hx hb hts (fun w h => List.mem_cons_of_mem _ (iw_MD w h)) hown hK hP 0 rfl rfl 1 (by decide) (hts _ (List.mem_cons_of_mem _ wm_698)) (fun _ h9 => h9) rfl d_MD_mark_2 ?_
  refine lv_bipush (v := 12) hx hb d_MD_mark_5 (by decide) ?_
  refine lv_icmp_ge (tgt := 14) hx hb d_MD_mark_7 (by decide) (fun c_1 => ?_) (fun c_1 => ?_)
  · exact absurd (xn_le (a := 12) (b := nm) c_1 (by decide) rfl (by omega) (by omega)) (by omega)
  · have n_2 := xn_nle (a := 12) (b := nm) c_1 (by decide) rfl (by omega) (by omega)
    refine lv_iconst (v := 1) hx hb d_MD_mark_10 (by decide) ?_
    refine lv_goto (tgt := 15) hx hb d_MD_mark_11 (by decide) ?_
    refine lv_iload_n hx hb d_MD_mark_15 rfl (lv_at hl 1 rfl) ?_
    refine lv_iload_n hx hb d_MD_mark_16 rfl (lv_at hl 2 rfl) ?_
    refine lv_iload_n hx hb d_MD_mark_17 rfl (lv_at hl 3 rfl) ?_
    refine xr_calli (va_runS (As := [.int a, .int b, .int d]) (rest := [.int 1, .ref h0]) ⟨hx, hb, hml, hown, hts⟩ (c_MD_areNear l dC dI a b d) (va_cwS 3 hts (xgS wm_787 wm_788 wm_34 wm_789) rfl rfl rfl (by decide +kernel) ⟨Nat.le_of_ble_eq_true rfl, Nat.le_of_ble_eq_true rfl⟩) ⟨xp_blind, fun U hU hW => ⟨rfl, hz.warm hW, by rw [hU]; exact hP.sub [] rfl, va_K.moved hW.alike (hK.sub [] rfl)⟩⟩ rfl rfl hl.1 rfl (lv_room (Nat.le_of_ble_eq_true rfl)) d_MD_mark_18 ⟨Nat.le_of_ble_eq_true rfl, Nat.le_of_ble_eq_true rfl⟩) (fun r_3 h_4 => ?_)
    subst h_4
    refine lv_iconst (v := 1) hx hb d_MD_mark_21 (by decide) ?_
    have hPc := hP.sub (ws' := [(h0, .inr (7, [.int th, .int (nI nm), .ref ap, .int (nI no), .ref am, .ref aw, .ref az, .ref au, .int kn, .long vP, .long vQ, .long vS, .long vT, .long vB, .long vM, .long vH, .ref ao, .ref ax, .int (nI np), .ref ay, .int (nI nl), .ref ad, .ref al, .int (nI sn), .ref ag, .int (nI ta), .int nb]))]) [0] rfl
    have hDc := hD.sub (ws' := [(h0, .inr (7, [.int th, .int (nI nm), .ref ap, .int (nI no), .ref am, .ref aw, .ref az, .ref au, .int kn, .long vP, .long vQ, .long vS, .long vT, .long vB, .long vM, .long vH, .ref ao, .ref ax, .int (nI np), .ref ay, .int (nI nl), .ref ad, .ref al, .int (nI sn), .ref ag, .int (nI ta), .int nb]))]) [0] (by decide) rfl
    have hKc := hK.sub (tys' := []) [] rfl
    have hFc := va_free (wc := [(h0, .inr (7, [.int th, .int (nI nm), .ref ap, .int (nI no), .ref am, .ref aw, .ref az, .ref au, .int kn, .long vP, .long vQ, .long vS, .long vT, .long vB, .long vM, .long vH, .ref ao, .ref ax, .int (nI np), .ref ay, .int (nI nl), .ref ad, .ref al, .int (nI sn), .ref ag, .int (nI ta), .int nb]))]) hD hS hA [0] rfl
    refine va_calli (va_runV (As := [.int 1, .int (bI (sr_near a ∧ sr_near b ∧ sr_near d)), .int 1]) (rest := []) ⟨hx, hb, hml, hown, hts⟩ (c_MD_goes l dC dI s.heap.size h0 th nm ap no am aw az au kn vP vQ vS vT vB vM vH ao ax np ay nl ad al sn ag ta nb 1 (bI (sr_near a ∧ sr_near b ∧ sr_near d)) 1) (cwV 3 hts (xgV wm_793 wm_795 wm_13 wm_34 wm_796) rfl rfl rfl (by decide +kernel) ⟨Nat.le_of_ble_eq_true rfl, Nat.le_of_ble_eq_true rfl⟩) ⟨xw_blind, va_recv hKc hPc (ci := 7) (q0 := 0) rfl rfl, fun U hU hW => ⟨rfl, by rw [hU], hz.warm hW, by rw [hU]; exact hPc, va_K.moved hW.alike hKc, hDc.weaken (fun _ _ _ _ => trivial)⟩⟩ rfl rfl hl.1 rfl (lv_room (Nat.le_of_ble_eq_true rfl)) d_MD_mark_22 ⟨Nat.le_of_ble_eq_true rfl, Nat.le_of_ble_eq_true rfl⟩) hS (fun q _ h => hFc q h) hFc (fun r_5 _ t H1 locs ht hvm hw_6 hB hz1 hk1 hS => ?_)
    obtain ⟨hP1, hK1, hD1⟩ := hB
    rw [ht] at hP1
    have hK1 := va_K.moved hvm.symm hK1
    obtain ⟨hP, hD⟩ := va_join (wr := [(ap, .inl (kp, 36, .inl gp))]) (w1 := [(h0, .inr (7, [.int (md_th 1 (bI (sr_near a ∧ sr_near b ∧ sr_near d)) 1), .int (nI nm), .ref ap, .int (nI no), .ref am, .ref aw, .ref az, .ref au, .int kn, .long vP, .long vQ, .long vS, .long vT, .long vB, .long vM, .long vH, .ref ao, .ref ax, .int (nI np), .ref ay, .int (nI nl), .ref ad, .ref al, .int (nI sn), .ref ag, .int (nI ta), .int nb]))]) hP hD [0] [1] rfl rfl (by decide) (by decide) hk1 hFc hP1 hD1
    generalize H1 = H at hP hS ⊢
    have hP : va_P (dC, dI) xCl [(ap, .inl (kp, 36, .inl gp)), (h0, .inr (7, [.int (md_th 1 (bI (sr_near a ∧ sr_near b ∧ sr_near d)) 1), .int (nI nm), .ref ap, .int (nI no), .ref am, .ref aw, .ref az, .ref au, .int kn, .long vP, .long vQ, .long vS, .long vT, .long vB, .long vM, .long vH, .ref ao, .ref ax, .int (nI np), .ref ay, .int (nI nl), .ref ad, .ref al, .int (nI sn), .ref ag, .int (nI ta), .int nb]))] H := hP
    have hD : va_D A [(ap, .inl (kp, 36, .inl gp)), (h0, .inr (7, [.int (md_th 1 (bI (sr_near a ∧ sr_near b ∧ sr_near d)) 1), .int (nI nm), .ref ap, .int (nI no), .ref am, .ref aw, .ref az, .ref au, .int kn, .long vP, .long vQ, .long vS, .long vT, .long vB, .long vM, .long vH, .ref ao, .ref ax, .int (nI np), .ref ay, .int (nI nl), .ref ad, .ref al, .int (nI sn), .ref ag, .int (nI ta), .int nb]))] := hD
    subst hw_6
    refine lv_if_ne (tgt := 30) hx hb d_MD_mark_25 (by decide) (fun c_7 => ?_) (fun c_7 => ?_)
    · have b_8 := bI_t (rfl : bI (md_th 1 (bI (sr_near a ∧ sr_near b ∧ sr_near d)) 1 = 0) = _) c_7
      refine lv_aload_n hx hb d_MD_mark_30 rfl (lv_at hl 0 rfl) ?_
      refine va_get (D := (dC, dI)) (ci := 7) (v := .ref ap) (C := xR_MD) (T := xT_MD) (N := 27) hx hb hts (fun w h => List.mem_cons_of_mem _ (iw_MD w h)) hown hK hP 1 rfl rfl 2 (by decide) (hts _ (List.mem_cons_of_mem _ wm_699)) (fun _ h9 => h9) rfl d_MD_mark_31 ?_
      refine lv_iconst (v := 3) hx hb d_MD_mark_34 (by decide) ?_
      refine lv_aload_n hx hb d_MD_mark_35 rfl (lv_at hl 0 rfl) ?_
      refine va_get (D := (dC, dI)) (ci := 7) (v := .int (nI nm)) (C := xR_MD) (T := xT_MD) (N := 27) hx hb hts (fun w h => List.mem_cons_of_mem _ (iw_MD w h)) hown hK hP 1 rfl rfl 1 (by decide) (hts _ (List.mem_cons_of_mem _ wm_698)) (fun _ h9 => h9) rfl d_MD_mark_36 ?_
      refine lv_imul hx hb d_MD_mark_39 ?_
      refine xv_i (y := nI (3 * nm)) (pk_mul 3 _) ?_
      refine lv_iload_n hx hb d_MD_mark_40 rfl (lv_at hl 1 rfl) ?_
      refine xa_iast hx hb hK hP hD hS 0 0 rfl rfl (3 * nm) rfl (by omega) (by decide) d_MD_mark_41 (fun H locs hP hD hS => ?_)
      have hP : va_P (dC, dI) xCl [(ap, .inl (kp, 36, .inl (upd gp (3 * nm) a))), (h0, .inr (7, [.int (md_th 1 (bI (sr_near a ∧ sr_near b ∧ sr_near d)) 1), .int (nI nm), .ref ap, .int (nI no), .ref am, .ref aw, .ref az, .ref au, .int kn, .long vP, .long vQ, .long vS, .long vT, .long vB, .long vM, .long vH, .ref ao, .ref ax, .int (nI np), .ref ay, .int (nI nl), .ref ad, .ref al, .int (nI sn), .ref ag, .int (nI ta), .int nb]))] H := hP
      have hD : va_D A [(ap, .inl (kp, 36, .inl (upd gp (3 * nm) a))), (h0, .inr (7, [.int (md_th 1 (bI (sr_near a ∧ sr_near b ∧ sr_near d)) 1), .int (nI nm), .ref ap, .int (nI no), .ref am, .ref aw, .ref az, .ref au, .int kn, .long vP, .long vQ, .long vS, .long vT, .long vB, .long vM, .long vH, .ref ao, .ref ax, .int (nI np), .ref ay, .int (nI nl), .ref ad, .ref al, .int (nI sn), .ref ag, .int (nI ta), .int nb]))] := hD
      refine lv_aload_n hx hb d_MD_mark_42 rfl (lv_at hl 0 rfl) ?_
      refine va_get (D := (dC, dI)) (ci := 7) (v := .ref ap) (C := xR_MD) (T := xT_MD) (N := 27) hx hb hts (fun w h => List.mem_cons_of_mem _ (iw_MD w h)) hown hK hP 1 rfl rfl 2 (by decide) (hts _ (List.mem_cons_of_mem _ wm_699)) (fun _ h9 => h9) rfl d_MD_mark_43 ?_
      refine lv_iconst (v := 3) hx hb d_MD_mark_46 (by decide) ?_
      refine lv_aload_n hx hb d_MD_mark_47 rfl (lv_at hl 0 rfl) ?_
      refine va_get (D := (dC, dI)) (ci := 7) (v := .int (nI nm)) (C := xR_MD) (T := xT_MD) (N := 27) hx hb hts (fun w h => List.mem_cons_of_mem _ (iw_MD w h)) hown hK hP 1 rfl rfl 1 (by decide) (hts _ (List.mem_cons_of_mem _ wm_698)) (fun _ h9 => h9) rfl d_MD_mark_48 ?_
      refine lv_imul hx hb d_MD_mark_51 ?_
      refine xv_i (y := nI (3 * nm)) (pk_mul 3 _) ?_
      refine lv_iconst (v := 1) hx hb d_MD_mark_52 (by decide) ?_
      refine lv_iadd hx hb d_MD_mark_53 ?_
      refine xv_i (y := nI ((3 * nm) + 1)) (nI_1 _) ?_
      refine lv_iload_n hx hb d_MD_mark_54 rfl (lv_at hl 2 rfl) ?_
      refine xa_iast hx hb hK hP hD hS 0 0 rfl rfl ((3 * nm) + 1) rfl (by omega) (by decide) d_MD_mark_55 (fun H locs hP hD hS => ?_)
      have hP : va_P (dC, dI) xCl [(ap, .inl (kp, 36, .inl (upd (upd gp (3 * nm) a) ((3 * nm) + 1) b))), (h0, .inr (7, [.int (md_th 1 (bI (sr_near a ∧ sr_near b ∧ sr_near d)) 1), .int (nI nm), .ref ap, .int (nI no), .ref am, .ref aw, .ref az, .ref au, .int kn, .long vP, .long vQ, .long vS, .long vT, .long vB, .long vM, .long vH, .ref ao, .ref ax, .int (nI np), .ref ay, .int (nI nl), .ref ad, .ref al, .int (nI sn), .ref ag, .int (nI ta), .int nb]))] H := hP
      have hD : va_D A [(ap, .inl (kp, 36, .inl (upd (upd gp (3 * nm) a) ((3 * nm) + 1) b))), (h0, .inr (7, [.int (md_th 1 (bI (sr_near a ∧ sr_near b ∧ sr_near d)) 1), .int (nI nm), .ref ap, .int (nI no), .ref am, .ref aw, .ref az, .ref au, .int kn, .long vP, .long vQ, .long vS, .long vT, .long vB, .long vM, .long vH, .ref ao, .ref ax, .int (nI np), .ref ay, .int (nI nl), .ref ad, .ref al, .int (nI sn), .ref ag, .int (nI ta), .int nb]))] := hD
      refine lv_aload_n hx hb d_MD_mark_56 rfl (lv_at hl 0 rfl) ?_
      refine va_get (D := (dC, dI)) (ci := 7) (v := .ref ap) (C := xR_MD) (T := xT_MD) (N := 27) hx hb hts (fun w h => List.mem_cons_of_mem _ (iw_MD w h)) hown hK hP 1 rfl rfl 2 (by decide) (hts _ (List.mem_cons_of_mem _ wm_699)) (fun _ h9 => h9) rfl d_MD_mark_57 ?_
      refine lv_iconst (v := 3) hx hb d_MD_mark_60 (by decide) ?_
      refine lv_aload_n hx hb d_MD_mark_61 rfl (lv_at hl 0 rfl) ?_
      refine va_get (D := (dC, dI)) (ci := 7) (v := .int (nI nm)) (C := xR_MD) (T := xT_MD) (N := 27) hx hb hts (fun w h => List.mem_cons_of_mem _ (iw_MD w h)) hown hK hP 1 rfl rfl 1 (by decide) (hts _ (List.mem_cons_of_mem _ wm_698)) (fun _ h9 => h9) rfl d_MD_mark_62 ?_
      refine lv_imul hx hb d_MD_mark_65 ?_
      refine xv_i (y := nI (3 * nm)) (pk_mul 3 _) ?_
      refine lv_iconst (v := 2) hx hb d_MD_mark_66 (by decide) ?_
      refine lv_iadd hx hb d_MD_mark_67 ?_
      refine xv_i (y := nI ((3 * nm) + 2)) (nI_add _ 2) ?_
      refine lv_iload_n hx hb d_MD_mark_68 rfl (lv_at hl 3 rfl) ?_
      refine xa_iast hx hb hK hP hD hS 0 0 rfl rfl ((3 * nm) + 2) rfl (by omega) (by decide) d_MD_mark_69 (fun H locs hP hD hS => ?_)
      have hP : va_P (dC, dI) xCl [(ap, .inl (kp, 36, .inl (upd (upd (upd gp (3 * nm) a) ((3 * nm) + 1) b) ((3 * nm) + 2) d))), (h0, .inr (7, [.int (md_th 1 (bI (sr_near a ∧ sr_near b ∧ sr_near d)) 1), .int (nI nm), .ref ap, .int (nI no), .ref am, .ref aw, .ref az, .ref au, .int kn, .long vP, .long vQ, .long vS, .long vT, .long vB, .long vM, .long vH, .ref ao, .ref ax, .int (nI np), .ref ay, .int (nI nl), .ref ad, .ref al, .int (nI sn), .ref ag, .int (nI ta), .int nb]))] H := hP
      have hD : va_D A [(ap, .inl (kp, 36, .inl (upd (upd (upd gp (3 * nm) a) ((3 * nm) + 1) b) ((3 * nm) + 2) d))), (h0, .inr (7, [.int (md_th 1 (bI (sr_near a ∧ sr_near b ∧ sr_near d)) 1), .int (nI nm), .ref ap, .int (nI no), .ref am, .ref aw, .ref az, .ref au, .int kn, .long vP, .long vQ, .long vS, .long vT, .long vB, .long vM, .long vH, .ref ao, .ref ax, .int (nI np), .ref ay, .int (nI nl), .ref ad, .ref al, .int (nI sn), .ref ag, .int (nI ta), .int nb]))] := hD
      refine lv_aload_n hx hb d_MD_mark_70 rfl (lv_at hl 0 rfl) ?_
      refine lv_dup hx hb d_MD_mark_71 rfl ?_
      refine va_get (D := (dC, dI)) (ci := 7) (v := .int (nI nm)) (C := xR_MD) (T := xT_MD) (N := 27) hx hb hts (fun w h => List.mem_cons_of_mem _ (iw_MD w h)) hown hK hP 1 rfl rfl 1 (by decide) (hts _ (List.mem_cons_of_mem _ wm_698)) (fun _ h9 => h9) rfl d_MD_mark_72 ?_
      refine lv_iconst (v := 1) hx hb d_MD_mark_75 (by decide) ?_
      refine lv_iadd hx hb d_MD_mark_76 ?_
      refine xv_i (y := nI (nm + 1)) (nI_1 _) ?_
      refine va_put (D := (dC, dI)) (ci := 7) (v := .int (nI (nm + 1))) (ty := .int) (C := xR_MD) (T := xT_MD) (N := 27) hx hb hts (fun w h => List.mem_cons_of_mem _ (iw_MD w h)) xt_MD xt_MD_ok xn_MD_nm hown hK hP hD hS 1 rfl rfl 1 (by decide) (hts _ (List.mem_cons_of_mem _ wm_698)) (fun _ h9 => h9) rfl (by decide +kernel) rfl rfl (Nat.le_of_ble_eq_true rfl) d_MD_mark_77 (fun H locs hP hD hS => ?_)
      have hP : va_P (dC, dI) xCl [(ap, .inl (kp, 36, .inl (upd (upd (upd gp (3 * nm) a) ((3 * nm) + 1) b) ((3 * nm) + 2) d))), (h0, .inr (7, [.int (md_th 1 (bI (sr_near a ∧ sr_near b ∧ sr_near d)) 1), .int (nI (nm + 1)), .ref ap, .int (nI no), .ref am, .ref aw, .ref az, .ref au, .int kn, .long vP, .long vQ, .long vS, .long vT, .long vB, .long vM, .long vH, .ref ao, .ref ax, .int (nI np), .ref ay, .int (nI nl), .ref ad, .ref al, .int (nI sn), .ref ag, .int (nI ta), .int nb]))] H := hP
      have hD : va_D A [(ap, .inl (kp, 36, .inl (upd (upd (upd gp (3 * nm) a) ((3 * nm) + 1) b) ((3 * nm) + 2) d))), (h0, .inr (7, [.int (md_th 1 (bI (sr_near a ∧ sr_near b ∧ sr_near d)) 1), .int (nI (nm + 1)), .ref ap, .int (nI no), .ref am, .ref aw, .ref az, .ref au, .int kn, .long vP, .long vQ, .long vS, .long vT, .long vB, .long vM, .long vH, .ref ao, .ref ax, .int (nI np), .ref ay, .int (nI nl), .ref ad, .ref al, .int (nI sn), .ref ag, .int (nI ta), .int nb]))] := hD
      refine lv_aload_n hx hb d_MD_mark_80 rfl (lv_at hl 0 rfl) ?_
      refine va_get (D := (dC, dI)) (ci := 7) (v := .int (nI (nm + 1))) (C := xR_MD) (T := xT_MD) (N := 27) hx hb hts (fun w h => List.mem_cons_of_mem _ (iw_MD w h)) hown hK hP 1 rfl rfl 1 (by decide) (hts _ (List.mem_cons_of_mem _ wm_698)) (fun _ h9 => h9) rfl d_MD_mark_81 ?_
      refine lv_iconst (v := 1) hx hb d_MD_mark_84 (by decide) ?_
      refine lv_isub hx hb d_MD_mark_85 ?_
      refine xv_i (y := nI nm) (nI_pred _) ?_
      rw [md_th_0 (by decide) (bI_ne hn) (by decide)] at hP hD
      have hP9 := hP.sub (ws' := [(h0, .inr (7, [.int 0, .int (nI (nm + 1)), .ref ap, .int (nI no), .ref am, .ref aw, .ref az, .ref au, .int kn, .long vP, .long vQ, .long vS, .long vT, .long vB, .long vM, .long vH, .ref ao, .ref ax, .int (nI np), .ref ay, .int (nI nl), .ref ad, .ref al, .int (nI sn), .ref ag, .int (nI ta), .int nb])), (ap, .inl (kp, 36, .inl (upd (upd (upd gp (3 * nm) a) ((3 * nm) + 1) b) ((3 * nm) + 2) d)))]) [1, 0] rfl
      have hD9 := hD.sub (ws' := [(h0, .inr (7, [.int 0, .int (nI (nm + 1)), .ref ap, .int (nI no), .ref am, .ref aw, .ref az, .ref au, .int kn, .long vP, .long vQ, .long vS, .long vT, .long vB, .long vM, .long vH, .ref ao, .ref ax, .int (nI np), .ref ay, .int (nI nl), .ref ad, .ref al, .int (nI sn), .ref ag, .int (nI ta), .int nb])), (ap, .inl (kp, 36, .inl (upd (upd (upd gp (3 * nm) a) ((3 * nm) + 1) b) ((3 * nm) + 2) d)))]) [1, 0] (by decide) rfl
      have hK9 := hK.sub (tys' := [(kp, .int)]) [0] rfl
      exact W.iret (v := nI nm) hx hb hr (fun t ht hW => ⟨⟨nI nm, (), rfl, rfl, ⟨by rw [ht]; exact hP9, va_K.moved hW.alike hK9, by exact hD9⟩⟩, hS.F ht⟩) hS.2.2 d_MD_mark_86 hlocks
    · exact absurd (md_th_0 (by decide) (bI_ne hn) (by decide)) (bI_f rfl c_7)
set_option maxHeartbeats 4000000 in
set_option maxRecDepth 100000 in
/-- mark, refused -/
theorem c_MD_mark_n (l : Launch) (dC : Nat → ClassId) (dI : Nat → Nat → Nat) (sz : Nat) (h0 : Nat) (th : Int32) (nm : Nat) (ap : Nat) (no : Nat) (am : Nat) (aw : Nat) (az : Nat) (au : Nat) (kn : Int32) (vP : Int64) (vQ : Int64) (vS : Int64) (vT : Int64) (vB : Int64) (vM : Int64) (vH : Int64) (ao : Nat) (ax : Nat) (np : Nat) (ay : Nat) (nl : Nat) (ad : Nat) (al : Nat) (sn : Nat) (ag : Nat) (ta : Nat) (nb : Int32) (a : Int32) (b : Int32) (d : Int32) (hc : nm ≤ 12) (hn : ¬ (nm < 12 ∧ (sr_near a ∧ sr_near b ∧ sr_near d))) : Met l xy_MD_mark xw_MD_mark ({ frames := 2, cells := 0, slots := 0, locals := 44 }) (xp_w [.ref h0, .int a, .int b, .int d] sz (dC, dI) xCl [(h0, .inr (7, [.int th, .int (nI nm), .ref ap, .int (nI no), .ref am, .ref aw, .ref az, .ref au, .int kn, .long vP, .long vQ, .long vS, .long vT, .long vB, .long vM, .long vH, .ref ao, .ref ax, .int (nI np), .ref ay, .int (nI nl), .ref ad, .ref al, .int (nI sn), .ref ag, .int (nI ta), .int nb]))] []) (va_Qi (fun (r : Int32) (_ : Unit) => r = 0) (fun _ t => xb_w (dC, dI) xCl [(h0, .inr (7, [.int (md_th (bI (nm < 12)) (bI (sr_near a ∧ sr_near b ∧ sr_near d)) 1), .int (nI nm), .ref ap, .int (nI no), .ref am, .ref aw, .ref az, .ref au, .int kn, .long vP, .long vQ, .long vS, .long vT, .long vB, .long vM, .long vH, .ref ao, .ref ax, .int (nI np), .ref ay, .int (nI nl), .ref ad, .ref al, .int (nI sn), .ref ag, .int (nI ta), .int nb]))] [] (va_A [(h0, .inr (7, [.int th, .int (nI nm), .ref ap, .int (nI no), .ref am, .ref aw, .ref az, .ref au, .int kn, .long vP, .long vQ, .long vS, .long vT, .long vB, .long vM, .long vH, .ref ao, .ref ax, .int (nI np), .ref ay, .int (nI nl), .ref ad, .ref al, .int (nI sn), .ref ag, .int (nI ta), .int nb]))] sz) t) (va_A [(h0, .inr (7, [.int th, .int (nI nm), .ref ap, .int (nI no), .ref am, .ref aw, .ref az, .ref au, .int kn, .long vP, .long vQ, .long vS, .long vT, .long vB, .long vM, .long vH, .ref ao, .ref ax, .int (nI np), .ref ay, .int (nI nl), .ref ad, .ref al, .int (nI sn), .ref ag, .int (nI ta), .int nb]))] sz)) 0 0 (va_A [(h0, .inr (7, [.int th, .int (nI nm), .ref ap, .int (nI no), .ref am, .ref aw, .ref az, .ref au, .int kn, .long vP, .long vQ, .long vS, .long vT, .long vB, .long vM, .long vH, .ref ao, .ref ax, .int (nI np), .ref ay, .int (nI nl), .ref ad, .ref al, .int (nI sn), .ref ag, .int (nI ta), .int nb]))] sz) := by
  refine Met.ofW (cc := prog_9_method_8_code) (maxL := 4) (ret := (some .int)) (by decide) rfl ?_
  intro p e s m args below meth c s₁ B hml hv
  obtain ⟨rfl, hsz, hz, hP, hK, hD0⟩ := hv
  have hx := B.exec
  have hb := B.bytes
  have hr := B.returns
  have hts := atoms_spec (ws := xw_MD_mark) B.pre
  have hown : s.vm.findClass xR_MD = some m.cls := findClass_of_methodNamed B.named
  have hlocks := B.notSynchronized
  subst hsz
  have hD := hD0.self (sz := s.heap.size)
  generalize hAe : va_A [(h0, .inr (7, [.int th, .int (nI nm), .ref ap, .int (nI no), .ref am, .ref aw, .ref az, .ref au, .int kn, .long vP, .long vQ, .long vS, .long vT, .long vB, .long vM, .long vH, .ref ao, .ref ax, .int (nI np), .ref ay, .int (nI nl), .ref ad, .ref al, .int (nI sn), .ref ag, .int (nI ta), .int nb]))] s.heap.size = A at hD ⊢
  have hA : ∀ q : Nat, s.heap.size ≤ q → A q := fun q h => by rw [← hAe]; exact Or.inr h
  have hS : va_S A s.heap s.heap [] := va_S.rf
  have hP : va_P (dC, dI) xCl [(h0, .inr (7, [.int th, .int (nI nm), .ref ap, .int (nI no), .ref am, .ref aw, .ref az, .ref au, .int kn, .long vP, .long vQ, .long vS, .long vT, .long vB, .long vM, .long vH, .ref ao, .ref ax, .int (nI np), .ref ay, .int (nI nl), .ref ad, .ref al, .int (nI sn), .ref ag, .int (nI ta), .int nb]))] s.heap := hP
  have hl := lv_entry ([.ref h0, .int a, .int b, .int d]) (n := 4) (Nat.le_of_ble_eq_true rfl)
  rw [lg_entry_eq]
  generalize (lg_sl ([.ref h0, .int a, .int b, .int d]) ++ List.replicate (4 - (lg_sl ([.ref h0, .int a, .int b, .int d])).length) Slot.unset).toArray = ls at hl ⊢
  have hl : lv_has ls 4 [(0, .ref h0), (1, .int a), (2, .int b), (3, .int d)] := hl
  refine lv_aload_n hx hb d_MD_mark_0 rfl (lv_at hl 0 rfl) ?_
  refine lv_aload_n hx hb d_MD_mark_1 rfl (lv_at hl 0 rfl) ?_
  refine va_get (D := (dC, dI)) (ci := 7) (v := .int (nI nm)) (C := xR_MD) (T := xT_MD) (N := 27) hx hb hts (fun w h => List.mem_cons_of_mem _ (iw_MD w h)) hown hK hP 0 rfl rfl 1 (by decide) (hts _ (List.mem_cons_of_mem _ wm_698)) (fun _ h9 => h9) rfl d_MD_mark_2 ?_
  refine lv_bipush (v := 12) hx hb d_MD_mark_5 (by decide) ?_
  refine lv_icmp_ge (tgt := 14) hx hb d_MD_mark_7 (by decide) (fun c_1 => ?_) (fun c_1 => ?_)
  · have n_2 := xn_le (a := 12) (b := nm) c_1 (by decide) rfl (by omega) (by omega)
    refine lv_iconst (v := 0) hx hb d_MD_mark_14 (by decide) ?_
    refine lv_iload_n hx hb d_MD_mark_15 rfl (lv_at hl 1 rfl) ?_
    refine lv_iload_n hx hb d_MD_mark_16 rfl (lv_at hl 2 rfl) ?_
    refine lv_iload_n hx hb d_MD_mark_17 rfl (lv_at hl 3 rfl) ?_
    refine xr_calli (va_runS (As := [.int a, .int b, .int d]) (rest := [.int 0, .ref h0]) ⟨hx, hb, hml, hown, hts⟩ (c_MD_areNear l dC dI a b d) (va_cwS 3 hts (xgS wm_787 wm_788 wm_34 wm_789) rfl rfl rfl (by decide +kernel) ⟨Nat.le_of_ble_eq_true rfl, Nat.le_of_ble_eq_true rfl⟩) ⟨xp_blind, fun U hU hW => ⟨rfl, hz.warm hW, by rw [hU]; exact hP.sub [] rfl, va_K.moved hW.alike (hK.sub [] rfl)⟩⟩ rfl rfl hl.1 rfl (lv_room (Nat.le_of_ble_eq_true rfl)) d_MD_mark_18 ⟨Nat.le_of_ble_eq_true rfl, Nat.le_of_ble_eq_true rfl⟩) (fun r_3 h_4 => ?_)
    subst h_4
    refine lv_iconst (v := 1) hx hb d_MD_mark_21 (by decide) ?_
    have hPc := hP.sub (ws' := [(h0, .inr (7, [.int th, .int (nI nm), .ref ap, .int (nI no), .ref am, .ref aw, .ref az, .ref au, .int kn, .long vP, .long vQ, .long vS, .long vT, .long vB, .long vM, .long vH, .ref ao, .ref ax, .int (nI np), .ref ay, .int (nI nl), .ref ad, .ref al, .int (nI sn), .ref ag, .int (nI ta), .int nb]))]) [0] rfl
    have hDc := hD.sub (ws' := [(h0, .inr (7, [.int th, .int (nI nm), .ref ap, .int (nI no), .ref am, .ref aw, .ref az, .ref au, .int kn, .long vP, .long vQ, .long vS, .long vT, .long vB, .long vM, .long vH, .ref ao, .ref ax, .int (nI np), .ref ay, .int (nI nl), .ref ad, .ref al, .int (nI sn), .ref ag, .int (nI ta), .int nb]))]) [0] (by decide) rfl
    have hKc := hK.sub (tys' := []) [] rfl
    have hFc := va_free (wc := [(h0, .inr (7, [.int th, .int (nI nm), .ref ap, .int (nI no), .ref am, .ref aw, .ref az, .ref au, .int kn, .long vP, .long vQ, .long vS, .long vT, .long vB, .long vM, .long vH, .ref ao, .ref ax, .int (nI np), .ref ay, .int (nI nl), .ref ad, .ref al, .int (nI sn), .ref ag, .int (nI ta), .int nb]))]) hD hS hA [0] rfl
    refine va_calli (va_runV (As := [.int 0, .int (bI (sr_near a ∧ sr_near b ∧ sr_near d)), .int 1]) (rest := []) ⟨hx, hb, hml, hown, hts⟩ (c_MD_goes l dC dI s.heap.size h0 th nm ap no am aw az au kn vP vQ vS vT vB vM vH ao ax np ay nl ad al sn ag ta nb 0 (bI (sr_near a ∧ sr_near b ∧ sr_near d)) 1) (cwV 3 hts (xgV wm_793 wm_795 wm_13 wm_34 wm_796) rfl rfl rfl (by decide +kernel) ⟨Nat.le_of_ble_eq_true rfl, Nat.le_of_ble_eq_true rfl⟩) ⟨xw_blind, va_recv hKc hPc (ci := 7) (q0 := 0) rfl rfl, fun U hU hW => ⟨rfl, by rw [hU], hz.warm hW, by rw [hU]; exact hPc, va_K.moved hW.alike hKc, hDc.weaken (fun _ _ _ _ => trivial)⟩⟩ rfl rfl hl.1 rfl (lv_room (Nat.le_of_ble_eq_true rfl)) d_MD_mark_22 ⟨Nat.le_of_ble_eq_true rfl, Nat.le_of_ble_eq_true rfl⟩) hS (fun q _ h => hFc q h) hFc (fun r_5 _ t H1 locs ht hvm hw_6 hB hz1 hk1 hS => ?_)
    obtain ⟨hP1, hK1, hD1⟩ := hB
    rw [ht] at hP1
    have hK1 := va_K.moved hvm.symm hK1
    obtain ⟨hP, hD⟩ := va_join (wr := []) (w1 := [(h0, .inr (7, [.int (md_th 0 (bI (sr_near a ∧ sr_near b ∧ sr_near d)) 1), .int (nI nm), .ref ap, .int (nI no), .ref am, .ref aw, .ref az, .ref au, .int kn, .long vP, .long vQ, .long vS, .long vT, .long vB, .long vM, .long vH, .ref ao, .ref ax, .int (nI np), .ref ay, .int (nI nl), .ref ad, .ref al, .int (nI sn), .ref ag, .int (nI ta), .int nb]))]) hP hD [0] [] rfl rfl (by decide) (by decide) hk1 hFc hP1 hD1
    generalize H1 = H at hP hS ⊢
    have hP : va_P (dC, dI) xCl [(h0, .inr (7, [.int (md_th 0 (bI (sr_near a ∧ sr_near b ∧ sr_near d)) 1), .int (nI nm), .ref ap, .int (nI no), .ref am, .ref aw, .ref az, .ref au, .int kn, .long vP, .long vQ, .long vS, .long vT, .long vB, .long vM, .long vH, .ref ao, .ref ax, .int (nI np), .ref ay, .int (nI nl), .ref ad, .ref al, .int (nI sn), .ref ag, .int (nI ta), .int nb]))] H := hP
    have hD : va_D A [(h0, .inr (7, [.int (md_th 0 (bI (sr_near a ∧ sr_near b ∧ sr_near d)) 1), .int (nI nm), .ref ap, .int (nI no), .ref am, .ref aw, .ref az, .ref au, .int kn, .long vP, .long vQ, .long vS, .long vT, .long vB, .long vM, .long vH, .ref ao, .ref ax, .int (nI np), .ref ay, .int (nI nl), .ref ad, .ref al, .int (nI sn), .ref ag, .int (nI ta), .int nb]))] := hD
    subst hw_6
    refine lv_if_ne (tgt := 30) hx hb d_MD_mark_25 (by decide) (fun c_7 => ?_) (fun c_7 => ?_)
    · exact absurd (md_th_all (bI_t rfl c_7)) (fun q => q.1 rfl)
    · have b_8 := bI_f (rfl : bI (md_th 0 (bI (sr_near a ∧ sr_near b ∧ sr_near d)) 1 = 0) = _) c_7
      refine lv_iconst (v := 0) hx hb d_MD_mark_28 (by decide) ?_
      have hP9 := hP.sub (ws' := [(h0, .inr (7, [.int (md_th 0 (bI (sr_near a ∧ sr_near b ∧ sr_near d)) 1), .int (nI nm), .ref ap, .int (nI no), .ref am, .ref aw, .ref az, .ref au, .int kn, .long vP, .long vQ, .long vS, .long vT, .long vB, .long vM, .long vH, .ref ao, .ref ax, .int (nI np), .ref ay, .int (nI nl), .ref ad, .ref al, .int (nI sn), .ref ag, .int (nI ta), .int nb]))]) [0] rfl
      have hD9 := hD.sub (ws' := [(h0, .inr (7, [.int (md_th 0 (bI (sr_near a ∧ sr_near b ∧ sr_near d)) 1), .int (nI nm), .ref ap, .int (nI no), .ref am, .ref aw, .ref az, .ref au, .int kn, .long vP, .long vQ, .long vS, .long vT, .long vB, .long vM, .long vH, .ref ao, .ref ax, .int (nI np), .ref ay, .int (nI nl), .ref ad, .ref al, .int (nI sn), .ref ag, .int (nI ta), .int nb]))]) [0] (by decide) rfl
      have hK9 := hK.sub (tys' := []) [] rfl
      exact W.iret (v := 0) hx hb hr (fun t ht hW => ⟨⟨0, (), rfl, rfl, ⟨by rw [ht]; rw [show bI (nm < 12) = 0 from (bI_n (by omega)).symm]; exact hP9, va_K.moved hW.alike hK9, by rw [show bI (nm < 12) = 0 from (bI_n (by omega)).symm]; exact hD9⟩⟩, hS.F ht⟩) hS.2.2 d_MD_mark_29 hlocks
  · have n_9 := xn_nle (a := 12) (b := nm) c_1 (by decide) rfl (by omega) (by omega)
    refine lv_iconst (v := 1) hx hb d_MD_mark_10 (by decide) ?_
    refine lv_goto (tgt := 15) hx hb d_MD_mark_11 (by decide) ?_
    refine lv_iload_n hx hb d_MD_mark_15 rfl (lv_at hl 1 rfl) ?_
    refine lv_iload_n hx hb d_MD_mark_16 rfl (lv_at hl 2 rfl) ?_
    refine lv_iload_n hx hb d_MD_mark_17 rfl (lv_at hl 3 rfl) ?_
    refine xr_calli (va_runS (As := [.int a, .int b, .int d]) (rest := [.int 1, .ref h0]) ⟨hx, hb, hml, hown, hts⟩ (c_MD_areNear l dC dI a b d) (va_cwS 3 hts (xgS wm_787 wm_788 wm_34 wm_789) rfl rfl rfl (by decide +kernel) ⟨Nat.le_of_ble_eq_true rfl, Nat.le_of_ble_eq_true rfl⟩) ⟨xp_blind, fun U hU hW => ⟨rfl, hz.warm hW, by rw [hU]; exact hP.sub [] rfl, va_K.moved hW.alike (hK.sub [] rfl)⟩⟩ rfl rfl hl.1 rfl (lv_room (Nat.le_of_ble_eq_true rfl)) d_MD_mark_18 ⟨Nat.le_of_ble_eq_true rfl, Nat.le_of_ble_eq_true rfl⟩) (fun r_10 h_11 => ?_)
    subst h_11
    refine lv_iconst (v := 1) hx hb d_MD_mark_21 (by decide) ?_
    have hPc := hP.sub (ws' := [(h0, .inr (7, [.int th, .int (nI nm), .ref ap, .int (nI no), .ref am, .ref aw, .ref az, .ref au, .int kn, .long vP, .long vQ, .long vS, .long vT, .long vB, .long vM, .long vH, .ref ao, .ref ax, .int (nI np), .ref ay, .int (nI nl), .ref ad, .ref al, .int (nI sn), .ref ag, .int (nI ta), .int nb]))]) [0] rfl
    have hDc := hD.sub (ws' := [(h0, .inr (7, [.int th, .int (nI nm), .ref ap, .int (nI no), .ref am, .ref aw, .ref az, .ref au, .int kn, .long vP, .long vQ, .long vS, .long vT, .long vB, .long vM, .long vH, .ref ao, .ref ax, .int (nI np), .ref ay, .int (nI nl), .ref ad, .ref al, .int (nI sn), .ref ag, .int (nI ta), .int nb]))]) [0] (by decide) rfl
    have hKc := hK.sub (tys' := []) [] rfl
    have hFc := va_free (wc := [(h0, .inr (7, [.int th, .int (nI nm), .ref ap, .int (nI no), .ref am, .ref aw, .ref az, .ref au, .int kn, .long vP, .long vQ, .long vS, .long vT, .long vB, .long vM, .long vH, .ref ao, .ref ax, .int (nI np), .ref ay, .int (nI nl), .ref ad, .ref al, .int (nI sn), .ref ag, .int (nI ta), .int nb]))]) hD hS hA [0] rfl
    refine va_calli (va_runV (As := [.int 1, .int (bI (sr_near a ∧ sr_near b ∧ sr_near d)), .int 1]) (rest := []) ⟨hx, hb, hml, hown, hts⟩ (c_MD_goes l dC dI s.heap.size h0 th nm ap no am aw az au kn vP vQ vS vT vB vM vH ao ax np ay nl ad al sn ag ta nb 1 (bI (sr_near a ∧ sr_near b ∧ sr_near d)) 1) (cwV 3 hts (xgV wm_793 wm_795 wm_13 wm_34 wm_796) rfl rfl rfl (by decide +kernel) ⟨Nat.le_of_ble_eq_true rfl, Nat.le_of_ble_eq_true rfl⟩) ⟨xw_blind, va_recv hKc hPc (ci := 7) (q0 := 0) rfl rfl, fun U hU hW => ⟨rfl, by rw [hU], hz.warm hW, by rw [hU]; exact hPc, va_K.moved hW.alike hKc, hDc.weaken (fun _ _ _ _ => trivial)⟩⟩ rfl rfl hl.1 rfl (lv_room (Nat.le_of_ble_eq_true rfl)) d_MD_mark_22 ⟨Nat.le_of_ble_eq_true rfl, Nat.le_of_ble_eq_true rfl⟩) hS (fun q _ h => hFc q h) hFc (fun r_12 _ t H1 locs ht hvm hw_13 hB hz1 hk1 hS => ?_)
    obtain ⟨hP1, hK1, hD1⟩ := hB
    rw [ht] at hP1
    have hK1 := va_K.moved hvm.symm hK1
    obtain ⟨hP, hD⟩ := va_join (wr := []) (w1 := [(h0, .inr (7, [.int (md_th 1 (bI (sr_near a ∧ sr_near b ∧ sr_near d)) 1), .int (nI nm), .ref ap, .int (nI no), .ref am, .ref aw, .ref az, .ref au, .int kn, .long vP, .long vQ, .long vS, .long vT, .long vB, .long vM, .long vH, .ref ao, .ref ax, .int (nI np), .ref ay, .int (nI nl), .ref ad, .ref al, .int (nI sn), .ref ag, .int (nI ta), .int nb]))]) hP hD [0] [] rfl rfl (by decide) (by decide) hk1 hFc hP1 hD1
    generalize H1 = H at hP hS ⊢
    have hP : va_P (dC, dI) xCl [(h0, .inr (7, [.int (md_th 1 (bI (sr_near a ∧ sr_near b ∧ sr_near d)) 1), .int (nI nm), .ref ap, .int (nI no), .ref am, .ref aw, .ref az, .ref au, .int kn, .long vP, .long vQ, .long vS, .long vT, .long vB, .long vM, .long vH, .ref ao, .ref ax, .int (nI np), .ref ay, .int (nI nl), .ref ad, .ref al, .int (nI sn), .ref ag, .int (nI ta), .int nb]))] H := hP
    have hD : va_D A [(h0, .inr (7, [.int (md_th 1 (bI (sr_near a ∧ sr_near b ∧ sr_near d)) 1), .int (nI nm), .ref ap, .int (nI no), .ref am, .ref aw, .ref az, .ref au, .int kn, .long vP, .long vQ, .long vS, .long vT, .long vB, .long vM, .long vH, .ref ao, .ref ax, .int (nI np), .ref ay, .int (nI nl), .ref ad, .ref al, .int (nI sn), .ref ag, .int (nI ta), .int nb]))] := hD
    subst hw_13
    refine lv_if_ne (tgt := 30) hx hb d_MD_mark_25 (by decide) (fun c_14 => ?_) (fun c_14 => ?_)
    · exact absurd (md_th_all (bI_t rfl c_14)) (fun q => hn ⟨n_9, (bI_of q.2.1)⟩)
    · have b_15 := bI_f (rfl : bI (md_th 1 (bI (sr_near a ∧ sr_near b ∧ sr_near d)) 1 = 0) = _) c_14
      refine lv_iconst (v := 0) hx hb d_MD_mark_28 (by decide) ?_
      have hP9 := hP.sub (ws' := [(h0, .inr (7, [.int (md_th 1 (bI (sr_near a ∧ sr_near b ∧ sr_near d)) 1), .int (nI nm), .ref ap, .int (nI no), .ref am, .ref aw, .ref az, .ref au, .int kn, .long vP, .long vQ, .long vS, .long vT, .long vB, .long vM, .long vH, .ref ao, .ref ax, .int (nI np), .ref ay, .int (nI nl), .ref ad, .ref al, .int (nI sn), .ref ag, .int (nI ta), .int nb]))]) [0] rfl
      have hD9 := hD.sub (ws' := [(h0, .inr (7, [.int (md_th 1 (bI (sr_near a ∧ sr_near b ∧ sr_near d)) 1), .int (nI nm), .ref ap, .int (nI no), .ref am, .ref aw, .ref az, .ref au, .int kn, .long vP, .long vQ, .long vS, .long vT, .long vB, .long vM, .long vH, .ref ao, .ref ax, .int (nI np), .ref ay, .int (nI nl), .ref ad, .ref al, .int (nI sn), .ref ag, .int (nI ta), .int nb]))]) [0] (by decide) rfl
      have hK9 := hK.sub (tys' := []) [] rfl
      exact W.iret (v := 0) hx hb hr (fun t ht hW => ⟨⟨0, (), rfl, rfl, ⟨by rw [ht]; rw [show bI (nm < 12) = 1 from (bI_p n_9).symm]; exact hP9, va_K.moved hW.alike hK9, by rw [show bI (nm < 12) = 1 from (bI_p n_9).symm]; exact hD9⟩⟩, hS.F ht⟩) hS.2.2 d_MD_mark_29 hlocks
set_option maxHeartbeats 4000000 in
set_option maxRecDepth 100000 in
/-- point -/
theorem c_MD_point_y (l : Launch) (dC : Nat → ClassId) (dI : Nat → Nat → Nat) (sz : Nat) (h0 : Nat) (th : Int32) (nm : Nat) (ap : Nat) (no : Nat) (am : Nat) (aw : Nat) (az : Nat) (au : Nat) (kn : Int32) (vP : Int64) (vQ : Int64) (vS : Int64) (vT : Int64) (vB : Int64) (vM : Int64) (vH : Int64) (ao : Nat) (ax : Nat) (np : Nat) (ay : Nat) (nl : Nat) (ad : Nat) (al : Nat) (sn : Nat) (ag : Nat) (ta : Nat) (nb : Int32) (ky : ClassId) (gy : Nat → Int32) (a : Int32) (b : Int32) (d : Int32) (hc : np < 30) (hn : sr_near a ∧ sr_near b ∧ sr_near d) : Met l xy_MD_point xw_MD_point ({ frames := 2, cells := 0, slots := 0, locals := 44 }) (xp_w [.ref h0, .int a, .int b, .int d] sz (dC, dI) xCl [(h0, .inr (7, [.int th, .int (nI nm), .ref ap, .int (nI no), .ref am, .ref aw, .ref az, .ref au, .int kn, .long vP, .long vQ, .long vS, .long vT, .long vB, .long vM, .long vH, .ref ao, .ref ax, .int (nI np), .ref ay, .int (nI nl), .ref ad, .ref al, .int (nI sn), .ref ag, .int (nI ta), .int nb])), (ay, .inl (ky, 90, .inl gy))] [(ky, .int)]) (va_Qi (fun (r : Int32) (_ : Unit) => r = nI np) (fun _ t => xb_w (dC, dI) xCl [(h0, .inr (7, [.int 0, .int (nI nm), .ref ap, .int (nI no), .ref am, .ref aw, .ref az, .ref au, .int kn, .long vP, .long vQ, .long vS, .long vT, .long vB, .long vM, .long vH, .ref ao, .ref ax, .int (nI (np + 1)), .ref ay, .int (nI nl), .ref ad, .ref al, .int (nI sn), .ref ag, .int (nI ta), .int nb])), (ay, .inl (ky, 90, .inl (upd (upd (upd gy (3 * np) a) (3 * np + 1) b) (3 * np + 2) d)))] [(ky, .int)] (va_A [(h0, .inr (7, [.int th, .int (nI nm), .ref ap, .int (nI no), .ref am, .ref aw, .ref az, .ref au, .int kn, .long vP, .long vQ, .long vS, .long vT, .long vB, .long vM, .long vH, .ref ao, .ref ax, .int (nI np), .ref ay, .int (nI nl), .ref ad, .ref al, .int (nI sn), .ref ag, .int (nI ta), .int nb])), (ay, .inl (ky, 90, .inl gy))] sz) t) (va_A [(h0, .inr (7, [.int th, .int (nI nm), .ref ap, .int (nI no), .ref am, .ref aw, .ref az, .ref au, .int kn, .long vP, .long vQ, .long vS, .long vT, .long vB, .long vM, .long vH, .ref ao, .ref ax, .int (nI np), .ref ay, .int (nI nl), .ref ad, .ref al, .int (nI sn), .ref ag, .int (nI ta), .int nb])), (ay, .inl (ky, 90, .inl gy))] sz)) 0 0 (va_A [(h0, .inr (7, [.int th, .int (nI nm), .ref ap, .int (nI no), .ref am, .ref aw, .ref az, .ref au, .int kn, .long vP, .long vQ, .long vS, .long vT, .long vB, .long vM, .long vH, .ref ao, .ref ax, .int (nI np), .ref ay, .int (nI nl), .ref ad, .ref al, .int (nI sn), .ref ag, .int (nI ta), .int nb])), (ay, .inl (ky, 90, .inl gy))] sz) := by
  refine Met.ofW (cc := prog_9_method_24_code) (maxL := 4) (ret := (some .int)) (by decide) rfl ?_
  intro p e s m args below meth c s₁ B hml hv
  obtain ⟨rfl, hsz, hz, hP, hK, hD0⟩ := hv
  have hx := B.exec
  have hb := B.bytes
  have hr := B.returns
  have hts := atoms_spec (ws := xw_MD_point) B.pre
  have hown : s.vm.findClass xR_MD = some m.cls := findClass_of_methodNamed B.named
  have hlocks := B.notSynchronized
  subst hsz
  have hD := hD0.self (sz := s.heap.size)
  generalize hAe : va_A [(h0, .inr (7, [.int th, .int (nI nm), .ref ap, .int (nI no), .ref am, .ref aw, .ref az, .ref au, .int kn, .long vP, .long vQ, .long vS, .long vT, .long vB, .long vM, .long vH, .ref ao, .ref ax, .int (nI np), .ref ay, .int (nI nl), .ref ad, .ref al, .int (nI sn), .ref ag, .int (nI ta), .int nb])), (ay, .inl (ky, 90, .inl gy))] s.heap.size = A at hD ⊢
  have hA : ∀ q : Nat, s.heap.size ≤ q → A q := fun q h => by rw [← hAe]; exact Or.inr h
  have hS : va_S A s.heap s.heap [] := va_S.rf
  have hP : va_P (dC, dI) xCl [(h0, .inr (7, [.int th, .int (nI nm), .ref ap, .int (nI no), .ref am, .ref aw, .ref az, .ref au, .int kn, .long vP, .long vQ, .long vS, .long vT, .long vB, .long vM, .long vH, .ref ao, .ref ax, .int (nI np), .ref ay, .int (nI nl), .ref ad, .ref al, .int (nI sn), .ref ag, .int (nI ta), .int nb])), (ay, .inl (ky, 90, .inl gy))] s.heap := hP
  have hl := lv_entry ([.ref h0, .int a, .int b, .int d]) (n := 4) (Nat.le_of_ble_eq_true rfl)
  rw [lg_entry_eq]
  generalize (lg_sl ([.ref h0, .int a, .int b, .int d]) ++ List.replicate (4 - (lg_sl ([.ref h0, .int a, .int b, .int d])).length) Slot.unset).toArray = ls at hl ⊢
  have hl : lv_has ls 4 [(0, .ref h0), (1, .int a), (2, .int b), (3, .int d)] := hl
  refine lv_aload_n hx hb d_MD_point_0 rfl (lv_at hl 0 rfl) ?_
  refine lv_aload_n hx hb d_MD_point_1 rfl (lv_at hl 0 rfl) ?_
  refine va_get (D := (dC, dI)) (ci := 7) (v := .int (nI np)) (C := xR_MD) (T := xT_MD) (N := 27) hx hb hts (fun w h => List.mem_cons_of_mem _ (iw_MD w h)) hown hK hP 0 rfl rfl 18 (by decide) (hts _ (List.mem_cons_of_mem _ wm_715)) (fun _ h9 => h9) rfl d_MD_point_2 ?_
  refine lv_bipush (v := 30) hx hb d_MD_point_5 (by decide) ?_
  refine lv_icmp_ge (tgt := 14) hx hb d_MD_point_7 (by decide) (fun c_1 => ?_) (fun c_1 => ?_)
  · exact absurd (xn_le (a := 30) (b := np) c_1 (by decide) rfl (by omega) (by omega)) (by omega)
  · have n_2 := xn_nle (a := 30) (b := np) c_1 (by decide) rfl (by omega) (by omega)
    refine lv_iconst (v := 1) hx hb d_MD_point_10 (by decide) ?_
    refine lv_goto (tgt := 15) hx hb d_MD_point_11 (by decide) ?_
    refine lv_iload_n hx hb d_MD_point_15 rfl (lv_at hl 1 rfl) ?_
    refine lv_iload_n hx hb d_MD_point_16 rfl (lv_at hl 2 rfl) ?_
    refine lv_iload_n hx hb d_MD_point_17 rfl (lv_at hl 3 rfl) ?_
    refine xr_calli (va_runS (As := [.int a, .int b, .int d]) (rest := [.int 1, .ref h0]) ⟨hx, hb, hml, hown, hts⟩ (c_MD_areNear l dC dI a b d) (va_cwS 3 hts (xgS wm_787 wm_788 wm_34 wm_789) rfl rfl rfl (by decide +kernel) ⟨Nat.le_of_ble_eq_true rfl, Nat.le_of_ble_eq_true rfl⟩) ⟨xp_blind, fun U hU hW => ⟨rfl, hz.warm hW, by rw [hU]; exact hP.sub [] rfl, va_K.moved hW.alike (hK.sub [] rfl)⟩⟩ rfl rfl hl.1 rfl (lv_room (Nat.le_of_ble_eq_true rfl)) d_MD_point_18 ⟨Nat.le_of_ble_eq_true rfl, Nat.le_of_ble_eq_true rfl⟩) (fun r_3 h_4 => ?_)
    subst h_4
    refine lv_iconst (v := 1) hx hb d_MD_point_21 (by decide) ?_
    have hPc := hP.sub (ws' := [(h0, .inr (7, [.int th, .int (nI nm), .ref ap, .int (nI no), .ref am, .ref aw, .ref az, .ref au, .int kn, .long vP, .long vQ, .long vS, .long vT, .long vB, .long vM, .long vH, .ref ao, .ref ax, .int (nI np), .ref ay, .int (nI nl), .ref ad, .ref al, .int (nI sn), .ref ag, .int (nI ta), .int nb]))]) [0] rfl
    have hDc := hD.sub (ws' := [(h0, .inr (7, [.int th, .int (nI nm), .ref ap, .int (nI no), .ref am, .ref aw, .ref az, .ref au, .int kn, .long vP, .long vQ, .long vS, .long vT, .long vB, .long vM, .long vH, .ref ao, .ref ax, .int (nI np), .ref ay, .int (nI nl), .ref ad, .ref al, .int (nI sn), .ref ag, .int (nI ta), .int nb]))]) [0] (by decide) rfl
    have hKc := hK.sub (tys' := []) [] rfl
    have hFc := va_free (wc := [(h0, .inr (7, [.int th, .int (nI nm), .ref ap, .int (nI no), .ref am, .ref aw, .ref az, .ref au, .int kn, .long vP, .long vQ, .long vS, .long vT, .long vB, .long vM, .long vH, .ref ao, .ref ax, .int (nI np), .ref ay, .int (nI nl), .ref ad, .ref al, .int (nI sn), .ref ag, .int (nI ta), .int nb]))]) hD hS hA [0] rfl
    refine va_calli (va_runV (As := [.int 1, .int (bI (sr_near a ∧ sr_near b ∧ sr_near d)), .int 1]) (rest := []) ⟨hx, hb, hml, hown, hts⟩ (c_MD_goes l dC dI s.heap.size h0 th nm ap no am aw az au kn vP vQ vS vT vB vM vH ao ax np ay nl ad al sn ag ta nb 1 (bI (sr_near a ∧ sr_near b ∧ sr_near d)) 1) (cwV 3 hts (xgV wm_793 wm_795 wm_13 wm_34 wm_796) rfl rfl rfl (by decide +kernel) ⟨Nat.le_of_ble_eq_true rfl, Nat.le_of_ble_eq_true rfl⟩) ⟨xw_blind, va_recv hKc hPc (ci := 7) (q0 := 0) rfl rfl, fun U hU hW => ⟨rfl, by rw [hU], hz.warm hW, by rw [hU]; exact hPc, va_K.moved hW.alike hKc, hDc.weaken (fun _ _ _ _ => trivial)⟩⟩ rfl rfl hl.1 rfl (lv_room (Nat.le_of_ble_eq_true rfl)) d_MD_point_22 ⟨Nat.le_of_ble_eq_true rfl, Nat.le_of_ble_eq_true rfl⟩) hS (fun q _ h => hFc q h) hFc (fun r_5 _ t H1 locs ht hvm hw_6 hB hz1 hk1 hS => ?_)
    obtain ⟨hP1, hK1, hD1⟩ := hB
    rw [ht] at hP1
    have hK1 := va_K.moved hvm.symm hK1
    obtain ⟨hP, hD⟩ := va_join (wr := [(ay, .inl (ky, 90, .inl gy))]) (w1 := [(h0, .inr (7, [.int (md_th 1 (bI (sr_near a ∧ sr_near b ∧ sr_near d)) 1), .int (nI nm), .ref ap, .int (nI no), .ref am, .ref aw, .ref az, .ref au, .int kn, .long vP, .long vQ, .long vS, .long vT, .long vB, .long vM, .long vH, .ref ao, .ref ax, .int (nI np), .ref ay, .int (nI nl), .ref ad, .ref al, .int (nI sn), .ref ag, .int (nI ta), .int nb]))]) hP hD [0] [1] rfl rfl (by decide) (by decide) hk1 hFc hP1 hD1
    generalize H1 = H at hP hS ⊢
    have hP : va_P (dC, dI) xCl [(ay, .inl (ky, 90, .inl gy)), (h0, .inr (7, [.int (md_th 1 (bI (sr_near a ∧ sr_near b ∧ sr_near d)) 1), .int (nI nm), .ref ap, .int (nI no), .ref am, .ref aw, .ref az, .ref au, .int kn, .long vP, .long vQ, .long vS, .long vT, .long vB, .long vM, .long vH, .ref ao, .ref ax, .int (nI np), .ref ay, .int (nI nl), .ref ad, .ref al, .int (nI sn), .ref ag, .int (nI ta), .int nb]))] H := hP
    have hD : va_D A [(ay, .inl (ky, 90, .inl gy)), (h0, .inr (7, [.int (md_th 1 (bI (sr_near a ∧ sr_near b ∧ sr_near d)) 1), .int (nI nm), .ref ap, .int (nI no), .ref am, .ref aw, .ref az, .ref au, .int kn, .long vP, .long vQ, .long vS, .long vT, .long vB, .long vM, .long vH, .ref ao, .ref ax, .int (nI np), .ref ay, .int (nI nl), .ref ad, .ref al, .int (nI sn), .ref ag, .int (nI ta), .int nb]))] := hD
    subst hw_6
    refine lv_if_ne (tgt := 30) hx hb d_MD_point_25 (by decide) (fun c_7 => ?_) (fun c_7 => ?_)
    · have b_8 := bI_t (rfl : bI (md_th 1 (bI (sr_near a ∧ sr_near b ∧ sr_near d)) 1 = 0) = _) c_7
      refine lv_aload_n hx hb d_MD_point_30 rfl (lv_at hl 0 rfl) ?_
      refine va_get (D := (dC, dI)) (ci := 7) (v := .ref ay) (C := xR_MD) (T := xT_MD) (N := 27) hx hb hts (fun w h => List.mem_cons_of_mem _ (iw_MD w h)) hown hK hP 1 rfl rfl 19 (by decide) (hts _ (List.mem_cons_of_mem _ wm_716)) (fun _ h9 => h9) rfl d_MD_point_31 ?_
      refine lv_iconst (v := 3) hx hb d_MD_point_34 (by decide) ?_
      refine lv_aload_n hx hb d_MD_point_35 rfl (lv_at hl 0 rfl) ?_
      refine va_get (D := (dC, dI)) (ci := 7) (v := .int (nI np)) (C := xR_MD) (T := xT_MD) (N := 27) hx hb hts (fun w h => List.mem_cons_of_mem _ (iw_MD w h)) hown hK hP 1 rfl rfl 18 (by decide) (hts _ (List.mem_cons_of_mem _ wm_715)) (fun _ h9 => h9) rfl d_MD_point_36 ?_
      refine lv_imul hx hb d_MD_point_39 ?_
      refine xv_i (y := nI (3 * np)) (pk_mul 3 _) ?_
      refine lv_iload_n hx hb d_MD_point_40 rfl (lv_at hl 1 rfl) ?_
      refine xa_iast hx hb hK hP hD hS 0 0 rfl rfl (3 * np) rfl (by omega) (by decide) d_MD_point_41 (fun H locs hP hD hS => ?_)
      have hP : va_P (dC, dI) xCl [(ay, .inl (ky, 90, .inl (upd gy (3 * np) a))), (h0, .inr (7, [.int (md_th 1 (bI (sr_near a ∧ sr_near b ∧ sr_near d)) 1), .int (nI nm), .ref ap, .int (nI no), .ref am, .ref aw, .ref az, .ref au, .int kn, .long vP, .long vQ, .long vS, .long vT, .long vB, .long vM, .long vH, .ref ao, .ref ax, .int (nI np), .ref ay, .int (nI nl), .ref ad, .ref al, .int (nI sn), .ref ag, .int (nI ta), .int nb]))] H := hP
      have hD : va_D A [(ay, .inl (ky, 90, .inl (upd gy (3 * np) a))), (h0, .inr (7, [.int (md_th 1 (bI (sr_near a ∧ sr_near b ∧ sr_near d)) 1), .int (nI nm), .ref ap, .int (nI no), .ref am, .ref aw, .ref az, .ref au, .int kn, .long vP, .long vQ, .long vS, .long vT, .long vB, .long vM, .long vH, .ref ao, .ref ax, .int (nI np), .ref ay, .int (nI nl), .ref ad, .ref al, .int (nI sn), .ref ag, .int (nI ta), .int nb]))] := hD
      refine lv_aload_n hx hb d_MD_point_42 rfl (lv_at hl 0 rfl) ?_
      refine va_get (D := (dC, dI)) (ci := 7) (v := .ref ay) (C := xR_MD) (T := xT_MD) (N := 27) hx hb hts (fun w h => List.mem_cons_of_mem _ (iw_MD w h)) hown hK hP 1 rfl rfl 19 (by decide) (hts _ (List.mem_cons_of_mem _ wm_716)) (fun _ h9 => h9) rfl d_MD_point_43 ?_
      refine lv_iconst (v := 3) hx hb d_MD_point_46 (by decide) ?_
      refine lv_aload_n hx hb d_MD_point_47 rfl (lv_at hl 0 rfl) ?_
      refine va_get (D := (dC, dI)) (ci := 7) (v := .int (nI np)) (C := xR_MD) (T := xT_MD) (N := 27) hx hb hts (fun w h => List.mem_cons_of_mem _ (iw_MD w h)) hown hK hP 1 rfl rfl 18 (by decide) (hts _ (List.mem_cons_of_mem _ wm_715)) (fun _ h9 => h9) rfl d_MD_point_48 ?_
      refine lv_imul hx hb d_MD_point_51 ?_
      refine xv_i (y := nI (3 * np)) (pk_mul 3 _) ?_
      refine lv_iconst (v := 1) hx hb d_MD_point_52 (by decide) ?_
      refine lv_iadd hx hb d_MD_point_53 ?_
      refine xv_i (y := nI ((3 * np) + 1)) (nI_1 _) ?_
      refine lv_iload_n hx hb d_MD_point_54 rfl (lv_at hl 2 rfl) ?_
      refine xa_iast hx hb hK hP hD hS 0 0 rfl rfl ((3 * np) + 1) rfl (by omega) (by decide) d_MD_point_55 (fun H locs hP hD hS => ?_)
      have hP : va_P (dC, dI) xCl [(ay, .inl (ky, 90, .inl (upd (upd gy (3 * np) a) ((3 * np) + 1) b))), (h0, .inr (7, [.int (md_th 1 (bI (sr_near a ∧ sr_near b ∧ sr_near d)) 1), .int (nI nm), .ref ap, .int (nI no), .ref am, .ref aw, .ref az, .ref au, .int kn, .long vP, .long vQ, .long vS, .long vT, .long vB, .long vM, .long vH, .ref ao, .ref ax, .int (nI np), .ref ay, .int (nI nl), .ref ad, .ref al, .int (nI sn), .ref ag, .int (nI ta), .int nb]))] H := hP
      have hD : va_D A [(ay, .inl (ky, 90, .inl (upd (upd gy (3 * np) a) ((3 * np) + 1) b))), (h0, .inr (7, [.int (md_th 1 (bI (sr_near a ∧ sr_near b ∧ sr_near d)) 1), .int (nI nm), .ref ap, .int (nI no), .ref am, .ref aw, .ref az, .ref au, .int kn, .long vP, .long vQ, .long vS, .long vT, .long vB, .long vM, .long vH, .ref ao, .ref ax, .int (nI np), .ref ay, .int (nI nl), .ref ad, .ref al, .int (nI sn), .ref ag, .int (nI ta), .int nb]))] := hD
      refine lv_aload_n hx hb d_MD_point_56 rfl (lv_at hl 0 rfl) ?_
      refine va_get (D := (dC, dI)) (ci := 7) (v := .ref ay) (C := xR_MD) (T := xT_MD) (N := 27) hx hb hts (fun w h => List.mem_cons_of_mem _ (iw_MD w h)) hown hK hP 1 rfl rfl 19 (by decide) (hts _ (List.mem_cons_of_mem _ wm_716)) (fun _ h9 => h9) rfl d_MD_point_57 ?_
      refine lv_iconst (v := 3) hx hb d_MD_point_60 (by decide) ?_
      refine lv_aload_n hx hb d_MD_point_61 rfl (lv_at hl 0 rfl) ?_
      refine va_get (D := (dC, dI)) (ci := 7) (v := .int (nI np)) (C := xR_MD) (T := xT_MD) (N := 27) hx hb hts (fun w h => List.mem_cons_of_mem _ (iw_MD w h)) hown hK hP 1 rfl rfl 18 (by decide) (hts _ (List.mem_cons_of_mem _ wm_715)) (fun _ h9 => h9) rfl d_MD_point_62 ?_
      refine lv_imul hx hb d_MD_point_65 ?_
      refine xv_i (y := nI (3 * np)) (pk_mul 3 _) ?_
      refine lv_iconst (v := 2) hx hb d_MD_point_66 (by decide) ?_
      refine lv_iadd hx hb d_MD_point_67 ?_
      refine xv_i (y := nI ((3 * np) + 2)) (nI_add _ 2) ?_
      refine lv_iload_n hx hb d_MD_point_68 rfl (lv_at hl 3 rfl) ?_
      refine xa_iast hx hb hK hP hD hS 0 0 rfl rfl ((3 * np) + 2) rfl (by omega) (by decide) d_MD_point_69 (fun H locs hP hD hS => ?_)
      have hP : va_P (dC, dI) xCl [(ay, .inl (ky, 90, .inl (upd (upd (upd gy (3 * np) a) ((3 * np) + 1) b) ((3 * np) + 2) d))), (h0, .inr (7, [.int (md_th 1 (bI (sr_near a ∧ sr_near b ∧ sr_near d)) 1), .int (nI nm), .ref ap, .int (nI no), .ref am, .ref aw, .ref az, .ref au, .int kn, .long vP, .long vQ, .long vS, .long vT, .long vB, .long vM, .long vH, .ref ao, .ref ax, .int (nI np), .ref ay, .int (nI nl), .ref ad, .ref al, .int (nI sn), .ref ag, .int (nI ta), .int nb]))] H := hP
      have hD : va_D A [(ay, .inl (ky, 90, .inl (upd (upd (upd gy (3 * np) a) ((3 * np) + 1) b) ((3 * np) + 2) d))), (h0, .inr (7, [.int (md_th 1 (bI (sr_near a ∧ sr_near b ∧ sr_near d)) 1), .int (nI nm), .ref ap, .int (nI no), .ref am, .ref aw, .ref az, .ref au, .int kn, .long vP, .long vQ, .long vS, .long vT, .long vB, .long vM, .long vH, .ref ao, .ref ax, .int (nI np), .ref ay, .int (nI nl), .ref ad, .ref al, .int (nI sn), .ref ag, .int (nI ta), .int nb]))] := hD
      refine lv_aload_n hx hb d_MD_point_70 rfl (lv_at hl 0 rfl) ?_
      refine lv_dup hx hb d_MD_point_71 rfl ?_
      refine va_get (D := (dC, dI)) (ci := 7) (v := .int (nI np)) (C := xR_MD) (T := xT_MD) (N := 27) hx hb hts (fun w h => List.mem_cons_of_mem _ (iw_MD w h)) hown hK hP 1 rfl rfl 18 (by decide) (hts _ (List.mem_cons_of_mem _ wm_715)) (fun _ h9 => h9) rfl d_MD_point_72 ?_
      refine lv_iconst (v := 1) hx hb d_MD_point_75 (by decide) ?_
      refine lv_iadd hx hb d_MD_point_76 ?_
      refine xv_i (y := nI (np + 1)) (nI_1 _) ?_
      refine va_put (D := (dC, dI)) (ci := 7) (v := .int (nI (np + 1))) (ty := .int) (C := xR_MD) (T := xT_MD) (N := 27) hx hb hts (fun w h => List.mem_cons_of_mem _ (iw_MD w h)) xt_MD xt_MD_ok xn_MD_nm hown hK hP hD hS 1 rfl rfl 18 (by decide) (hts _ (List.mem_cons_of_mem _ wm_715)) (fun _ h9 => h9) rfl (by decide +kernel) rfl rfl (Nat.le_of_ble_eq_true rfl) d_MD_point_77 (fun H locs hP hD hS => ?_)
      have hP : va_P (dC, dI) xCl [(ay, .inl (ky, 90, .inl (upd (upd (upd gy (3 * np) a) ((3 * np) + 1) b) ((3 * np) + 2) d))), (h0, .inr (7, [.int (md_th 1 (bI (sr_near a ∧ sr_near b ∧ sr_near d)) 1), .int (nI nm), .ref ap, .int (nI no), .ref am, .ref aw, .ref az, .ref au, .int kn, .long vP, .long vQ, .long vS, .long vT, .long vB, .long vM, .long vH, .ref ao, .ref ax, .int (nI (np + 1)), .ref ay, .int (nI nl), .ref ad, .ref al, .int (nI sn), .ref ag, .int (nI ta), .int nb]))] H := hP
      have hD : va_D A [(ay, .inl (ky, 90, .inl (upd (upd (upd gy (3 * np) a) ((3 * np) + 1) b) ((3 * np) + 2) d))), (h0, .inr (7, [.int (md_th 1 (bI (sr_near a ∧ sr_near b ∧ sr_near d)) 1), .int (nI nm), .ref ap, .int (nI no), .ref am, .ref aw, .ref az, .ref au, .int kn, .long vP, .long vQ, .long vS, .long vT, .long vB, .long vM, .long vH, .ref ao, .ref ax, .int (nI (np + 1)), .ref ay, .int (nI nl), .ref ad, .ref al, .int (nI sn), .ref ag, .int (nI ta), .int nb]))] := hD
      refine lv_aload_n hx hb d_MD_point_80 rfl (lv_at hl 0 rfl) ?_
      refine va_get (D := (dC, dI)) (ci := 7) (v := .int (nI (np + 1))) (C := xR_MD) (T := xT_MD) (N := 27) hx hb hts (fun w h => List.mem_cons_of_mem _ (iw_MD w h)) hown hK hP 1 rfl rfl 18 (by decide) (hts _ (List.mem_cons_of_mem _ wm_715)) (fun _ h9 => h9) rfl d_MD_point_81 ?_
      refine lv_iconst (v := 1) hx hb d_MD_point_84 (by decide) ?_
      refine lv_isub hx hb d_MD_point_85 ?_
      refine xv_i (y := nI np) (nI_pred _) ?_
      rw [md_th_0 (by decide) (bI_ne hn) (by decide)] at hP hD
      have hP9 := hP.sub (ws' := [(h0, .inr (7, [.int 0, .int (nI nm), .ref ap, .int (nI no), .ref am, .ref aw, .ref az, .ref au, .int kn, .long vP, .long vQ, .long vS, .long vT, .long vB, .long vM, .long vH, .ref ao, .ref ax, .int (nI (np + 1)), .ref ay, .int (nI nl), .ref ad, .ref al, .int (nI sn), .ref ag, .int (nI ta), .int nb])), (ay, .inl (ky, 90, .inl (upd (upd (upd gy (3 * np) a) ((3 * np) + 1) b) ((3 * np) + 2) d)))]) [1, 0] rfl
      have hD9 := hD.sub (ws' := [(h0, .inr (7, [.int 0, .int (nI nm), .ref ap, .int (nI no), .ref am, .ref aw, .ref az, .ref au, .int kn, .long vP, .long vQ, .long vS, .long vT, .long vB, .long vM, .long vH, .ref ao, .ref ax, .int (nI (np + 1)), .ref ay, .int (nI nl), .ref ad, .ref al, .int (nI sn), .ref ag, .int (nI ta), .int nb])), (ay, .inl (ky, 90, .inl (upd (upd (upd gy (3 * np) a) ((3 * np) + 1) b) ((3 * np) + 2) d)))]) [1, 0] (by decide) rfl
      have hK9 := hK.sub (tys' := [(ky, .int)]) [0] rfl
      exact W.iret (v := nI np) hx hb hr (fun t ht hW => ⟨⟨nI np, (), rfl, rfl, ⟨by rw [ht]; exact hP9, va_K.moved hW.alike hK9, by exact hD9⟩⟩, hS.F ht⟩) hS.2.2 d_MD_point_86 hlocks
    · exact absurd (md_th_0 (by decide) (bI_ne hn) (by decide)) (bI_f rfl c_7)
set_option maxHeartbeats 4000000 in
set_option maxRecDepth 100000 in
/-- point, refused -/
theorem c_MD_point_n (l : Launch) (dC : Nat → ClassId) (dI : Nat → Nat → Nat) (sz : Nat) (h0 : Nat) (th : Int32) (nm : Nat) (ap : Nat) (no : Nat) (am : Nat) (aw : Nat) (az : Nat) (au : Nat) (kn : Int32) (vP : Int64) (vQ : Int64) (vS : Int64) (vT : Int64) (vB : Int64) (vM : Int64) (vH : Int64) (ao : Nat) (ax : Nat) (np : Nat) (ay : Nat) (nl : Nat) (ad : Nat) (al : Nat) (sn : Nat) (ag : Nat) (ta : Nat) (nb : Int32) (a : Int32) (b : Int32) (d : Int32) (hc : np ≤ 30) (hn : ¬ (np < 30 ∧ (sr_near a ∧ sr_near b ∧ sr_near d))) : Met l xy_MD_point xw_MD_point ({ frames := 2, cells := 0, slots := 0, locals := 44 }) (xp_w [.ref h0, .int a, .int b, .int d] sz (dC, dI) xCl [(h0, .inr (7, [.int th, .int (nI nm), .ref ap, .int (nI no), .ref am, .ref aw, .ref az, .ref au, .int kn, .long vP, .long vQ, .long vS, .long vT, .long vB, .long vM, .long vH, .ref ao, .ref ax, .int (nI np), .ref ay, .int (nI nl), .ref ad, .ref al, .int (nI sn), .ref ag, .int (nI ta), .int nb]))] []) (va_Qi (fun (r : Int32) (_ : Unit) => r = 0) (fun _ t => xb_w (dC, dI) xCl [(h0, .inr (7, [.int (md_th (bI (np < 30)) (bI (sr_near a ∧ sr_near b ∧ sr_near d)) 1), .int (nI nm), .ref ap, .int (nI no), .ref am, .ref aw, .ref az, .ref au, .int kn, .long vP, .long vQ, .long vS, .long vT, .long vB, .long vM, .long vH, .ref ao, .ref ax, .int (nI np), .ref ay, .int (nI nl), .ref ad, .ref al, .int (nI sn), .ref ag, .int (nI ta), .int nb]))] [] (va_A [(h0, .inr (7, [.int th, .int (nI nm), .ref ap, .int (nI no), .ref am, .ref aw, .ref az, .ref au, .int kn, .long vP, .long vQ, .long vS, .long vT, .long vB, .long vM, .long vH, .ref ao, .ref ax, .int (nI np), .ref ay, .int (nI nl), .ref ad, .ref al, .int (nI sn), .ref ag, .int (nI ta), .int nb]))] sz) t) (va_A [(h0, .inr (7, [.int th, .int (nI nm), .ref ap, .int (nI no), .ref am, .ref aw, .ref az, .ref au, .int kn, .long vP, .long vQ, .long vS, .long vT, .long vB, .long vM, .long vH, .ref ao, .ref ax, .int (nI np), .ref ay, .int (nI nl), .ref ad, .ref al, .int (nI sn), .ref ag, .int (nI ta), .int nb]))] sz)) 0 0 (va_A [(h0, .inr (7, [.int th, .int (nI nm), .ref ap, .int (nI no), .ref am, .ref aw, .ref az, .ref au, .int kn, .long vP, .long vQ, .long vS, .long vT, .long vB, .long vM, .long vH, .ref ao, .ref ax, .int (nI np), .ref ay, .int (nI nl), .ref ad, .ref al, .int (nI sn), .ref ag, .int (nI ta), .int nb]))] sz) := by
  refine Met.ofW (cc := prog_9_method_24_code) (maxL := 4) (ret := (some .int)) (by decide) rfl ?_
  intro p e s m args below meth c s₁ B hml hv
  obtain ⟨rfl, hsz, hz, hP, hK, hD0⟩ := hv
  have hx := B.exec
  have hb := B.bytes
  have hr := B.returns
  have hts := atoms_spec (ws := xw_MD_point) B.pre
  have hown : s.vm.findClass xR_MD = some m.cls := findClass_of_methodNamed B.named
  have hlocks := B.notSynchronized
  subst hsz
  have hD := hD0.self (sz := s.heap.size)
  generalize hAe : va_A [(h0, .inr (7, [.int th, .int (nI nm), .ref ap, .int (nI no), .ref am, .ref aw, .ref az, .ref au, .int kn, .long vP, .long vQ, .long vS, .long vT, .long vB, .long vM, .long vH, .ref ao, .ref ax, .int (nI np), .ref ay, .int (nI nl), .ref ad, .ref al, .int (nI sn), .ref ag, .int (nI ta), .int nb]))] s.heap.size = A at hD ⊢
  have hA : ∀ q : Nat, s.heap.size ≤ q → A q := fun q h => by rw [← hAe]; exact Or.inr h
  have hS : va_S A s.heap s.heap [] := va_S.rf
  have hP : va_P (dC, dI) xCl [(h0, .inr (7, [.int th, .int (nI nm), .ref ap, .int (nI no), .ref am, .ref aw, .ref az, .ref au, .int kn, .long vP, .long vQ, .long vS, .long vT, .long vB, .long vM, .long vH, .ref ao, .ref ax, .int (nI np), .ref ay, .int (nI nl), .ref ad, .ref al, .int (nI sn), .ref ag, .int (nI ta), .int nb]))] s.heap := hP
  have hl := lv_entry ([.ref h0, .int a, .int b, .int d]) (n := 4) (Nat.le_of_ble_eq_true rfl)
  rw [lg_entry_eq]
  generalize (lg_sl ([.ref h0, .int a, .int b, .int d]) ++ List.replicate (4 - (lg_sl ([.ref h0, .int a, .int b, .int d])).length) Slot.unset).toArray = ls at hl ⊢
  have hl : lv_has ls 4 [(0, .ref h0), (1, .int a), (2, .int b), (3, .int d)] := hl
  refine lv_aload_n hx hb d_MD_point_0 rfl (lv_at hl 0 rfl) ?_
  refine lv_aload_n hx hb d_MD_point_1 rfl (lv_at hl 0 rfl) ?_
  refine va_get (D := (dC, dI)) (ci := 7) (v := .int (nI np)) (C := xR_MD) (T := xT_MD) (N := 27) hx hb hts (fun w h => List.mem_cons_of_mem _ (iw_MD w h)) hown hK hP 0 rfl rfl 18 (by decide) (hts _ (List.mem_cons_of_mem _ wm_715)) (fun _ h9 => h9) rfl d_MD_point_2 ?_
  refine lv_bipush (v := 30) hx hb d_MD_point_5 (by decide) ?_
  refine lv_icmp_ge (tgt := 14) hx hb d_MD_point_7 (by decide) (fun c_1 => ?_) (fun c_1 => ?_)
  · have n_2 := xn_le (a := 30) (b := np) c_1 (by decide) rfl (by omega) (by omega)
    refine lv_iconst (v := 0) hx hb d_MD_point_14 (by decide) ?_
    refine lv_iload_n hx hb d_MD_point_15 rfl (lv_at hl 1 rfl) ?_
    refine lv_iload_n hx hb d_MD_point_16 rfl (lv_at hl 2 rfl) ?_
    refine lv_iload_n hx hb d_MD_point_17 rfl (lv_at hl 3 rfl) ?_
    refine xr_calli (va_runS (As := [.int a, .int b, .int d]) (rest := [.int 0, .ref h0]) ⟨hx, hb, hml, hown, hts⟩ (c_MD_areNear l dC dI a b d) (va_cwS 3 hts (xgS wm_787 wm_788 wm_34 wm_789) rfl rfl rfl (by decide +kernel) ⟨Nat.le_of_ble_eq_true rfl, Nat.le_of_ble_eq_true rfl⟩) ⟨xp_blind, fun U hU hW => ⟨rfl, hz.warm hW, by rw [hU]; exact hP.sub [] rfl, va_K.moved hW.alike (hK.sub [] rfl)⟩⟩ rfl rfl hl.1 rfl (lv_room (Nat.le_of_ble_eq_true rfl)) d_MD_point_18 ⟨Nat.le_of_ble_eq_true rfl, Nat.le_of_ble_eq_true rfl⟩) (fun r_3 h_4 => ?_)
    subst h_4
    refine lv_iconst (v := 1) hx hb d_MD_point_21 (by decide) ?_
    have hPc := hP.sub (ws' := [(h0, .inr (7, [.int th, .int (nI nm), .ref ap, .int (nI no), .ref am, .ref aw, .ref az, .ref au, .int kn, .long vP, .long vQ, .long vS, .long vT, .long vB, .long vM, .long vH, .ref ao, .ref ax, .int (nI np), .ref ay, .int (nI nl), .ref ad, .ref al, .int (nI sn), .ref ag, .int (nI ta), .int nb]))]) [0] rfl
    have hDc := hD.sub (ws' := [(h0, .inr (7, [.int th, .int (nI nm), .ref ap, .int (nI no), .ref am, .ref aw, .ref az, .ref au, .int kn, .long vP, .long vQ, .long vS, .long vT, .long vB, .long vM, .long vH, .ref ao, .ref ax, .int (nI np), .ref ay, .int (nI nl), .ref ad, .ref al, .int (nI sn), .ref ag, .int (nI ta), .int nb]))]) [0] (by decide) rfl
    have hKc := hK.sub (tys' := []) [] rfl
    have hFc := va_free (wc := [(h0, .inr (7, [.int th, .int (nI nm), .ref ap, .int (nI no), .ref am, .ref aw, .ref az, .ref au, .int kn, .long vP, .long vQ, .long vS, .long vT, .long vB, .long vM, .long vH, .ref ao, .ref ax, .int (nI np), .ref ay, .int (nI nl), .ref ad, .ref al, .int (nI sn), .ref ag, .int (nI ta), .int nb]))]) hD hS hA [0] rfl
    refine va_calli (va_runV (As := [.int 0, .int (bI (sr_near a ∧ sr_near b ∧ sr_near d)), .int 1]) (rest := []) ⟨hx, hb, hml, hown, hts⟩ (c_MD_goes l dC dI s.heap.size h0 th nm ap no am aw az au kn vP vQ vS vT vB vM vH ao ax np ay nl ad al sn ag ta nb 0 (bI (sr_near a ∧ sr_near b ∧ sr_near d)) 1) (cwV 3 hts (xgV wm_793 wm_795 wm_13 wm_34 wm_796) rfl rfl rfl (by decide +kernel) ⟨Nat.le_of_ble_eq_true rfl, Nat.le_of_ble_eq_true rfl⟩) ⟨xw_blind, va_recv hKc hPc (ci := 7) (q0 := 0) rfl rfl, fun U hU hW => ⟨rfl, by rw [hU], hz.warm hW, by rw [hU]; exact hPc, va_K.moved hW.alike hKc, hDc.weaken (fun _ _ _ _ => trivial)⟩⟩ rfl rfl hl.1 rfl (lv_room (Nat.le_of_ble_eq_true rfl)) d_MD_point_22 ⟨Nat.le_of_ble_eq_true rfl, Nat.le_of_ble_eq_true rfl⟩) hS (fun q _ h => hFc q h) hFc (fun r_5 _ t H1 locs ht hvm hw_6 hB hz1 hk1 hS => ?_)
    obtain ⟨hP1, hK1, hD1⟩ := hB
    rw [ht] at hP1
    have hK1 := va_K.moved hvm.symm hK1
    obtain ⟨hP, hD⟩ := va_join (wr := []) (w1 := [(h0, .inr (7, [.int (md_th 0 (bI (sr_near a ∧ sr_near b ∧ sr_near d)) 1), .int (nI nm), .ref ap, .int (nI no), .ref am, .ref aw, .ref az, .ref au, .int kn, .long vP, .long vQ, .long vS, .long vT, .long vB, .long vM, .long vH, .ref ao, .ref ax, .int (nI np), .ref ay, .int (nI nl), .ref ad, .ref al, .int (nI sn), .ref ag, .int (nI ta), .int nb]))]) hP hD [0] [] rfl rfl (by decide) (by decide) hk1 hFc hP1 hD1
    generalize H1 = H at hP hS ⊢
    have hP : va_P (dC, dI) xCl [(h0, .inr (7, [.int (md_th 0 (bI (sr_near a ∧ sr_near b ∧ sr_near d)) 1), .int (nI nm), .ref ap, .int (nI no), .ref am, .ref aw, .ref az, .ref au, .int kn, .long vP, .long vQ, .long vS, .long vT, .long vB, .long vM, .long vH, .ref ao, .ref ax, .int (nI np), .ref ay, .int (nI nl), .ref ad, .ref al, .int (nI sn), .ref ag, .int (nI ta), .int nb]))] H := hP
    have hD : va_D A [(h0, .inr (7, [.int (md_th 0 (bI (sr_near a ∧ sr_near b ∧ sr_near d)) 1), .int (nI nm), .ref ap, .int (nI no), .ref am, .ref aw, .ref az, .ref au, .int kn, .long vP, .long vQ, .long vS, .long vT, .long vB, .long vM, .long vH, .ref ao, .ref ax, .int (nI np), .ref ay, .int (nI nl), .ref ad, .ref al, .int (nI sn), .ref ag, .int (nI ta), .int nb]))] := hD
    subst hw_6
    refine lv_if_ne (tgt := 30) hx hb d_MD_point_25 (by decide) (fun c_7 => ?_) (fun c_7 => ?_)
    · exact absurd (md_th_all (bI_t rfl c_7)) (fun q => q.1 rfl)
    · have b_8 := bI_f (rfl : bI (md_th 0 (bI (sr_near a ∧ sr_near b ∧ sr_near d)) 1 = 0) = _) c_7
      refine lv_iconst (v := 0) hx hb d_MD_point_28 (by decide) ?_
      have hP9 := hP.sub (ws' := [(h0, .inr (7, [.int (md_th 0 (bI (sr_near a ∧ sr_near b ∧ sr_near d)) 1), .int (nI nm), .ref ap, .int (nI no), .ref am, .ref aw, .ref az, .ref au, .int kn, .long vP, .long vQ, .long vS, .long vT, .long vB, .long vM, .long vH, .ref ao, .ref ax, .int (nI np), .ref ay, .int (nI nl), .ref ad, .ref al, .int (nI sn), .ref ag, .int (nI ta), .int nb]))]) [0] rfl
      have hD9 := hD.sub (ws' := [(h0, .inr (7, [.int (md_th 0 (bI (sr_near a ∧ sr_near b ∧ sr_near d)) 1), .int (nI nm), .ref ap, .int (nI no), .ref am, .ref aw, .ref az, .ref au, .int kn, .long vP, .long vQ, .long vS, .long vT, .long vB, .long vM, .long vH, .ref ao, .ref ax, .int (nI np), .ref ay, .int (nI nl), .ref ad, .ref al, .int (nI sn), .ref ag, .int (nI ta), .int nb]))]) [0] (by decide) rfl
      have hK9 := hK.sub (tys' := []) [] rfl
      exact W.iret (v := 0) hx hb hr (fun t ht hW => ⟨⟨0, (), rfl, rfl, ⟨by rw [ht]; rw [show bI (np < 30) = 0 from (bI_n (by omega)).symm]; exact hP9, va_K.moved hW.alike hK9, by rw [show bI (np < 30) = 0 from (bI_n (by omega)).symm]; exact hD9⟩⟩, hS.F ht⟩) hS.2.2 d_MD_point_29 hlocks
  · have n_9 := xn_nle (a := 30) (b := np) c_1 (by decide) rfl (by omega) (by omega)
    refine lv_iconst (v := 1) hx hb d_MD_point_10 (by decide) ?_
    refine lv_goto (tgt := 15) hx hb d_MD_point_11 (by decide) ?_
    refine lv_iload_n hx hb d_MD_point_15 rfl (lv_at hl 1 rfl) ?_
    refine lv_iload_n hx hb d_MD_point_16 rfl (lv_at hl 2 rfl) ?_
    refine lv_iload_n hx hb d_MD_point_17 rfl (lv_at hl 3 rfl) ?_
    refine xr_calli (va_runS (As := [.int a, .int b, .int d]) (rest := [.int 1, .ref h0]) ⟨hx, hb, hml, hown, hts⟩ (c_MD_areNear l dC dI a b d) (va_cwS 3 hts (xgS wm_787 wm_788 wm_34 wm_789) rfl rfl rfl (by decide +kernel) ⟨Nat.le_of_ble_eq_true rfl, Nat.le_of_ble_eq_true rfl⟩) ⟨xp_blind, fun U hU hW => ⟨rfl, hz.warm hW, by rw [hU]; exact hP.sub [] rfl, va_K.moved hW.alike (hK.sub [] rfl)⟩⟩ rfl rfl hl.1 rfl (lv_room (Nat.le_of_ble_eq_true rfl)) d_MD_point_18 ⟨Nat.le_of_ble_eq_true rfl, Nat.le_of_ble_eq_true rfl⟩) (fun r_10 h_11 => ?_)
    subst h_11
    refine lv_iconst (v := 1) hx hb d_MD_point_21 (by decide) ?_
    have hPc := hP.sub (ws' := [(h0, .inr (7, [.int th, .int (nI nm), .ref ap, .int (nI no), .ref am, .ref aw, .ref az, .ref au, .int kn, .long vP, .long vQ, .long vS, .long vT, .long vB, .long vM, .long vH, .ref ao, .ref ax, .int (nI np), .ref ay, .int (nI nl), .ref ad, .ref al, .int (nI sn), .ref ag, .int (nI ta), .int nb]))]) [0] rfl
    have hDc := hD.sub (ws' := [(h0, .inr (7, [.int th, .int (nI nm), .ref ap, .int (nI no), .ref am, .ref aw, .ref az, .ref au, .int kn, .long vP, .long vQ, .long vS, .long vT, .long vB, .long vM, .long vH, .ref ao, .ref ax, .int (nI np), .ref ay, .int (nI nl), .ref ad, .ref al, .int (nI sn), .ref ag, .int (nI ta), .int nb]))]) [0] (by decide) rfl
    have hKc := hK.sub (tys' := []) [] rfl
    have hFc := va_free (wc := [(h0, .inr (7, [.int th, .int (nI nm), .ref ap, .int (nI no), .ref am, .ref aw, .ref az, .ref au, .int kn, .long vP, .long vQ, .long vS, .long vT, .long vB, .long vM, .long vH, .ref ao, .ref ax, .int (nI np), .ref ay, .int (nI nl), .ref ad, .ref al, .int (nI sn), .ref ag, .int (nI ta), .int nb]))]) hD hS hA [0] rfl
    refine va_calli (va_runV (As := [.int 1, .int (bI (sr_near a ∧ sr_near b ∧ sr_near d)), .int 1]) (rest := []) ⟨hx, hb, hml, hown, hts⟩ (c_MD_goes l dC dI s.heap.size h0 th nm ap no am aw az au kn vP vQ vS vT vB vM vH ao ax np ay nl ad al sn ag ta nb 1 (bI (sr_near a ∧ sr_near b ∧ sr_near d)) 1) (cwV 3 hts (xgV wm_793 wm_795 wm_13 wm_34 wm_796) rfl rfl rfl (by decide +kernel) ⟨Nat.le_of_ble_eq_true rfl, Nat.le_of_ble_eq_true rfl⟩) ⟨xw_blind, va_recv hKc hPc (ci := 7) (q0 := 0) rfl rfl, fun U hU hW => ⟨rfl, by rw [hU], hz.warm hW, by rw [hU]; exact hPc, va_K.moved hW.alike hKc, hDc.weaken (fun _ _ _ _ => trivial)⟩⟩ rfl rfl hl.1 rfl (lv_room (Nat.le_of_ble_eq_true rfl)) d_MD_point_22 ⟨Nat.le_of_ble_eq_true rfl, Nat.le_of_ble_eq_true rfl⟩) hS (fun q _ h => hFc q h) hFc (fun r_12 _ t H1 locs ht hvm hw_13 hB hz1 hk1 hS => ?_)
    obtain ⟨hP1, hK1, hD1⟩ := hB
    rw [ht] at hP1
    have hK1 := va_K.moved hvm.symm hK1
    obtain ⟨hP, hD⟩ := va_join (wr := []) (w1 := [(h0, .inr (7, [.int (md_th 1 (bI (sr_near a ∧ sr_near b ∧ sr_near d)) 1), .int (nI nm), .ref ap, .int (nI no), .ref am, .ref aw, .ref az, .ref au, .int kn, .long vP, .long vQ, .long vS, .long vT, .long vB, .long vM, .long vH, .ref ao, .ref ax, .int (nI np), .ref ay, .int (nI nl), .ref ad, .ref al, .int (nI sn), .ref ag, .int (nI ta), .int nb]))]) hP hD [0] [] rfl rfl (by decide) (by decide) hk1 hFc hP1 hD1
    generalize H1 = H at hP hS ⊢
    have hP : va_P (dC, dI) xCl [(h0, .inr (7, [.int (md_th 1 (bI (sr_near a ∧ sr_near b ∧ sr_near d)) 1), .int (nI nm), .ref ap, .int (nI no), .ref am, .ref aw, .ref az, .ref au, .int kn, .long vP, .long vQ, .long vS, .long vT, .long vB, .long vM, .long vH, .ref ao, .ref ax, .int (nI np), .ref ay, .int (nI nl), .ref ad, .ref al, .int (nI sn), .ref ag, .int (nI ta), .int nb]))] H := hP
    have hD : va_D A [(h0, .inr (7, [.int (md_th 1 (bI (sr_near a ∧ sr_near b ∧ sr_near d)) 1), .int (nI nm), .ref ap, .int (nI no), .ref am, .ref aw, .ref az, .ref au, .int kn, .long vP, .long vQ, .long vS, .long vT, .long vB, .long vM, .long vH, .ref ao, .ref ax, .int (nI np), .ref ay, .int (nI nl), .ref ad, .ref al, .int (nI sn), .ref ag, .int (nI ta), .int nb]))] := hD
    subst hw_13
    refine lv_if_ne (tgt := 30) hx hb d_MD_point_25 (by decide) (fun c_14 => ?_) (fun c_14 => ?_)
    · exact absurd (md_th_all (bI_t rfl c_14)) (fun q => hn ⟨n_9, (bI_of q.2.1)⟩)
    · have b_15 := bI_f (rfl : bI (md_th 1 (bI (sr_near a ∧ sr_near b ∧ sr_near d)) 1 = 0) = _) c_14
      refine lv_iconst (v := 0) hx hb d_MD_point_28 (by decide) ?_
      have hP9 := hP.sub (ws' := [(h0, .inr (7, [.int (md_th 1 (bI (sr_near a ∧ sr_near b ∧ sr_near d)) 1), .int (nI nm), .ref ap, .int (nI no), .ref am, .ref aw, .ref az, .ref au, .int kn, .long vP, .long vQ, .long vS, .long vT, .long vB, .long vM, .long vH, .ref ao, .ref ax, .int (nI np), .ref ay, .int (nI nl), .ref ad, .ref al, .int (nI sn), .ref ag, .int (nI ta), .int nb]))]) [0] rfl
      have hD9 := hD.sub (ws' := [(h0, .inr (7, [.int (md_th 1 (bI (sr_near a ∧ sr_near b ∧ sr_near d)) 1), .int (nI nm), .ref ap, .int (nI no), .ref am, .ref aw, .ref az, .ref au, .int kn, .long vP, .long vQ, .long vS, .long vT, .long vB, .long vM, .long vH, .ref ao, .ref ax, .int (nI np), .ref ay, .int (nI nl), .ref ad, .ref al, .int (nI sn), .ref ag, .int (nI ta), .int nb]))]) [0] (by decide) rfl
      have hK9 := hK.sub (tys' := []) [] rfl
      exact W.iret (v := 0) hx hb hr (fun t ht hW => ⟨⟨0, (), rfl, rfl, ⟨by rw [ht]; rw [show bI (np < 30) = 1 from (bI_p n_9).symm]; exact hP9, va_K.moved hW.alike hK9, by rw [show bI (np < 30) = 1 from (bI_p n_9).symm]; exact hD9⟩⟩, hS.F ht⟩) hS.2.2 d_MD_point_29 hlocks
set_option maxHeartbeats 4000000 in
set_option maxRecDepth 100000 in
/-- observe -/
theorem c_MD_observe_y (l : Launch) (dC : Nat → ClassId) (dI : Nat → Nat → Nat) (sz : Nat) (h0 : Nat) (th : Int32) (nm : Nat) (ap : Nat) (no : Nat) (am : Nat) (aw : Nat) (az : Nat) (au : Nat) (kn : Int32) (vP : Int64) (vQ : Int64) (vS : Int64) (vT : Int64) (vB : Int64) (vM : Int64) (vH : Int64) (ao : Nat) (ax : Nat) (np : Nat) (ay : Nat) (nl : Nat) (ad : Nat) (al : Nat) (sn : Nat) (ag : Nat) (ta : Nat) (nb : Int32) (km : ClassId) (kw : ClassId) (ku : ClassId) (gm : Nat → Int32) (gw : Nat → Int32) (gu : Nat → Int32) (k0 : Int32) (a : Int32) (b : Int32) (d : Int32) (hv : md_win k0 0 (nI nm - 1)) (hc : no < 20) (hn : sr_near a ∧ sr_near b ∧ sr_near d) : Met l xy_MD_observe xw_MD_observe ({ frames := 2, cells := 0, slots := 0, locals := 44 }) (xp_w [.ref h0, .int k0, .int a, .int b, .int d] sz (dC, dI) xCl [(h0, .inr (7, [.int th, .int (nI nm), .ref ap, .int (nI no), .ref am, .ref aw, .ref az, .ref au, .int kn, .long vP, .long vQ, .long vS, .long vT, .long vB, .long vM, .long vH, .ref ao, .ref ax, .int (nI np), .ref ay, .int (nI nl), .ref ad, .ref al, .int (nI sn), .ref ag, .int (nI ta), .int nb])), (am, .inl (km, 20, .inl gm)), (aw, .inl (kw, 60, .inl gw)), (au, .inl (ku, 20, .inl gu))] [(km, .int), (kw, .int), (ku, .boolean)]) (va_Qi (fun (r : Int32) (_ : Unit) => r = nI no) (fun _ t => xb_w (dC, dI) xCl [(h0, .inr (7, [.int 0, .int (nI nm), .ref ap, .int (nI (no + 1)), .ref am, .ref aw, .ref az, .ref au, .int kn, .long vP, .long vQ, .long vS, .long vT, .long vB, .long vM, .long vH, .ref ao, .ref ax, .int (nI np), .ref ay, .int (nI nl), .ref ad, .ref al, .int (nI sn), .ref ag, .int (nI ta), .int nb])), (am, .inl (km, 20, .inl (upd gm no k0))), (aw, .inl (kw, 60, .inl (upd (upd (upd gw (3 * no) a) (3 * no + 1) b) (3 * no + 2) d))), (au, .inl (ku, 20, .inl (upd gu no 1)))] [(km, .int), (kw, .int), (ku, .boolean)] (va_A [(h0, .inr (7, [.int th, .int (nI nm), .ref ap, .int (nI no), .ref am, .ref aw, .ref az, .ref au, .int kn, .long vP, .long vQ, .long vS, .long vT, .long vB, .long vM, .long vH, .ref ao, .ref ax, .int (nI np), .ref ay, .int (nI nl), .ref ad, .ref al, .int (nI sn), .ref ag, .int (nI ta), .int nb])), (am, .inl (km, 20, .inl gm)), (aw, .inl (kw, 60, .inl gw)), (au, .inl (ku, 20, .inl gu))] sz) t) (va_A [(h0, .inr (7, [.int th, .int (nI nm), .ref ap, .int (nI no), .ref am, .ref aw, .ref az, .ref au, .int kn, .long vP, .long vQ, .long vS, .long vT, .long vB, .long vM, .long vH, .ref ao, .ref ax, .int (nI np), .ref ay, .int (nI nl), .ref ad, .ref al, .int (nI sn), .ref ag, .int (nI ta), .int nb])), (am, .inl (km, 20, .inl gm)), (aw, .inl (kw, 60, .inl gw)), (au, .inl (ku, 20, .inl gu))] sz)) 0 0 (va_A [(h0, .inr (7, [.int th, .int (nI nm), .ref ap, .int (nI no), .ref am, .ref aw, .ref az, .ref au, .int kn, .long vP, .long vQ, .long vS, .long vT, .long vB, .long vM, .long vH, .ref ao, .ref ax, .int (nI np), .ref ay, .int (nI nl), .ref ad, .ref al, .int (nI sn), .ref ag, .int (nI ta), .int nb])), (am, .inl (km, 20, .inl gm)), (aw, .inl (kw, 60, .inl gw)), (au, .inl (ku, 20, .inl gu))] sz) := by
  refine Met.ofW (cc := prog_9_method_10_code) (maxL := 5) (ret := (some .int)) (by decide) rfl ?_
  intro p e s m args below meth c s₁ B hml hv
  obtain ⟨rfl, hsz, hz, hP, hK, hD0⟩ := hv
  have hx := B.exec
  have hb := B.bytes
  have hr := B.returns
  have hts := atoms_spec (ws := xw_MD_observe) B.pre
  have hown : s.vm.findClass xR_MD = some m.cls := findClass_of_methodNamed B.named
  have hlocks := B.notSynchronized
  subst hsz
  have hD := hD0.self (sz := s.heap.size)
  generalize hAe : va_A [(h0, .inr (7, [.int th, .int (nI nm), .ref ap, .int (nI no), .ref am, .ref aw, .ref az, .ref au, .int kn, .long vP, .long vQ, .long vS, .long vT, .long vB, .long vM, .long vH, .ref ao, .ref ax, .int (nI np), .ref ay, .int (nI nl), .ref ad, .ref al, .int (nI sn), .ref ag, .int (nI ta), .int nb])), (am, .inl (km, 20, .inl gm)), (aw, .inl (kw, 60, .inl gw)), (au, .inl (ku, 20, .inl gu))] s.heap.size = A at hD ⊢
  have hA : ∀ q : Nat, s.heap.size ≤ q → A q := fun q h => by rw [← hAe]; exact Or.inr h
  have hS : va_S A s.heap s.heap [] := va_S.rf
  have hP : va_P (dC, dI) xCl [(h0, .inr (7, [.int th, .int (nI nm), .ref ap, .int (nI no), .ref am, .ref aw, .ref az, .ref au, .int kn, .long vP, .long vQ, .long vS, .long vT, .long vB, .long vM, .long vH, .ref ao, .ref ax, .int (nI np), .ref ay, .int (nI nl), .ref ad, .ref al, .int (nI sn), .ref ag, .int (nI ta), .int nb])), (am, .inl (km, 20, .inl gm)), (aw, .inl (kw, 60, .inl gw)), (au, .inl (ku, 20, .inl gu))] s.heap := hP
  have hl := lv_entry ([.ref h0, .int k0, .int a, .int b, .int d]) (n := 5) (Nat.le_of_ble_eq_true rfl)
  rw [lg_entry_eq]
  generalize (lg_sl ([.ref h0, .int k0, .int a, .int b, .int d]) ++ List.replicate (5 - (lg_sl ([.ref h0, .int k0, .int a, .int b, .int d])).length) Slot.unset).toArray = ls at hl ⊢
  have hl : lv_has ls 5 [(0, .ref h0), (1, .int k0), (2, .int a), (3, .int b), (4, .int d)] := hl
  refine lv_aload_n hx hb d_MD_observe_0 rfl (lv_at hl 0 rfl) ?_
  refine lv_iload_n hx hb d_MD_observe_1 rfl (lv_at hl 1 rfl) ?_
  refine lv_iconst (v := 0) hx hb d_MD_observe_2 (by decide) ?_
  refine lv_aload_n hx hb d_MD_observe_3 rfl (lv_at hl 0 rfl) ?_
  refine va_get (D := (dC, dI)) (ci := 7) (v := .int (nI nm)) (C := xR_MD) (T := xT_MD) (N := 27) hx hb hts (fun w h => List.mem_cons_of_mem _ (iw_MD w h)) hown hK hP 0 rfl rfl 1 (by decide) (hts _ (List.mem_cons_of_mem _ wm_698)) (fun _ h9 => h9) rfl d_MD_observe_4 ?_
  refine lv_iconst (v := 1) hx hb d_MD_observe_7 (by decide) ?_
  refine lv_isub hx hb d_MD_observe_8 ?_
  refine xr_calli (va_runS (As := [.int k0, .int 0, .int ((nI nm) - 1)]) (rest := [.ref h0]) ⟨hx, hb, hml, hown, hts⟩ (c_MD_within l dC dI k0 0 ((nI nm) - 1)) (va_cwS 3 hts (xgS wm_790 wm_791 wm_34 wm_792) rfl rfl rfl (by decide +kernel) ⟨Nat.le_of_ble_eq_true rfl, Nat.le_of_ble_eq_true rfl⟩) ⟨xp_blind, fun U hU hW => ⟨rfl, hz.warm hW, by rw [hU]; exact hP.sub [] rfl, va_K.moved hW.alike (hK.sub [] rfl)⟩⟩ rfl rfl hl.1 rfl (lv_room (Nat.le_of_ble_eq_true rfl)) d_MD_observe_9 ⟨Nat.le_of_ble_eq_true rfl, Nat.le_of_ble_eq_true rfl⟩) (fun r_1 h_2 => ?_)
  subst h_2
  refine lv_aload_n hx hb d_MD_observe_12 rfl (lv_at hl 0 rfl) ?_
  refine va_get (D := (dC, dI)) (ci := 7) (v := .int (nI no)) (C := xR_MD) (T := xT_MD) (N := 27) hx hb hts (fun w h => List.mem_cons_of_mem _ (iw_MD w h)) hown hK hP 0 rfl rfl 3 (by decide) (hts _ (List.mem_cons_of_mem _ wm_700)) (fun _ h9 => h9) rfl d_MD_observe_13 ?_
  refine lv_bipush (v := 20) hx hb d_MD_observe_16 (by decide) ?_
  refine lv_icmp_ge (tgt := 25) hx hb d_MD_observe_18 (by decide) (fun c_3 => ?_) (fun c_3 => ?_)
  · exact absurd (xn_le (a := 20) (b := no) c_3 (by decide) rfl (by omega) (by omega)) (by omega)
  · have n_4 := xn_nle (a := 20) (b := no) c_3 (by decide) rfl (by omega) (by omega)
    refine lv_iconst (v := 1) hx hb d_MD_observe_21 (by decide) ?_
    refine lv_goto (tgt := 26) hx hb d_MD_observe_22 (by decide) ?_
    refine lv_iload_n hx hb d_MD_observe_26 rfl (lv_at hl 2 rfl) ?_
    refine lv_iload_n hx hb d_MD_observe_27 rfl (lv_at hl 3 rfl) ?_
    refine lv_iload hx hb d_MD_observe_28 (lv_at hl 4 rfl) ?_
    refine xr_calli (va_runS (As := [.int a, .int b, .int d]) (rest := [.int 1, .int (bI (md_win k0 0 ((nI nm) - 1))), .ref h0]) ⟨hx, hb, hml, hown, hts⟩ (c_MD_areNear l dC dI a b d) (va_cwS 3 hts (xgS wm_787 wm_788 wm_34 wm_789) rfl rfl rfl (by decide +kernel) ⟨Nat.le_of_ble_eq_true rfl, Nat.le_of_ble_eq_true rfl⟩) ⟨xp_blind, fun U hU hW => ⟨rfl, hz.warm hW, by rw [hU]; exact hP.sub [] rfl, va_K.moved hW.alike (hK.sub [] rfl)⟩⟩ rfl rfl hl.1 rfl (lv_room (Nat.le_of_ble_eq_true rfl)) d_MD_observe_30 ⟨Nat.le_of_ble_eq_true rfl, Nat.le_of_ble_eq_true rfl⟩) (fun r_5 h_6 => ?_)
    subst h_6
    have hPc := hP.sub (ws' := [(h0, .inr (7, [.int th, .int (nI nm), .ref ap, .int (nI no), .ref am, .ref aw, .ref az, .ref au, .int kn, .long vP, .long vQ, .long vS, .long vT, .long vB, .long vM, .long vH, .ref ao, .ref ax, .int (nI np), .ref ay, .int (nI nl), .ref ad, .ref al, .int (nI sn), .ref ag, .int (nI ta), .int nb]))]) [0] rfl
    have hDc := hD.sub (ws' := [(h0, .inr (7, [.int th, .int (nI nm), .ref ap, .int (nI no), .ref am, .ref aw, .ref az, .ref au, .int kn, .long vP, .long vQ, .long vS, .long vT, .long vB, .long vM, .long vH, .ref ao, .ref ax, .int (nI np), .ref ay, .int (nI nl), .ref ad, .ref al, .int (nI sn), .ref ag, .int (nI ta), .int nb]))]) [0] (by decide) rfl
    have hKc := hK.sub (tys' := []) [] rfl
    have hFc := va_free (wc := [(h0, .inr (7, [.int th, .int (nI nm), .ref ap, .int (nI no), .ref am, .ref aw, .ref az, .ref au, .int kn, .long vP, .long vQ, .long vS, .long vT, .long vB, .long vM, .long vH, .ref ao, .ref ax, .int (nI np), .ref ay, .int (nI nl), .ref ad, .ref al, .int (nI sn), .ref ag, .int (nI ta), .int nb]))]) hD hS hA [0] rfl
    refine va_calli (va_runV (As := [.int (bI (md_win k0 0 ((nI nm) - 1))), .int 1, .int (bI (sr_near a ∧ sr_near b ∧ sr_near d))]) (rest := []) ⟨hx, hb, hml, hown, hts⟩ (c_MD_goes l dC dI s.heap.size h0 th nm ap no am aw az au kn vP vQ vS vT vB vM vH ao ax np ay nl ad al sn ag ta nb (bI (md_win k0 0 ((nI nm) - 1))) 1 (bI (sr_near a ∧ sr_near b ∧ sr_near d))) (cwV 3 hts (xgV wm_793 wm_795 wm_13 wm_34 wm_796) rfl rfl rfl (by decide +kernel) ⟨Nat.le_of_ble_eq_true rfl, Nat.le_of_ble_eq_true rfl⟩) ⟨xw_blind, va_recv hKc hPc (ci := 7) (q0 := 0) rfl rfl, fun U hU hW => ⟨rfl, by rw [hU], hz.warm hW, by rw [hU]; exact hPc, va_K.moved hW.alike hKc, hDc.weaken (fun _ _ _ _ => trivial)⟩⟩ rfl rfl hl.1 rfl (lv_room (Nat.le_of_ble_eq_true rfl)) d_MD_observe_33 ⟨Nat.le_of_ble_eq_true rfl, Nat.le_of_ble_eq_true rfl⟩) hS (fun q _ h => hFc q h) hFc (fun r_7 _ t H1 locs ht hvm hw_8 hB hz1 hk1 hS => ?_)
    obtain ⟨hP1, hK1, hD1⟩ := hB
    rw [ht] at hP1
    have hK1 := va_K.moved hvm.symm hK1
    obtain ⟨hP, hD⟩ := va_join (wr := [(am, .inl (km, 20, .inl gm)), (aw, .inl (kw, 60, .inl gw)), (au, .inl (ku, 20, .inl gu))]) (w1 := [(h0, .inr (7, [.int (md_th (bI (md_win k0 0 ((nI nm) - 1))) 1 (bI (sr_near a ∧ sr_near b ∧ sr_near d))), .int (nI nm), .ref ap, .int (nI no), .ref am, .ref aw, .ref az, .ref au, .int kn, .long vP, .long vQ, .long vS, .long vT, .long vB, .long vM, .long vH, .ref ao, .ref ax, .int (nI np), .ref ay, .int (nI nl), .ref ad, .ref al, .int (nI sn), .ref ag, .int (nI ta), .int nb]))]) hP hD [0] [1, 2, 3] rfl rfl (by decide) (by decide) hk1 hFc hP1 hD1
    generalize H1 = H at hP hS ⊢
    have hP : va_P (dC, dI) xCl [(am, .inl (km, 20, .inl gm)), (aw, .inl (kw, 60, .inl gw)), (au, .inl (ku, 20, .inl gu)), (h0, .inr (7, [.int (md_th (bI (md_win k0 0 ((nI nm) - 1))) 1 (bI (sr_near a ∧ sr_near b ∧ sr_near d))), .int (nI nm), .ref ap, .int (nI no), .ref am, .ref aw, .ref az, .ref au, .int kn, .long vP, .long vQ, .long vS, .long vT, .long vB, .long vM, .long vH, .ref ao, .ref ax, .int (nI np), .ref ay, .int (nI nl), .ref ad, .ref al, .int (nI sn), .ref ag, .int (nI ta), .int nb]))] H := hP
    have hD : va_D A [(am, .inl (km, 20, .inl gm)), (aw, .inl (kw, 60, .inl gw)), (au, .inl (ku, 20, .inl gu)), (h0, .inr (7, [.int (md_th (bI (md_win k0 0 ((nI nm) - 1))) 1 (bI (sr_near a ∧ sr_near b ∧ sr_near d))), .int (nI nm), .ref ap, .int (nI no), .ref am, .ref aw, .ref az, .ref au, .int kn, .long vP, .long vQ, .long vS, .long vT, .long vB, .long vM, .long vH, .ref ao, .ref ax, .int (nI np), .ref ay, .int (nI nl), .ref ad, .ref al, .int (nI sn), .ref ag, .int (nI ta), .int nb]))] := hD
    subst hw_8
    refine lv_if_ne (tgt := 41) hx hb d_MD_observe_36 (by decide) (fun c_9 => ?_) (fun c_9 => ?_)
    · have b_10 := bI_t (rfl : bI (md_th (bI (md_win k0 0 ((nI nm) - 1))) 1 (bI (sr_near a ∧ sr_near b ∧ sr_near d)) = 0) = _) c_9
      refine lv_aload_n hx hb d_MD_observe_41 rfl (lv_at hl 0 rfl) ?_
      refine lv_iload_n hx hb d_MD_observe_42 rfl (lv_at hl 1 rfl) ?_
      refine lv_iload_n hx hb d_MD_observe_43 rfl (lv_at hl 2 rfl) ?_
      refine lv_iload_n hx hb d_MD_observe_44 rfl (lv_at hl 3 rfl) ?_
      refine lv_iload hx hb d_MD_observe_45 (lv_at hl 4 rfl) ?_
      have hPc := hP.sub (ws' := [(h0, .inr (7, [.int (md_th (bI (md_win k0 0 ((nI nm) - 1))) 1 (bI (sr_near a ∧ sr_near b ∧ sr_near d))), .int (nI nm), .ref ap, .int (nI no), .ref am, .ref aw, .ref az, .ref au, .int kn, .long vP, .long vQ, .long vS, .long vT, .long vB, .long vM, .long vH, .ref ao, .ref ax, .int (nI np), .ref ay, .int (nI nl), .ref ad, .ref al, .int (nI sn), .ref ag, .int (nI ta), .int nb])), (am, .inl (km, 20, .inl gm)), (aw, .inl (kw, 60, .inl gw)), (au, .inl (ku, 20, .inl gu))]) [3, 0, 1, 2] rfl
      have hDc := hD.sub (ws' := [(h0, .inr (7, [.int (md_th (bI (md_win k0 0 ((nI nm) - 1))) 1 (bI (sr_near a ∧ sr_near b ∧ sr_near d))), .int (nI nm), .ref ap, .int (nI no), .ref am, .ref aw, .ref az, .ref au, .int kn, .long vP, .long vQ, .long vS, .long vT, .long vB, .long vM, .long vH, .ref ao, .ref ax, .int (nI np), .ref ay, .int (nI nl), .ref ad, .ref al, .int (nI sn), .ref ag, .int (nI ta), .int nb])), (am, .inl (km, 20, .inl gm)), (aw, .inl (kw, 60, .inl gw)), (au, .inl (ku, 20, .inl gu))]) [3, 0, 1, 2] (by decide) rfl
      have hKc := hK.sub (tys' := [(km, .int), (kw, .int), (ku, .boolean)]) [0, 1, 2] rfl
      have hFc := va_free (wc := [(h0, .inr (7, [.int (md_th (bI (md_win k0 0 ((nI nm) - 1))) 1 (bI (sr_near a ∧ sr_near b ∧ sr_near d))), .int (nI nm), .ref ap, .int (nI no), .ref am, .ref aw, .ref az, .ref au, .int kn, .long vP, .long vQ, .long vS, .long vT, .long vB, .long vM, .long vH, .ref ao, .ref ax, .int (nI np), .ref ay, .int (nI nl), .ref ad, .ref al, .int (nI sn), .ref ag, .int (nI ta), .int nb])), (am, .inl (km, 20, .inl gm)), (aw, .inl (kw, 60, .inl gw)), (au, .inl (ku, 20, .inl gu))]) hD hS hA [3, 0, 1, 2] rfl
      refine va_callv (va_runV (As := [.int k0, .int a, .int b, .int d]) (rest := []) ⟨hx, hb, hml, hown, hts⟩ (c_MD_tell l dC dI H.size h0 (md_th (bI (md_win k0 0 ((nI nm) - 1))) 1 (bI (sr_near a ∧ sr_near b ∧ sr_near d))) nm ap no am aw az au kn vP vQ vS vT vB vM vH ao ax np ay nl ad al sn ag ta nb km kw ku gm gw gu k0 a b d (by first | assumption | omega | decide)) (cwV 4 hts (xgV wm_801 wm_803 wm_14 wm_34 wm_804) rfl rfl rfl (by decide +kernel) ⟨Nat.le_of_ble_eq_true rfl, Nat.le_of_ble_eq_true rfl⟩) ⟨xw_blind, va_recv hKc hPc (ci := 7) (q0 := 0) rfl rfl, fun U hU hW => ⟨rfl, by rw [hU], hz.warm hW, by rw [hU]; exact hPc, va_K.moved hW.alike hKc, hDc.weaken (fun _ _ _ _ => trivial)⟩⟩ rfl rfl hl.1 rfl (lv_room (Nat.le_of_ble_eq_true rfl)) d_MD_observe_47 ⟨Nat.le_of_ble_eq_true rfl, Nat.le_of_ble_eq_true rfl⟩) hS (fun q _ h => hFc q h) hFc (fun _ t H1 locs ht hvm hw_12 hB hz1 hk1 hS => ?_)
      obtain ⟨hP1, hK1, hD1⟩ := hB
      rw [ht] at hP1
      have hK1 := va_K.moved hvm.symm hK1
      obtain ⟨hP, hD⟩ := va_join (wr := []) (w1 := [(h0, .inr (7, [.int (md_th (bI (md_win k0 0 ((nI nm) - 1))) 1 (bI (sr_near a ∧ sr_near b ∧ sr_near d))), .int (nI nm), .ref ap, .int (nI (no + 1)), .ref am, .ref aw, .ref az, .ref au, .int kn, .long vP, .long vQ, .long vS, .long vT, .long vB, .long vM, .long vH, .ref ao, .ref ax, .int (nI np), .ref ay, .int (nI nl), .ref ad, .ref al, .int (nI sn), .ref ag, .int (nI ta), .int nb])), (am, .inl (km, 20, .inl (upd gm no k0))), (aw, .inl (kw, 60, .inl (upd (upd (upd gw (3 * no) a) (3 * no + 1) b) (3 * no + 2) d))), (au, .inl (ku, 20, .inl (upd gu no 1)))]) hP hD [3, 0, 1, 2] [] rfl rfl (by decide) (by decide) hk1 hFc hP1 hD1
      generalize H1 = H at hP hS ⊢
      have hP : va_P (dC, dI) xCl [(h0, .inr (7, [.int (md_th (bI (md_win k0 0 ((nI nm) - 1))) 1 (bI (sr_near a ∧ sr_near b ∧ sr_near d))), .int (nI nm), .ref ap, .int (nI (no + 1)), .ref am, .ref aw, .ref az, .ref au, .int kn, .long vP, .long vQ, .long vS, .long vT, .long vB, .long vM, .long vH, .ref ao, .ref ax, .int (nI np), .ref ay, .int (nI nl), .ref ad, .ref al, .int (nI sn), .ref ag, .int (nI ta), .int nb])), (am, .inl (km, 20, .inl (upd gm no k0))), (aw, .inl (kw, 60, .inl (upd (upd (upd gw (3 * no) a) (3 * no + 1) b) (3 * no + 2) d))), (au, .inl (ku, 20, .inl (upd gu no 1)))] H := hP
      have hD : va_D A [(h0, .inr (7, [.int (md_th (bI (md_win k0 0 ((nI nm) - 1))) 1 (bI (sr_near a ∧ sr_near b ∧ sr_near d))), .int (nI nm), .ref ap, .int (nI (no + 1)), .ref am, .ref aw, .ref az, .ref au, .int kn, .long vP, .long vQ, .long vS, .long vT, .long vB, .long vM, .long vH, .ref ao, .ref ax, .int (nI np), .ref ay, .int (nI nl), .ref ad, .ref al, .int (nI sn), .ref ag, .int (nI ta), .int nb])), (am, .inl (km, 20, .inl (upd gm no k0))), (aw, .inl (kw, 60, .inl (upd (upd (upd gw (3 * no) a) (3 * no + 1) b) (3 * no + 2) d))), (au, .inl (ku, 20, .inl (upd gu no 1)))] := hD
      refine lv_aload_n hx hb d_MD_observe_50 rfl (lv_at hl 0 rfl) ?_
      refine va_get (D := (dC, dI)) (ci := 7) (v := .int (nI (no + 1))) (C := xR_MD) (T := xT_MD) (N := 27) hx hb hts (fun w h => List.mem_cons_of_mem _ (iw_MD w h)) hown hK hP 0 rfl rfl 3 (by decide) (hts _ (List.mem_cons_of_mem _ wm_700)) (fun _ h9 => h9) rfl d_MD_observe_51 ?_
      refine lv_iconst (v := 1) hx hb d_MD_observe_54 (by decide) ?_
      refine lv_isub hx hb d_MD_observe_55 ?_
      refine xv_i (y := nI no) (nI_pred _) ?_
      rw [md_th_0 (bI_ne hv) (by decide) (bI_ne hn)] at hP hD
      have hP9 := hP.sub (ws' := [(h0, .inr (7, [.int 0, .int (nI nm), .ref ap, .int (nI (no + 1)), .ref am, .ref aw, .ref az, .ref au, .int kn, .long vP, .long vQ, .long vS, .long vT, .long vB, .long vM, .long vH, .ref ao, .ref ax, .int (nI np), .ref ay, .int (nI nl), .ref ad, .ref al, .int (nI sn), .ref ag, .int (nI ta), .int nb])), (am, .inl (km, 20, .inl (upd gm no k0))), (aw, .inl (kw, 60, .inl (upd (upd (upd gw (3 * no) a) (3 * no + 1) b) (3 * no + 2) d))), (au, .inl (ku, 20, .inl (upd gu no 1)))]) [0, 1, 2, 3] rfl
      have hD9 := hD.sub (ws' := [(h0, .inr (7, [.int 0, .int (nI nm), .ref ap, .int (nI (no + 1)), .ref am, .ref aw, .ref az, .ref au, .int kn, .long vP, .long vQ, .long vS, .long vT, .long vB, .long vM, .long vH, .ref ao, .ref ax, .int (nI np), .ref ay, .int (nI nl), .ref ad, .ref al, .int (nI sn), .ref ag, .int (nI ta), .int nb])), (am, .inl (km, 20, .inl (upd gm no k0))), (aw, .inl (kw, 60, .inl (upd (upd (upd gw (3 * no) a) (3 * no + 1) b) (3 * no + 2) d))), (au, .inl (ku, 20, .inl (upd gu no 1)))]) [0, 1, 2, 3] (by decide) rfl
      have hK9 := hK.sub (tys' := [(km, .int), (kw, .int), (ku, .boolean)]) [0, 1, 2] rfl
      exact W.iret (v := nI no) hx hb hr (fun t ht hW => ⟨⟨nI no, (), rfl, rfl, ⟨by rw [ht]; exact hP9, va_K.moved hW.alike hK9, by exact hD9⟩⟩, hS.F ht⟩) hS.2.2 d_MD_observe_56 hlocks
    · exact absurd (md_th_0 (bI_ne hv) (by decide) (bI_ne hn)) (bI_f rfl c_9)
set_option maxHeartbeats 4000000 in
set_option maxRecDepth 100000 in
/-- observe, refused -/
theorem c_MD_observe_n (l : Launch) (dC : Nat → ClassId) (dI : Nat → Nat → Nat) (sz : Nat) (h0 : Nat) (th : Int32) (nm : Nat) (ap : Nat) (no : Nat) (am : Nat) (aw : Nat) (az : Nat) (au : Nat) (kn : Int32) (vP : Int64) (vQ : Int64) (vS : Int64) (vT : Int64) (vB : Int64) (vM : Int64) (vH : Int64) (ao : Nat) (ax : Nat) (np : Nat) (ay : Nat) (nl : Nat) (ad : Nat) (al : Nat) (sn : Nat) (ag : Nat) (ta : Nat) (nb : Int32) (k0 : Int32) (a : Int32) (b : Int32) (d : Int32) (hc : no ≤ 20) (hn : ¬ (md_win k0 0 (nI nm - 1) ∧ no < 20 ∧ (sr_near a ∧ sr_near b ∧ sr_near d))) : Met l xy_MD_observe xw_MD_observe ({ frames := 2, cells := 0, slots := 0, locals := 44 }) (xp_w [.ref h0, .int k0, .int a, .int b, .int d] sz (dC, dI) xCl [(h0, .inr (7, [.int th, .int (nI nm), .ref ap, .int (nI no), .ref am, .ref aw, .ref az, .ref au, .int kn, .long vP, .long vQ, .long vS, .long vT, .long vB, .long vM, .long vH, .ref ao, .ref ax, .int (nI np), .ref ay, .int (nI nl), .ref ad, .ref al, .int (nI sn), .ref ag, .int (nI ta), .int nb]))] []) (va_Qi (fun (r : Int32) (_ : Unit) => r = 0) (fun _ t => xb_w (dC, dI) xCl [(h0, .inr (7, [.int (md_th (bI (md_win k0 0 (nI nm - 1))) (bI (no < 20)) (bI (sr_near a ∧ sr_near b ∧ sr_near d))), .int (nI nm), .ref ap, .int (nI no), .ref am, .ref aw, .ref az, .ref au, .int kn, .long vP, .long vQ, .long vS, .long vT, .long vB, .long vM, .long vH, .ref ao, .ref ax, .int (nI np), .ref ay, .int (nI nl), .ref ad, .ref al, .int (nI sn), .ref ag, .int (nI ta), .int nb]))] [] (va_A [(h0, .inr (7, [.int th, .int (nI nm), .ref ap, .int (nI no), .ref am, .ref aw, .ref az, .ref au, .int kn, .long vP, .long vQ, .long vS, .long vT, .long vB, .long vM, .long vH, .ref ao, .ref ax, .int (nI np), .ref ay, .int (nI nl), .ref ad, .ref al, .int (nI sn), .ref ag, .int (nI ta), .int nb]))] sz) t) (va_A [(h0, .inr (7, [.int th, .int (nI nm), .ref ap, .int (nI no), .ref am, .ref aw, .ref az, .ref au, .int kn, .long vP, .long vQ, .long vS, .long vT, .long vB, .long vM, .long vH, .ref ao, .ref ax, .int (nI np), .ref ay, .int (nI nl), .ref ad, .ref al, .int (nI sn), .ref ag, .int (nI ta), .int nb]))] sz)) 0 0 (va_A [(h0, .inr (7, [.int th, .int (nI nm), .ref ap, .int (nI no), .ref am, .ref aw, .ref az, .ref au, .int kn, .long vP, .long vQ, .long vS, .long vT, .long vB, .long vM, .long vH, .ref ao, .ref ax, .int (nI np), .ref ay, .int (nI nl), .ref ad, .ref al, .int (nI sn), .ref ag, .int (nI ta), .int nb]))] sz) := by
  refine Met.ofW (cc := prog_9_method_10_code) (maxL := 5) (ret := (some .int)) (by decide) rfl ?_
  intro p e s m args below meth c s₁ B hml hv
  obtain ⟨rfl, hsz, hz, hP, hK, hD0⟩ := hv
  have hx := B.exec
  have hb := B.bytes
  have hr := B.returns
  have hts := atoms_spec (ws := xw_MD_observe) B.pre
  have hown : s.vm.findClass xR_MD = some m.cls := findClass_of_methodNamed B.named
  have hlocks := B.notSynchronized
  subst hsz
  have hD := hD0.self (sz := s.heap.size)
  generalize hAe : va_A [(h0, .inr (7, [.int th, .int (nI nm), .ref ap, .int (nI no), .ref am, .ref aw, .ref az, .ref au, .int kn, .long vP, .long vQ, .long vS, .long vT, .long vB, .long vM, .long vH, .ref ao, .ref ax, .int (nI np), .ref ay, .int (nI nl), .ref ad, .ref al, .int (nI sn), .ref ag, .int (nI ta), .int nb]))] s.heap.size = A at hD ⊢
  have hA : ∀ q : Nat, s.heap.size ≤ q → A q := fun q h => by rw [← hAe]; exact Or.inr h
  have hS : va_S A s.heap s.heap [] := va_S.rf
  have hP : va_P (dC, dI) xCl [(h0, .inr (7, [.int th, .int (nI nm), .ref ap, .int (nI no), .ref am, .ref aw, .ref az, .ref au, .int kn, .long vP, .long vQ, .long vS, .long vT, .long vB, .long vM, .long vH, .ref ao, .ref ax, .int (nI np), .ref ay, .int (nI nl), .ref ad, .ref al, .int (nI sn), .ref ag, .int (nI ta), .int nb]))] s.heap := hP
  have hl := lv_entry ([.ref h0, .int k0, .int a, .int b, .int d]) (n := 5) (Nat.le_of_ble_eq_true rfl)
  rw [lg_entry_eq]
  generalize (lg_sl ([.ref h0, .int k0, .int a, .int b, .int d]) ++ List.replicate (5 - (lg_sl ([.ref h0, .int k0, .int a, .int b, .int d])).length) Slot.unset).toArray = ls at hl ⊢
  have hl : lv_has ls 5 [(0, .ref h0), (1, .int k0), (2, .int a), (3, .int b), (4, .int d)] := hl
  refine lv_aload_n hx hb d_MD_observe_0 rfl (lv_at hl 0 rfl) ?_
  refine lv_iload_n hx hb d_MD_observe_1 rfl (lv_at hl 1 rfl) ?_
  refine lv_iconst (v := 0) hx hb d_MD_observe_2 (by decide) ?_
  refine lv_aload_n hx hb d_MD_observe_3 rfl (lv_at hl 0 rfl) ?_
  refine va_get (D := (dC, dI)) (ci := 7) (v := .int (nI nm)) (C := xR_MD) (T := xT_MD) (N := 27) hx hb hts (fun w h => List.mem_cons_of_mem _ (iw_MD w h)) hown hK hP 0 rfl rfl 1 (by decide) (hts _ (List.mem_cons_of_mem _ wm_698)) (fun _ h9 => h9) rfl d_MD_observe_4 ?_
  refine lv_iconst (v := 1) hx hb d_MD_observe_7 (by decide) ?_
  refine lv_isub hx hb d_MD_observe_8 ?_
  refine xr_calli (va_runS (As := [.int k0, .int 0, .int ((nI nm) - 1)]) (rest := [.ref h0]) ⟨hx, hb, hml, hown, hts⟩ (c_MD_within l dC dI k0 0 ((nI nm) - 1)) (va_cwS 3 hts (xgS wm_790 wm_791 wm_34 wm_792) rfl rfl rfl (by decide +kernel) ⟨Nat.le_of_ble_eq_true rfl, Nat.le_of_ble_eq_true rfl⟩) ⟨xp_blind, fun U hU hW => ⟨rfl, hz.warm hW, by rw [hU]; exact hP.sub [] rfl, va_K.moved hW.alike (hK.sub [] rfl)⟩⟩ rfl rfl hl.1 rfl (lv_room (Nat.le_of_ble_eq_true rfl)) d_MD_observe_9 ⟨Nat.le_of_ble_eq_true rfl, Nat.le_of_ble_eq_true rfl⟩) (fun r_1 h_2 => ?_)
  subst h_2
  refine lv_aload_n hx hb d_MD_observe_12 rfl (lv_at hl 0 rfl) ?_
  refine va_get (D := (dC, dI)) (ci := 7) (v := .int (nI no)) (C := xR_MD) (T := xT_MD) (N := 27) hx hb hts (fun w h => List.mem_cons_of_mem _ (iw_MD w h)) hown hK hP 0 rfl rfl 3 (by decide) (hts _ (List.mem_cons_of_mem _ wm_700)) (fun _ h9 => h9) rfl d_MD_observe_13 ?_
  refine lv_bipush (v := 20) hx hb d_MD_observe_16 (by decide) ?_
  refine lv_icmp_ge (tgt := 25) hx hb d_MD_observe_18 (by decide) (fun c_3 => ?_) (fun c_3 => ?_)
  · have n_4 := xn_le (a := 20) (b := no) c_3 (by decide) rfl (by omega) (by omega)
    refine lv_iconst (v := 0) hx hb d_MD_observe_25 (by decide) ?_
    refine lv_iload_n hx hb d_MD_observe_26 rfl (lv_at hl 2 rfl) ?_
    refine lv_iload_n hx hb d_MD_observe_27 rfl (lv_at hl 3 rfl) ?_
    refine lv_iload hx hb d_MD_observe_28 (lv_at hl 4 rfl) ?_
    refine xr_calli (va_runS (As := [.int a, .int b, .int d]) (rest := [.int 0, .int (bI (md_win k0 0 ((nI nm) - 1))), .ref h0]) ⟨hx, hb, hml, hown, hts⟩ (c_MD_areNear l dC dI a b d) (va_cwS 3 hts (xgS wm_787 wm_788 wm_34 wm_789) rfl rfl rfl (by decide +kernel) ⟨Nat.le_of_ble_eq_true rfl, Nat.le_of_ble_eq_true rfl⟩) ⟨xp_blind, fun U hU hW => ⟨rfl, hz.warm hW, by rw [hU]; exact hP.sub [] rfl, va_K.moved hW.alike (hK.sub [] rfl)⟩⟩ rfl rfl hl.1 rfl (lv_room (Nat.le_of_ble_eq_true rfl)) d_MD_observe_30 ⟨Nat.le_of_ble_eq_true rfl, Nat.le_of_ble_eq_true rfl⟩) (fun r_5 h_6 => ?_)
    subst h_6
    have hPc := hP.sub (ws' := [(h0, .inr (7, [.int th, .int (nI nm), .ref ap, .int (nI no), .ref am, .ref aw, .ref az, .ref au, .int kn, .long vP, .long vQ, .long vS, .long vT, .long vB, .long vM, .long vH, .ref ao, .ref ax, .int (nI np), .ref ay, .int (nI nl), .ref ad, .ref al, .int (nI sn), .ref ag, .int (nI ta), .int nb]))]) [0] rfl
    have hDc := hD.sub (ws' := [(h0, .inr (7, [.int th, .int (nI nm), .ref ap, .int (nI no), .ref am, .ref aw, .ref az, .ref au, .int kn, .long vP, .long vQ, .long vS, .long vT, .long vB, .long vM, .long vH, .ref ao, .ref ax, .int (nI np), .ref ay, .int (nI nl), .ref ad, .ref al, .int (nI sn), .ref ag, .int (nI ta), .int nb]))]) [0] (by decide) rfl
    have hKc := hK.sub (tys' := []) [] rfl
    have hFc := va_free (wc := [(h0, .inr (7, [.int th, .int (nI nm), .ref ap, .int (nI no), .ref am, .ref aw, .ref az, .ref au, .int kn, .long vP, .long vQ, .long vS, .long vT, .long vB, .long vM, .long vH, .ref ao, .ref ax, .int (nI np), .ref ay, .int (nI nl), .ref ad, .ref al, .int (nI sn), .ref ag, .int (nI ta), .int nb]))]) hD hS hA [0] rfl
    refine va_calli (va_runV (As := [.int (bI (md_win k0 0 ((nI nm) - 1))), .int 0, .int (bI (sr_near a ∧ sr_near b ∧ sr_near d))]) (rest := []) ⟨hx, hb, hml, hown, hts⟩ (c_MD_goes l dC dI s.heap.size h0 th nm ap no am aw az au kn vP vQ vS vT vB vM vH ao ax np ay nl ad al sn ag ta nb (bI (md_win k0 0 ((nI nm) - 1))) 0 (bI (sr_near a ∧ sr_near b ∧ sr_near d))) (cwV 3 hts (xgV wm_793 wm_795 wm_13 wm_34 wm_796) rfl rfl rfl (by decide +kernel) ⟨Nat.le_of_ble_eq_true rfl, Nat.le_of_ble_eq_true rfl⟩) ⟨xw_blind, va_recv hKc hPc (ci := 7) (q0 := 0) rfl rfl, fun U hU hW => ⟨rfl, by rw [hU], hz.warm hW, by rw [hU]; exact hPc, va_K.moved hW.alike hKc, hDc.weaken (fun _ _ _ _ => trivial)⟩⟩ rfl rfl hl.1 rfl (lv_room (Nat.le_of_ble_eq_true rfl)) d_MD_observe_33 ⟨Nat.le_of_ble_eq_true rfl, Nat.le_of_ble_eq_true rfl⟩) hS (fun q _ h => hFc q h) hFc (fun r_7 _ t H1 locs ht hvm hw_8 hB hz1 hk1 hS => ?_)
    obtain ⟨hP1, hK1, hD1⟩ := hB
    rw [ht] at hP1
    have hK1 := va_K.moved hvm.symm hK1
    obtain ⟨hP, hD⟩ := va_join (wr := []) (w1 := [(h0, .inr (7, [.int (md_th (bI (md_win k0 0 ((nI nm) - 1))) 0 (bI (sr_near a ∧ sr_near b ∧ sr_near d))), .int (nI nm), .ref ap, .int (nI no), .ref am, .ref aw, .ref az, .ref au, .int kn, .long vP, .long vQ, .long vS, .long vT, .long vB, .long vM, .long vH, .ref ao, .ref ax, .int (nI np), .ref ay, .int (nI nl), .ref ad, .ref al, .int (nI sn), .ref ag, .int (nI ta), .int nb]))]) hP hD [0] [] rfl rfl (by decide) (by decide) hk1 hFc hP1 hD1
    generalize H1 = H at hP hS ⊢
    have hP : va_P (dC, dI) xCl [(h0, .inr (7, [.int (md_th (bI (md_win k0 0 ((nI nm) - 1))) 0 (bI (sr_near a ∧ sr_near b ∧ sr_near d))), .int (nI nm), .ref ap, .int (nI no), .ref am, .ref aw, .ref az, .ref au, .int kn, .long vP, .long vQ, .long vS, .long vT, .long vB, .long vM, .long vH, .ref ao, .ref ax, .int (nI np), .ref ay, .int (nI nl), .ref ad, .ref al, .int (nI sn), .ref ag, .int (nI ta), .int nb]))] H := hP
    have hD : va_D A [(h0, .inr (7, [.int (md_th (bI (md_win k0 0 ((nI nm) - 1))) 0 (bI (sr_near a ∧ sr_near b ∧ sr_near d))), .int (nI nm), .ref ap, .int (nI no), .ref am, .ref aw, .ref az, .ref au, .int kn, .long vP, .long vQ, .long vS, .long vT, .long vB, .long vM, .long vH, .ref ao, .ref ax, .int (nI np), .ref ay, .int (nI nl), .ref ad, .ref al, .int (nI sn), .ref ag, .int (nI ta), .int nb]))] := hD
    subst hw_8
    refine lv_if_ne (tgt := 41) hx hb d_MD_observe_36 (by decide) (fun c_9 => ?_) (fun c_9 => ?_)
    · exact absurd (md_th_all (bI_t rfl c_9)) (fun q => q.2.1 rfl)
    · have b_10 := bI_f (rfl : bI (md_th (bI (md_win k0 0 ((nI nm) - 1))) 0 (bI (sr_near a ∧ sr_near b ∧ sr_near d)) = 0) = _) c_9
      refine lv_iconst (v := 0) hx hb d_MD_observe_39 (by decide) ?_
      have hP9 := hP.sub (ws' := [(h0, .inr (7, [.int (md_th (bI (md_win k0 0 ((nI nm) - 1))) 0 (bI (sr_near a ∧ sr_near b ∧ sr_near d))), .int (nI nm), .ref ap, .int (nI no), .ref am, .ref aw, .ref az, .ref au, .int kn, .long vP, .long vQ, .long vS, .long vT, .long vB, .long vM, .long vH, .ref ao, .ref ax, .int (nI np), .ref ay, .int (nI nl), .ref ad, .ref al, .int (nI sn), .ref ag, .int (nI ta), .int nb]))]) [0] rfl
      have hD9 := hD.sub (ws' := [(h0, .inr (7, [.int (md_th (bI (md_win k0 0 ((nI nm) - 1))) 0 (bI (sr_near a ∧ sr_near b ∧ sr_near d))), .int (nI nm), .ref ap, .int (nI no), .ref am, .ref aw, .ref az, .ref au, .int kn, .long vP, .long vQ, .long vS, .long vT, .long vB, .long vM, .long vH, .ref ao, .ref ax, .int (nI np), .ref ay, .int (nI nl), .ref ad, .ref al, .int (nI sn), .ref ag, .int (nI ta), .int nb]))]) [0] (by decide) rfl
      have hK9 := hK.sub (tys' := []) [] rfl
      exact W.iret (v := 0) hx hb hr (fun t ht hW => ⟨⟨0, (), rfl, rfl, ⟨by rw [ht]; rw [show bI (no < 20) = 0 from (bI_n (by omega)).symm]; exact hP9, va_K.moved hW.alike hK9, by rw [show bI (no < 20) = 0 from (bI_n (by omega)).symm]; exact hD9⟩⟩, hS.F ht⟩) hS.2.2 d_MD_observe_40 hlocks
  · have n_11 := xn_nle (a := 20) (b := no) c_3 (by decide) rfl (by omega) (by omega)
    refine lv_iconst (v := 1) hx hb d_MD_observe_21 (by decide) ?_
    refine lv_goto (tgt := 26) hx hb d_MD_observe_22 (by decide) ?_
    refine lv_iload_n hx hb d_MD_observe_26 rfl (lv_at hl 2 rfl) ?_
    refine lv_iload_n hx hb d_MD_observe_27 rfl (lv_at hl 3 rfl) ?_
    refine lv_iload hx hb d_MD_observe_28 (lv_at hl 4 rfl) ?_
    refine xr_calli (va_runS (As := [.int a, .int b, .int d]) (rest := [.int 1, .int (bI (md_win k0 0 ((nI nm) - 1))), .ref h0]) ⟨hx, hb, hml, hown, hts⟩ (c_MD_areNear l dC dI a b d) (va_cwS 3 hts (xgS wm_787 wm_788 wm_34 wm_789) rfl rfl rfl (by decide +kernel) ⟨Nat.le_of_ble_eq_true rfl, Nat.le_of_ble_eq_true rfl⟩) ⟨xp_blind, fun U hU hW => ⟨rfl, hz.warm hW, by rw [hU]; exact hP.sub [] rfl, va_K.moved hW.alike (hK.sub [] rfl)⟩⟩ rfl rfl hl.1 rfl (lv_room (Nat.le_of_ble_eq_true rfl)) d_MD_observe_30 ⟨Nat.le_of_ble_eq_true rfl, Nat.le_of_ble_eq_true rfl⟩) (fun r_12 h_13 => ?_)
    subst h_13
    have hPc := hP.sub (ws' := [(h0, .inr (7, [.int th, .int (nI nm), .ref ap, .int (nI no), .ref am, .ref aw, .ref az, .ref au, .int kn, .long vP, .long vQ, .long vS, .long vT, .long vB, .long vM, .long vH, .ref ao, .ref ax, .int (nI np), .ref ay, .int (nI nl), .ref ad, .ref al, .int (nI sn), .ref ag, .int (nI ta), .int nb]))]) [0] rfl
    have hDc := hD.sub (ws' := [(h0, .inr (7, [.int th, .int (nI nm), .ref ap, .int (nI no), .ref am, .ref aw, .ref az, .ref au, .int kn, .long vP, .long vQ, .long vS, .long vT, .long vB, .long vM, .long vH, .ref ao, .ref ax, .int (nI np), .ref ay, .int (nI nl), .ref ad, .ref al, .int (nI sn), .ref ag, .int (nI ta), .int nb]))]) [0] (by decide) rfl
    have hKc := hK.sub (tys' := []) [] rfl
    have hFc := va_free (wc := [(h0, .inr (7, [.int th, .int (nI nm), .ref ap, .int (nI no), .ref am, .ref aw, .ref az, .ref au, .int kn, .long vP, .long vQ, .long vS, .long vT, .long vB, .long vM, .long vH, .ref ao, .ref ax, .int (nI np), .ref ay, .int (nI nl), .ref ad, .ref al, .int (nI sn), .ref ag, .int (nI ta), .int nb]))]) hD hS hA [0] rfl
    refine va_calli (va_runV (As := [.int (bI (md_win k0 0 ((nI nm) - 1))), .int 1, .int (bI (sr_near a ∧ sr_near b ∧ sr_near d))]) (rest := []) ⟨hx, hb, hml, hown, hts⟩ (c_MD_goes l dC dI s.heap.size h0 th nm ap no am aw az au kn vP vQ vS vT vB vM vH ao ax np ay nl ad al sn ag ta nb (bI (md_win k0 0 ((nI nm) - 1))) 1 (bI (sr_near a ∧ sr_near b ∧ sr_near d))) (cwV 3 hts (xgV wm_793 wm_795 wm_13 wm_34 wm_796) rfl rfl rfl (by decide +kernel) ⟨Nat.le_of_ble_eq_true rfl, Nat.le_of_ble_eq_true rfl⟩) ⟨xw_blind, va_recv hKc hPc (ci := 7) (q0 := 0) rfl rfl, fun U hU hW => ⟨rfl, by rw [hU], hz.warm hW, by rw [hU]; exact hPc, va_K.moved hW.alike hKc, hDc.weaken (fun _ _ _ _ => trivial)⟩⟩ rfl rfl hl.1 rfl (lv_room (Nat.le_of_ble_eq_true rfl)) d_MD_observe_33 ⟨Nat.le_of_ble_eq_true rfl, Nat.le_of_ble_eq_true rfl⟩) hS (fun q _ h => hFc q h) hFc (fun r_14 _ t H1 locs ht hvm hw_15 hB hz1 hk1 hS => ?_)
    obtain ⟨hP1, hK1, hD1⟩ := hB
    rw [ht] at hP1
    have hK1 := va_K.moved hvm.symm hK1
    obtain ⟨hP, hD⟩ := va_join (wr := []) (w1 := [(h0, .inr (7, [.int (md_th (bI (md_win k0 0 ((nI nm) - 1))) 1 (bI (sr_near a ∧ sr_near b ∧ sr_near d))), .int (nI nm), .ref ap, .int (nI no), .ref am, .ref aw, .ref az, .ref au, .int kn, .long vP, .long vQ, .long vS, .long vT, .long vB, .long vM, .long vH, .ref ao, .ref ax, .int (nI np), .ref ay, .int (nI nl), .ref ad, .ref al, .int (nI sn), .ref ag, .int (nI ta), .int nb]))]) hP hD [0] [] rfl rfl (by decide) (by decide) hk1 hFc hP1 hD1
    generalize H1 = H at hP hS ⊢
    have hP : va_P (dC, dI) xCl [(h0, .inr (7, [.int (md_th (bI (md_win k0 0 ((nI nm) - 1))) 1 (bI (sr_near a ∧ sr_near b ∧ sr_near d))), .int (nI nm), .ref ap, .int (nI no), .ref am, .ref aw, .ref az, .ref au, .int kn, .long vP, .long vQ, .long vS, .long vT, .long vB, .long vM, .long vH, .ref ao, .ref ax, .int (nI np), .ref ay, .int (nI nl), .ref ad, .ref al, .int (nI sn), .ref ag, .int (nI ta), .int nb]))] H := hP
    have hD : va_D A [(h0, .inr (7, [.int (md_th (bI (md_win k0 0 ((nI nm) - 1))) 1 (bI (sr_near a ∧ sr_near b ∧ sr_near d))), .int (nI nm), .ref ap, .int (nI no), .ref am, .ref aw, .ref az, .ref au, .int kn, .long vP, .long vQ, .long vS, .long vT, .long vB, .long vM, .long vH, .ref ao, .ref ax, .int (nI np), .ref ay, .int (nI nl), .ref ad, .ref al, .int (nI sn), .ref ag, .int (nI ta), .int nb]))] := hD
    subst hw_15
    refine lv_if_ne (tgt := 41) hx hb d_MD_observe_36 (by decide) (fun c_16 => ?_) (fun c_16 => ?_)
    · exact absurd (md_th_all (bI_t rfl c_16)) (fun q => hn ⟨(bI_of q.1), n_11, (bI_of q.2.2)⟩)
    · have b_17 := bI_f (rfl : bI (md_th (bI (md_win k0 0 ((nI nm) - 1))) 1 (bI (sr_near a ∧ sr_near b ∧ sr_near d)) = 0) = _) c_16
      refine lv_iconst (v := 0) hx hb d_MD_observe_39 (by decide) ?_
      have hP9 := hP.sub (ws' := [(h0, .inr (7, [.int (md_th (bI (md_win k0 0 ((nI nm) - 1))) 1 (bI (sr_near a ∧ sr_near b ∧ sr_near d))), .int (nI nm), .ref ap, .int (nI no), .ref am, .ref aw, .ref az, .ref au, .int kn, .long vP, .long vQ, .long vS, .long vT, .long vB, .long vM, .long vH, .ref ao, .ref ax, .int (nI np), .ref ay, .int (nI nl), .ref ad, .ref al, .int (nI sn), .ref ag, .int (nI ta), .int nb]))]) [0] rfl
      have hD9 := hD.sub (ws' := [(h0, .inr (7, [.int (md_th (bI (md_win k0 0 ((nI nm) - 1))) 1 (bI (sr_near a ∧ sr_near b ∧ sr_near d))), .int (nI nm), .ref ap, .int (nI no), .ref am, .ref aw, .ref az, .ref au, .int kn, .long vP, .long vQ, .long vS, .long vT, .long vB, .long vM, .long vH, .ref ao, .ref ax, .int (nI np), .ref ay, .int (nI nl), .ref ad, .ref al, .int (nI sn), .ref ag, .int (nI ta), .int nb]))]) [0] (by decide) rfl
      have hK9 := hK.sub (tys' := []) [] rfl
      exact W.iret (v := 0) hx hb hr (fun t ht hW => ⟨⟨0, (), rfl, rfl, ⟨by rw [ht]; rw [show bI (no < 20) = 1 from (bI_p n_11).symm]; exact hP9, va_K.moved hW.alike hK9, by rw [show bI (no < 20) = 1 from (bI_p n_11).symm]; exact hD9⟩⟩, hS.F ht⟩) hS.2.2 d_MD_observe_40 hlocks
set_option maxHeartbeats 4000000 in
set_option maxRecDepth 100000 in
/-- prism -/
theorem c_MD_prism_y (l : Launch) (dC : Nat → ClassId) (dI : Nat → Nat → Nat) (sz : Nat) (h0 : Nat) (th : Int32) (nm : Nat) (ap : Nat) (no : Nat) (am : Nat) (aw : Nat) (az : Nat) (au : Nat) (kn : Int32) (vP : Int64) (vQ : Int64) (vS : Int64) (vT : Int64) (vB : Int64) (vM : Int64) (vH : Int64) (ao : Nat) (ax : Nat) (np : Nat) (ay : Nat) (nl : Nat) (ad : Nat) (al : Nat) (sn : Nat) (ag : Nat) (ta : Nat) (nb : Int32) (kz : ClassId) (gz : Nat → Int32) (k : Nat) (a : Int32) (hv : xin (nI k) no) (hk : k < no) (hc : no ≤ 20) (hw : md_win a 0 3000) : Met l xy_MD_prism xw_MD_prism ({ frames := 2, cells := 0, slots := 0, locals := 43 }) (xp_w [.ref h0, .int (nI k), .int a] sz (dC, dI) xCl [(h0, .inr (7, [.int th, .int (nI nm), .ref ap, .int (nI no), .ref am, .ref aw, .ref az, .ref au, .int kn, .long vP, .long vQ, .long vS, .long vT, .long vB, .long vM, .long vH, .ref ao, .ref ax, .int (nI np), .ref ay, .int (nI nl), .ref ad, .ref al, .int (nI sn), .ref ag, .int (nI ta), .int nb])), (az, .inl (kz, 20, .inl gz))] [(kz, .int)]) (va_Qi (fun (r : Int32) (_ : Unit) => r = gz k) (fun _ t => xb_w (dC, dI) xCl [(h0, .inr (7, [.int 0, .int (nI nm), .ref ap, .int (nI no), .ref am, .ref aw, .ref az, .ref au, .int kn, .long vP, .long vQ, .long vS, .long vT, .long vB, .long vM, .long vH, .ref ao, .ref ax, .int (nI np), .ref ay, .int (nI nl), .ref ad, .ref al, .int (nI sn), .ref ag, .int (nI ta), .int nb])), (az, .inl (kz, 20, .inl (upd gz k a)))] [(kz, .int)] (va_A [(h0, .inr (7, [.int th, .int (nI nm), .ref ap, .int (nI no), .ref am, .ref aw, .ref az, .ref au, .int kn, .long vP, .long vQ, .long vS, .long vT, .long vB, .long vM, .long vH, .ref ao, .ref ax, .int (nI np), .ref ay, .int (nI nl), .ref ad, .ref al, .int (nI sn), .ref ag, .int (nI ta), .int nb])), (az, .inl (kz, 20, .inl gz))] sz) t) (va_A [(h0, .inr (7, [.int th, .int (nI nm), .ref ap, .int (nI no), .ref am, .ref aw, .ref az, .ref au, .int kn, .long vP, .long vQ, .long vS, .long vT, .long vB, .long vM, .long vH, .ref ao, .ref ax, .int (nI np), .ref ay, .int (nI nl), .ref ad, .ref al, .int (nI sn), .ref ag, .int (nI ta), .int nb])), (az, .inl (kz, 20, .inl gz))] sz)) 0 0 (va_A [(h0, .inr (7, [.int th, .int (nI nm), .ref ap, .int (nI no), .ref am, .ref aw, .ref az, .ref au, .int kn, .long vP, .long vQ, .long vS, .long vT, .long vB, .long vM, .long vH, .ref ao, .ref ax, .int (nI np), .ref ay, .int (nI nl), .ref ad, .ref al, .int (nI sn), .ref ag, .int (nI ta), .int nb])), (az, .inl (kz, 20, .inl gz))] sz) := by
  refine Met.ofW (cc := prog_9_method_11_code) (maxL := 4) (ret := (some .int)) (by decide) rfl ?_
  intro p e s m args below meth c s₁ B hml hv
  obtain ⟨rfl, hsz, hz, hP, hK, hD0⟩ := hv
  have hx := B.exec
  have hb := B.bytes
  have hr := B.returns
  have hts := atoms_spec (ws := xw_MD_prism) B.pre
  have hown : s.vm.findClass xR_MD = some m.cls := findClass_of_methodNamed B.named
  have hlocks := B.notSynchronized
  subst hsz
  have hD := hD0.self (sz := s.heap.size)
  generalize hAe : va_A [(h0, .inr (7, [.int th, .int (nI nm), .ref ap, .int (nI no), .ref am, .ref aw, .ref az, .ref au, .int kn, .long vP, .long vQ, .long vS, .long vT, .long vB, .long vM, .long vH, .ref ao, .ref ax, .int (nI np), .ref ay, .int (nI nl), .ref ad, .ref al, .int (nI sn), .ref ag, .int (nI ta), .int nb])), (az, .inl (kz, 20, .inl gz))] s.heap.size = A at hD ⊢
  have hA : ∀ q : Nat, s.heap.size ≤ q → A q := fun q h => by rw [← hAe]; exact Or.inr h
  have hS : va_S A s.heap s.heap [] := va_S.rf
  have hP : va_P (dC, dI) xCl [(h0, .inr (7, [.int th, .int (nI nm), .ref ap, .int (nI no), .ref am, .ref aw, .ref az, .ref au, .int kn, .long vP, .long vQ, .long vS, .long vT, .long vB, .long vM, .long vH, .ref ao, .ref ax, .int (nI np), .ref ay, .int (nI nl), .ref ad, .ref al, .int (nI sn), .ref ag, .int (nI ta), .int nb])), (az, .inl (kz, 20, .inl gz))] s.heap := hP
  have hl := lv_entry ([.ref h0, .int (nI k), .int a]) (n := 4) (Nat.le_of_ble_eq_true rfl)
  rw [lg_entry_eq]
  generalize (lg_sl ([.ref h0, .int (nI k), .int a]) ++ List.replicate (4 - (lg_sl ([.ref h0, .int (nI k), .int a])).length) Slot.unset).toArray = ls at hl ⊢
  have hl : lv_has ls 4 [(0, .ref h0), (1, .int (nI k)), (2, .int a)] := hl
  refine lv_aload_n hx hb d_MD_prism_0 rfl (lv_at hl 0 rfl) ?_
  refine lv_aload_n hx hb d_MD_prism_1 rfl (lv_at hl 0 rfl) ?_
  refine lv_iload_n hx hb d_MD_prism_2 rfl (lv_at hl 1 rfl) ?_
  refine xr_calli (va_runV (As := [.int (nI k)]) (rest := [.ref h0]) ⟨hx, hb, hml, hown, hts⟩ (c_MD_isObservation l dC dI h0 th nm ap no am aw az au kn vP vQ vS vT vB vM vH ao ax np ay nl ad al sn ag ta nb (nI k) (by first | assumption | omega | decide)) (cwV 1 hts (xgV wm_809 wm_811 wm_15 wm_34 wm_812) rfl rfl rfl (by decide +kernel) ⟨Nat.le_of_ble_eq_true rfl, Nat.le_of_ble_eq_true rfl⟩) ⟨xp_blind, va_recv hK hP (ci := 7) (q0 := 0) rfl rfl, fun U hU hW => ⟨rfl, hz.warm hW, by rw [hU]; exact hP.sub [0] rfl, va_K.moved hW.alike (hK.sub [] rfl)⟩⟩ rfl rfl hl.1 rfl (lv_room (Nat.le_of_ble_eq_true rfl)) d_MD_prism_3 ⟨Nat.le_of_ble_eq_true rfl, Nat.le_of_ble_eq_true rfl⟩) (fun r_1 h_2 => ?_)
  subst h_2
  refine lv_iload_n hx hb d_MD_prism_6 rfl (lv_at hl 2 rfl) ?_
  refine lv_iconst (v := 0) hx hb d_MD_prism_7 (by decide) ?_
  refine lv_sipush (v := 3000) hx hb d_MD_prism_8 (by decide) ?_
  refine xr_calli (va_runS (As := [.int a, .int 0, .int 3000]) (rest := [.int (bI (xin (nI k) no)), .ref h0]) ⟨hx, hb, hml, hown, hts⟩ (c_MD_within l dC dI a 0 3000) (va_cwS 3 hts (xgS wm_790 wm_791 wm_34 wm_792) rfl rfl rfl (by decide +kernel) ⟨Nat.le_of_ble_eq_true rfl, Nat.le_of_ble_eq_true rfl⟩) ⟨xp_blind, fun U hU hW => ⟨rfl, hz.warm hW, by rw [hU]; exact hP.sub [] rfl, va_K.moved hW.alike (hK.sub [] rfl)⟩⟩ rfl rfl hl.1 rfl (lv_room (Nat.le_of_ble_eq_true rfl)) d_MD_prism_11 ⟨Nat.le_of_ble_eq_true rfl, Nat.le_of_ble_eq_true rfl⟩) (fun r_3 h_4 => ?_)
  subst h_4
  refine lv_iconst (v := 1) hx hb d_MD_prism_14 (by decide) ?_
  have hPc := hP.sub (ws' := [(h0, .inr (7, [.int th, .int (nI nm), .ref ap, .int (nI no), .ref am, .ref aw, .ref az, .ref au, .int kn, .long vP, .long vQ, .long vS, .long vT, .long vB, .long vM, .long vH, .ref ao, .ref ax, .int (nI np), .ref ay, .int (nI nl), .ref ad, .ref al, .int (nI sn), .ref ag, .int (nI ta), .int nb]))]) [0] rfl
  have hDc := hD.sub (ws' := [(h0, .inr (7, [.int th, .int (nI nm), .ref ap, .int (nI no), .ref am, .ref aw, .ref az, .ref au, .int kn, .long vP, .long vQ, .long vS, .long vT, .long vB, .long vM, .long vH, .ref ao, .ref ax, .int (nI np), .ref ay, .int (nI nl), .ref ad, .ref al, .int (nI sn), .ref ag, .int (nI ta), .int nb]))]) [0] (by decide) rfl
  have hKc := hK.sub (tys' := []) [] rfl
  have hFc := va_free (wc := [(h0, .inr (7, [.int th, .int (nI nm), .ref ap, .int (nI no), .ref am, .ref aw, .ref az, .ref au, .int kn, .long vP, .long vQ, .long vS, .long vT, .long vB, .long vM, .long vH, .ref ao, .ref ax, .int (nI np), .ref ay, .int (nI nl), .ref ad, .ref al, .int (nI sn), .ref ag, .int (nI ta), .int nb]))]) hD hS hA [0] rfl
  refine va_calli (va_runV (As := [.int (bI (xin (nI k) no)), .int (bI (md_win a 0 3000)), .int 1]) (rest := []) ⟨hx, hb, hml, hown, hts⟩ (c_MD_goes l dC dI s.heap.size h0 th nm ap no am aw az au kn vP vQ vS vT vB vM vH ao ax np ay nl ad al sn ag ta nb (bI (xin (nI k) no)) (bI (md_win a 0 3000)) 1) (cwV 3 hts (xgV wm_793 wm_795 wm_13 wm_34 wm_796) rfl rfl rfl (by decide +kernel) ⟨Nat.le_of_ble_eq_true rfl, Nat.le_of_ble_eq_true rfl⟩) ⟨xw_blind, va_recv hKc hPc (ci := 7) (q0 := 0) rfl rfl, fun U hU hW => ⟨rfl, by rw [hU], hz.warm hW, by rw [hU]; exact hPc, va_K.moved hW.alike hKc, hDc.weaken (fun _ _ _ _ => trivial)⟩⟩ rfl rfl hl.1 rfl (lv_room (Nat.le_of_ble_eq_true rfl)) d_MD_prism_15 ⟨Nat.le_of_ble_eq_true rfl, Nat.le_of_ble_eq_true rfl⟩) hS (fun q _ h => hFc q h) hFc (fun r_5 _ t H1 locs ht hvm hw_6 hB hz1 hk1 hS => ?_)
  obtain ⟨hP1, hK1, hD1⟩ := hB
  rw [ht] at hP1
  have hK1 := va_K.moved hvm.symm hK1
  obtain ⟨hP, hD⟩ := va_join (wr := [(az, .inl (kz, 20, .inl gz))]) (w1 := [(h0, .inr (7, [.int (md_th (bI (xin (nI k) no)) (bI (md_win a 0 3000)) 1), .int (nI nm), .ref ap, .int (nI no), .ref am, .ref aw, .ref az, .ref au, .int kn, .long vP, .long vQ, .long vS, .long vT, .long vB, .long vM, .long vH, .ref ao, .ref ax, .int (nI np), .ref ay, .int (nI nl), .ref ad, .ref al, .int (nI sn), .ref ag, .int (nI ta), .int nb]))]) hP hD [0] [1] rfl rfl (by decide) (by decide) hk1 hFc hP1 hD1
  generalize H1 = H at hP hS ⊢
  have hP : va_P (dC, dI) xCl [(az, .inl (kz, 20, .inl gz)), (h0, .inr (7, [.int (md_th (bI (xin (nI k) no)) (bI (md_win a 0 3000)) 1), .int (nI nm), .ref ap, .int (nI no), .ref am, .ref aw, .ref az, .ref au, .int kn, .long vP, .long vQ, .long vS, .long vT, .long vB, .long vM, .long vH, .ref ao, .ref ax, .int (nI np), .ref ay, .int (nI nl), .ref ad, .ref al, .int (nI sn), .ref ag, .int (nI ta), .int nb]))] H := hP
  have hD : va_D A [(az, .inl (kz, 20, .inl gz)), (h0, .inr (7, [.int (md_th (bI (xin (nI k) no)) (bI (md_win a 0 3000)) 1), .int (nI nm), .ref ap, .int (nI no), .ref am, .ref aw, .ref az, .ref au, .int kn, .long vP, .long vQ, .long vS, .long vT, .long vB, .long vM, .long vH, .ref ao, .ref ax, .int (nI np), .ref ay, .int (nI nl), .ref ad, .ref al, .int (nI sn), .ref ag, .int (nI ta), .int nb]))] := hD
  subst hw_6
  refine lv_if_ne (tgt := 23) hx hb d_MD_prism_18 (by decide) (fun c_7 => ?_) (fun c_7 => ?_)
  · have b_8 := bI_t (rfl : bI (md_th (bI (xin (nI k) no)) (bI (md_win a 0 3000)) 1 = 0) = _) c_7
    refine lv_aload_n hx hb d_MD_prism_23 rfl (lv_at hl 0 rfl) ?_
    refine va_get (D := (dC, dI)) (ci := 7) (v := .ref az) (C := xR_MD) (T := xT_MD) (N := 27) hx hb hts (fun w h => List.mem_cons_of_mem _ (iw_MD w h)) hown hK hP 1 rfl rfl 6 (by decide) (hts _ (List.mem_cons_of_mem _ wm_703)) (fun _ h9 => h9) rfl d_MD_prism_24 ?_
    refine lv_iload_n hx hb d_MD_prism_27 rfl (lv_at hl 1 rfl) ?_
    refine xa_iald hx hb hK hP 0 0 rfl rfl k rfl (by omega) (by decide) d_MD_prism_28 ?_
    refine lv_istore_n (lv' := [(3, .int (gz k)), (0, .ref h0), (1, .int (nI k)), (2, .int a)]) hx hb d_MD_prism_29 rfl hl (by decide) rfl (fun ls hl => ?_)
    refine lv_aload_n hx hb d_MD_prism_30 rfl (lv_at hl 1 rfl) ?_
    refine va_get (D := (dC, dI)) (ci := 7) (v := .ref az) (C := xR_MD) (T := xT_MD) (N := 27) hx hb hts (fun w h => List.mem_cons_of_mem _ (iw_MD w h)) hown hK hP 1 rfl rfl 6 (by decide) (hts _ (List.mem_cons_of_mem _ wm_703)) (fun _ h9 => h9) rfl d_MD_prism_31 ?_
    refine lv_iload_n hx hb d_MD_prism_34 rfl (lv_at hl 2 rfl) ?_
    refine lv_iload_n hx hb d_MD_prism_35 rfl (lv_at hl 3 rfl) ?_
    refine xa_iast hx hb hK hP hD hS 0 0 rfl rfl k rfl (by omega) (by decide) d_MD_prism_36 (fun H locs hP hD hS => ?_)
    have hP : va_P (dC, dI) xCl [(az, .inl (kz, 20, .inl (upd gz k a))), (h0, .inr (7, [.int (md_th (bI (xin (nI k) no)) (bI (md_win a 0 3000)) 1), .int (nI nm), .ref ap, .int (nI no), .ref am, .ref aw, .ref az, .ref au, .int kn, .long vP, .long vQ, .long vS, .long vT, .long vB, .long vM, .long vH, .ref ao, .ref ax, .int (nI np), .ref ay, .int (nI nl), .ref ad, .ref al, .int (nI sn), .ref ag, .int (nI ta), .int nb]))] H := hP
    have hD : va_D A [(az, .inl (kz, 20, .inl (upd gz k a))), (h0, .inr (7, [.int (md_th (bI (xin (nI k) no)) (bI (md_win a 0 3000)) 1), .int (nI nm), .ref ap, .int (nI no), .ref am, .ref aw, .ref az, .ref au, .int kn, .long vP, .long vQ, .long vS, .long vT, .long vB, .long vM, .long vH, .ref ao, .ref ax, .int (nI np), .ref ay, .int (nI nl), .ref ad, .ref al, .int (nI sn), .ref ag, .int (nI ta), .int nb]))] := hD
    refine lv_iload_n hx hb d_MD_prism_37 rfl (lv_at hl 0 rfl) ?_
    rw [md_th_0 (bI_ne hv) (bI_ne hw) (by decide)] at hP hD
    have hP9 := hP.sub (ws' := [(h0, .inr (7, [.int 0, .int (nI nm), .ref ap, .int (nI no), .ref am, .ref aw, .ref az, .ref au, .int kn, .long vP, .long vQ, .long vS, .long vT, .long vB, .long vM, .long vH, .ref ao, .ref ax, .int (nI np), .ref ay, .int (nI nl), .ref ad, .ref al, .int (nI sn), .ref ag, .int (nI ta), .int nb])), (az, .inl (kz, 20, .inl (upd gz k a)))]) [1, 0] rfl
    have hD9 := hD.sub (ws' := [(h0, .inr (7, [.int 0, .int (nI nm), .ref ap, .int (nI no), .ref am, .ref aw, .ref az, .ref au, .int kn, .long vP, .long vQ, .long vS, .long vT, .long vB, .long vM, .long vH, .ref ao, .ref ax, .int (nI np), .ref ay, .int (nI nl), .ref ad, .ref al, .int (nI sn), .ref ag, .int (nI ta), .int nb])), (az, .inl (kz, 20, .inl (upd gz k a)))]) [1, 0] (by decide) rfl
    have hK9 := hK.sub (tys' := [(kz, .int)]) [0] rfl
    exact W.iret (v := gz k) hx hb hr (fun t ht hW => ⟨⟨gz k, (), rfl, rfl, ⟨by rw [ht]; exact hP9, va_K.moved hW.alike hK9, by exact hD9⟩⟩, hS.F ht⟩) hS.2.2 d_MD_prism_38 hlocks
  · exact absurd (md_th_0 (bI_ne hv) (bI_ne hw) (by decide)) (bI_f rfl c_7)
set_option maxHeartbeats 4000000 in
set_option maxRecDepth 100000 in
/-- prism, refused -/
theorem c_MD_prism_n (l : Launch) (dC : Nat → ClassId) (dI : Nat → Nat → Nat) (sz : Nat) (h0 : Nat) (th : Int32) (nm : Nat) (ap : Nat) (no : Nat) (am : Nat) (aw : Nat) (az : Nat) (au : Nat) (kn : Int32) (vP : Int64) (vQ : Int64) (vS : Int64) (vT : Int64) (vB : Int64) (vM : Int64) (vH : Int64) (ao : Nat) (ax : Nat) (np : Nat) (ay : Nat) (nl : Nat) (ad : Nat) (al : Nat) (sn : Nat) (ag : Nat) (ta : Nat) (nb : Int32) (k0 : Int32) (a : Int32) (hc : no ≤ 20) (hn : ¬ (xin k0 no ∧ md_win a 0 3000)) : Met l xy_MD_prism xw_MD_prism ({ frames := 2, cells := 0, slots := 0, locals := 43 }) (xp_w [.ref h0, .int k0, .int a] sz (dC, dI) xCl [(h0, .inr (7, [.int th, .int (nI nm), .ref ap, .int (nI no), .ref am, .ref aw, .ref az, .ref au, .int kn, .long vP, .long vQ, .long vS, .long vT, .long vB, .long vM, .long vH, .ref ao, .ref ax, .int (nI np), .ref ay, .int (nI nl), .ref ad, .ref al, .int (nI sn), .ref ag, .int (nI ta), .int nb]))] []) (va_Qi (fun (r : Int32) (_ : Unit) => r = 0) (fun _ t => xb_w (dC, dI) xCl [(h0, .inr (7, [.int (md_th (bI (xin k0 no)) (bI (md_win a 0 3000)) 1), .int (nI nm), .ref ap, .int (nI no), .ref am, .ref aw, .ref az, .ref au, .int kn, .long vP, .long vQ, .long vS, .long vT, .long vB, .long vM, .long vH, .ref ao, .ref ax, .int (nI np), .ref ay, .int (nI nl), .ref ad, .ref al, .int (nI sn), .ref ag, .int (nI ta), .int nb]))] [] (va_A [(h0, .inr (7, [.int th, .int (nI nm), .ref ap, .int (nI no), .ref am, .ref aw, .ref az, .ref au, .int kn, .long vP, .long vQ, .long vS, .long vT, .long vB, .long vM, .long vH, .ref ao, .ref ax, .int (nI np), .ref ay, .int (nI nl), .ref ad, .ref al, .int (nI sn), .ref ag, .int (nI ta), .int nb]))] sz) t) (va_A [(h0, .inr (7, [.int th, .int (nI nm), .ref ap, .int (nI no), .ref am, .ref aw, .ref az, .ref au, .int kn, .long vP, .long vQ, .long vS, .long vT, .long vB, .long vM, .long vH, .ref ao, .ref ax, .int (nI np), .ref ay, .int (nI nl), .ref ad, .ref al, .int (nI sn), .ref ag, .int (nI ta), .int nb]))] sz)) 0 0 (va_A [(h0, .inr (7, [.int th, .int (nI nm), .ref ap, .int (nI no), .ref am, .ref aw, .ref az, .ref au, .int kn, .long vP, .long vQ, .long vS, .long vT, .long vB, .long vM, .long vH, .ref ao, .ref ax, .int (nI np), .ref ay, .int (nI nl), .ref ad, .ref al, .int (nI sn), .ref ag, .int (nI ta), .int nb]))] sz) := by
  refine Met.ofW (cc := prog_9_method_11_code) (maxL := 4) (ret := (some .int)) (by decide) rfl ?_
  intro p e s m args below meth c s₁ B hml hv
  obtain ⟨rfl, hsz, hz, hP, hK, hD0⟩ := hv
  have hx := B.exec
  have hb := B.bytes
  have hr := B.returns
  have hts := atoms_spec (ws := xw_MD_prism) B.pre
  have hown : s.vm.findClass xR_MD = some m.cls := findClass_of_methodNamed B.named
  have hlocks := B.notSynchronized
  subst hsz
  have hD := hD0.self (sz := s.heap.size)
  generalize hAe : va_A [(h0, .inr (7, [.int th, .int (nI nm), .ref ap, .int (nI no), .ref am, .ref aw, .ref az, .ref au, .int kn, .long vP, .long vQ, .long vS, .long vT, .long vB, .long vM, .long vH, .ref ao, .ref ax, .int (nI np), .ref ay, .int (nI nl), .ref ad, .ref al, .int (nI sn), .ref ag, .int (nI ta), .int nb]))] s.heap.size = A at hD ⊢
  have hA : ∀ q : Nat, s.heap.size ≤ q → A q := fun q h => by rw [← hAe]; exact Or.inr h
  have hS : va_S A s.heap s.heap [] := va_S.rf
  have hP : va_P (dC, dI) xCl [(h0, .inr (7, [.int th, .int (nI nm), .ref ap, .int (nI no), .ref am, .ref aw, .ref az, .ref au, .int kn, .long vP, .long vQ, .long vS, .long vT, .long vB, .long vM, .long vH, .ref ao, .ref ax, .int (nI np), .ref ay, .int (nI nl), .ref ad, .ref al, .int (nI sn), .ref ag, .int (nI ta), .int nb]))] s.heap := hP
  have hl := lv_entry ([.ref h0, .int k0, .int a]) (n := 4) (Nat.le_of_ble_eq_true rfl)
  rw [lg_entry_eq]
  generalize (lg_sl ([.ref h0, .int k0, .int a]) ++ List.replicate (4 - (lg_sl ([.ref h0, .int k0, .int a])).length) Slot.unset).toArray = ls at hl ⊢
  have hl : lv_has ls 4 [(0, .ref h0), (1, .int k0), (2, .int a)] := hl
  refine lv_aload_n hx hb d_MD_prism_0 rfl (lv_at hl 0 rfl) ?_
  refine lv_aload_n hx hb d_MD_prism_1 rfl (lv_at hl 0 rfl) ?_
  refine lv_iload_n hx hb d_MD_prism_2 rfl (lv_at hl 1 rfl) ?_
  refine xr_calli (va_runV (As := [.int k0]) (rest := [.ref h0]) ⟨hx, hb, hml, hown, hts⟩ (c_MD_isObservation l dC dI h0 th nm ap no am aw az au kn vP vQ vS vT vB vM vH ao ax np ay nl ad al sn ag ta nb k0 (by first | assumption | omega | decide)) (cwV 1 hts (xgV wm_809 wm_811 wm_15 wm_34 wm_812) rfl rfl rfl (by decide +kernel) ⟨Nat.le_of_ble_eq_true rfl, Nat.le_of_ble_eq_true rfl⟩) ⟨xp_blind, va_recv hK hP (ci := 7) (q0 := 0) rfl rfl, fun U hU hW => ⟨rfl, hz.warm hW, by rw [hU]; exact hP.sub [0] rfl, va_K.moved hW.alike (hK.sub [] rfl)⟩⟩ rfl rfl hl.1 rfl (lv_room (Nat.le_of_ble_eq_true rfl)) d_MD_prism_3 ⟨Nat.le_of_ble_eq_true rfl, Nat.le_of_ble_eq_true rfl⟩) (fun r_1 h_2 => ?_)
  subst h_2
  refine lv_iload_n hx hb d_MD_prism_6 rfl (lv_at hl 2 rfl) ?_
  refine lv_iconst (v := 0) hx hb d_MD_prism_7 (by decide) ?_
  refine lv_sipush (v := 3000) hx hb d_MD_prism_8 (by decide) ?_
  refine xr_calli (va_runS (As := [.int a, .int 0, .int 3000]) (rest := [.int (bI (xin k0 no)), .ref h0]) ⟨hx, hb, hml, hown, hts⟩ (c_MD_within l dC dI a 0 3000) (va_cwS 3 hts (xgS wm_790 wm_791 wm_34 wm_792) rfl rfl rfl (by decide +kernel) ⟨Nat.le_of_ble_eq_true rfl, Nat.le_of_ble_eq_true rfl⟩) ⟨xp_blind, fun U hU hW => ⟨rfl, hz.warm hW, by rw [hU]; exact hP.sub [] rfl, va_K.moved hW.alike (hK.sub [] rfl)⟩⟩ rfl rfl hl.1 rfl (lv_room (Nat.le_of_ble_eq_true rfl)) d_MD_prism_11 ⟨Nat.le_of_ble_eq_true rfl, Nat.le_of_ble_eq_true rfl⟩) (fun r_3 h_4 => ?_)
  subst h_4
  refine lv_iconst (v := 1) hx hb d_MD_prism_14 (by decide) ?_
  have hPc := hP.sub (ws' := [(h0, .inr (7, [.int th, .int (nI nm), .ref ap, .int (nI no), .ref am, .ref aw, .ref az, .ref au, .int kn, .long vP, .long vQ, .long vS, .long vT, .long vB, .long vM, .long vH, .ref ao, .ref ax, .int (nI np), .ref ay, .int (nI nl), .ref ad, .ref al, .int (nI sn), .ref ag, .int (nI ta), .int nb]))]) [0] rfl
  have hDc := hD.sub (ws' := [(h0, .inr (7, [.int th, .int (nI nm), .ref ap, .int (nI no), .ref am, .ref aw, .ref az, .ref au, .int kn, .long vP, .long vQ, .long vS, .long vT, .long vB, .long vM, .long vH, .ref ao, .ref ax, .int (nI np), .ref ay, .int (nI nl), .ref ad, .ref al, .int (nI sn), .ref ag, .int (nI ta), .int nb]))]) [0] (by decide) rfl
  have hKc := hK.sub (tys' := []) [] rfl
  have hFc := va_free (wc := [(h0, .inr (7, [.int th, .int (nI nm), .ref ap, .int (nI no), .ref am, .ref aw, .ref az, .ref au, .int kn, .long vP, .long vQ, .long vS, .long vT, .long vB, .long vM, .long vH, .ref ao, .ref ax, .int (nI np), .ref ay, .int (nI nl), .ref ad, .ref al, .int (nI sn), .ref ag, .int (nI ta), .int nb]))]) hD hS hA [0] rfl
  refine va_calli (va_runV (As := [.int (bI (xin k0 no)), .int (bI (md_win a 0 3000)), .int 1]) (rest := []) ⟨hx, hb, hml, hown, hts⟩ (c_MD_goes l dC dI s.heap.size h0 th nm ap no am aw az au kn vP vQ vS vT vB vM vH ao ax np ay nl ad al sn ag ta nb (bI (xin k0 no)) (bI (md_win a 0 3000)) 1) (cwV 3 hts (xgV wm_793 wm_795 wm_13 wm_34 wm_796) rfl rfl rfl (by decide +kernel) ⟨Nat.le_of_ble_eq_true rfl, Nat.le_of_ble_eq_true rfl⟩) ⟨xw_blind, va_recv hKc hPc (ci := 7) (q0 := 0) rfl rfl, fun U hU hW => ⟨rfl, by rw [hU], hz.warm hW, by rw [hU]; exact hPc, va_K.moved hW.alike hKc, hDc.weaken (fun _ _ _ _ => trivial)⟩⟩ rfl rfl hl.1 rfl (lv_room (Nat.le_of_ble_eq_true rfl)) d_MD_prism_15 ⟨Nat.le_of_ble_eq_true rfl, Nat.le_of_ble_eq_true rfl⟩) hS (fun q _ h => hFc q h) hFc (fun r_5 _ t H1 locs ht hvm hw_6 hB hz1 hk1 hS => ?_)
  obtain ⟨hP1, hK1, hD1⟩ := hB
  rw [ht] at hP1
  have hK1 := va_K.moved hvm.symm hK1
  obtain ⟨hP, hD⟩ := va_join (wr := []) (w1 := [(h0, .inr (7, [.int (md_th (bI (xin k0 no)) (bI (md_win a 0 3000)) 1), .int (nI nm), .ref ap, .int (nI no), .ref am, .ref aw, .ref az, .ref au, .int kn, .long vP, .long vQ, .long vS, .long vT, .long vB, .long vM, .long vH, .ref ao, .ref ax, .int (nI np), .ref ay, .int (nI nl), .ref ad, .ref al, .int (nI sn), .ref ag, .int (nI ta), .int nb]))]) hP hD [0] [] rfl rfl (by decide) (by decide) hk1 hFc hP1 hD1
  generalize H1 = H at hP hS ⊢
  have hP : va_P (dC, dI) xCl [(h0, .inr (7, [.int (md_th (bI (xin k0 no)) (bI (md_win a 0 3000)) 1), .int (nI nm), .ref ap, .int (nI no), .ref am, .ref aw, .ref az, .ref au, .int kn, .long vP, .long vQ, .long vS, .long vT, .long vB, .long vM, .long vH, .ref ao, .ref ax, .int (nI np), .ref ay, .int (nI nl), .ref ad, .ref al, .int (nI sn), .ref ag, .int (nI ta), .int nb]))] H := hP
  have hD : va_D A [(h0, .inr (7, [.int (md_th (bI (xin k0 no)) (bI (md_win a 0 3000)) 1), .int (nI nm), .ref ap, .int (nI no), .ref am, .ref aw, .ref az, .ref au, .int kn, .long vP, .long vQ, .long vS, .long vT, .long vB, .long vM, .long vH, .ref ao, .ref ax, .int (nI np), .ref ay, .int (nI nl), .ref ad, .ref al, .int (nI sn), .ref ag, .int (nI ta), .int nb]))] := hD
  subst hw_6
  refine lv_if_ne (tgt := 23) hx hb d_MD_prism_18 (by decide) (fun c_7 => ?_) (fun c_7 => ?_)
  · exact absurd (md_th_all (bI_t rfl c_7)) (fun q => hn ⟨(bI_of q.1), (bI_of q.2.1)⟩)
  · have b_8 := bI_f (rfl : bI (md_th (bI (xin k0 no)) (bI (md_win a 0 3000)) 1 = 0) = _) c_7
    refine lv_iconst (v := 0) hx hb d_MD_prism_21 (by decide) ?_
    have hP9 := hP.sub (ws' := [(h0, .inr (7, [.int (md_th (bI (xin k0 no)) (bI (md_win a 0 3000)) 1), .int (nI nm), .ref ap, .int (nI no), .ref am, .ref aw, .ref az, .ref au, .int kn, .long vP, .long vQ, .long vS, .long vT, .long vB, .long vM, .long vH, .ref ao, .ref ax, .int (nI np), .ref ay, .int (nI nl), .ref ad, .ref al, .int (nI sn), .ref ag, .int (nI ta), .int nb]))]) [0] rfl
    have hD9 := hD.sub (ws' := [(h0, .inr (7, [.int (md_th (bI (xin k0 no)) (bI (md_win a 0 3000)) 1), .int (nI nm), .ref ap, .int (nI no), .ref am, .ref aw, .ref az, .ref au, .int kn, .long vP, .long vQ, .long vS, .long vT, .long vB, .long vM, .long vH, .ref ao, .ref ax, .int (nI np), .ref ay, .int (nI nl), .ref ad, .ref al, .int (nI sn), .ref ag, .int (nI ta), .int nb]))]) [0] (by decide) rfl
    have hK9 := hK.sub (tys' := []) [] rfl
    exact W.iret (v := 0) hx hb hr (fun t ht hW => ⟨⟨0, (), rfl, rfl, ⟨by rw [ht]; exact hP9, va_K.moved hW.alike hK9, by exact hD9⟩⟩, hS.F ht⟩) hS.2.2 d_MD_prism_22 hlocks
set_option maxHeartbeats 4000000 in
set_option maxRecDepth 100000 in
/-- use -/
theorem c_MD_use_y (l : Launch) (dC : Nat → ClassId) (dI : Nat → Nat → Nat) (sz : Nat) (h0 : Nat) (th : Int32) (nm : Nat) (ap : Nat) (no : Nat) (am : Nat) (aw : Nat) (az : Nat) (au : Nat) (kn : Int32) (vP : Int64) (vQ : Int64) (vS : Int64) (vT : Int64) (vB : Int64) (vM : Int64) (vH : Int64) (ao : Nat) (ax : Nat) (np : Nat) (ay : Nat) (nl : Nat) (ad : Nat) (al : Nat) (sn : Nat) (ag : Nat) (ta : Nat) (nb : Int32) (ku : ClassId) (gu : Nat → Int32) (k : Nat) (a : Int32) (hv : xin (nI k) no) (hk : k < no) (hc : no ≤ 20) (h01 : a = 0 ∨ a = 1) : Met l xy_MD_use xw_MD_use ({ frames := 2, cells := 0, slots := 0, locals := 43 }) (xp_w [.ref h0, .int (nI k), .int a] sz (dC, dI) xCl [(h0, .inr (7, [.int th, .int (nI nm), .ref ap, .int (nI no), .ref am, .ref aw, .ref az, .ref au, .int kn, .long vP, .long vQ, .long vS, .long vT, .long vB, .long vM, .long vH, .ref ao, .ref ax, .int (nI np), .ref ay, .int (nI nl), .ref ad, .ref al, .int (nI sn), .ref ag, .int (nI ta), .int nb])), (au, .inl (ku, 20, .inl gu))] [(ku, .boolean)]) (va_Qi (fun (r : Int32) (_ : Unit) => r = bI (¬ gu k = a)) (fun _ t => xb_w (dC, dI) xCl [(h0, .inr (7, [.int 0, .int (nI nm), .ref ap, .int (nI no), .ref am, .ref aw, .ref az, .ref au, .int kn, .long vP, .long vQ, .long vS, .long vT, .long vB, .long vM, .long vH, .ref ao, .ref ax, .int (nI np), .ref ay, .int (nI nl), .ref ad, .ref al, .int (nI sn), .ref ag, .int (nI ta), .int nb])), (au, .inl (ku, 20, .inl (upd gu k a)))] [(ku, .boolean)] (va_A [(h0, .inr (7, [.int th, .int (nI nm), .ref ap, .int (nI no), .ref am, .ref aw, .ref az, .ref au, .int kn, .long vP, .long vQ, .long vS, .long vT, .long vB, .long vM, .long vH, .ref ao, .ref ax, .int (nI np), .ref ay, .int (nI nl), .ref ad, .ref al, .int (nI sn), .ref ag, .int (nI ta), .int nb])), (au, .inl (ku, 20, .inl gu))] sz) t) (va_A [(h0, .inr (7, [.int th, .int (nI nm), .ref ap, .int (nI no), .ref am, .ref aw, .ref az, .ref au, .int kn, .long vP, .long vQ, .long vS, .long vT, .long vB, .long vM, .long vH, .ref ao, .ref ax, .int (nI np), .ref ay, .int (nI nl), .ref ad, .ref al, .int (nI sn), .ref ag, .int (nI ta), .int nb])), (au, .inl (ku, 20, .inl gu))] sz)) 0 0 (va_A [(h0, .inr (7, [.int th, .int (nI nm), .ref ap, .int (nI no), .ref am, .ref aw, .ref az, .ref au, .int kn, .long vP, .long vQ, .long vS, .long vT, .long vB, .long vM, .long vH, .ref ao, .ref ax, .int (nI np), .ref ay, .int (nI nl), .ref ad, .ref al, .int (nI sn), .ref ag, .int (nI ta), .int nb])), (au, .inl (ku, 20, .inl gu))] sz) := by
  refine Met.ofW (cc := prog_9_method_12_code) (maxL := 4) (ret := (some .boolean)) (by decide) rfl ?_
  intro p e s m args below meth c s₁ B hml hv
  obtain ⟨rfl, hsz, hz, hP, hK, hD0⟩ := hv
  have hx := B.exec
  have hb := B.bytes
  have hr := B.returns
  have hts := atoms_spec (ws := xw_MD_use) B.pre
  have hown : s.vm.findClass xR_MD = some m.cls := findClass_of_methodNamed B.named
  have hlocks := B.notSynchronized
  subst hsz
  have hD := hD0.self (sz := s.heap.size)
  generalize hAe : va_A [(h0, .inr (7, [.int th, .int (nI nm), .ref ap, .int (nI no), .ref am, .ref aw, .ref az, .ref au, .int kn, .long vP, .long vQ, .long vS, .long vT, .long vB, .long vM, .long vH, .ref ao, .ref ax, .int (nI np), .ref ay, .int (nI nl), .ref ad, .ref al, .int (nI sn), .ref ag, .int (nI ta), .int nb])), (au, .inl (ku, 20, .inl gu))] s.heap.size = A at hD ⊢
  have hA : ∀ q : Nat, s.heap.size ≤ q → A q := fun q h => by rw [← hAe]; exact Or.inr h
  have hS : va_S A s.heap s.heap [] := va_S.rf
  have hP : va_P (dC, dI) xCl [(h0, .inr (7, [.int th, .int (nI nm), .ref ap, .int (nI no), .ref am, .ref aw, .ref az, .ref au, .int kn, .long vP, .long vQ, .long vS, .long vT, .long vB, .long vM, .long vH, .ref ao, .ref ax, .int (nI np), .ref ay, .int (nI nl), .ref ad, .ref al, .int (nI sn), .ref ag, .int (nI ta), .int nb])), (au, .inl (ku, 20, .inl gu))] s.heap := hP
  have hl := lv_entry ([.ref h0, .int (nI k), .int a]) (n := 4) (Nat.le_of_ble_eq_true rfl)
  rw [lg_entry_eq]
  generalize (lg_sl ([.ref h0, .int (nI k), .int a]) ++ List.replicate (4 - (lg_sl ([.ref h0, .int (nI k), .int a])).length) Slot.unset).toArray = ls at hl ⊢
  have hl : lv_has ls 4 [(0, .ref h0), (1, .int (nI k)), (2, .int a)] := hl
  refine lv_aload_n hx hb d_MD_use_0 rfl (lv_at hl 0 rfl) ?_
  refine lv_aload_n hx hb d_MD_use_1 rfl (lv_at hl 0 rfl) ?_
  refine lv_iload_n hx hb d_MD_use_2 rfl (lv_at hl 1 rfl) ?_
  refine xr_calli (va_runV (As := [.int (nI k)]) (rest := [.ref h0]) ⟨hx, hb, hml, hown, hts⟩ (c_MD_isObservation l dC dI h0 th nm ap no am aw az au kn vP vQ vS vT vB vM vH ao ax np ay nl ad al sn ag ta nb (nI k) (by first | assumption | omega | decide)) (cwV 1 hts (xgV wm_809 wm_811 wm_15 wm_34 wm_812) rfl rfl rfl (by decide +kernel) ⟨Nat.le_of_ble_eq_true rfl, Nat.le_of_ble_eq_true rfl⟩) ⟨xp_blind, va_recv hK hP (ci := 7) (q0 := 0) rfl rfl, fun U hU hW => ⟨rfl, hz.warm hW, by rw [hU]; exact hP.sub [0] rfl, va_K.moved hW.alike (hK.sub [] rfl)⟩⟩ rfl rfl hl.1 rfl (lv_room (Nat.le_of_ble_eq_true rfl)) d_MD_use_3 ⟨Nat.le_of_ble_eq_true rfl, Nat.le_of_ble_eq_true rfl⟩) (fun r_1 h_2 => ?_)
  subst h_2
  refine lv_iconst (v := 1) hx hb d_MD_use_6 (by decide) ?_
  refine lv_iconst (v := 1) hx hb d_MD_use_7 (by decide) ?_
  have hPc := hP.sub (ws' := [(h0, .inr (7, [.int th, .int (nI nm), .ref ap, .int (nI no), .ref am, .ref aw, .ref az, .ref au, .int kn, .long vP, .long vQ, .long vS, .long vT, .long vB, .long vM, .long vH, .ref ao, .ref ax, .int (nI np), .ref ay, .int (nI nl), .ref ad, .ref al, .int (nI sn), .ref ag, .int (nI ta), .int nb]))]) [0] rfl
  have hDc := hD.sub (ws' := [(h0, .inr (7, [.int th, .int (nI nm), .ref ap, .int (nI no), .ref am, .ref aw, .ref az, .ref au, .int kn, .long vP, .long vQ, .long vS, .long vT, .long vB, .long vM, .long vH, .ref ao, .ref ax, .int (nI np), .ref ay, .int (nI nl), .ref ad, .ref al, .int (nI sn), .ref ag, .int (nI ta), .int nb]))]) [0] (by decide) rfl
  have hKc := hK.sub (tys' := []) [] rfl
  have hFc := va_free (wc := [(h0, .inr (7, [.int th, .int (nI nm), .ref ap, .int (nI no), .ref am, .ref aw, .ref az, .ref au, .int kn, .long vP, .long vQ, .long vS, .long vT, .long vB, .long vM, .long vH, .ref ao, .ref ax, .int (nI np), .ref ay, .int (nI nl), .ref ad, .ref al, .int (nI sn), .ref ag, .int (nI ta), .int nb]))]) hD hS hA [0] rfl
  refine va_calli (va_runV (As := [.int (bI (xin (nI k) no)), .int 1, .int 1]) (rest := []) ⟨hx, hb, hml, hown, hts⟩ (c_MD_goes l dC dI s.heap.size h0 th nm ap no am aw az au kn vP vQ vS vT vB vM vH ao ax np ay nl ad al sn ag ta nb (bI (xin (nI k) no)) 1 1) (cwV 3 hts (xgV wm_793 wm_795 wm_13 wm_34 wm_796) rfl rfl rfl (by decide +kernel) ⟨Nat.le_of_ble_eq_true rfl, Nat.le_of_ble_eq_true rfl⟩) ⟨xw_blind, va_recv hKc hPc (ci := 7) (q0 := 0) rfl rfl, fun U hU hW => ⟨rfl, by rw [hU], hz.warm hW, by rw [hU]; exact hPc, va_K.moved hW.alike hKc, hDc.weaken (fun _ _ _ _ => trivial)⟩⟩ rfl rfl hl.1 rfl (lv_room (Nat.le_of_ble_eq_true rfl)) d_MD_use_8 ⟨Nat.le_of_ble_eq_true rfl, Nat.le_of_ble_eq_true rfl⟩) hS (fun q _ h => hFc q h) hFc (fun r_3 _ t H1 locs ht hvm hw_4 hB hz1 hk1 hS => ?_)
  obtain ⟨hP1, hK1, hD1⟩ := hB
  rw [ht] at hP1
  have hK1 := va_K.moved hvm.symm hK1
  obtain ⟨hP, hD⟩ := va_join (wr := [(au, .inl (ku, 20, .inl gu))]) (w1 := [(h0, .inr (7, [.int (md_th (bI (xin (nI k) no)) 1 1), .int (nI nm), .ref ap, .int (nI no), .ref am, .ref aw, .ref az, .ref au, .int kn, .long vP, .long vQ, .long vS, .long vT, .long vB, .long vM, .long vH, .ref ao, .ref ax, .int (nI np), .ref ay, .int (nI nl), .ref ad, .ref al, .int (nI sn), .ref ag, .int (nI ta), .int nb]))]) hP hD [0] [1] rfl rfl (by decide) (by decide) hk1 hFc hP1 hD1
  generalize H1 = H at hP hS ⊢
  have hP : va_P (dC, dI) xCl [(au, .inl (ku, 20, .inl gu)), (h0, .inr (7, [.int (md_th (bI (xin (nI k) no)) 1 1), .int (nI nm), .ref ap, .int (nI no), .ref am, .ref aw, .ref az, .ref au, .int kn, .long vP, .long vQ, .long vS, .long vT, .long vB, .long vM, .long vH, .ref ao, .ref ax, .int (nI np), .ref ay, .int (nI nl), .ref ad, .ref al, .int (nI sn), .ref ag, .int (nI ta), .int nb]))] H := hP
  have hD : va_D A [(au, .inl (ku, 20, .inl gu)), (h0, .inr (7, [.int (md_th (bI (xin (nI k) no)) 1 1), .int (nI nm), .ref ap, .int (nI no), .ref am, .ref aw, .ref az, .ref au, .int kn, .long vP, .long vQ, .long vS, .long vT, .long vB, .long vM, .long vH, .ref ao, .ref ax, .int (nI np), .ref ay, .int (nI nl), .ref ad, .ref al, .int (nI sn), .ref ag, .int (nI ta), .int nb]))] := hD
  subst hw_4
  refine lv_if_ne (tgt := 16) hx hb d_MD_use_11 (by decide) (fun c_5 => ?_) (fun c_5 => ?_)
  · have b_6 := bI_t (rfl : bI (md_th (bI (xin (nI k) no)) 1 1 = 0) = _) c_5
    refine lv_aload_n hx hb d_MD_use_16 rfl (lv_at hl 0 rfl) ?_
    refine va_get (D := (dC, dI)) (ci := 7) (v := .ref au) (C := xR_MD) (T := xT_MD) (N := 27) hx hb hts (fun w h => List.mem_cons_of_mem _ (iw_MD w h)) hown hK hP 1 rfl rfl 7 (by decide) (hts _ (List.mem_cons_of_mem _ wm_704)) (fun _ h9 => h9) rfl d_MD_use_17 ?_
    refine lv_iload_n hx hb d_MD_use_20 rfl (lv_at hl 1 rfl) ?_
    refine xa_zald hx hb hK hP 0 0 rfl rfl k rfl (by omega) (by decide) d_MD_use_21 ?_
    refine lv_istore_n (lv' := [(3, .int (gu k)), (0, .ref h0), (1, .int (nI k)), (2, .int a)]) hx hb d_MD_use_22 rfl hl (by decide) rfl (fun ls hl => ?_)
    refine lv_aload_n hx hb d_MD_use_23 rfl (lv_at hl 1 rfl) ?_
    refine va_get (D := (dC, dI)) (ci := 7) (v := .ref au) (C := xR_MD) (T := xT_MD) (N := 27) hx hb hts (fun w h => List.mem_cons_of_mem _ (iw_MD w h)) hown hK hP 1 rfl rfl 7 (by decide) (hts _ (List.mem_cons_of_mem _ wm_704)) (fun _ h9 => h9) rfl d_MD_use_24 ?_
    refine lv_iload_n hx hb d_MD_use_27 rfl (lv_at hl 2 rfl) ?_
    refine lv_iload_n hx hb d_MD_use_28 rfl (lv_at hl 3 rfl) ?_
    refine xa_zast hx hb hK hP hD hS 0 0 rfl rfl k rfl (by omega) (by decide) (sr_nar01 h01) d_MD_use_29 (fun H locs hP hD hS => ?_)
    have hP : va_P (dC, dI) xCl [(au, .inl (ku, 20, .inl (upd gu k a))), (h0, .inr (7, [.int (md_th (bI (xin (nI k) no)) 1 1), .int (nI nm), .ref ap, .int (nI no), .ref am, .ref aw, .ref az, .ref au, .int kn, .long vP, .long vQ, .long vS, .long vT, .long vB, .long vM, .long vH, .ref ao, .ref ax, .int (nI np), .ref ay, .int (nI nl), .ref ad, .ref al, .int (nI sn), .ref ag, .int (nI ta), .int nb]))] H := hP
    have hD : va_D A [(au, .inl (ku, 20, .inl (upd gu k a))), (h0, .inr (7, [.int (md_th (bI (xin (nI k) no)) 1 1), .int (nI nm), .ref ap, .int (nI no), .ref am, .ref aw, .ref az, .ref au, .int kn, .long vP, .long vQ, .long vS, .long vT, .long vB, .long vM, .long vH, .ref ao, .ref ax, .int (nI np), .ref ay, .int (nI nl), .ref ad, .ref al, .int (nI sn), .ref ag, .int (nI ta), .int nb]))] := hD
    refine lv_iload_n hx hb d_MD_use_30 rfl (lv_at hl 0 rfl) ?_
    refine lv_iload_n hx hb d_MD_use_31 rfl (lv_at hl 3 rfl) ?_
    refine lv_icmp_eq (tgt := 39) hx hb d_MD_use_32 (by decide) (fun c_7 => ?_) (fun c_7 => ?_)
    · refine lv_iconst (v := 0) hx hb d_MD_use_39 (by decide) ?_
      rw [md_th_0 (bI_ne hv) (by decide) (by decide)] at hP hD
      have hP9 := hP.sub (ws' := [(h0, .inr (7, [.int 0, .int (nI nm), .ref ap, .int (nI no), .ref am, .ref aw, .ref az, .ref au, .int kn, .long vP, .long vQ, .long vS, .long vT, .long vB, .long vM, .long vH, .ref ao, .ref ax, .int (nI np), .ref ay, .int (nI nl), .ref ad, .ref al, .int (nI sn), .ref ag, .int (nI ta), .int nb])), (au, .inl (ku, 20, .inl (upd gu k a)))]) [1, 0] rfl
      have hD9 := hD.sub (ws' := [(h0, .inr (7, [.int 0, .int (nI nm), .ref ap, .int (nI no), .ref am, .ref aw, .ref az, .ref au, .int kn, .long vP, .long vQ, .long vS, .long vT, .long vB, .long vM, .long vH, .ref ao, .ref ax, .int (nI np), .ref ay, .int (nI nl), .ref ad, .ref al, .int (nI sn), .ref ag, .int (nI ta), .int nb])), (au, .inl (ku, 20, .inl (upd gu k a)))]) [1, 0] (by decide) rfl
      have hK9 := hK.sub (tys' := [(ku, .boolean)]) [0] rfl
      exact W.zret (v := 0) (ty := .boolean) hx hb hr (by exact rfl) (fun t ht hW => ⟨⟨0, (), rfl, bI_n (fun q => q c_7), ⟨by rw [ht]; exact hP9, va_K.moved hW.alike hK9, by exact hD9⟩⟩, hS.F ht⟩) hS.2.2 d_MD_use_40 hlocks
    · refine lv_iconst (v := 1) hx hb d_MD_use_35 (by decide) ?_
      refine lv_goto (tgt := 40) hx hb d_MD_use_36 (by decide) ?_
      rw [md_th_0 (bI_ne hv) (by decide) (by decide)] at hP hD
      have hP9 := hP.sub (ws' := [(h0, .inr (7, [.int 0, .int (nI nm), .ref ap, .int (nI no), .ref am, .ref aw, .ref az, .ref au, .int kn, .long vP, .long vQ, .long vS, .long vT, .long vB, .long vM, .long vH, .ref ao, .ref ax, .int (nI np), .ref ay, .int (nI nl), .ref ad, .ref al, .int (nI sn), .ref ag, .int (nI ta), .int nb])), (au, .inl (ku, 20, .inl (upd gu k a)))]) [1, 0] rfl
      have hD9 := hD.sub (ws' := [(h0, .inr (7, [.int 0, .int (nI nm), .ref ap, .int (nI no), .ref am, .ref aw, .ref az, .ref au, .int kn, .long vP, .long vQ, .long vS, .long vT, .long vB, .long vM, .long vH, .ref ao, .ref ax, .int (nI np), .ref ay, .int (nI nl), .ref ad, .ref al, .int (nI sn), .ref ag, .int (nI ta), .int nb])), (au, .inl (ku, 20, .inl (upd gu k a)))]) [1, 0] (by decide) rfl
      have hK9 := hK.sub (tys' := [(ku, .boolean)]) [0] rfl
      exact W.zret (v := 1) (ty := .boolean) hx hb hr (by exact rfl) (fun t ht hW => ⟨⟨1, (), rfl, bI_p c_7, ⟨by rw [ht]; exact hP9, va_K.moved hW.alike hK9, by exact hD9⟩⟩, hS.F ht⟩) hS.2.2 d_MD_use_40 hlocks
  · exact absurd (md_th_0 (bI_ne hv) (by decide) (by decide)) (bI_f rfl c_5)
set_option maxHeartbeats 4000000 in
set_option maxRecDepth 100000 in
/-- use, refused -/
theorem c_MD_use_n (l : Launch) (dC : Nat → ClassId) (dI : Nat → Nat → Nat) (sz : Nat) (h0 : Nat) (th : Int32) (nm : Nat) (ap : Nat) (no : Nat) (am : Nat) (aw : Nat) (az : Nat) (au : Nat) (kn : Int32) (vP : Int64) (vQ : Int64) (vS : Int64) (vT : Int64) (vB : Int64) (vM : Int64) (vH : Int64) (ao : Nat) (ax : Nat) (np : Nat) (ay : Nat) (nl : Nat) (ad : Nat) (al : Nat) (sn : Nat) (ag : Nat) (ta : Nat) (nb : Int32) (k0 : Int32) (a : Int32) (hc : no ≤ 20) (hn : ¬ (xin k0 no)) : Met l xy_MD_use xw_MD_use ({ frames := 2, cells := 0, slots := 0, locals := 43 }) (xp_w [.ref h0, .int k0, .int a] sz (dC, dI) xCl [(h0, .inr (7, [.int th, .int (nI nm), .ref ap, .int (nI no), .ref am, .ref aw, .ref az, .ref au, .int kn, .long vP, .long vQ, .long vS, .long vT, .long vB, .long vM, .long vH, .ref ao, .ref ax, .int (nI np), .ref ay, .int (nI nl), .ref ad, .ref al, .int (nI sn), .ref ag, .int (nI ta), .int nb]))] []) (va_Qi (fun (r : Int32) (_ : Unit) => r = 0) (fun _ t => xb_w (dC, dI) xCl [(h0, .inr (7, [.int (md_th (bI (xin k0 no)) 1 1), .int (nI nm), .ref ap, .int (nI no), .ref am, .ref aw, .ref az, .ref au, .int kn, .long vP, .long vQ, .long vS, .long vT, .long vB, .long vM, .long vH, .ref ao, .ref ax, .int (nI np), .ref ay, .int (nI nl), .ref ad, .ref al, .int (nI sn), .ref ag, .int (nI ta), .int nb]))] [] (va_A [(h0, .inr (7, [.int th, .int (nI nm), .ref ap, .int (nI no), .ref am, .ref aw, .ref az, .ref au, .int kn, .long vP, .long vQ, .long vS, .long vT, .long vB, .long vM, .long vH, .ref ao, .ref ax, .int (nI np), .ref ay, .int (nI nl), .ref ad, .ref al, .int (nI sn), .ref ag, .int (nI ta), .int nb]))] sz) t) (va_A [(h0, .inr (7, [.int th, .int (nI nm), .ref ap, .int (nI no), .ref am, .ref aw, .ref az, .ref au, .int kn, .long vP, .long vQ, .long vS, .long vT, .long vB, .long vM, .long vH, .ref ao, .ref ax, .int (nI np), .ref ay, .int (nI nl), .ref ad, .ref al, .int (nI sn), .ref ag, .int (nI ta), .int nb]))] sz)) 0 0 (va_A [(h0, .inr (7, [.int th, .int (nI nm), .ref ap, .int (nI no), .ref am, .ref aw, .ref az, .ref au, .int kn, .long vP, .long vQ, .long vS, .long vT, .long vB, .long vM, .long vH, .ref ao, .ref ax, .int (nI np), .ref ay, .int (nI nl), .ref ad, .ref al, .int (nI sn), .ref ag, .int (nI ta), .int nb]))] sz) := by
  refine Met.ofW (cc := prog_9_method_12_code) (maxL := 4) (ret := (some .boolean)) (by decide) rfl ?_
  intro p e s m args below meth c s₁ B hml hv
  obtain ⟨rfl, hsz, hz, hP, hK, hD0⟩ := hv
  have hx := B.exec
  have hb := B.bytes
  have hr := B.returns
  have hts := atoms_spec (ws := xw_MD_use) B.pre
  have hown : s.vm.findClass xR_MD = some m.cls := findClass_of_methodNamed B.named
  have hlocks := B.notSynchronized
  subst hsz
  have hD := hD0.self (sz := s.heap.size)
  generalize hAe : va_A [(h0, .inr (7, [.int th, .int (nI nm), .ref ap, .int (nI no), .ref am, .ref aw, .ref az, .ref au, .int kn, .long vP, .long vQ, .long vS, .long vT, .long vB, .long vM, .long vH, .ref ao, .ref ax, .int (nI np), .ref ay, .int (nI nl), .ref ad, .ref al, .int (nI sn), .ref ag, .int (nI ta), .int nb]))] s.heap.size = A at hD ⊢
  have hA : ∀ q : Nat, s.heap.size ≤ q → A q := fun q h => by rw [← hAe]; exact Or.inr h
  have hS : va_S A s.heap s.heap [] := va_S.rf
  have hP : va_P (dC, dI) xCl [(h0, .inr (7, [.int th, .int (nI nm), .ref ap, .int (nI no), .ref am, .ref aw, .ref az, .ref au, .int kn, .long vP, .long vQ, .long vS, .long vT, .long vB, .long vM, .long vH, .ref ao, .ref ax, .int (nI np), .ref ay, .int (nI nl), .ref ad, .ref al, .int (nI sn), .ref ag, .int (nI ta), .int nb]))] s.heap := hP
  have hl := lv_entry ([.ref h0, .int k0, .int a]) (n := 4) (Nat.le_of_ble_eq_true rfl)
  rw [lg_entry_eq]
  generalize (lg_sl ([.ref h0, .int k0, .int a]) ++ List.replicate (4 - (lg_sl ([.ref h0, .int k0, .int a])).length) Slot.unset).toArray = ls at hl ⊢
  have hl : lv_has ls 4 [(0, .ref h0), (1, .int k0), (2, .int a)] := hl
  refine lv_aload_n hx hb d_MD_use_0 rfl (lv_at hl 0 rfl) ?_
  refine lv_aload_n hx hb d_MD_use_1 rfl (lv_at hl 0 rfl) ?_
  refine lv_iload_n hx hb d_MD_use_2 rfl (lv_at hl 1 rfl) ?_
  refine xr_calli (va_runV (As := [.int k0]) (rest := [.ref h0]) ⟨hx, hb, hml, hown, hts⟩ (c_MD_isObservation l dC dI h0 th nm ap no am aw az au kn vP vQ vS vT vB vM vH ao ax np ay nl ad al sn ag ta nb k0 (by first | assumption | omega | decide)) (cwV 1 hts (xgV wm_809 wm_811 wm_15 wm_34 wm_812) rfl rfl rfl (by decide +kernel) ⟨Nat.le_of_ble_eq_true rfl, Nat.le_of_ble_eq_true rfl⟩) ⟨xp_blind, va_recv hK hP (ci := 7) (q0 := 0) rfl rfl, fun U hU hW => ⟨rfl, hz.warm hW, by rw [hU]; exact hP.sub [0] rfl, va_K.moved hW.alike (hK.sub [] rfl)⟩⟩ rfl rfl hl.1 rfl (lv_room (Nat.le_of_ble_eq_true rfl)) d_MD_use_3 ⟨Nat.le_of_ble_eq_true rfl, Nat.le_of_ble_eq_true rfl⟩) (fun r_1 h_2 => ?_)
  subst h_2
  refine lv_iconst (v := 1) hx hb d_MD_use_6 (by decide) ?_
  refine lv_iconst (v := 1) hx hb d_MD_use_7 (by decide) ?_
  have hPc := hP.sub (ws' := [(h0, .inr (7, [.int th, .int (nI nm), .ref ap, .int (nI no), .ref am, .ref aw, .ref az, .ref au, .int kn, .long vP, .long vQ, .long vS, .long vT, .long vB, .long vM, .long vH, .ref ao, .ref ax, .int (nI np), .ref ay, .int (nI nl), .ref ad, .ref al, .int (nI sn), .ref ag, .int (nI ta), .int nb]))]) [0] rfl
  have hDc := hD.sub (ws' := [(h0, .inr (7, [.int th, .int (nI nm), .ref ap, .int (nI no), .ref am, .ref aw, .ref az, .ref au, .int kn, .long vP, .long vQ, .long vS, .long vT, .long vB, .long vM, .long vH, .ref ao, .ref ax, .int (nI np), .ref ay, .int (nI nl), .ref ad, .ref al, .int (nI sn), .ref ag, .int (nI ta), .int nb]))]) [0] (by decide) rfl
  have hKc := hK.sub (tys' := []) [] rfl
  have hFc := va_free (wc := [(h0, .inr (7, [.int th, .int (nI nm), .ref ap, .int (nI no), .ref am, .ref aw, .ref az, .ref au, .int kn, .long vP, .long vQ, .long vS, .long vT, .long vB, .long vM, .long vH, .ref ao, .ref ax, .int (nI np), .ref ay, .int (nI nl), .ref ad, .ref al, .int (nI sn), .ref ag, .int (nI ta), .int nb]))]) hD hS hA [0] rfl
  refine va_calli (va_runV (As := [.int (bI (xin k0 no)), .int 1, .int 1]) (rest := []) ⟨hx, hb, hml, hown, hts⟩ (c_MD_goes l dC dI s.heap.size h0 th nm ap no am aw az au kn vP vQ vS vT vB vM vH ao ax np ay nl ad al sn ag ta nb (bI (xin k0 no)) 1 1) (cwV 3 hts (xgV wm_793 wm_795 wm_13 wm_34 wm_796) rfl rfl rfl (by decide +kernel) ⟨Nat.le_of_ble_eq_true rfl, Nat.le_of_ble_eq_true rfl⟩) ⟨xw_blind, va_recv hKc hPc (ci := 7) (q0 := 0) rfl rfl, fun U hU hW => ⟨rfl, by rw [hU], hz.warm hW, by rw [hU]; exact hPc, va_K.moved hW.alike hKc, hDc.weaken (fun _ _ _ _ => trivial)⟩⟩ rfl rfl hl.1 rfl (lv_room (Nat.le_of_ble_eq_true rfl)) d_MD_use_8 ⟨Nat.le_of_ble_eq_true rfl, Nat.le_of_ble_eq_true rfl⟩) hS (fun q _ h => hFc q h) hFc (fun r_3 _ t H1 locs ht hvm hw_4 hB hz1 hk1 hS => ?_)
  obtain ⟨hP1, hK1, hD1⟩ := hB
  rw [ht] at hP1
  have hK1 := va_K.moved hvm.symm hK1
  obtain ⟨hP, hD⟩ := va_join (wr := []) (w1 := [(h0, .inr (7, [.int (md_th (bI (xin k0 no)) 1 1), .int (nI nm), .ref ap, .int (nI no), .ref am, .ref aw, .ref az, .ref au, .int kn, .long vP, .long vQ, .long vS, .long vT, .long vB, .long vM, .long vH, .ref ao, .ref ax, .int (nI np), .ref ay, .int (nI nl), .ref ad, .ref al, .int (nI sn), .ref ag, .int (nI ta), .int nb]))]) hP hD [0] [] rfl rfl (by decide) (by decide) hk1 hFc hP1 hD1
  generalize H1 = H at hP hS ⊢
  have hP : va_P (dC, dI) xCl [(h0, .inr (7, [.int (md_th (bI (xin k0 no)) 1 1), .int (nI nm), .ref ap, .int (nI no), .ref am, .ref aw, .ref az, .ref au, .int kn, .long vP, .long vQ, .long vS, .long vT, .long vB, .long vM, .long vH, .ref ao, .ref ax, .int (nI np), .ref ay, .int (nI nl), .ref ad, .ref al, .int (nI sn), .ref ag, .int (nI ta), .int nb]))] H := hP
  have hD : va_D A [(h0, .inr (7, [.int (md_th (bI (xin k0 no)) 1 1), .int (nI nm), .ref ap, .int (nI no), .ref am, .ref aw, .ref az, .ref au, .int kn, .long vP, .long vQ, .long vS, .long vT, .long vB, .long vM, .long vH, .ref ao, .ref ax, .int (nI np), .ref ay, .int (nI nl), .ref ad, .ref al, .int (nI sn), .ref ag, .int (nI ta), .int nb]))] := hD
  subst hw_4
  refine lv_if_ne (tgt := 16) hx hb d_MD_use_11 (by decide) (fun c_5 => ?_) (fun c_5 => ?_)
  · exact absurd (md_th_all (bI_t rfl c_5)) (fun q => hn (bI_of q.1))
  · have b_6 := bI_f (rfl : bI (md_th (bI (xin k0 no)) 1 1 = 0) = _) c_5
    refine lv_iconst (v := 0) hx hb d_MD_use_14 (by decide) ?_
    have hP9 := hP.sub (ws' := [(h0, .inr (7, [.int (md_th (bI (xin k0 no)) 1 1), .int (nI nm), .ref ap, .int (nI no), .ref am, .ref aw, .ref az, .ref au, .int kn, .long vP, .long vQ, .long vS, .long vT, .long vB, .long vM, .long vH, .ref ao, .ref ax, .int (nI np), .ref ay, .int (nI nl), .ref ad, .ref al, .int (nI sn), .ref ag, .int (nI ta), .int nb]))]) [0] rfl
    have hD9 := hD.sub (ws' := [(h0, .inr (7, [.int (md_th (bI (xin k0 no)) 1 1), .int (nI nm), .ref ap, .int (nI no), .ref am, .ref aw, .ref az, .ref au, .int kn, .long vP, .long vQ, .long vS, .long vT, .long vB, .long vM, .long vH, .ref ao, .ref ax, .int (nI np), .ref ay, .int (nI nl), .ref ad, .ref al, .int (nI sn), .ref ag, .int (nI ta), .int nb]))]) [0] (by decide) rfl
    have hK9 := hK.sub (tys' := []) [] rfl
    exact W.zret (v := 0) (ty := .boolean) hx hb hr (by exact rfl) (fun t ht hW => ⟨⟨0, (), rfl, rfl, ⟨by rw [ht]; exact hP9, va_K.moved hW.alike hK9, by exact hD9⟩⟩, hS.F ht⟩) hS.2.2 d_MD_use_15 hlocks
set_option maxHeartbeats 4000000 in
set_option maxRecDepth 100000 in
/-- level -/
theorem c_MD_level_y (l : Launch) (dC : Nat → ClassId) (dI : Nat → Nat → Nat) (sz : Nat) (h0 : Nat) (th : Int32) (nm : Nat) (ap : Nat) (no : Nat) (am : Nat) (aw : Nat) (az : Nat) (au : Nat) (kn : Int32) (vP : Int64) (vQ : Int64) (vS : Int64) (vT : Int64) (vB : Int64) (vM : Int64) (vH : Int64) (ao : Nat) (ax : Nat) (np : Nat) (ay : Nat) (nl : Nat) (ad : Nat) (al : Nat) (sn : Nat) (ag : Nat) (ta : Nat) (nb : Int32) (kd : ClassId) (kl : ClassId) (gd : Nat → Int32) (gl : Nat → Int32) (a : Int32) (b : Int32) (hc : nl < 12) (hw : md_win a (-100000) 100000 ∧ md_win b 1 10000) : Met l xy_MD_level xw_MD_level ({ frames := 1, cells := 0, slots := 0, locals := 23 }) (xp_w [.ref h0, .int a, .int b] sz (dC, dI) xCl [(h0, .inr (7, [.int th, .int (nI nm), .ref ap, .int (nI no), .ref am, .ref aw, .ref az, .ref au, .int kn, .long vP, .long vQ, .long vS, .long vT, .long vB, .long vM, .long vH, .ref ao, .ref ax, .int (nI np), .ref ay, .int (nI nl), .ref ad, .ref al, .int (nI sn), .ref ag, .int (nI ta), .int nb])), (ad, .inl (kd, 12, .inl gd)), (al, .inl (kl, 12, .inl gl))] [(kd, .int), (kl, .int)]) (va_Qi (fun (r : Int32) (_ : Unit) => r = nI nl) (fun _ t => xb_w (dC, dI) xCl [(h0, .inr (7, [.int 0, .int (nI nm), .ref ap, .int (nI no), .ref am, .ref aw, .ref az, .ref au, .int kn, .long vP, .long vQ, .long vS, .long vT, .long vB, .long vM, .long vH, .ref ao, .ref ax, .int (nI np), .ref ay, .int (nI (nl + 1)), .ref ad, .ref al, .int (nI sn), .ref ag, .int (nI ta), .int nb])), (ad, .inl (kd, 12, .inl (upd gd nl a))), (al, .inl (kl, 12, .inl (upd gl nl b)))] [(kd, .int), (kl, .int)] (va_A [(h0, .inr (7, [.int th, .int (nI nm), .ref ap, .int (nI no), .ref am, .ref aw, .ref az, .ref au, .int kn, .long vP, .long vQ, .long vS, .long vT, .long vB, .long vM, .long vH, .ref ao, .ref ax, .int (nI np), .ref ay, .int (nI nl), .ref ad, .ref al, .int (nI sn), .ref ag, .int (nI ta), .int nb])), (ad, .inl (kd, 12, .inl gd)), (al, .inl (kl, 12, .inl gl))] sz) t) (va_A [(h0, .inr (7, [.int th, .int (nI nm), .ref ap, .int (nI no), .ref am, .ref aw, .ref az, .ref au, .int kn, .long vP, .long vQ, .long vS, .long vT, .long vB, .long vM, .long vH, .ref ao, .ref ax, .int (nI np), .ref ay, .int (nI nl), .ref ad, .ref al, .int (nI sn), .ref ag, .int (nI ta), .int nb])), (ad, .inl (kd, 12, .inl gd)), (al, .inl (kl, 12, .inl gl))] sz)) 0 0 (va_A [(h0, .inr (7, [.int th, .int (nI nm), .ref ap, .int (nI no), .ref am, .ref aw, .ref az, .ref au, .int kn, .long vP, .long vQ, .long vS, .long vT, .long vB, .long vM, .long vH, .ref ao, .ref ax, .int (nI np), .ref ay, .int (nI nl), .ref ad, .ref al, .int (nI sn), .ref ag, .int (nI ta), .int nb])), (ad, .inl (kd, 12, .inl gd)), (al, .inl (kl, 12, .inl gl))] sz) := by
  refine Met.ofW (cc := prog_9_method_26_code) (maxL := 3) (ret := (some .int)) (by decide) rfl ?_
  intro p e s m args below meth c s₁ B hml hv
  obtain ⟨rfl, hsz, hz, hP, hK, hD0⟩ := hv
  have hx := B.exec
  have hb := B.bytes
  have hr := B.returns
  have hts := atoms_spec (ws := xw_MD_level) B.pre
  have hown : s.vm.findClass xR_MD = some m.cls := findClass_of_methodNamed B.named
  have hlocks := B.notSynchronized
  subst hsz
  have hD := hD0.self (sz := s.heap.size)
  generalize hAe : va_A [(h0, .inr (7, [.int th, .int (nI nm), .ref ap, .int (nI no), .ref am, .ref aw, .ref az, .ref au, .int kn, .long vP, .long vQ, .long vS, .long vT, .long vB, .long vM, .long vH, .ref ao, .ref ax, .int (nI np), .ref ay, .int (nI nl), .ref ad, .ref al, .int (nI sn), .ref ag, .int (nI ta), .int nb])), (ad, .inl (kd, 12, .inl gd)), (al, .inl (kl, 12, .inl gl))] s.heap.size = A at hD ⊢
  have hA : ∀ q : Nat, s.heap.size ≤ q → A q := fun q h => by rw [← hAe]; exact Or.inr h
  have hS : va_S A s.heap s.heap [] := va_S.rf
  have hP : va_P (dC, dI) xCl [(h0, .inr (7, [.int th, .int (nI nm), .ref ap, .int (nI no), .ref am, .ref aw, .ref az, .ref au, .int kn, .long vP, .long vQ, .long vS, .long vT, .long vB, .long vM, .long vH, .ref ao, .ref ax, .int (nI np), .ref ay, .int (nI nl), .ref ad, .ref al, .int (nI sn), .ref ag, .int (nI ta), .int nb])), (ad, .inl (kd, 12, .inl gd)), (al, .inl (kl, 12, .inl gl))] s.heap := hP
  have hl := lv_entry ([.ref h0, .int a, .int b]) (n := 3) (Nat.le_of_ble_eq_true rfl)
  rw [lg_entry_eq]
  generalize (lg_sl ([.ref h0, .int a, .int b]) ++ List.replicate (3 - (lg_sl ([.ref h0, .int a, .int b])).length) Slot.unset).toArray = ls at hl ⊢
  have hl : lv_has ls 3 [(0, .ref h0), (1, .int a), (2, .int b)] := hl
  refine lv_aload_n hx hb d_MD_level_0 rfl (lv_at hl 0 rfl) ?_
  refine lv_aload_n hx hb d_MD_level_1 rfl (lv_at hl 0 rfl) ?_
  refine va_get (D := (dC, dI)) (ci := 7) (v := .int (nI nl)) (C := xR_MD) (T := xT_MD) (N := 27) hx hb hts (fun w h => List.mem_cons_of_mem _ (iw_MD w h)) hown hK hP 0 rfl rfl 20 (by decide) (hts _ (List.mem_cons_of_mem _ wm_717)) (fun _ h9 => h9) rfl d_MD_level_2 ?_
  refine lv_bipush (v := 12) hx hb d_MD_level_5 (by decide) ?_
  refine lv_icmp_ge (tgt := 14) hx hb d_MD_level_7 (by decide) (fun c_1 => ?_) (fun c_1 => ?_)
  · exact absurd (xn_le (a := 12) (b := nl) c_1 (by decide) rfl (by omega) (by omega)) (by omega)
  · have n_2 := xn_nle (a := 12) (b := nl) c_1 (by decide) rfl (by omega) (by omega)
    refine lv_iconst (v := 1) hx hb d_MD_level_10 (by decide) ?_
    refine lv_goto (tgt := 15) hx hb d_MD_level_11 (by decide) ?_
    refine lv_iload_n hx hb d_MD_level_15 rfl (lv_at hl 1 rfl) ?_
    refine lv_ldc (v := (-100000)) hx hb hown (hts _ (List.mem_cons_of_mem _ wm_877)) d_MD_level_16 ?_
    refine lv_ldc (v := 100000) hx hb hown (hts _ (List.mem_cons_of_mem _ wm_856)) d_MD_level_18 ?_
    refine xr_calli (va_runS (As := [.int a, .int (-100000), .int 100000]) (rest := [.int 1, .ref h0]) ⟨hx, hb, hml, hown, hts⟩ (c_MD_within l dC dI a (-100000) 100000) (va_cwS 3 hts (xgS wm_790 wm_791 wm_34 wm_792) rfl rfl rfl (by decide +kernel) ⟨Nat.le_of_ble_eq_true rfl, Nat.le_of_ble_eq_true rfl⟩) ⟨xp_blind, fun U hU hW => ⟨rfl, hz.warm hW, by rw [hU]; exact hP.sub [] rfl, va_K.moved hW.alike (hK.sub [] rfl)⟩⟩ rfl rfl hl.1 rfl (lv_room (Nat.le_of_ble_eq_true rfl)) d_MD_level_20 ⟨Nat.le_of_ble_eq_true rfl, Nat.le_of_ble_eq_true rfl⟩) (fun r_3 h_4 => ?_)
    subst h_4
    refine lv_if_eq (tgt := 41) hx hb d_MD_level_23 (by decide) (fun c_5 => ?_) (fun c_5 => ?_)
    · exact absurd hw.1 (bI_f rfl c_5)
    · have b_6 := bI_t (rfl : bI (md_win a (-100000) 100000) = _) c_5
      refine lv_iload_n hx hb d_MD_level_26 rfl (lv_at hl 2 rfl) ?_
      refine lv_iconst (v := 1) hx hb d_MD_level_27 (by decide) ?_
      refine lv_sipush (v := 10000) hx hb d_MD_level_28 (by decide) ?_
      refine xr_calli (va_runS (As := [.int b, .int 1, .int 10000]) (rest := [.int 1, .ref h0]) ⟨hx, hb, hml, hown, hts⟩ (c_MD_within l dC dI b 1 10000) (va_cwS 3 hts (xgS wm_790 wm_791 wm_34 wm_792) rfl rfl rfl (by decide +kernel) ⟨Nat.le_of_ble_eq_true rfl, Nat.le_of_ble_eq_true rfl⟩) ⟨xp_blind, fun U hU hW => ⟨rfl, hz.warm hW, by rw [hU]; exact hP.sub [] rfl, va_K.moved hW.alike (hK.sub [] rfl)⟩⟩ rfl rfl hl.1 rfl (lv_room (Nat.le_of_ble_eq_true rfl)) d_MD_level_31 ⟨Nat.le_of_ble_eq_true rfl, Nat.le_of_ble_eq_true rfl⟩) (fun r_7 h_8 => ?_)
      subst h_8
      refine lv_if_eq (tgt := 41) hx hb d_MD_level_34 (by decide) (fun c_9 => ?_) (fun c_9 => ?_)
      · exact absurd hw.2 (bI_f rfl c_9)
      · have b_10 := bI_t (rfl : bI (md_win b 1 10000) = _) c_9
        refine lv_iconst (v := 1) hx hb d_MD_level_37 (by decide) ?_
        refine lv_goto (tgt := 42) hx hb d_MD_level_38 (by decide) ?_
        refine lv_iconst (v := 1) hx hb d_MD_level_42 (by decide) ?_
        have hPc := hP.sub (ws' := [(h0, .inr (7, [.int th, .int (nI nm), .ref ap, .int (nI no), .ref am, .ref aw, .ref az, .ref au, .int kn, .long vP, .long vQ, .long vS, .long vT, .long vB, .long vM, .long vH, .ref ao, .ref ax, .int (nI np), .ref ay, .int (nI nl), .ref ad, .ref al, .int (nI sn), .ref ag, .int (nI ta), .int nb]))]) [0] rfl
        have hDc := hD.sub (ws' := [(h0, .inr (7, [.int th, .int (nI nm), .ref ap, .int (nI no), .ref am, .ref aw, .ref az, .ref au, .int kn, .long vP, .long vQ, .long vS, .long vT, .long vB, .long vM, .long vH, .ref ao, .ref ax, .int (nI np), .ref ay, .int (nI nl), .ref ad, .ref al, .int (nI sn), .ref ag, .int (nI ta), .int nb]))]) [0] (by decide) rfl
        have hKc := hK.sub (tys' := []) [] rfl
        have hFc := va_free (wc := [(h0, .inr (7, [.int th, .int (nI nm), .ref ap, .int (nI no), .ref am, .ref aw, .ref az, .ref au, .int kn, .long vP, .long vQ, .long vS, .long vT, .long vB, .long vM, .long vH, .ref ao, .ref ax, .int (nI np), .ref ay, .int (nI nl), .ref ad, .ref al, .int (nI sn), .ref ag, .int (nI ta), .int nb]))]) hD hS hA [0] rfl
        refine va_calli (va_runV (As := [.int 1, .int 1, .int 1]) (rest := []) ⟨hx, hb, hml, hown, hts⟩ (c_MD_goes l dC dI s.heap.size h0 th nm ap no am aw az au kn vP vQ vS vT vB vM vH ao ax np ay nl ad al sn ag ta nb 1 1 1) (cwV 3 hts (xgV wm_793 wm_795 wm_13 wm_34 wm_796) rfl rfl rfl (by decide +kernel) ⟨Nat.le_of_ble_eq_true rfl, Nat.le_of_ble_eq_true rfl⟩) ⟨xw_blind, va_recv hKc hPc (ci := 7) (q0 := 0) rfl rfl, fun U hU hW => ⟨rfl, by rw [hU], hz.warm hW, by rw [hU]; exact hPc, va_K.moved hW.alike hKc, hDc.weaken (fun _ _ _ _ => trivial)⟩⟩ rfl rfl hl.1 rfl (lv_room (Nat.le_of_ble_eq_true rfl)) d_MD_level_43 ⟨Nat.le_of_ble_eq_true rfl, Nat.le_of_ble_eq_true rfl⟩) hS (fun q _ h => hFc q h) hFc (fun r_11 _ t H1 locs ht hvm hw_12 hB hz1 hk1 hS => ?_)
        obtain ⟨hP1, hK1, hD1⟩ := hB
        rw [ht] at hP1
        have hK1 := va_K.moved hvm.symm hK1
        obtain ⟨hP, hD⟩ := va_join (wr := [(ad, .inl (kd, 12, .inl gd)), (al, .inl (kl, 12, .inl gl))]) (w1 := [(h0, .inr (7, [.int (md_th 1 1 1), .int (nI nm), .ref ap, .int (nI no), .ref am, .ref aw, .ref az, .ref au, .int kn, .long vP, .long vQ, .long vS, .long vT, .long vB, .long vM, .long vH, .ref ao, .ref ax, .int (nI np), .ref ay, .int (nI nl), .ref ad, .ref al, .int (nI sn), .ref ag, .int (nI ta), .int nb]))]) hP hD [0] [1, 2] rfl rfl (by decide) (by decide) hk1 hFc hP1 hD1
        generalize H1 = H at hP hS ⊢
        have hP : va_P (dC, dI) xCl [(ad, .inl (kd, 12, .inl gd)), (al, .inl (kl, 12, .inl gl)), (h0, .inr (7, [.int (md_th 1 1 1), .int (nI nm), .ref ap, .int (nI no), .ref am, .ref aw, .ref az, .ref au, .int kn, .long vP, .long vQ, .long vS, .long vT, .long vB, .long vM, .long vH, .ref ao, .ref ax, .int (nI np), .ref ay, .int (nI nl), .ref ad, .ref al, .int (nI sn), .ref ag, .int (nI ta), .int nb]))] H := hP
        have hD : va_D A [(ad, .inl (kd, 12, .inl gd)), (al, .inl (kl, 12, .inl gl)), (h0, .inr (7, [.int (md_th 1 1 1), .int (nI nm), .ref ap, .int (nI no), .ref am, .ref aw, .ref az, .ref au, .int kn, .long vP, .long vQ, .long vS, .long vT, .long vB, .long vM, .long vH, .ref ao, .ref ax, .int (nI np), .ref ay, .int (nI nl), .ref ad, .ref al, .int (nI sn), .ref ag, .int (nI ta), .int nb]))] := hD
        subst hw_12
        refine lv_if_ne (tgt := 51) hx hb d_MD_level_46 (by decide) (fun c_13 => ?_) (fun c_13 => ?_)
        · have b_14 := bI_t (rfl : bI (md_th 1 1 1 = 0) = _) c_13
          refine lv_aload_n hx hb d_MD_level_51 rfl (lv_at hl 0 rfl) ?_
          refine va_get (D := (dC, dI)) (ci := 7) (v := .ref ad) (C := xR_MD) (T := xT_MD) (N := 27) hx hb hts (fun w h => List.mem_cons_of_mem _ (iw_MD w h)) hown hK hP 2 rfl rfl 21 (by decide) (hts _ (List.mem_cons_of_mem _ wm_718)) (fun _ h9 => h9) rfl d_MD_level_52 ?_
          refine lv_aload_n hx hb d_MD_level_55 rfl (lv_at hl 0 rfl) ?_
          refine va_get (D := (dC, dI)) (ci := 7) (v := .int (nI nl)) (C := xR_MD) (T := xT_MD) (N := 27) hx hb hts (fun w h => List.mem_cons_of_mem _ (iw_MD w h)) hown hK hP 2 rfl rfl 20 (by decide) (hts _ (List.mem_cons_of_mem _ wm_717)) (fun _ h9 => h9) rfl d_MD_level_56 ?_
          refine lv_iload_n hx hb d_MD_level_59 rfl (lv_at hl 1 rfl) ?_
          refine xa_iast hx hb hK hP hD hS 0 0 rfl rfl nl rfl (by omega) (by decide) d_MD_level_60 (fun H locs hP hD hS => ?_)
          have hP : va_P (dC, dI) xCl [(ad, .inl (kd, 12, .inl (upd gd nl a))), (al, .inl (kl, 12, .inl gl)), (h0, .inr (7, [.int (md_th 1 1 1), .int (nI nm), .ref ap, .int (nI no), .ref am, .ref aw, .ref az, .ref au, .int kn, .long vP, .long vQ, .long vS, .long vT, .long vB, .long vM, .long vH, .ref ao, .ref ax, .int (nI np), .ref ay, .int (nI nl), .ref ad, .ref al, .int (nI sn), .ref ag, .int (nI ta), .int nb]))] H := hP
          have hD : va_D A [(ad, .inl (kd, 12, .inl (upd gd nl a))), (al, .inl (kl, 12, .inl gl)), (h0, .inr (7, [.int (md_th 1 1 1), .int (nI nm), .ref ap, .int (nI no), .ref am, .ref aw, .ref az, .ref au, .int kn, .long vP, .long vQ, .long vS, .long vT, .long vB, .long vM, .long vH, .ref ao, .ref ax, .int (nI np), .ref ay, .int (nI nl), .ref ad, .ref al, .int (nI sn), .ref ag, .int (nI ta), .int nb]))] := hD
          refine lv_aload_n hx hb d_MD_level_61 rfl (lv_at hl 0 rfl) ?_
          refine va_get (D := (dC, dI)) (ci := 7) (v := .ref al) (C := xR_MD) (T := xT_MD) (N := 27) hx hb hts (fun w h => List.mem_cons_of_mem _ (iw_MD w h)) hown hK hP 2 rfl rfl 22 (by decide) (hts _ (List.mem_cons_of_mem _ wm_719)) (fun _ h9 => h9) rfl d_MD_level_62 ?_
          refine lv_aload_n hx hb d_MD_level_65 rfl (lv_at hl 0 rfl) ?_
          refine va_get (D := (dC, dI)) (ci := 7) (v := .int (nI nl)) (C := xR_MD) (T := xT_MD) (N := 27) hx hb hts (fun w h => List.mem_cons_of_mem _ (iw_MD w h)) hown hK hP 2 rfl rfl 20 (by decide) (hts _ (List.mem_cons_of_mem _ wm_717)) (fun _ h9 => h9) rfl d_MD_level_66 ?_
          refine lv_iload_n hx hb d_MD_level_69 rfl (lv_at hl 2 rfl) ?_
          refine xa_iast hx hb hK hP hD hS 1 1 rfl rfl nl rfl (by omega) (by decide) d_MD_level_70 (fun H locs hP hD hS => ?_)
          have hP : va_P (dC, dI) xCl [(ad, .inl (kd, 12, .inl (upd gd nl a))), (al, .inl (kl, 12, .inl (upd gl nl b))), (h0, .inr (7, [.int (md_th 1 1 1), .int (nI nm), .ref ap, .int (nI no), .ref am, .ref aw, .ref az, .ref au, .int kn, .long vP, .long vQ, .long vS, .long vT, .long vB, .long vM, .long vH, .ref ao, .ref ax, .int (nI np), .ref ay, .int (nI nl), .ref ad, .ref al, .int (nI sn), .ref ag, .int (nI ta), .int nb]))] H := hP
          have hD : va_D A [(ad, .inl (kd, 12, .inl (upd gd nl a))), (al, .inl (kl, 12, .inl (upd gl nl b))), (h0, .inr (7, [.int (md_th 1 1 1), .int (nI nm), .ref ap, .int (nI no), .ref am, .ref aw, .ref az, .ref au, .int kn, .long vP, .long vQ, .long vS, .long vT, .long vB, .long vM, .long vH, .ref ao, .ref ax, .int (nI np), .ref ay, .int (nI nl), .ref ad, .ref al, .int (nI sn), .ref ag, .int (nI ta), .int nb]))] := hD
          refine lv_aload_n hx hb d_MD_level_71 rfl (lv_at hl 0 rfl) ?_
          refine lv_dup hx hb d_MD_level_72 rfl ?_
          refine va_get (D := (dC, dI)) (ci := 7) (v := .int (nI nl)) (C := xR_MD) (T := xT_MD) (N := 27) hx hb hts (fun w h => List.mem_cons_of_mem _ (iw_MD w h)) hown hK hP 2 rfl rfl 20 (by decide) (hts _ (List.mem_cons_of_mem _ wm_717)) (fun _ h9 => h9) rfl d_MD_level_73 ?_
          refine lv_iconst (v := 1) hx hb d_MD_level_76 (by decide) ?_
          refine lv_iadd hx hb d_MD_level_77 ?_
          refine xv_i (y := nI (nl + 1)) (nI_1 _) ?_
          refine va_put (D := (dC, dI)) (ci := 7) (v := .int (nI (nl + 1))) (ty := .int) (C := xR_MD) (T := xT_MD) (N := 27) hx hb hts (fun w h => List.mem_cons_of_mem _ (iw_MD w h)) xt_MD xt_MD_ok xn_MD_nm hown hK hP hD hS 2 rfl rfl 20 (by decide) (hts _ (List.mem_cons_of_mem _ wm_717)) (fun _ h9 => h9) rfl (by decide +kernel) rfl rfl (Nat.le_of_ble_eq_true rfl) d_MD_level_78 (fun H locs hP hD hS => ?_)
          have hP : va_P (dC, dI) xCl [(ad, .inl (kd, 12, .inl (upd gd nl a))), (al, .inl (kl, 12, .inl (upd gl nl b))), (h0, .inr (7, [.int (md_th 1 1 1), .int (nI nm), .ref ap, .int (nI no), .ref am, .ref aw, .ref az, .ref au, .int kn, .long vP, .long vQ, .long vS, .long vT, .long vB, .long vM, .long vH, .ref ao, .ref ax, .int (nI np), .ref ay, .int (nI (nl + 1)), .ref ad, .ref al, .int (nI sn), .ref ag, .int (nI ta), .int nb]))] H := hP
          have hD : va_D A [(ad, .inl (kd, 12, .inl (upd gd nl a))), (al, .inl (kl, 12, .inl (upd gl nl b))), (h0, .inr (7, [.int (md_th 1 1 1), .int (nI nm), .ref ap, .int (nI no), .ref am, .ref aw, .ref az, .ref au, .int kn, .long vP, .long vQ, .long vS, .long vT, .long vB, .long vM, .long vH, .ref ao, .ref ax, .int (nI np), .ref ay, .int (nI (nl + 1)), .ref ad, .ref al, .int (nI sn), .ref ag, .int (nI ta), .int nb]))] := hD
          refine lv_aload_n hx hb d_MD_level_81 rfl (lv_at hl 0 rfl) ?_
          refine va_get (D := (dC, dI)) (ci := 7) (v := .int (nI (nl + 1))) (C := xR_MD) (T := xT_MD) (N := 27) hx hb hts (fun w h => List.mem_cons_of_mem _ (iw_MD w h)) hown hK hP 2 rfl rfl 20 (by decide) (hts _ (List.mem_cons_of_mem _ wm_717)) (fun _ h9 => h9) rfl d_MD_level_82 ?_
          refine lv_iconst (v := 1) hx hb d_MD_level_85 (by decide) ?_
          refine lv_isub hx hb d_MD_level_86 ?_
          refine xv_i (y := nI nl) (nI_pred _) ?_
          rw [md_th_0 (by decide) (by decide) (by decide)] at hP hD
          have hP9 := hP.sub (ws' := [(h0, .inr (7, [.int 0, .int (nI nm), .ref ap, .int (nI no), .ref am, .ref aw, .ref az, .ref au, .int kn, .long vP, .long vQ, .long vS, .long vT, .long vB, .long vM, .long vH, .ref ao, .ref ax, .int (nI np), .ref ay, .int (nI (nl + 1)), .ref ad, .ref al, .int (nI sn), .ref ag, .int (nI ta), .int nb])), (ad, .inl (kd, 12, .inl (upd gd nl a))), (al, .inl (kl, 12, .inl (upd gl nl b)))]) [2, 0, 1] rfl
          have hD9 := hD.sub (ws' := [(h0, .inr (7, [.int 0, .int (nI nm), .ref ap, .int (nI no), .ref am, .ref aw, .ref az, .ref au, .int kn, .long vP, .long vQ, .long vS, .long vT, .long vB, .long vM, .long vH, .ref ao, .ref ax, .int (nI np), .ref ay, .int (nI (nl + 1)), .ref ad, .ref al, .int (nI sn), .ref ag, .int (nI ta), .int nb])), (ad, .inl (kd, 12, .inl (upd gd nl a))), (al, .inl (kl, 12, .inl (upd gl nl b)))]) [2, 0, 1] (by decide) rfl
          have hK9 := hK.sub (tys' := [(kd, .int), (kl, .int)]) [0, 1] rfl
          exact W.iret (v := nI nl) hx hb hr (fun t ht hW => ⟨⟨nI nl, (), rfl, rfl, ⟨by rw [ht]; exact hP9, va_K.moved hW.alike hK9, by exact hD9⟩⟩, hS.F ht⟩) hS.2.2 d_MD_level_87 hlocks
        · exact absurd (md_th_0 (by decide) (by decide) (by decide)) (bI_f rfl c_13)
set_option maxHeartbeats 4000000 in
set_option maxRecDepth 100000 in
/-- level, refused -/
theorem c_MD_level_n (l : Launch) (dC : Nat → ClassId) (dI : Nat → Nat → Nat) (sz : Nat) (h0 : Nat) (th : Int32) (nm : Nat) (ap : Nat) (no : Nat) (am : Nat) (aw : Nat) (az : Nat) (au : Nat) (kn : Int32) (vP : Int64) (vQ : Int64) (vS : Int64) (vT : Int64) (vB : Int64) (vM : Int64) (vH : Int64) (ao : Nat) (ax : Nat) (np : Nat) (ay : Nat) (nl : Nat) (ad : Nat) (al : Nat) (sn : Nat) (ag : Nat) (ta : Nat) (nb : Int32) (a : Int32) (b : Int32) (hc : nl ≤ 12) (hn : ¬ (nl < 12 ∧ (md_win a (-100000) 100000 ∧ md_win b 1 10000))) : Met l xy_MD_level xw_MD_level ({ frames := 1, cells := 0, slots := 0, locals := 23 }) (xp_w [.ref h0, .int a, .int b] sz (dC, dI) xCl [(h0, .inr (7, [.int th, .int (nI nm), .ref ap, .int (nI no), .ref am, .ref aw, .ref az, .ref au, .int kn, .long vP, .long vQ, .long vS, .long vT, .long vB, .long vM, .long vH, .ref ao, .ref ax, .int (nI np), .ref ay, .int (nI nl), .ref ad, .ref al, .int (nI sn), .ref ag, .int (nI ta), .int nb]))] []) (va_Qi (fun (r : Int32) (_ : Unit) => r = 0) (fun _ t => xb_w (dC, dI) xCl [(h0, .inr (7, [.int (md_th (bI (nl < 12)) (bI (md_win a (-100000) 100000 ∧ md_win b 1 10000)) 1), .int (nI nm), .ref ap, .int (nI no), .ref am, .ref aw, .ref az, .ref au, .int kn, .long vP, .long vQ, .long vS, .long vT, .long vB, .long vM, .long vH, .ref ao, .ref ax, .int (nI np), .ref ay, .int (nI nl), .ref ad, .ref al, .int (nI sn), .ref ag, .int (nI ta), .int nb]))] [] (va_A [(h0, .inr (7, [.int th, .int (nI nm), .ref ap, .int (nI no), .ref am, .ref aw, .ref az, .ref au, .int kn, .long vP, .long vQ, .long vS, .long vT, .long vB, .long vM, .long vH, .ref ao, .ref ax, .int (nI np), .ref ay, .int (nI nl), .ref ad, .ref al, .int (nI sn), .ref ag, .int (nI ta), .int nb]))] sz) t) (va_A [(h0, .inr (7, [.int th, .int (nI nm), .ref ap, .int (nI no), .ref am, .ref aw, .ref az, .ref au, .int kn, .long vP, .long vQ, .long vS, .long vT, .long vB, .long vM, .long vH, .ref ao, .ref ax, .int (nI np), .ref ay, .int (nI nl), .ref ad, .ref al, .int (nI sn), .ref ag, .int (nI ta), .int nb]))] sz)) 0 0 (va_A [(h0, .inr (7, [.int th, .int (nI nm), .ref ap, .int (nI no), .ref am, .ref aw, .ref az, .ref au, .int kn, .long vP, .long vQ, .long vS, .long vT, .long vB, .long vM, .long vH, .ref ao, .ref ax, .int (nI np), .ref ay, .int (nI nl), .ref ad, .ref al, .int (nI sn), .ref ag, .int (nI ta), .int nb]))] sz) := by
  refine Met.ofW (cc := prog_9_method_26_code) (maxL := 3) (ret := (some .int)) (by decide) rfl ?_
  intro p e s m args below meth c s₁ B hml hv
  obtain ⟨rfl, hsz, hz, hP, hK, hD0⟩ := hv
  have hx := B.exec
  have hb := B.bytes
  have hr := B.returns
  have hts := atoms_spec (ws := xw_MD_level) B.pre
  have hown : s.vm.findClass xR_MD = some m.cls := findClass_of_methodNamed B.named
  have hlocks := B.notSynchronized
  subst hsz
  have hD := hD0.self (sz := s.heap.size)
  generalize hAe : va_A [(h0, .inr (7, [.int th, .int (nI nm), .ref ap, .int (nI no), .ref am, .ref aw, .ref az, .ref au, .int kn, .long vP, .long vQ, .long vS, .long vT, .long vB, .long vM, .long vH, .ref ao, .ref ax, .int (nI np), .ref ay, .int (nI nl), .ref ad, .ref al, .int (nI sn), .ref ag, .int (nI ta), .int nb]))] s.heap.size = A at hD ⊢
  have hA : ∀ q : Nat, s.heap.size ≤ q → A q := fun q h => by rw [← hAe]; exact Or.inr h
  have hS : va_S A s.heap s.heap [] := va_S.rf
  have hP : va_P (dC, dI) xCl [(h0, .inr (7, [.int th, .int (nI nm), .ref ap, .int (nI no), .ref am, .ref aw, .ref az, .ref au, .int kn, .long vP, .long vQ, .long vS, .long vT, .long vB, .long vM, .long vH, .ref ao, .ref ax, .int (nI np), .ref ay, .int (nI nl), .ref ad, .ref al, .int (nI sn), .ref ag, .int (nI ta), .int nb]))] s.heap := hP
  have hl := lv_entry ([.ref h0, .int a, .int b]) (n := 3) (Nat.le_of_ble_eq_true rfl)
  rw [lg_entry_eq]
  generalize (lg_sl ([.ref h0, .int a, .int b]) ++ List.replicate (3 - (lg_sl ([.ref h0, .int a, .int b])).length) Slot.unset).toArray = ls at hl ⊢
  have hl : lv_has ls 3 [(0, .ref h0), (1, .int a), (2, .int b)] := hl
  refine lv_aload_n hx hb d_MD_level_0 rfl (lv_at hl 0 rfl) ?_
  refine lv_aload_n hx hb d_MD_level_1 rfl (lv_at hl 0 rfl) ?_
  refine va_get (D := (dC, dI)) (ci := 7) (v := .int (nI nl)) (C := xR_MD) (T := xT_MD) (N := 27) hx hb hts (fun w h => List.mem_cons_of_mem _ (iw_MD w h)) hown hK hP 0 rfl rfl 20 (by decide) (hts _ (List.mem_cons_of_mem _ wm_717)) (fun _ h9 => h9) rfl d_MD_level_2 ?_
  refine lv_bipush (v := 12) hx hb d_MD_level_5 (by decide) ?_
  refine lv_icmp_ge (tgt := 14) hx hb d_MD_level_7 (by decide) (fun c_1 => ?_) (fun c_1 => ?_)
  · have n_2 := xn_le (a := 12) (b := nl) c_1 (by decide) rfl (by omega) (by omega)
    refine lv_iconst (v := 0) hx hb d_MD_level_14 (by decide) ?_
    refine lv_iload_n hx hb d_MD_level_15 rfl (lv_at hl 1 rfl) ?_
    refine lv_ldc (v := (-100000)) hx hb hown (hts _ (List.mem_cons_of_mem _ wm_877)) d_MD_level_16 ?_
    refine lv_ldc (v := 100000) hx hb hown (hts _ (List.mem_cons_of_mem _ wm_856)) d_MD_level_18 ?_
    refine xr_calli (va_runS (As := [.int a, .int (-100000), .int 100000]) (rest := [.int 0, .ref h0]) ⟨hx, hb, hml, hown, hts⟩ (c_MD_within l dC dI a (-100000) 100000) (va_cwS 3 hts (xgS wm_790 wm_791 wm_34 wm_792) rfl rfl rfl (by decide +kernel) ⟨Nat.le_of_ble_eq_true rfl, Nat.le_of_ble_eq_true rfl⟩) ⟨xp_blind, fun U hU hW => ⟨rfl, hz.warm hW, by rw [hU]; exact hP.sub [] rfl, va_K.moved hW.alike (hK.sub [] rfl)⟩⟩ rfl rfl hl.1 rfl (lv_room (Nat.le_of_ble_eq_true rfl)) d_MD_level_20 ⟨Nat.le_of_ble_eq_true rfl, Nat.le_of_ble_eq_true rfl⟩) (fun r_3 h_4 => ?_)
    subst h_4
    refine lv_if_eq (tgt := 41) hx hb d_MD_level_23 (by decide) (fun c_5 => ?_) (fun c_5 => ?_)
    · have b_6 := bI_f (rfl : bI (md_win a (-100000) 100000) = _) c_5
      refine lv_iconst (v := 0) hx hb d_MD_level_41 (by decide) ?_
      refine lv_iconst (v := 1) hx hb d_MD_level_42 (by decide) ?_
      have hPc := hP.sub (ws' := [(h0, .inr (7, [.int th, .int (nI nm), .ref ap, .int (nI no), .ref am, .ref aw, .ref az, .ref au, .int kn, .long vP, .long vQ, .long vS, .long vT, .long vB, .long vM, .long vH, .ref ao, .ref ax, .int (nI np), .ref ay, .int (nI nl), .ref ad, .ref al, .int (nI sn), .ref ag, .int (nI ta), .int nb]))]) [0] rfl
      have hDc := hD.sub (ws' := [(h0, .inr (7, [.int th, .int (nI nm), .ref ap, .int (nI no), .ref am, .ref aw, .ref az, .ref au, .int kn, .long vP, .long vQ, .long vS, .long vT, .long vB, .long vM, .long vH, .ref ao, .ref ax, .int (nI np), .ref ay, .int (nI nl), .ref ad, .ref al, .int (nI sn), .ref ag, .int (nI ta), .int nb]))]) [0] (by decide) rfl
      have hKc := hK.sub (tys' := []) [] rfl
      have hFc := va_free (wc := [(h0, .inr (7, [.int th, .int (nI nm), .ref ap, .int (nI no), .ref am, .ref aw, .ref az, .ref au, .int kn, .long vP, .long vQ, .long vS, .long vT, .long vB, .long vM, .long vH, .ref ao, .ref ax, .int (nI np), .ref ay, .int (nI nl), .ref ad, .ref al, .int (nI sn), .ref ag, .int (nI ta), .int nb]))]) hD hS hA [0] rfl
      refine va_calli (va_runV (As := [.int 0, .int 0, .int 1]) (rest := []) ⟨hx, hb, hml, hown, hts⟩ (c_MD_goes l dC dI s.heap.size h0 th nm ap no am aw az au kn vP vQ vS vT vB vM vH ao ax np ay nl ad al sn ag ta nb 0 0 1) (cwV 3 hts (xgV wm_793 wm_795 wm_13 wm_34 wm_796) rfl rfl rfl (by decide +kernel) ⟨Nat.le_of_ble_eq_true rfl, Nat.le_of_ble_eq_true rfl⟩) ⟨xw_blind, va_recv hKc hPc (ci := 7) (q0 := 0) rfl rfl, fun U hU hW => ⟨rfl, by rw [hU], hz.warm hW, by rw [hU]; exact hPc, va_K.moved hW.alike hKc, hDc.weaken (fun _ _ _ _ => trivial)⟩⟩ rfl rfl hl.1 rfl (lv_room (Nat.le_of_ble_eq_true rfl)) d_MD_level_43 ⟨Nat.le_of_ble_eq_true rfl, Nat.le_of_ble_eq_true rfl⟩) hS (fun q _ h => hFc q h) hFc (fun r_7 _ t H1 locs ht hvm hw_8 hB hz1 hk1 hS => ?_)
      obtain ⟨hP1, hK1, hD1⟩ := hB
      rw [ht] at hP1
      have hK1 := va_K.moved hvm.symm hK1
      obtain ⟨hP, hD⟩ := va_join (wr := []) (w1 := [(h0, .inr (7, [.int (md_th 0 0 1), .int (nI nm), .ref ap, .int (nI no), .ref am, .ref aw, .ref az, .ref au, .int kn, .long vP, .long vQ, .long vS, .long vT, .long vB, .long vM, .long vH, .ref ao, .ref ax, .int (nI np), .ref ay, .int (nI nl), .ref ad, .ref al, .int (nI sn), .ref ag, .int (nI ta), .int nb]))]) hP hD [0] [] rfl rfl (by decide) (by decide) hk1 hFc hP1 hD1
      generalize H1 = H at hP hS ⊢
      have hP : va_P (dC, dI) xCl [(h0, .inr (7, [.int (md_th 0 0 1), .int (nI nm), .ref ap, .int (nI no), .ref am, .ref aw, .ref az, .ref au, .int kn, .long vP, .long vQ, .long vS, .long vT, .long vB, .long vM, .long vH, .ref ao, .ref ax, .int (nI np), .ref ay, .int (nI nl), .ref ad, .ref al, .int (nI sn), .ref ag, .int (nI ta), .int nb]))] H := hP
      have hD : va_D A [(h0, .inr (7, [.int (md_th 0 0 1), .int (nI nm), .ref ap, .int (nI no), .ref am, .ref aw, .ref az, .ref au, .int kn, .long vP, .long vQ, .long vS, .long vT, .long vB, .long vM, .long vH, .ref ao, .ref ax, .int (nI np), .ref ay, .int (nI nl), .ref ad, .ref al, .int (nI sn), .ref ag, .int (nI ta), .int nb]))] := hD
      subst hw_8
      refine lv_if_ne (tgt := 51) hx hb d_MD_level_46 (by decide) (fun c_9 => ?_) (fun c_9 => ?_)
      · exact absurd (md_th_all (bI_t rfl c_9)) (fun q => q.1 rfl)
      · have b_10 := bI_f (rfl : bI (md_th 0 0 1 = 0) = _) c_9
        refine lv_iconst (v := 0) hx hb d_MD_level_49 (by decide) ?_
        have hP9 := hP.sub (ws' := [(h0, .inr (7, [.int (md_th 0 0 1), .int (nI nm), .ref ap, .int (nI no), .ref am, .ref aw, .ref az, .ref au, .int kn, .long vP, .long vQ, .long vS, .long vT, .long vB, .long vM, .long vH, .ref ao, .ref ax, .int (nI np), .ref ay, .int (nI nl), .ref ad, .ref al, .int (nI sn), .ref ag, .int (nI ta), .int nb]))]) [0] rfl
        have hD9 := hD.sub (ws' := [(h0, .inr (7, [.int (md_th 0 0 1), .int (nI nm), .ref ap, .int (nI no), .ref am, .ref aw, .ref az, .ref au, .int kn, .long vP, .long vQ, .long vS, .long vT, .long vB, .long vM, .long vH, .ref ao, .ref ax, .int (nI np), .ref ay, .int (nI nl), .ref ad, .ref al, .int (nI sn), .ref ag, .int (nI ta), .int nb]))]) [0] (by decide) rfl
        have hK9 := hK.sub (tys' := []) [] rfl
        exact W.iret (v := 0) hx hb hr (fun t ht hW => ⟨⟨0, (), rfl, rfl, ⟨by rw [ht]; rw [show bI (nl < 12) = 0 from (bI_n (by omega)).symm, show bI (md_win a (-100000) 100000 ∧ md_win b 1 10000) = 0 from (bI_n (fun q => b_6 q.1)).symm]; exact hP9, va_K.moved hW.alike hK9, by rw [show bI (nl < 12) = 0 from (bI_n (by omega)).symm, show bI (md_win a (-100000) 100000 ∧ md_win b 1 10000) = 0 from (bI_n (fun q => b_6 q.1)).symm]; exact hD9⟩⟩, hS.F ht⟩) hS.2.2 d_MD_level_50 hlocks
    · have b_11 := bI_t (rfl : bI (md_win a (-100000) 100000) = _) c_5
      refine lv_iload_n hx hb d_MD_level_26 rfl (lv_at hl 2 rfl) ?_
      refine lv_iconst (v := 1) hx hb d_MD_level_27 (by decide) ?_
      refine lv_sipush (v := 10000) hx hb d_MD_level_28 (by decide) ?_
      refine xr_calli (va_runS (As := [.int b, .int 1, .int 10000]) (rest := [.int 0, .ref h0]) ⟨hx, hb, hml, hown, hts⟩ (c_MD_within l dC dI b 1 10000) (va_cwS 3 hts (xgS wm_790 wm_791 wm_34 wm_792) rfl rfl rfl (by decide +kernel) ⟨Nat.le_of_ble_eq_true rfl, Nat.le_of_ble_eq_true rfl⟩) ⟨xp_blind, fun U hU hW => ⟨rfl, hz.warm hW, by rw [hU]; exact hP.sub [] rfl, va_K.moved hW.alike (hK.sub [] rfl)⟩⟩ rfl rfl hl.1 rfl (lv_room (Nat.le_of_ble_eq_true rfl)) d_MD_level_31 ⟨Nat.le_of_ble_eq_true rfl, Nat.le_of_ble_eq_true rfl⟩) (fun r_12 h_13 => ?_)
      subst h_13
      refine lv_if_eq (tgt := 41) hx hb d_MD_level_34 (by decide) (fun c_14 => ?_) (fun c_14 => ?_)
      · have b_15 := bI_f (rfl : bI (md_win b 1 10000) = _) c_14
        refine lv_iconst (v := 0) hx hb d_MD_level_41 (by decide) ?_
        refine lv_iconst (v := 1) hx hb d_MD_level_42 (by decide) ?_
        have hPc := hP.sub (ws' := [(h0, .inr (7, [.int th, .int (nI nm), .ref ap, .int (nI no), .ref am, .ref aw, .ref az, .ref au, .int kn, .long vP, .long vQ, .long vS, .long vT, .long vB, .long vM, .long vH, .ref ao, .ref ax, .int (nI np), .ref ay, .int (nI nl), .ref ad, .ref al, .int (nI sn), .ref ag, .int (nI ta), .int nb]))]) [0] rfl
        have hDc := hD.sub (ws' := [(h0, .inr (7, [.int th, .int (nI nm), .ref ap, .int (nI no), .ref am, .ref aw, .ref az, .ref au, .int kn, .long vP, .long vQ, .long vS, .long vT, .long vB, .long vM, .long vH, .ref ao, .ref ax, .int (nI np), .ref ay, .int (nI nl), .ref ad, .ref al, .int (nI sn), .ref ag, .int (nI ta), .int nb]))]) [0] (by decide) rfl
        have hKc := hK.sub (tys' := []) [] rfl
        have hFc := va_free (wc := [(h0, .inr (7, [.int th, .int (nI nm), .ref ap, .int (nI no), .ref am, .ref aw, .ref az, .ref au, .int kn, .long vP, .long vQ, .long vS, .long vT, .long vB, .long vM, .long vH, .ref ao, .ref ax, .int (nI np), .ref ay, .int (nI nl), .ref ad, .ref al, .int (nI sn), .ref ag, .int (nI ta), .int nb]))]) hD hS hA [0] rfl
        refine va_calli (va_runV (As := [.int 0, .int 0, .int 1]) (rest := []) ⟨hx, hb, hml, hown, hts⟩ (c_MD_goes l dC dI s.heap.size h0 th nm ap no am aw az au kn vP vQ vS vT vB vM vH ao ax np ay nl ad al sn ag ta nb 0 0 1) (cwV 3 hts (xgV wm_793 wm_795 wm_13 wm_34 wm_796) rfl rfl rfl (by decide +kernel) ⟨Nat.le_of_ble_eq_true rfl, Nat.le_of_ble_eq_true rfl⟩) ⟨xw_blind, va_recv hKc hPc (ci := 7) (q0 := 0) rfl rfl, fun U hU hW => ⟨rfl, by rw [hU], hz.warm hW, by rw [hU]; exact hPc, va_K.moved hW.alike hKc, hDc.weaken (fun _ _ _ _ => trivial)⟩⟩ rfl rfl hl.1 rfl (lv_room (Nat.le_of_ble_eq_true rfl)) d_MD_level_43 ⟨Nat.le_of_ble_eq_true rfl, Nat.le_of_ble_eq_true rfl⟩) hS (fun q _ h => hFc q h) hFc (fun r_16 _ t H1 locs ht hvm hw_17 hB hz1 hk1 hS => ?_)
        obtain ⟨hP1, hK1, hD1⟩ := hB
        rw [ht] at hP1
        have hK1 := va_K.moved hvm.symm hK1
        obtain ⟨hP, hD⟩ := va_join (wr := []) (w1 := [(h0, .inr (7, [.int (md_th 0 0 1), .int (nI nm), .ref ap, .int (nI no), .ref am, .ref aw, .ref az, .ref au, .int kn, .long vP, .long vQ, .long vS, .long vT, .long vB, .long vM, .long vH, .ref ao, .ref ax, .int (nI np), .ref ay, .int (nI nl), .ref ad, .ref al, .int (nI sn), .ref ag, .int (nI ta), .int nb]))]) hP hD [0] [] rfl rfl (by decide) (by decide) hk1 hFc hP1 hD1
        generalize H1 = H at hP hS ⊢
        have hP : va_P (dC, dI) xCl [(h0, .inr (7, [.int (md_th 0 0 1), .int (nI nm), .ref ap, .int (nI no), .ref am, .ref aw, .ref az, .ref au, .int kn, .long vP, .long vQ, .long vS, .long vT, .long vB, .long vM, .long vH, .ref ao, .ref ax, .int (nI np), .ref ay, .int (nI nl), .ref ad, .ref al, .int (nI sn), .ref ag, .int (nI ta), .int nb]))] H := hP
        have hD : va_D A [(h0, .inr (7, [.int (md_th 0 0 1), .int (nI nm), .ref ap, .int (nI no), .ref am, .ref aw, .ref az, .ref au, .int kn, .long vP, .long vQ, .long vS, .long vT, .long vB, .long vM, .long vH, .ref ao, .ref ax, .int (nI np), .ref ay, .int (nI nl), .ref ad, .ref al, .int (nI sn), .ref ag, .int (nI ta), .int nb]))] := hD
        subst hw_17
        refine lv_if_ne (tgt := 51) hx hb d_MD_level_46 (by decide) (fun c_18 => ?_) (fun c_18 => ?_)
        · exact absurd (md_th_all (bI_t rfl c_18)) (fun q => q.1 rfl)
        · have b_19 := bI_f (rfl : bI (md_th 0 0 1 = 0) = _) c_18
          refine lv_iconst (v := 0) hx hb d_MD_level_49 (by decide) ?_
          have hP9 := hP.sub (ws' := [(h0, .inr (7, [.int (md_th 0 0 1), .int (nI nm), .ref ap, .int (nI no), .ref am, .ref aw, .ref az, .ref au, .int kn, .long vP, .long vQ, .long vS, .long vT, .long vB, .long vM, .long vH, .ref ao, .ref ax, .int (nI np), .ref ay, .int (nI nl), .ref ad, .ref al, .int (nI sn), .ref ag, .int (nI ta), .int nb]))]) [0] rfl
          have hD9 := hD.sub (ws' := [(h0, .inr (7, [.int (md_th 0 0 1), .int (nI nm), .ref ap, .int (nI no), .ref am, .ref aw, .ref az, .ref au, .int kn, .long vP, .long vQ, .long vS, .long vT, .long vB, .long vM, .long vH, .ref ao, .ref ax, .int (nI np), .ref ay, .int (nI nl), .ref ad, .ref al, .int (nI sn), .ref ag, .int (nI ta), .int nb]))]) [0] (by decide) rfl
          have hK9 := hK.sub (tys' := []) [] rfl
          exact W.iret (v := 0) hx hb hr (fun t ht hW => ⟨⟨0, (), rfl, rfl, ⟨by rw [ht]; rw [show bI (nl < 12) = 0 from (bI_n (by omega)).symm, show bI (md_win a (-100000) 100000 ∧ md_win b 1 10000) = 0 from (bI_n (fun q => b_15 q.2)).symm]; exact hP9, va_K.moved hW.alike hK9, by rw [show bI (nl < 12) = 0 from (bI_n (by omega)).symm, show bI (md_win a (-100000) 100000 ∧ md_win b 1 10000) = 0 from (bI_n (fun q => b_15 q.2)).symm]; exact hD9⟩⟩, hS.F ht⟩) hS.2.2 d_MD_level_50 hlocks
      · have b_20 := bI_t (rfl : bI (md_win b 1 10000) = _) c_14
        refine lv_iconst (v := 1) hx hb d_MD_level_37 (by decide) ?_
        refine lv_goto (tgt := 42) hx hb d_MD_level_38 (by decide) ?_
        refine lv_iconst (v := 1) hx hb d_MD_level_42 (by decide) ?_
        have hPc := hP.sub (ws' := [(h0, .inr (7, [.int th, .int (nI nm), .ref ap, .int (nI no), .ref am, .ref aw, .ref az, .ref au, .int kn, .long vP, .long vQ, .long vS, .long vT, .long vB, .long vM, .long vH, .ref ao, .ref ax, .int (nI np), .ref ay, .int (nI nl), .ref ad, .ref al, .int (nI sn), .ref ag, .int (nI ta), .int nb]))]) [0] rfl
        have hDc := hD.sub (ws' := [(h0, .inr (7, [.int th, .int (nI nm), .ref ap, .int (nI no), .ref am, .ref aw, .ref az, .ref au, .int kn, .long vP, .long vQ, .long vS, .long vT, .long vB, .long vM, .long vH, .ref ao, .ref ax, .int (nI np), .ref ay, .int (nI nl), .ref ad, .ref al, .int (nI sn), .ref ag, .int (nI ta), .int nb]))]) [0] (by decide) rfl
        have hKc := hK.sub (tys' := []) [] rfl
        have hFc := va_free (wc := [(h0, .inr (7, [.int th, .int (nI nm), .ref ap, .int (nI no), .ref am, .ref aw, .ref az, .ref au, .int kn, .long vP, .long vQ, .long vS, .long vT, .long vB, .long vM, .long vH, .ref ao, .ref ax, .int (nI np), .ref ay, .int (nI nl), .ref ad, .ref al, .int (nI sn), .ref ag, .int (nI ta), .int nb]))]) hD hS hA [0] rfl
        refine va_calli (va_runV (As := [.int 0, .int 1, .int 1]) (rest := []) ⟨hx, hb, hml, hown, hts⟩ (c_MD_goes l dC dI s.heap.size h0 th nm ap no am aw az au kn vP vQ vS vT vB vM vH ao ax np ay nl ad al sn ag ta nb 0 1 1) (cwV 3 hts (xgV wm_793 wm_795 wm_13 wm_34 wm_796) rfl rfl rfl (by decide +kernel) ⟨Nat.le_of_ble_eq_true rfl, Nat.le_of_ble_eq_true rfl⟩) ⟨xw_blind, va_recv hKc hPc (ci := 7) (q0 := 0) rfl rfl, fun U hU hW => ⟨rfl, by rw [hU], hz.warm hW, by rw [hU]; exact hPc, va_K.moved hW.alike hKc, hDc.weaken (fun _ _ _ _ => trivial)⟩⟩ rfl rfl hl.1 rfl (lv_room (Nat.le_of_ble_eq_true rfl)) d_MD_level_43 ⟨Nat.le_of_ble_eq_true rfl, Nat.le_of_ble_eq_true rfl⟩) hS (fun q _ h => hFc q h) hFc (fun r_21 _ t H1 locs ht hvm hw_22 hB hz1 hk1 hS => ?_)
        obtain ⟨hP1, hK1, hD1⟩ := hB
        rw [ht] at hP1
        have hK1 := va_K.moved hvm.symm hK1
        obtain ⟨hP, hD⟩ := va_join (wr := []) (w1 := [(h0, .inr (7, [.int (md_th 0 1 1), .int (nI nm), .ref ap, .int (nI no), .ref am, .ref aw, .ref az, .ref au, .int kn, .long vP, .long vQ, .long vS, .long vT, .long vB, .long vM, .long vH, .ref ao, .ref ax, .int (nI np), .ref ay, .int (nI nl), .ref ad, .ref al, .int (nI sn), .ref ag, .int (nI ta), .int nb]))]) hP hD [0] [] rfl rfl (by decide) (by decide) hk1 hFc hP1 hD1
        generalize H1 = H at hP hS ⊢
        have hP : va_P (dC, dI) xCl [(h0, .inr (7, [.int (md_th 0 1 1), .int (nI nm), .ref ap, .int (nI no), .ref am, .ref aw, .ref az, .ref au, .int kn, .long vP, .long vQ, .long vS, .long vT, .long vB, .long vM, .long vH, .ref ao, .ref ax, .int (nI np), .ref ay, .int (nI nl), .ref ad, .ref al, .int (nI sn), .ref ag, .int (nI ta), .int nb]))] H := hP
        have hD : va_D A [(h0, .inr (7, [.int (md_th 0 1 1), .int (nI nm), .ref ap, .int (nI no), .ref am, .ref aw, .ref az, .ref au, .int kn, .long vP, .long vQ, .long vS, .long vT, .long vB, .long vM, .long vH, .ref ao, .ref ax, .int (nI np), .ref ay, .int (nI nl), .ref ad, .ref al, .int (nI sn), .ref ag, .int (nI ta), .int nb]))] := hD
        subst hw_22
        refine lv_if_ne (tgt := 51) hx hb d_MD_level_46 (by decide) (fun c_23 => ?_) (fun c_23 => ?_)
        · exact absurd (md_th_all (bI_t rfl c_23)) (fun q => q.1 rfl)
        · have b_24 := bI_f (rfl : bI (md_th 0 1 1 = 0) = _) c_23
          refine lv_iconst (v := 0) hx hb d_MD_level_49 (by decide) ?_
          have hP9 := hP.sub (ws' := [(h0, .inr (7, [.int (md_th 0 1 1), .int (nI nm), .ref ap, .int (nI no), .ref am, .ref aw, .ref az, .ref au, .int kn, .long vP, .long vQ, .long vS, .long vT, .long vB, .long vM, .long vH, .ref ao, .ref ax, .int (nI np), .ref ay, .int (nI nl), .ref ad, .ref al, .int (nI sn), .ref ag, .int (nI ta), .int nb]))]) [0] rfl
          have hD9 := hD.sub (ws' := [(h0, .inr (7, [.int (md_th 0 1 1), .int (nI nm), .ref ap, .int (nI no), .ref am, .ref aw, .ref az, .ref au, .int kn, .long vP, .long vQ, .long vS, .long vT, .long vB, .long vM, .long vH, .ref ao, .ref ax, .int (nI np), .ref ay, .int (nI nl), .ref ad, .ref al, .int (nI sn), .ref ag, .int (nI ta), .int nb]))]) [0] (by decide) rfl
          have hK9 := hK.sub (tys' := []) [] rfl
          exact W.iret (v := 0) hx hb hr (fun t ht hW => ⟨⟨0, (), rfl, rfl, ⟨by rw [ht]; rw [show bI (nl < 12) = 0 from (bI_n (by omega)).symm, show bI (md_win a (-100000) 100000 ∧ md_win b 1 10000) = 1 from (bI_p ⟨b_11, b_20⟩).symm]; exact hP9, va_K.moved hW.alike hK9, by rw [show bI (nl < 12) = 0 from (bI_n (by omega)).symm, show bI (md_win a (-100000) 100000 ∧ md_win b 1 10000) = 1 from (bI_p ⟨b_11, b_20⟩).symm]; exact hD9⟩⟩, hS.F ht⟩) hS.2.2 d_MD_level_50 hlocks
  · have n_25 := xn_nle (a := 12) (b := nl) c_1 (by decide) rfl (by omega) (by omega)
    refine lv_iconst (v := 1) hx hb d_MD_level_10 (by decide) ?_
    refine lv_goto (tgt := 15) hx hb d_MD_level_11 (by decide) ?_
    refine lv_iload_n hx hb d_MD_level_15 rfl (lv_at hl 1 rfl) ?_
    refine lv_ldc (v := (-100000)) hx hb hown (hts _ (List.mem_cons_of_mem _ wm_877)) d_MD_level_16 ?_
    refine lv_ldc (v := 100000) hx hb hown (hts _ (List.mem_cons_of_mem _ wm_856)) d_MD_level_18 ?_
    refine xr_calli (va_runS (As := [.int a, .int (-100000), .int 100000]) (rest := [.int 1, .ref h0]) ⟨hx, hb, hml, hown, hts⟩ (c_MD_within l dC dI a (-100000) 100000) (va_cwS 3 hts (xgS wm_790 wm_791 wm_34 wm_792) rfl rfl rfl (by decide +kernel) ⟨Nat.le_of_ble_eq_true rfl, Nat.le_of_ble_eq_true rfl⟩) ⟨xp_blind, fun U hU hW => ⟨rfl, hz.warm hW, by rw [hU]; exact hP.sub [] rfl, va_K.moved hW.alike (hK.sub [] rfl)⟩⟩ rfl rfl hl.1 rfl (lv_room (Nat.le_of_ble_eq_true rfl)) d_MD_level_20 ⟨Nat.le_of_ble_eq_true rfl, Nat.le_of_ble_eq_true rfl⟩) (fun r_26 h_27 => ?_)
    subst h_27
    refine lv_if_eq (tgt := 41) hx hb d_MD_level_23 (by decide) (fun c_28 => ?_) (fun c_28 => ?_)
    · have b_29 := bI_f (rfl : bI (md_win a (-100000) 100000) = _) c_28
      refine lv_iconst (v := 0) hx hb d_MD_level_41 (by decide) ?_
      refine lv_iconst (v := 1) hx hb d_MD_level_42 (by decide) ?_
      have hPc := hP.sub (ws' := [(h0, .inr (7, [.int th, .int (nI nm), .ref ap, .int (nI no), .ref am, .ref aw, .ref az, .ref au, .int kn, .long vP, .long vQ, .long vS, .long vT, .long vB, .long vM, .long vH, .ref ao, .ref ax, .int (nI np), .ref ay, .int (nI nl), .ref ad, .ref al, .int (nI sn), .ref ag, .int (nI ta), .int nb]))]) [0] rfl
      have hDc := hD.sub (ws' := [(h0, .inr (7, [.int th, .int (nI nm), .ref ap, .int (nI no), .ref am, .ref aw, .ref az, .ref au, .int kn, .long vP, .long vQ, .long vS, .long vT, .long vB, .long vM, .long vH, .ref ao, .ref ax, .int (nI np), .ref ay, .int (nI nl), .ref ad, .ref al, .int (nI sn), .ref ag, .int (nI ta), .int nb]))]) [0] (by decide) rfl
      have hKc := hK.sub (tys' := []) [] rfl
      have hFc := va_free (wc := [(h0, .inr (7, [.int th, .int (nI nm), .ref ap, .int (nI no), .ref am, .ref aw, .ref az, .ref au, .int kn, .long vP, .long vQ, .long vS, .long vT, .long vB, .long vM, .long vH, .ref ao, .ref ax, .int (nI np), .ref ay, .int (nI nl), .ref ad, .ref al, .int (nI sn), .ref ag, .int (nI ta), .int nb]))]) hD hS hA [0] rfl
      refine va_calli (va_runV (As := [.int 1, .int 0, .int 1]) (rest := []) ⟨hx, hb, hml, hown, hts⟩ (c_MD_goes l dC dI s.heap.size h0 th nm ap no am aw az au kn vP vQ vS vT vB vM vH ao ax np ay nl ad al sn ag ta nb 1 0 1) (cwV 3 hts (xgV wm_793 wm_795 wm_13 wm_34 wm_796) rfl rfl rfl (by decide +kernel) ⟨Nat.le_of_ble_eq_true rfl, Nat.le_of_ble_eq_true rfl⟩) ⟨xw_blind, va_recv hKc hPc (ci := 7) (q0 := 0) rfl rfl, fun U hU hW => ⟨rfl, by rw [hU], hz.warm hW, by rw [hU]; exact hPc, va_K.moved hW.alike hKc, hDc.weaken (fun _ _ _ _ => trivial)⟩⟩ rfl rfl hl.1 rfl (lv_room (Nat.le_of_ble_eq_true rfl)) d_MD_level_43 ⟨Nat.le_of_ble_eq_true rfl, Nat.le_of_ble_eq_true rfl⟩) hS (fun q _ h => hFc q h) hFc (fun r_30 _ t H1 locs ht hvm hw_31 hB hz1 hk1 hS => ?_)
      obtain ⟨hP1, hK1, hD1⟩ := hB
      rw [ht] at hP1
      have hK1 := va_K.moved hvm.symm hK1
      obtain ⟨hP, hD⟩ := va_join (wr := []) (w1 := [(h0, .inr (7, [.int (md_th 1 0 1), .int (nI nm), .ref ap, .int (nI no), .ref am, .ref aw, .ref az, .ref au, .int kn, .long vP, .long vQ, .long vS, .long vT, .long vB, .long vM, .long vH, .ref ao, .ref ax, .int (nI np), .ref ay, .int (nI nl), .ref ad, .ref al, .int (nI sn), .ref ag, .int (nI ta), .int nb]))]) hP hD [0] [] rfl rfl (by decide) (by decide) hk1 hFc hP1 hD1
      generalize H1 = H at hP hS ⊢
      have hP : va_P (dC, dI) xCl [(h0, .inr (7, [.int (md_th 1 0 1), .int (nI nm), .ref ap, .int (nI no), .ref am, .ref aw, .ref az, .ref au, .int kn, .long vP, .long vQ, .long vS, .long vT, .long vB, .long vM, .long vH, .ref ao, .ref ax, .int (nI np), .ref ay, .int (nI nl), .ref ad, .ref al, .int (nI sn), .ref ag, .int (nI ta), .int nb]))] H := hP
      have hD : va_D A [(h0, .inr (7, [.int (md_th 1 0 1), .int (nI nm), .ref ap, .int (nI no), .ref am, .ref aw, .ref az, .ref au, .int kn, .long vP, .long vQ, .long vS, .long vT, .long vB, .long vM, .long vH, .ref ao, .ref ax, .int (nI np), .ref ay, .int (nI nl), .ref ad, .ref al, .int (nI sn), .ref ag, .int (nI ta), .int nb]))] := hD
      subst hw_31
      refine lv_if_ne (tgt := 51) hx hb d_MD_level_46 (by decide) (fun c_32 => ?_) (fun c_32 => ?_)
      · exact absurd (md_th_all (bI_t rfl c_32)) (fun q => q.2.1 rfl)
      · have b_33 := bI_f (rfl : bI (md_th 1 0 1 = 0) = _) c_32
        refine lv_iconst (v := 0) hx hb d_MD_level_49 (by decide) ?_
        have hP9 := hP.sub (ws' := [(h0, .inr (7, [.int (md_th 1 0 1), .int (nI nm), .ref ap, .int (nI no), .ref am, .ref aw, .ref az, .ref au, .int kn, .long vP, .long vQ, .long vS, .long vT, .long vB, .long vM, .long vH, .ref ao, .ref ax, .int (nI np), .ref ay, .int (nI nl), .ref ad, .ref al, .int (nI sn), .ref ag, .int (nI ta), .int nb]))]) [0] rfl
        have hD9 := hD.sub (ws' := [(h0, .inr (7, [.int (md_th 1 0 1), .int (nI nm), .ref ap, .int (nI no), .ref am, .ref aw, .ref az, .ref au, .int kn, .long vP, .long vQ, .long vS, .long vT, .long vB, .long vM, .long vH, .ref ao, .ref ax, .int (nI np), .ref ay, .int (nI nl), .ref ad, .ref al, .int (nI sn), .ref ag, .int (nI ta), .int nb]))]) [0] (by decide) rfl
        have hK9 := hK.sub (tys' := []) [] rfl
        exact W.iret (v := 0) hx hb hr (fun t ht hW => ⟨⟨0, (), rfl, rfl, ⟨by rw [ht]; rw [show bI (nl < 12) = 1 from (bI_p n_25).symm, show bI (md_win a (-100000) 100000 ∧ md_win b 1 10000) = 0 from (bI_n (fun q => b_29 q.1)).symm]; exact hP9, va_K.moved hW.alike hK9, by rw [show bI (nl < 12) = 1 from (bI_p n_25).symm, show bI (md_win a (-100000) 100000 ∧ md_win b 1 10000) = 0 from (bI_n (fun q => b_29 q.1)).symm]; exact hD9⟩⟩, hS.F ht⟩) hS.2.2 d_MD_level_50 hlocks
    · have b_34 := bI_t (rfl : bI (md_win a (-100000) 100000) = _) c_28
      refine lv_iload_n hx hb d_MD_level_26 rfl (lv_at hl 2 rfl) ?_
      refine lv_iconst (v := 1) hx hb d_MD_level_27 (by decide) ?_
      refine lv_sipush (v := 10000) hx hb d_MD_level_28 (by decide) ?_
      refine xr_calli (va_runS (As := [.int b, .int 1, .int 10000]) (rest := [.int 1, .ref h0]) ⟨hx, hb, hml, hown, hts⟩ (c_MD_within l dC dI b 1 10000) (va_cwS 3 hts (xgS wm_790 wm_791 wm_34 wm_792) rfl rfl rfl (by decide +kernel) ⟨Nat.le_of_ble_eq_true rfl, Nat.le_of_ble_eq_true rfl⟩) ⟨xp_blind, fun U hU hW => ⟨rfl, hz.warm hW, by rw [hU]; exact hP.sub [] rfl, va_K.moved hW.alike (hK.sub [] rfl)⟩⟩ rfl rfl hl.1 rfl (lv_room (Nat.le_of_ble_eq_true rfl)) d_MD_level_31 ⟨Nat.le_of_ble_eq_true rfl, Nat.le_of_ble_eq_true rfl⟩) (fun r_35 h_36 => ?_)
      subst h_36
      refine lv_if_eq (tgt := 41) hx hb d_MD_level_34 (by decide) (fun c_37 => ?_) (fun c_37 => ?_)
      · have b_38 := bI_f (rfl : bI (md_win b 1 10000) = _) c_37
        refine lv_iconst (v := 0) hx hb d_MD_level_41 (by decide) ?_
        refine lv_iconst (v := 1) hx hb d_MD_level_42 (by decide) ?_
        have hPc := hP.sub (ws' := [(h0, .inr (7, [.int th, .int (nI nm), .ref ap, .int (nI no), .ref am, .ref aw, .ref az, .ref au, .int kn, .long vP, .long vQ, .long vS, .long vT, .long vB, .long vM, .long vH, .ref ao, .ref ax, .int (nI np), .ref ay, .int (nI nl), .ref ad, .ref al, .int (nI sn), .ref ag, .int (nI ta), .int nb]))]) [0] rfl
        have hDc := hD.sub (ws' := [(h0, .inr (7, [.int th, .int (nI nm), .ref ap, .int (nI no), .ref am, .ref aw, .ref az, .ref au, .int kn, .long vP, .long vQ, .long vS, .long vT, .long vB, .long vM, .long vH, .ref ao, .ref ax, .int (nI np), .ref ay, .int (nI nl), .ref ad, .ref al, .int (nI sn), .ref ag, .int (nI ta), .int nb]))]) [0] (by decide) rfl
        have hKc := hK.sub (tys' := []) [] rfl
        have hFc := va_free (wc := [(h0, .inr (7, [.int th, .int (nI nm), .ref ap, .int (nI no), .ref am, .ref aw, .ref az, .ref au, .int kn, .long vP, .long vQ, .long vS, .long vT, .long vB, .long vM, .long vH, .ref ao, .ref ax, .int (nI np), .ref ay, .int (nI nl), .ref ad, .ref al, .int (nI sn), .ref ag, .int (nI ta), .int nb]))]) hD hS hA [0] rfl
        refine va_calli (va_runV (As := [.int 1, .int 0, .int 1]) (rest := []) ⟨hx, hb, hml, hown, hts⟩ (c_MD_goes l dC dI s.heap.size h0 th nm ap no am aw az au kn vP vQ vS vT vB vM vH ao ax np ay nl ad al sn ag ta nb 1 0 1) (cwV 3 hts (xgV wm_793 wm_795 wm_13 wm_34 wm_796) rfl rfl rfl (by decide +kernel) ⟨Nat.le_of_ble_eq_true rfl, Nat.le_of_ble_eq_true rfl⟩) ⟨xw_blind, va_recv hKc hPc (ci := 7) (q0 := 0) rfl rfl, fun U hU hW => ⟨rfl, by rw [hU], hz.warm hW, by rw [hU]; exact hPc, va_K.moved hW.alike hKc, hDc.weaken (fun _ _ _ _ => trivial)⟩⟩ rfl rfl hl.1 rfl (lv_room (Nat.le_of_ble_eq_true rfl)) d_MD_level_43 ⟨Nat.le_of_ble_eq_true rfl, Nat.le_of_ble_eq_true rfl⟩) hS (fun q _ h => hFc q h) hFc (fun r_39 _ t H1 locs ht hvm hw_40 hB hz1 hk1 hS => ?_)
        obtain ⟨hP1, hK1, hD1⟩ := hB
        rw [ht] at hP1
        have hK1 := va_K.moved hvm.symm hK1
        obtain ⟨hP, hD⟩ := va_join (wr := []) (w1 := [(h0, .inr (7, [.int (md_th 1 0 1), .int (nI nm), .ref ap, .int (nI no), .ref am, .ref aw, .ref az, .ref au, .int kn, .long vP, .long vQ, .long vS, .long vT, .long vB, .long vM, .long vH, .ref ao, .ref ax, .int (nI np), .ref ay, .int (nI nl), .ref ad, .ref al, .int (nI sn), .ref ag, .int (nI ta), .int nb]))]) hP hD [0] [] rfl rfl (by decide) (by decide) hk1 hFc hP1 hD1
        generalize H1 = H at hP hS ⊢
        have hP : va_P (dC, dI) xCl [(h0, .inr (7, [.int (md_th 1 0 1), .int (nI nm), .ref ap, .int (nI no), .ref am, .ref aw, .ref az, .ref au, .int kn, .long vP, .long vQ, .long vS, .long vT, .long vB, .long vM, .long vH, .ref ao, .ref ax, .int (nI np), .ref ay, .int (nI nl), .ref ad, .ref al, .int (nI sn), .ref ag, .int (nI ta), .int nb]))] H := hP
        have hD : va_D A [(h0, .inr (7, [.int (md_th 1 0 1), .int (nI nm), .ref ap, .int (nI no), .ref am, .ref aw, .ref az, .ref au, .int kn, .long vP, .long vQ, .long vS, .long vT, .long vB, .long vM, .long vH, .ref ao, .ref ax, .int (nI np), .ref ay, .int (nI nl), .ref ad, .ref al, .int (nI sn), .ref ag, .int (nI ta), .int nb]))] := hD
        subst hw_40
        refine lv_if_ne (tgt := 51) hx hb d_MD_level_46 (by decide) (fun c_41 => ?_) (fun c_41 => ?_)
        · exact absurd (md_th_all (bI_t rfl c_41)) (fun q => q.2.1 rfl)
        · have b_42 := bI_f (rfl : bI (md_th 1 0 1 = 0) = _) c_41
          refine lv_iconst (v := 0) hx hb d_MD_level_49 (by decide) ?_
          have hP9 := hP.sub (ws' := [(h0, .inr (7, [.int (md_th 1 0 1), .int (nI nm), .ref ap, .int (nI no), .ref am, .ref aw, .ref az, .ref au, .int kn, .long vP, .long vQ, .long vS, .long vT, .long vB, .long vM, .long vH, .ref ao, .ref ax, .int (nI np), .ref ay, .int (nI nl), .ref ad, .ref al, .int (nI sn), .ref ag, .int (nI ta), .int nb]))]) [0] rfl
          have hD9 := hD.sub (ws' := [(h0, .inr (7, [.int (md_th 1 0 1), .int (nI nm), .ref ap, .int (nI no), .ref am, .ref aw, .ref az, .ref au, .int kn, .long vP, .long vQ, .long vS, .long vT, .long vB, .long vM, .long vH, .ref ao, .ref ax, .int (nI np), .ref ay, .int (nI nl), .ref ad, .ref al, .int (nI sn), .ref ag, .int (nI ta), .int nb]))]) [0] (by decide) rfl
          have hK9 := hK.sub (tys' := []) [] rfl
          exact W.iret (v := 0) hx hb hr (fun t ht hW => ⟨⟨0, (), rfl, rfl, ⟨by rw [ht]; rw [show bI (nl < 12) = 1 from (bI_p n_25).symm, show bI (md_win a (-100000) 100000 ∧ md_win b 1 10000) = 0 from (bI_n (fun q => b_38 q.2)).symm]; exact hP9, va_K.moved hW.alike hK9, by rw [show bI (nl < 12) = 1 from (bI_p n_25).symm, show bI (md_win a (-100000) 100000 ∧ md_win b 1 10000) = 0 from (bI_n (fun q => b_38 q.2)).symm]; exact hD9⟩⟩, hS.F ht⟩) hS.2.2 d_MD_level_50 hlocks
      · have b_43 := bI_t (rfl : bI (md_win b 1 10000) = _) c_37
        refine lv_iconst (v := 1) hx hb d_MD_level_37 (by decide) ?_
        refine lv_goto (tgt := 42) hx hb d_MD_level_38 (by decide) ?_
        refine lv_iconst (v := 1) hx hb d_MD_level_42 (by decide) ?_
        have hPc := hP.sub (ws' := [(h0, .inr (7, [.int th, .int (nI nm), .ref ap, .int (nI no), .ref am, .ref aw, .ref az, .ref au, .int kn, .long vP, .long vQ, .long vS, .long vT, .long vB, .long vM, .long vH, .ref ao, .ref ax, .int (nI np), .ref ay, .int (nI nl), .ref ad, .ref al, .int (nI sn), .ref ag, .int (nI ta), .int nb]))]) [0] rfl
        have hDc := hD.sub (ws' := [(h0, .inr (7, [.int th, .int (nI nm), .ref ap, .int (nI no), .ref am, .ref aw, .ref az, .ref au, .int kn, .long vP, .long vQ, .long vS, .long vT, .long vB, .long vM, .long vH, .ref ao, .ref ax, .int (nI np), .ref ay, .int (nI nl), .ref ad, .ref al, .int (nI sn), .ref ag, .int (nI ta), .int nb]))]) [0] (by decide) rfl
        have hKc := hK.sub (tys' := []) [] rfl
        have hFc := va_free (wc := [(h0, .inr (7, [.int th, .int (nI nm), .ref ap, .int (nI no), .ref am, .ref aw, .ref az, .ref au, .int kn, .long vP, .long vQ, .long vS, .long vT, .long vB, .long vM, .long vH, .ref ao, .ref ax, .int (nI np), .ref ay, .int (nI nl), .ref ad, .ref al, .int (nI sn), .ref ag, .int (nI ta), .int nb]))]) hD hS hA [0] rfl
        refine va_calli (va_runV (As := [.int 1, .int 1, .int 1]) (rest := []) ⟨hx, hb, hml, hown, hts⟩ (c_MD_goes l dC dI s.heap.size h0 th nm ap no am aw az au kn vP vQ vS vT vB vM vH ao ax np ay nl ad al sn ag ta nb 1 1 1) (cwV 3 hts (xgV wm_793 wm_795 wm_13 wm_34 wm_796) rfl rfl rfl (by decide +kernel) ⟨Nat.le_of_ble_eq_true rfl, Nat.le_of_ble_eq_true rfl⟩) ⟨xw_blind, va_recv hKc hPc (ci := 7) (q0 := 0) rfl rfl, fun U hU hW => ⟨rfl, by rw [hU], hz.warm hW, by rw [hU]; exact hPc, va_K.moved hW.alike hKc, hDc.weaken (fun _ _ _ _ => trivial)⟩⟩ rfl rfl hl.1 rfl (lv_room (Nat.le_of_ble_eq_true rfl)) d_MD_level_43 ⟨Nat.le_of_ble_eq_true rfl, Nat.le_of_ble_eq_true rfl⟩) hS (fun q _ h => hFc q h) hFc (fun r_44 _ t H1 locs ht hvm hw_45 hB hz1 hk1 hS => ?_)
        obtain ⟨hP1, hK1, hD1⟩ := hB
        rw [ht] at hP1
        have hK1 := va_K.moved hvm.symm hK1
        obtain ⟨hP, hD⟩ := va_join (wr := []) (w1 := [(h0, .inr (7, [.int (md_th 1 1 1), .int (nI nm), .ref ap, .int (nI no), .ref am, .ref aw, .ref az, .ref au, .int kn, .long vP, .long vQ, .long vS, .long vT, .long vB, .long vM, .long vH, .ref ao, .ref ax, .int (nI np), .ref ay, .int (nI nl), .ref ad, .ref al, .int (nI sn), .ref ag, .int (nI ta), .int nb]))]) hP hD [0] [] rfl rfl (by decide) (by decide) hk1 hFc hP1 hD1
        generalize H1 = H at hP hS ⊢
        have hP : va_P (dC, dI) xCl [(h0, .inr (7, [.int (md_th 1 1 1), .int (nI nm), .ref ap, .int (nI no), .ref am, .ref aw, .ref az, .ref au, .int kn, .long vP, .long vQ, .long vS, .long vT, .long vB, .long vM, .long vH, .ref ao, .ref ax, .int (nI np), .ref ay, .int (nI nl), .ref ad, .ref al, .int (nI sn), .ref ag, .int (nI ta), .int nb]))] H := hP
        have hD : va_D A [(h0, .inr (7, [.int (md_th 1 1 1), .int (nI nm), .ref ap, .int (nI no), .ref am, .ref aw, .ref az, .ref au, .int kn, .long vP, .long vQ, .long vS, .long vT, .long vB, .long vM, .long vH, .ref ao, .ref ax, .int (nI np), .ref ay, .int (nI nl), .ref ad, .ref al, .int (nI sn), .ref ag, .int (nI ta), .int nb]))] := hD
        subst hw_45
        refine lv_if_ne (tgt := 51) hx hb d_MD_level_46 (by decide) (fun c_46 => ?_) (fun c_46 => ?_)
        · exact absurd (md_th_all (bI_t rfl c_46)) (fun q => hn ⟨n_25, ⟨b_34, b_43⟩⟩)
        · have b_47 := bI_f (rfl : bI (md_th 1 1 1 = 0) = _) c_46
          refine lv_iconst (v := 0) hx hb d_MD_level_49 (by decide) ?_
          have hP9 := hP.sub (ws' := [(h0, .inr (7, [.int (md_th 1 1 1), .int (nI nm), .ref ap, .int (nI no), .ref am, .ref aw, .ref az, .ref au, .int kn, .long vP, .long vQ, .long vS, .long vT, .long vB, .long vM, .long vH, .ref ao, .ref ax, .int (nI np), .ref ay, .int (nI nl), .ref ad, .ref al, .int (nI sn), .ref ag, .int (nI ta), .int nb]))]) [0] rfl
          have hD9 := hD.sub (ws' := [(h0, .inr (7, [.int (md_th 1 1 1), .int (nI nm), .ref ap, .int (nI no), .ref am, .ref aw, .ref az, .ref au, .int kn, .long vP, .long vQ, .long vS, .long vT, .long vB, .long vM, .long vH, .ref ao, .ref ax, .int (nI np), .ref ay, .int (nI nl), .ref ad, .ref al, .int (nI sn), .ref ag, .int (nI ta), .int nb]))]) [0] (by decide) rfl
          have hK9 := hK.sub (tys' := []) [] rfl
          exact W.iret (v := 0) hx hb hr (fun t ht hW => ⟨⟨0, (), rfl, rfl, ⟨by rw [ht]; rw [show bI (nl < 12) = 1 from (bI_p n_25).symm, show bI (md_win a (-100000) 100000 ∧ md_win b 1 10000) = 1 from (bI_p ⟨b_34, b_43⟩).symm]; exact hP9, va_K.moved hW.alike hK9, by rw [show bI (nl < 12) = 1 from (bI_p n_25).symm, show bI (md_win a (-100000) 100000 ∧ md_win b 1 10000) = 1 from (bI_p ⟨b_34, b_43⟩).symm]; exact hD9⟩⟩, hS.F ht⟩) hS.2.2 d_MD_level_50 hlocks
set_option maxHeartbeats 4000000 in
set_option maxRecDepth 100000 in
/-- open -/
theorem c_MD_open (l : Launch) (dC : Nat → ClassId) (dI : Nat → Nat → Nat) (sz : Nat) (h0 : Nat) (th : Int32) (nm : Nat) (ap : Nat) (no : Nat) (am : Nat) (aw : Nat) (az : Nat) (au : Nat) (kn : Int32) (vP : Int64) (vQ : Int64) (vS : Int64) (vT : Int64) (vB : Int64) (vM : Int64) (vH : Int64) (ao : Nat) (ax : Nat) (np : Nat) (ay : Nat) (nl : Nat) (ad : Nat) (al : Nat) (sn : Nat) (ag : Nat) (ta : Nat) (nb : Int32)  : Met l xy_MD_open xw_MD_open ({ frames := 0, cells := 0, slots := 0, locals := 0 }) (xp_w [.ref h0] sz (dC, dI) xCl [(h0, .inr (7, [.int th, .int (nI nm), .ref ap, .int (nI no), .ref am, .ref aw, .ref az, .ref au, .int kn, .long vP, .long vQ, .long vS, .long vT, .long vB, .long vM, .long vH, .ref ao, .ref ax, .int (nI np), .ref ay, .int (nI nl), .ref ad, .ref al, .int (nI sn), .ref ag, .int (nI ta), .int nb]))] []) (va_Qi (fun (r : Int32) (_ : Unit) => r = nI nl) (fun _ t => xb_w (dC, dI) xCl [(h0, .inr (7, [.int 0, .int (nI nm), .ref ap, .int (nI no), .ref am, .ref aw, .ref az, .ref au, .int kn, .long vP, .long vQ, .long vS, .long vT, .long vB, .long vM, .long vH, .ref ao, .ref ax, .int (nI np), .ref ay, .int (nI 0), .ref ad, .ref al, .int (nI sn), .ref ag, .int (nI ta), .int nb]))] [] (va_A [(h0, .inr (7, [.int th, .int (nI nm), .ref ap, .int (nI no), .ref am, .ref aw, .ref az, .ref au, .int kn, .long vP, .long vQ, .long vS, .long vT, .long vB, .long vM, .long vH, .ref ao, .ref ax, .int (nI np), .ref ay, .int (nI nl), .ref ad, .ref al, .int (nI sn), .ref ag, .int (nI ta), .int nb]))] sz) t) (va_A [(h0, .inr (7, [.int th, .int (nI nm), .ref ap, .int (nI no), .ref am, .ref aw, .ref az, .ref au, .int kn, .long vP, .long vQ, .long vS, .long vT, .long vB, .long vM, .long vH, .ref ao, .ref ax, .int (nI np), .ref ay, .int (nI nl), .ref ad, .ref al, .int (nI sn), .ref ag, .int (nI ta), .int nb]))] sz)) 0 0 (va_A [(h0, .inr (7, [.int th, .int (nI nm), .ref ap, .int (nI no), .ref am, .ref aw, .ref az, .ref au, .int kn, .long vP, .long vQ, .long vS, .long vT, .long vB, .long vM, .long vH, .ref ao, .ref ax, .int (nI np), .ref ay, .int (nI nl), .ref ad, .ref al, .int (nI sn), .ref ag, .int (nI ta), .int nb]))] sz) := by
  refine Met.ofW (cc := prog_9_method_29_code) (maxL := 2) (ret := (some .int)) (by decide) rfl ?_
  intro p e s m args below meth c s₁ B hml hv
  obtain ⟨rfl, hsz, hz, hP, hK, hD0⟩ := hv
  have hx := B.exec
  have hb := B.bytes
  have hr := B.returns
  have hts := atoms_spec (ws := xw_MD_open) B.pre
  have hown : s.vm.findClass xR_MD = some m.cls := findClass_of_methodNamed B.named
  have hlocks := B.notSynchronized
  subst hsz
  have hD := hD0.self (sz := s.heap.size)
  generalize hAe : va_A [(h0, .inr (7, [.int th, .int (nI nm), .ref ap, .int (nI no), .ref am, .ref aw, .ref az, .ref au, .int kn, .long vP, .long vQ, .long vS, .long vT, .long vB, .long vM, .long vH, .ref ao, .ref ax, .int (nI np), .ref ay, .int (nI nl), .ref ad, .ref al, .int (nI sn), .ref ag, .int (nI ta), .int nb]))] s.heap.size = A at hD ⊢
  have hA : ∀ q : Nat, s.heap.size ≤ q → A q := fun q h => by rw [← hAe]; exact Or.inr h
  have hS : va_S A s.heap s.heap [] := va_S.rf
  have hP : va_P (dC, dI) xCl [(h0, .inr (7, [.int th, .int (nI nm), .ref ap, .int (nI no), .ref am, .ref aw, .ref az, .ref au, .int kn, .long vP, .long vQ, .long vS, .long vT, .long vB, .long vM, .long vH, .ref ao, .ref ax, .int (nI np), .ref ay, .int (nI nl), .ref ad, .ref al, .int (nI sn), .ref ag, .int (nI ta), .int nb]))] s.heap := hP
  have hl := lv_entry ([.ref h0]) (n := 2) (Nat.le_of_ble_eq_true rfl)
  rw [lg_entry_eq]
  generalize (lg_sl ([.ref h0]) ++ List.replicate (2 - (lg_sl ([.ref h0])).length) Slot.unset).toArray = ls at hl ⊢
  have hl : lv_has ls 2 [(0, .ref h0)] := hl
  refine lv_aload_n hx hb d_MD_open_0 rfl (lv_at hl 0 rfl) ?_
  refine lv_iconst (v := 0) hx hb d_MD_open_1 (by decide) ?_
  refine va_put (D := (dC, dI)) (ci := 7) (v := .int 0) (ty := .int) (C := xR_MD) (T := xT_MD) (N := 27) hx hb hts (fun w h => List.mem_cons_of_mem _ (iw_MD w h)) xt_MD xt_MD_ok xn_MD_nm hown hK hP hD hS 0 rfl rfl 0 (by decide) (hts _ (List.mem_cons_of_mem _ wm_697)) (fun _ h9 => h9) rfl (by decide +kernel) rfl rfl (Nat.le_of_ble_eq_true rfl) d_MD_open_2 (fun H locs hP hD hS => ?_)
  have hP : va_P (dC, dI) xCl [(h0, .inr (7, [.int 0, .int (nI nm), .ref ap, .int (nI no), .ref am, .ref aw, .ref az, .ref au, .int kn, .long vP, .long vQ, .long vS, .long vT, .long vB, .long vM, .long vH, .ref ao, .ref ax, .int (nI np), .ref ay, .int (nI nl), .ref ad, .ref al, .int (nI sn), .ref ag, .int (nI ta), .int nb]))] H := hP
  have hD : va_D A [(h0, .inr (7, [.int 0, .int (nI nm), .ref ap, .int (nI no), .ref am, .ref aw, .ref az, .ref au, .int kn, .long vP, .long vQ, .long vS, .long vT, .long vB, .long vM, .long vH, .ref ao, .ref ax, .int (nI np), .ref ay, .int (nI nl), .ref ad, .ref al, .int (nI sn), .ref ag, .int (nI ta), .int nb]))] := hD
  refine lv_aload_n hx hb d_MD_open_5 rfl (lv_at hl 0 rfl) ?_
  refine va_get (D := (dC, dI)) (ci := 7) (v := .int (nI nl)) (C := xR_MD) (T := xT_MD) (N := 27) hx hb hts (fun w h => List.mem_cons_of_mem _ (iw_MD w h)) hown hK hP 0 rfl rfl 20 (by decide) (hts _ (List.mem_cons_of_mem _ wm_717)) (fun _ h9 => h9) rfl d_MD_open_6 ?_
  refine lv_istore_n (lv' := [(1, .int (nI nl)), (0, .ref h0)]) hx hb d_MD_open_9 rfl hl (by decide) rfl (fun ls hl => ?_)
  refine lv_aload_n hx hb d_MD_open_10 rfl (lv_at hl 1 rfl) ?_
  refine lv_iconst (v := 0) hx hb d_MD_open_11 (by decide) ?_
  refine va_put (D := (dC, dI)) (ci := 7) (v := .int 0) (ty := .int) (C := xR_MD) (T := xT_MD) (N := 27) hx hb hts (fun w h => List.mem_cons_of_mem _ (iw_MD w h)) xt_MD xt_MD_ok xn_MD_nm hown hK hP hD hS 0 rfl rfl 20 (by decide) (hts _ (List.mem_cons_of_mem _ wm_717)) (fun _ h9 => h9) rfl (by decide +kernel) rfl rfl (Nat.le_of_ble_eq_true rfl) d_MD_open_12 (fun H locs hP hD hS => ?_)
  have hP : va_P (dC, dI) xCl [(h0, .inr (7, [.int 0, .int (nI nm), .ref ap, .int (nI no), .ref am, .ref aw, .ref az, .ref au, .int kn, .long vP, .long vQ, .long vS, .long vT, .long vB, .long vM, .long vH, .ref ao, .ref ax, .int (nI np), .ref ay, .int 0, .ref ad, .ref al, .int (nI sn), .ref ag, .int (nI ta), .int nb]))] H := hP
  have hD : va_D A [(h0, .inr (7, [.int 0, .int (nI nm), .ref ap, .int (nI no), .ref am, .ref aw, .ref az, .ref au, .int kn, .long vP, .long vQ, .long vS, .long vT, .long vB, .long vM, .long vH, .ref ao, .ref ax, .int (nI np), .ref ay, .int 0, .ref ad, .ref al, .int (nI sn), .ref ag, .int (nI ta), .int nb]))] := hD
  refine lv_iload_n hx hb d_MD_open_15 rfl (lv_at hl 0 rfl) ?_
  have hP9 := hP.sub (ws' := [(h0, .inr (7, [.int 0, .int (nI nm), .ref ap, .int (nI no), .ref am, .ref aw, .ref az, .ref au, .int kn, .long vP, .long vQ, .long vS, .long vT, .long vB, .long vM, .long vH, .ref ao, .ref ax, .int (nI np), .ref ay, .int 0, .ref ad, .ref al, .int (nI sn), .ref ag, .int (nI ta), .int nb]))]) [0] rfl
  have hD9 := hD.sub (ws' := [(h0, .inr (7, [.int 0, .int (nI nm), .ref ap, .int (nI no), .ref am, .ref aw, .ref az, .ref au, .int kn, .long vP, .long vQ, .long vS, .long vT, .long vB, .long vM, .long vH, .ref ao, .ref ax, .int (nI np), .ref ay, .int 0, .ref ad, .ref al, .int (nI sn), .ref ag, .int (nI ta), .int nb]))]) [0] (by decide) rfl
  have hK9 := hK.sub (tys' := []) [] rfl
  exact W.iret (v := nI nl) hx hb hr (fun t ht hW => ⟨⟨nI nl, (), rfl, rfl, ⟨by rw [ht]; exact hP9, va_K.moved hW.alike hK9, by exact hD9⟩⟩, hS.F ht⟩) hS.2.2 d_MD_open_16 hlocks
