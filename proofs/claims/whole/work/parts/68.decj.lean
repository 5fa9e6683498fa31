theorem d_LA_law_990 : decode code 990 = .ok (.aload_n 2, 1) := by decide +kernel
theorem d_LA_law_991 : decode code 991 = .ok (.aload_n 0, 1) := by decide +kernel
theorem d_LA_law_992 : decode code 992 = .ok (.iload 4, 2) := by decide +kernel
theorem d_LA_law_994 : decode code 994 = .ok (.iconst 1, 1) := by decide +kernel
theorem d_LA_law_995 : decode code 995 = .ok (.iadd, 1) := by decide +kernel
theorem d_LA_law_996 : decode code 996 = .ok (.iaload, 1) := by decide +kernel
theorem d_LA_law_997 : decode code 997 = .ok (.aload_n 0, 1) := by decide +kernel
theorem d_LA_law_998 : decode code 998 = .ok (.iload 4, 2) := by decide +kernel
theorem d_LA_law_1000 : decode code 1000 = .ok (.iconst 2, 1) := by decide +kernel
theorem d_LA_law_1001 : decode code 1001 = .ok (.iadd, 1) := by decide +kernel
theorem d_LA_law_1002 : decode code 1002 = .ok (.iaload, 1) := by decide +kernel
theorem d_LA_law_1003 : decode code 1003 = .ok (.invokevirtual 126, 3) := by decide +kernel
theorem d_LA_law_1006 : decode code 1006 = .ok (.istore 6, 2) := by decide +kernel
theorem d_LA_law_1008 : decode code 1008 = .ok (.aload_n 2, 1) := by decide +kernel
theorem d_LA_law_1009 : decode code 1009 = .ok (.invokevirtual 74, 3) := by decide +kernel
theorem d_LA_law_1012 : decode code 1012 = .ok (.iload 5, 2) := by decide +kernel
theorem d_LA_law_1014 : decode code 1014 = .ok (.if_icmp .eq 5, 3) := by decide +kernel
theorem d_LA_law_1019 : decode code 1019 = .ok (.iload 5, 2) := by decide +kernel
theorem d_LA_law_1021 : decode code 1021 = .ok (.ifCond .ne 15, 3) := by decide +kernel
theorem d_LA_law_1024 : decode code 1024 = .ok (.aload_n 3, 1) := by decide +kernel
theorem d_LA_law_1025 : decode code 1025 = .ok (.iconst 0, 1) := by decide +kernel
theorem d_LA_law_1026 : decode code 1026 = .ok (.laload, 1) := by decide +kernel
theorem d_LA_law_1027 : decode code 1027 = .ok (.iload 6, 2) := by decide +kernel
theorem d_LA_law_1029 : decode code 1029 = .ok (.i2l, 1) := by decide +kernel
theorem d_LA_law_1030 : decode code 1030 = .ok (.lcmp, 1) := by decide +kernel
theorem d_LA_law_1031 : decode code 1031 = .ok (.ifCond .eq 5, 3) := by decide +kernel
theorem d_LA_law_1036 : decode code 1036 = .ok (.goto 72, 3) := by decide +kernel
theorem d_LA_law_1039 : decode code 1039 = .ok (.aload_n 1, 1) := by decide +kernel
theorem d_LA_law_1040 : decode code 1040 = .ok (.invokevirtual 127, 3) := by decide +kernel
theorem d_LA_law_1043 : decode code 1043 = .ok (.aload_n 2, 1) := by decide +kernel
theorem d_LA_law_1044 : decode code 1044 = .ok (.invokevirtual 130, 3) := by decide +kernel
theorem d_LA_law_1047 : decode code 1047 = .ok (.if_icmp .eq 61, 3) := by decide +kernel
theorem d_LA_law_1052 : decode code 1052 = .ok (.aload_n 1, 1) := by decide +kernel
theorem d_LA_law_1053 : decode code 1053 = .ok (.aload_n 0, 1) := by decide +kernel
theorem d_LA_law_1054 : decode code 1054 = .ok (.iload 4, 2) := by decide +kernel
theorem d_LA_law_1056 : decode code 1056 = .ok (.iconst 1, 1) := by decide +kernel
theorem d_LA_law_1057 : decode code 1057 = .ok (.iadd, 1) := by decide +kernel
theorem d_LA_law_1058 : decode code 1058 = .ok (.iaload, 1) := by decide +kernel
theorem d_LA_law_1059 : decode code 1059 = .ok (.aload_n 3, 1) := by decide +kernel
theorem d_LA_law_1060 : decode code 1060 = .ok (.invokestatic 131, 3) := by decide +kernel
theorem d_LA_law_1063 : decode code 1063 = .ok (.istore 5, 2) := by decide +kernel
theorem d_LA_law_1065 : decode code 1065 = .ok (.aload_n 2, 1) := by decide +kernel
theorem d_LA_law_1066 : decode code 1066 = .ok (.aload_n 0, 1) := by decide +kernel
theorem d_LA_law_1067 : decode code 1067 = .ok (.iload 4, 2) := by decide +kernel
theorem d_LA_law_1069 : decode code 1069 = .ok (.iconst 1, 1) := by decide +kernel
theorem d_LA_law_1070 : decode code 1070 = .ok (.iadd, 1) := by decide +kernel
theorem d_LA_law_1071 : decode code 1071 = .ok (.iaload, 1) := by decide +kernel
theorem d_LA_law_1072 : decode code 1072 = .ok (.invokevirtual 133, 3) := by decide +kernel
theorem d_LA_law_1075 : decode code 1075 = .ok (.istore 6, 2) := by decide +kernel
theorem d_LA_law_1077 : decode code 1077 = .ok (.aload_n 2, 1) := by decide +kernel
theorem d_LA_law_1078 : decode code 1078 = .ok (.invokevirtual 74, 3) := by decide +kernel
theorem d_LA_law_1081 : decode code 1081 = .ok (.iload 5, 2) := by decide +kernel
theorem d_LA_law_1083 : decode code 1083 = .ok (.if_icmp .eq 5, 3) := by decide +kernel
theorem d_LA_law_1088 : decode code 1088 = .ok (.iload 5, 2) := by decide +kernel
theorem d_LA_law_1090 : decode code 1090 = .ok (.ifCond .ne 15, 3) := by decide +kernel
theorem d_LA_law_1093 : decode code 1093 = .ok (.aload_n 3, 1) := by decide +kernel
theorem d_LA_law_1094 : decode code 1094 = .ok (.iconst 0, 1) := by decide +kernel
theorem d_LA_law_1095 : decode code 1095 = .ok (.laload, 1) := by decide +kernel
theorem d_LA_law_1096 : decode code 1096 = .ok (.iload 6, 2) := by decide +kernel
theorem d_LA_law_1098 : decode code 1098 = .ok (.i2l, 1) := by decide +kernel
