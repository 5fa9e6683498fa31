theorem d_LA_law_882 : decode code 882 = .ok (.iload 5, 2) := by decide +kernel
theorem d_LA_law_884 : decode code 884 = .ok (.ifCond .ne 15, 3) := by decide +kernel
theorem d_LA_law_887 : decode code 887 = .ok (.aload_n 3, 1) := by decide +kernel
theorem d_LA_law_888 : decode code 888 = .ok (.iconst 0, 1) := by decide +kernel
theorem d_LA_law_889 : decode code 889 = .ok (.laload, 1) := by decide +kernel
theorem d_LA_law_890 : decode code 890 = .ok (.iload 6, 2) := by decide +kernel
theorem d_LA_law_892 : decode code 892 = .ok (.i2l, 1) := by decide +kernel
theorem d_LA_law_893 : decode code 893 = .ok (.lcmp, 1) := by decide +kernel
theorem d_LA_law_894 : decode code 894 = .ok (.ifCond .eq 5, 3) := by decide +kernel
theorem d_LA_law_899 : decode code 899 = .ok (.goto 209, 3) := by decide +kernel
theorem d_LA_law_902 : decode code 902 = .ok (.aload_n 1, 1) := by decide +kernel
theorem d_LA_law_903 : decode code 903 = .ok (.aload_n 0, 1) := by decide +kernel
theorem d_LA_law_904 : decode code 904 = .ok (.iload 4, 2) := by decide +kernel
theorem d_LA_law_906 : decode code 906 = .ok (.iconst 1, 1) := by decide +kernel
theorem d_LA_law_907 : decode code 907 = .ok (.iadd, 1) := by decide +kernel
theorem d_LA_law_908 : decode code 908 = .ok (.iaload, 1) := by decide +kernel
theorem d_LA_law_909 : decode code 909 = .ok (.aload_n 3, 1) := by decide +kernel
theorem d_LA_law_910 : decode code 910 = .ok (.invokestatic 117, 3) := by decide +kernel
theorem d_LA_law_913 : decode code 913 = .ok (.istore 5, 2) := by decide +kernel
theorem d_LA_law_915 : decode code 915 = .ok (.aload_n 2, 1) := by decide +kernel
theorem d_LA_law_916 : decode code 916 = .ok (.aload_n 0, 1) := by decide +kernel
theorem d_LA_law_917 : decode code 917 = .ok (.iload 4, 2) := by decide +kernel
theorem d_LA_law_919 : decode code 919 = .ok (.iconst 1, 1) := by decide +kernel
theorem d_LA_law_920 : decode code 920 = .ok (.iadd, 1) := by decide +kernel
theorem d_LA_law_921 : decode code 921 = .ok (.iaload, 1) := by decide +kernel
theorem d_LA_law_922 : decode code 922 = .ok (.invokevirtual 119, 3) := by decide +kernel
theorem d_LA_law_925 : decode code 925 = .ok (.istore 6, 2) := by decide +kernel
theorem d_LA_law_927 : decode code 927 = .ok (.aload_n 2, 1) := by decide +kernel
theorem d_LA_law_928 : decode code 928 = .ok (.invokevirtual 74, 3) := by decide +kernel
theorem d_LA_law_931 : decode code 931 = .ok (.iload 5, 2) := by decide +kernel
theorem d_LA_law_933 : decode code 933 = .ok (.if_icmp .eq 5, 3) := by decide +kernel
theorem d_LA_law_938 : decode code 938 = .ok (.iload 5, 2) := by decide +kernel
theorem d_LA_law_940 : decode code 940 = .ok (.ifCond .ne 15, 3) := by decide +kernel
theorem d_LA_law_943 : decode code 943 = .ok (.aload_n 3, 1) := by decide +kernel
theorem d_LA_law_944 : decode code 944 = .ok (.iconst 0, 1) := by decide +kernel
theorem d_LA_law_945 : decode code 945 = .ok (.laload, 1) := by decide +kernel
theorem d_LA_law_946 : decode code 946 = .ok (.iload 6, 2) := by decide +kernel
theorem d_LA_law_948 : decode code 948 = .ok (.i2l, 1) := by decide +kernel
theorem d_LA_law_949 : decode code 949 = .ok (.lcmp, 1) := by decide +kernel
theorem d_LA_law_950 : decode code 950 = .ok (.ifCond .eq 5, 3) := by decide +kernel
theorem d_LA_law_955 : decode code 955 = .ok (.goto 153, 3) := by decide +kernel
theorem d_LA_law_958 : decode code 958 = .ok (.aload_n 1, 1) := by decide +kernel
theorem d_LA_law_959 : decode code 959 = .ok (.invokevirtual 120, 3) := by decide +kernel
theorem d_LA_law_962 : decode code 962 = .ok (.aload_n 2, 1) := by decide +kernel
theorem d_LA_law_963 : decode code 963 = .ok (.invokevirtual 123, 3) := by decide +kernel
theorem d_LA_law_966 : decode code 966 = .ok (.if_icmp .eq 142, 3) := by decide +kernel
theorem d_LA_law_971 : decode code 971 = .ok (.aload_n 1, 1) := by decide +kernel
theorem d_LA_law_972 : decode code 972 = .ok (.aload_n 0, 1) := by decide +kernel
theorem d_LA_law_973 : decode code 973 = .ok (.iload 4, 2) := by decide +kernel
theorem d_LA_law_975 : decode code 975 = .ok (.iconst 1, 1) := by decide +kernel
theorem d_LA_law_976 : decode code 976 = .ok (.iadd, 1) := by decide +kernel
theorem d_LA_law_977 : decode code 977 = .ok (.iaload, 1) := by decide +kernel
theorem d_LA_law_978 : decode code 978 = .ok (.aload_n 0, 1) := by decide +kernel
theorem d_LA_law_979 : decode code 979 = .ok (.iload 4, 2) := by decide +kernel
theorem d_LA_law_981 : decode code 981 = .ok (.iconst 2, 1) := by decide +kernel
theorem d_LA_law_982 : decode code 982 = .ok (.iadd, 1) := by decide +kernel
theorem d_LA_law_983 : decode code 983 = .ok (.iaload, 1) := by decide +kernel
theorem d_LA_law_984 : decode code 984 = .ok (.aload_n 3, 1) := by decide +kernel
theorem d_LA_law_985 : decode code 985 = .ok (.invokestatic 124, 3) := by decide +kernel
theorem d_LA_law_988 : decode code 988 = .ok (.istore 5, 2) := by decide +kernel
