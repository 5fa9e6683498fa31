theorem d_LA_law_1099 : decode code 1099 = .ok (.lcmp, 1) := by decide +kernel
theorem d_LA_law_1100 : decode code 1100 = .ok (.ifCond .eq 5, 3) := by decide +kernel
theorem d_LA_law_1105 : decode code 1105 = .ok (.goto 3, 3) := by decide +kernel
theorem d_LA_law_1108 : decode code 1108 = .ok (.iinc 4 5, 3) := by decide +kernel
theorem d_LA_law_1111 : decode code 1111 = .ok (.goto (-1088), 3) := by decide +kernel
theorem d_LA_law_1114 : decode code 1114 = .ok (.iconst 1, 1) := by decide +kernel
theorem d_LA_law_1115 : decode code 1115 = .ok (.ireturn, 1) := by decide +kernel
