/-! the law's instructions -/
theorem d_law_1043 : decode code 1043 = .ok (.ireturn, 1) := by decide +kernel
theorem d_law_1044 : decode code 1044 = .ok (.iload 5, 2) := by decide +kernel
theorem d_law_1046 : decode code 1046 = .ok (.ifCond .ne 22, 3) := by decide +kernel
theorem d_law_1049 : decode code 1049 = .ok (.aload_n 3, 1) := by decide +kernel
theorem d_law_1050 : decode code 1050 = .ok (.iconst 0, 1) := by decide +kernel
theorem d_law_1051 : decode code 1051 = .ok (.laload, 1) := by decide +kernel
theorem d_law_1052 : decode code 1052 = .ok (.iload 6, 2) := by decide +kernel
theorem d_law_1054 : decode code 1054 = .ok (.ifCond .eq 7, 3) := by decide +kernel
theorem d_law_1057 : decode code 1057 = .ok (.lconst 1, 1) := by decide +kernel
theorem d_law_1058 : decode code 1058 = .ok (.goto 4, 3) := by decide +kernel
theorem d_law_1061 : decode code 1061 = .ok (.lconst 0, 1) := by decide +kernel
theorem d_law_1062 : decode code 1062 = .ok (.lcmp, 1) := by decide +kernel
theorem d_law_1063 : decode code 1063 = .ok (.ifCond .eq 5, 3) := by decide +kernel
theorem d_law_1066 : decode code 1066 = .ok (.iconst 0, 1) := by decide +kernel
theorem d_law_1067 : decode code 1067 = .ok (.ireturn, 1) := by decide +kernel
theorem d_law_1068 : decode code 1068 = .ok (.goto 3, 3) := by decide +kernel
theorem d_law_1071 : decode code 1071 = .ok (.iinc 4 4, 3) := by decide +kernel
theorem d_law_1074 : decode code 1074 = .ok (.goto (-1041), 3) := by decide +kernel
theorem d_law_1077 : decode code 1077 = .ok (.iconst 1, 1) := by decide +kernel
theorem d_law_1078 : decode code 1078 = .ok (.ireturn, 1) := by decide +kernel
