theorem dL_dams_16 : decode cL_dams 16 = .ok (.iconst 1, 1) := by decide +kernel
theorem dL_dams_17 : decode cL_dams 17 = .ok (.goto 4, 3) := by decide +kernel
theorem dL_dams_20 : decode cL_dams 20 = .ok (.iconst 0, 1) := by decide +kernel
theorem dL_dams_21 : decode cL_dams 21 = .ok (.iload_n 2, 1) := by decide +kernel
theorem dL_dams_22 : decode cL_dams 22 = .ok (.ifCond .lt 12, 3) := by decide +kernel
theorem dL_dams_25 : decode cL_dams 25 = .ok (.iload_n 2, 1) := by decide +kernel
theorem dL_dams_26 : decode cL_dams 26 = .ok (.iload_n 1, 1) := by decide +kernel
theorem dL_dams_27 : decode cL_dams 27 = .ok (.if_icmp .gt 7, 3) := by decide +kernel
theorem dL_dams_30 : decode cL_dams 30 = .ok (.iconst 1, 1) := by decide +kernel
theorem dL_dams_31 : decode cL_dams 31 = .ok (.goto 4, 3) := by decide +kernel
theorem dL_dams_34 : decode cL_dams 34 = .ok (.iconst 0, 1) := by decide +kernel
theorem dL_dams_35 : decode cL_dams 35 = .ok (.if_icmp .ne 7, 3) := by decide +kernel
theorem dL_dams_38 : decode cL_dams 38 = .ok (.iconst 1, 1) := by decide +kernel
theorem dL_dams_39 : decode cL_dams 39 = .ok (.goto 4, 3) := by decide +kernel
theorem dL_dams_42 : decode cL_dams 42 = .ok (.iconst 0, 1) := by decide +kernel
theorem dL_dams_43 : decode cL_dams 43 = .ok (.istore 4, 2) := by decide +kernel
theorem dL_dams_45 : decode cL_dams 45 = .ok (.iload_n 3, 1) := by decide +kernel
theorem dL_dams_46 : decode cL_dams 46 = .ok (.ifCond .lt 124, 3) := by decide +kernel
theorem dL_dams_49 : decode cL_dams 49 = .ok (.aload_n 0, 1) := by decide +kernel
theorem dL_dams_50 : decode cL_dams 50 = .ok (.bipush 24, 2) := by decide +kernel
theorem dL_dams_52 : decode cL_dams 52 = .ok (.iconst 0, 1) := by decide +kernel
theorem dL_dams_53 : decode cL_dams 53 = .ok (.invokevirtual 30, 3) := by decide +kernel
theorem dL_dams_56 : decode cL_dams 56 = .ok (.istore 5, 2) := by decide +kernel
theorem dL_dams_58 : decode cL_dams 58 = .ok (.iload 4, 2) := by decide +kernel
theorem dL_dams_60 : decode cL_dams 60 = .ok (.ifCond .eq 50, 3) := by decide +kernel
theorem dL_dams_63 : decode cL_dams 63 = .ok (.iload 5, 2) := by decide +kernel
theorem dL_dams_65 : decode cL_dams 65 = .ok (.ifCond .lt 45, 3) := by decide +kernel
theorem dL_dams_68 : decode cL_dams 68 = .ok (.iload 5, 2) := by decide +kernel
theorem dL_dams_70 : decode cL_dams 70 = .ok (.iload_n 3, 1) := by decide +kernel
theorem dL_dams_71 : decode cL_dams 71 = .ok (.if_icmp .gt 39, 3) := by decide +kernel
theorem dL_dams_74 : decode cL_dams 74 = .ok (.aload_n 0, 1) := by decide +kernel
theorem dL_dams_75 : decode cL_dams 75 = .ok (.iload_n 1, 1) := by decide +kernel
theorem dL_dams_76 : decode cL_dams 76 = .ok (.iconst 3, 1) := by decide +kernel
theorem dL_dams_77 : decode cL_dams 77 = .ok (.invokevirtual 30, 3) := by decide +kernel
theorem dL_dams_80 : decode cL_dams 80 = .ok (.iload_n 1, 1) := by decide +kernel
theorem dL_dams_81 : decode cL_dams 81 = .ok (.if_icmp .gt 29, 3) := by decide +kernel
theorem dL_dams_84 : decode cL_dams 84 = .ok (.aload_n 0, 1) := by decide +kernel
theorem dL_dams_85 : decode cL_dams 85 = .ok (.iconst 5, 1) := by decide +kernel
theorem dL_dams_86 : decode cL_dams 86 = .ok (.invokevirtual 9, 3) := by decide +kernel
theorem dL_dams_89 : decode cL_dams 89 = .ok (.iload_n 1, 1) := by decide +kernel
theorem dL_dams_90 : decode cL_dams 90 = .ok (.if_icmp .gt 16, 3) := by decide +kernel
theorem dL_dams_93 : decode cL_dams 93 = .ok (.iload_n 3, 1) := by decide +kernel
theorem dL_dams_94 : decode cL_dams 94 = .ok (.ifCond .eq 12, 3) := by decide +kernel
theorem dL_dams_97 : decode cL_dams 97 = .ok (.aload_n 0, 1) := by decide +kernel
theorem dL_dams_98 : decode cL_dams 98 = .ok (.iload_n 1, 1) := by decide +kernel
theorem dL_dams_99 : decode cL_dams 99 = .ok (.iconst 2, 1) := by decide +kernel
theorem dL_dams_100 : decode cL_dams 100 = .ok (.invokevirtual 30, 3) := by decide +kernel
theorem dL_dams_103 : decode cL_dams 103 = .ok (.ifCond .lt 7, 3) := by decide +kernel
theorem dL_dams_106 : decode cL_dams 106 = .ok (.iconst 1, 1) := by decide +kernel
theorem dL_dams_107 : decode cL_dams 107 = .ok (.goto 4, 3) := by decide +kernel
theorem dL_dams_110 : decode cL_dams 110 = .ok (.iconst 0, 1) := by decide +kernel
theorem dL_dams_111 : decode cL_dams 111 = .ok (.istore 4, 2) := by decide +kernel
theorem dL_dams_113 : decode cL_dams 113 = .ok (.iconst 0, 1) := by decide +kernel
theorem dL_dams_114 : decode cL_dams 114 = .ok (.istore 6, 2) := by decide +kernel
theorem dL_dams_116 : decode cL_dams 116 = .ok (.iconst 0, 1) := by decide +kernel
theorem dL_dams_117 : decode cL_dams 117 = .ok (.istore 7, 2) := by decide +kernel
theorem dL_dams_119 : decode cL_dams 119 = .ok (.iload 7, 2) := by decide +kernel
theorem dL_dams_121 : decode cL_dams 121 = .ok (.aload_n 0, 1) := by decide +kernel
theorem dL_dams_122 : decode cL_dams 122 = .ok (.iload_n 1, 1) := by decide +kernel
theorem dL_dams_123 : decode cL_dams 123 = .ok (.iconst 1, 1) := by decide +kernel
theorem dL_dams_124 : decode cL_dams 124 = .ok (.invokevirtual 30, 3) := by decide +kernel
theorem dL_dams_127 : decode cL_dams 127 = .ok (.if_icmp .ge 21, 3) := by decide +kernel
theorem dL_dams_130 : decode cL_dams 130 = .ok (.iload 6, 2) := by decide +kernel
theorem dL_dams_132 : decode cL_dams 132 = .ok (.aload_n 0, 1) := by decide +kernel
theorem dL_dams_133 : decode cL_dams 133 = .ok (.iload_n 1, 1) := by decide +kernel
theorem dL_dams_134 : decode cL_dams 134 = .ok (.iload 7, 2) := by decide +kernel
theorem dL_dams_136 : decode cL_dams 136 = .ok (.invokevirtual 33, 3) := by decide +kernel
theorem dL_dams_139 : decode cL_dams 139 = .ok (.iadd, 1) := by decide +kernel
theorem dL_dams_140 : decode cL_dams 140 = .ok (.istore 6, 2) := by decide +kernel
theorem dL_dams_142 : decode cL_dams 142 = .ok (.iinc 7 1, 3) := by decide +kernel
