theorem dL_isPeak_0 : decode cL_isPeak 0 = .ok (.aload_n 0, 1) := by decide +kernel
theorem dL_isPeak_1 : decode cL_isPeak 1 = .ok (.iload_n 1, 1) := by decide +kernel
theorem dL_isPeak_2 : decode cL_isPeak 2 = .ok (.invokestatic 167, 3) := by decide +kernel
theorem dL_isPeak_5 : decode cL_isPeak 5 = .ok (.istore_n 2, 1) := by decide +kernel
theorem dL_isPeak_6 : decode cL_isPeak 6 = .ok (.aload_n 0, 1) := by decide +kernel
theorem dL_isPeak_7 : decode cL_isPeak 7 = .ok (.iconst 0, 1) := by decide +kernel
theorem dL_isPeak_8 : decode cL_isPeak 8 = .ok (.iload_n 2, 1) := by decide +kernel
theorem dL_isPeak_9 : decode cL_isPeak 9 = .ok (.iload_n 1, 1) := by decide +kernel
theorem dL_isPeak_10 : decode cL_isPeak 10 = .ok (.invokestatic 164, 3) := by decide +kernel
theorem dL_isPeak_13 : decode cL_isPeak 13 = .ok (.istore_n 3, 1) := by decide +kernel
theorem dL_isPeak_14 : decode cL_isPeak 14 = .ok (.iconst 1, 1) := by decide +kernel
theorem dL_isPeak_15 : decode cL_isPeak 15 = .ok (.istore 4, 2) := by decide +kernel
theorem dL_isPeak_17 : decode cL_isPeak 17 = .ok (.iconst 0, 1) := by decide +kernel
theorem dL_isPeak_18 : decode cL_isPeak 18 = .ok (.istore 5, 2) := by decide +kernel
theorem dL_isPeak_20 : decode cL_isPeak 20 = .ok (.iload 5, 2) := by decide +kernel
theorem dL_isPeak_22 : decode cL_isPeak 22 = .ok (.bipush 9, 2) := by decide +kernel
theorem dL_isPeak_24 : decode cL_isPeak 24 = .ok (.if_icmp .ge 59, 3) := by decide +kernel
theorem dL_isPeak_27 : decode cL_isPeak 27 = .ok (.iload 4, 2) := by decide +kernel
theorem dL_isPeak_29 : decode cL_isPeak 29 = .ok (.ifCond .eq 54, 3) := by decide +kernel
theorem dL_isPeak_32 : decode cL_isPeak 32 = .ok (.iload 5, 2) := by decide +kernel
theorem dL_isPeak_34 : decode cL_isPeak 34 = .ok (.iload_n 2, 1) := by decide +kernel
theorem dL_isPeak_35 : decode cL_isPeak 35 = .ok (.if_icmp .ge 23, 3) := by decide +kernel
theorem dL_isPeak_38 : decode cL_isPeak 38 = .ok (.aload_n 0, 1) := by decide +kernel
theorem dL_isPeak_39 : decode cL_isPeak 39 = .ok (.iconst 0, 1) := by decide +kernel
theorem dL_isPeak_40 : decode cL_isPeak 40 = .ok (.iload 5, 2) := by decide +kernel
theorem dL_isPeak_42 : decode cL_isPeak 42 = .ok (.iload_n 1, 1) := by decide +kernel
theorem dL_isPeak_43 : decode cL_isPeak 43 = .ok (.invokestatic 164, 3) := by decide +kernel
theorem dL_isPeak_46 : decode cL_isPeak 46 = .ok (.iload_n 3, 1) := by decide +kernel
theorem dL_isPeak_47 : decode cL_isPeak 47 = .ok (.if_icmp .le 7, 3) := by decide +kernel
theorem dL_isPeak_50 : decode cL_isPeak 50 = .ok (.iconst 1, 1) := by decide +kernel
theorem dL_isPeak_51 : decode cL_isPeak 51 = .ok (.goto 24, 3) := by decide +kernel
theorem dL_isPeak_54 : decode cL_isPeak 54 = .ok (.iconst 0, 1) := by decide +kernel
theorem dL_isPeak_55 : decode cL_isPeak 55 = .ok (.goto 20, 3) := by decide +kernel
theorem dL_isPeak_58 : decode cL_isPeak 58 = .ok (.aload_n 0, 1) := by decide +kernel
theorem dL_isPeak_59 : decode cL_isPeak 59 = .ok (.iconst 0, 1) := by decide +kernel
theorem dL_isPeak_60 : decode cL_isPeak 60 = .ok (.iload 5, 2) := by decide +kernel
theorem dL_isPeak_62 : decode cL_isPeak 62 = .ok (.iload_n 1, 1) := by decide +kernel
theorem dL_isPeak_63 : decode cL_isPeak 63 = .ok (.invokestatic 164, 3) := by decide +kernel
theorem dL_isPeak_66 : decode cL_isPeak 66 = .ok (.iload_n 3, 1) := by decide +kernel
theorem dL_isPeak_67 : decode cL_isPeak 67 = .ok (.if_icmp .lt 7, 3) := by decide +kernel
theorem dL_isPeak_70 : decode cL_isPeak 70 = .ok (.iconst 1, 1) := by decide +kernel
theorem dL_isPeak_71 : decode cL_isPeak 71 = .ok (.goto 4, 3) := by decide +kernel
theorem dL_isPeak_74 : decode cL_isPeak 74 = .ok (.iconst 0, 1) := by decide +kernel
theorem dL_isPeak_75 : decode cL_isPeak 75 = .ok (.istore 4, 2) := by decide +kernel
theorem dL_isPeak_77 : decode cL_isPeak 77 = .ok (.iinc 5 1, 3) := by decide +kernel
theorem dL_isPeak_80 : decode cL_isPeak 80 = .ok (.goto (-60), 3) := by decide +kernel
theorem dL_isPeak_83 : decode cL_isPeak 83 = .ok (.aload_n 0, 1) := by decide +kernel
theorem dL_isPeak_84 : decode cL_isPeak 84 = .ok (.bipush 13, 2) := by decide +kernel
theorem dL_isPeak_86 : decode cL_isPeak 86 = .ok (.invokestatic 103, 3) := by decide +kernel
theorem dL_isPeak_89 : decode cL_isPeak 89 = .ok (.ifCond .ne 88, 3) := by decide +kernel
theorem dL_isPeak_92 : decode cL_isPeak 92 = .ok (.aload_n 0, 1) := by decide +kernel
theorem dL_isPeak_93 : decode cL_isPeak 93 = .ok (.iconst 4, 1) := by decide +kernel
theorem dL_isPeak_94 : decode cL_isPeak 94 = .ok (.invokestatic 103, 3) := by decide +kernel
theorem dL_isPeak_97 : decode cL_isPeak 97 = .ok (.aload_n 0, 1) := by decide +kernel
theorem dL_isPeak_98 : decode cL_isPeak 98 = .ok (.bipush 10, 2) := by decide +kernel
theorem dL_isPeak_100 : decode cL_isPeak 100 = .ok (.invokestatic 103, 3) := by decide +kernel
theorem dL_isPeak_103 : decode cL_isPeak 103 = .ok (.if_icmp .ne 74, 3) := by decide +kernel
theorem dL_isPeak_106 : decode cL_isPeak 106 = .ok (.iload 4, 2) := by decide +kernel
theorem dL_isPeak_108 : decode cL_isPeak 108 = .ok (.ifCond .eq 69, 3) := by decide +kernel
theorem dL_isPeak_111 : decode cL_isPeak 111 = .ok (.iconst 0, 1) := by decide +kernel
theorem dL_isPeak_112 : decode cL_isPeak 112 = .ok (.istore 5, 2) := by decide +kernel
theorem dL_isPeak_114 : decode cL_isPeak 114 = .ok (.iconst 1, 1) := by decide +kernel
theorem dL_isPeak_115 : decode cL_isPeak 115 = .ok (.istore 6, 2) := by decide +kernel
theorem dL_isPeak_117 : decode cL_isPeak 117 = .ok (.iload 6, 2) := by decide +kernel
theorem dL_isPeak_119 : decode cL_isPeak 119 = .ok (.iload_n 1, 1) := by decide +kernel
theorem dL_isPeak_120 : decode cL_isPeak 120 = .ok (.if_icmp .gt 34, 3) := by decide +kernel
theorem dL_isPeak_123 : decode cL_isPeak 123 = .ok (.aload_n 0, 1) := by decide +kernel
theorem dL_isPeak_124 : decode cL_isPeak 124 = .ok (.iconst 0, 1) := by decide +kernel
theorem dL_isPeak_125 : decode cL_isPeak 125 = .ok (.iload 6, 2) := by decide +kernel
theorem dL_isPeak_127 : decode cL_isPeak 127 = .ok (.invokestatic 162, 3) := by decide +kernel
theorem dL_isPeak_130 : decode cL_isPeak 130 = .ok (.istore 7, 2) := by decide +kernel
theorem dL_isPeak_132 : decode cL_isPeak 132 = .ok (.iload 7, 2) := by decide +kernel
theorem dL_isPeak_134 : decode cL_isPeak 134 = .ok (.iload 5, 2) := by decide +kernel
theorem dL_isPeak_136 : decode cL_isPeak 136 = .ok (.if_icmp .le 8, 3) := by decide +kernel
theorem dL_isPeak_139 : decode cL_isPeak 139 = .ok (.iload 7, 2) := by decide +kernel
theorem dL_isPeak_141 : decode cL_isPeak 141 = .ok (.goto 5, 3) := by decide +kernel
theorem dL_isPeak_144 : decode cL_isPeak 144 = .ok (.iload 5, 2) := by decide +kernel
theorem dL_isPeak_146 : decode cL_isPeak 146 = .ok (.istore 5, 2) := by decide +kernel
theorem dL_isPeak_148 : decode cL_isPeak 148 = .ok (.iinc 6 1, 3) := by decide +kernel
theorem dL_isPeak_151 : decode cL_isPeak 151 = .ok (.goto (-34), 3) := by decide +kernel
theorem dL_isPeak_154 : decode cL_isPeak 154 = .ok (.aload_n 0, 1) := by decide +kernel
theorem dL_isPeak_155 : decode cL_isPeak 155 = .ok (.iconst 0, 1) := by decide +kernel
theorem dL_isPeak_156 : decode cL_isPeak 156 = .ok (.aload_n 0, 1) := by decide +kernel
theorem dL_isPeak_157 : decode cL_isPeak 157 = .ok (.iconst 4, 1) := by decide +kernel
theorem dL_isPeak_158 : decode cL_isPeak 158 = .ok (.invokestatic 103, 3) := by decide +kernel
theorem dL_isPeak_161 : decode cL_isPeak 161 = .ok (.iload_n 1, 1) := by decide +kernel
theorem dL_isPeak_162 : decode cL_isPeak 162 = .ok (.invokestatic 164, 3) := by decide +kernel
theorem dL_isPeak_165 : decode cL_isPeak 165 = .ok (.iload 5, 2) := by decide +kernel
theorem dL_isPeak_167 : decode cL_isPeak 167 = .ok (.if_icmp .ne 7, 3) := by decide +kernel
theorem dL_isPeak_170 : decode cL_isPeak 170 = .ok (.iconst 1, 1) := by decide +kernel
theorem dL_isPeak_171 : decode cL_isPeak 171 = .ok (.goto 4, 3) := by decide +kernel
theorem dL_isPeak_174 : decode cL_isPeak 174 = .ok (.iconst 0, 1) := by decide +kernel
theorem dL_isPeak_175 : decode cL_isPeak 175 = .ok (.istore 4, 2) := by decide +kernel
theorem dL_isPeak_177 : decode cL_isPeak 177 = .ok (.iload 4, 2) := by decide +kernel
theorem dL_isPeak_179 : decode cL_isPeak 179 = .ok (.ireturn, 1) := by decide +kernel
