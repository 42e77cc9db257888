theorem dL_isNeeded_0 : decode cL_isNeeded 0 = .ok (.aload_n 0, 1) := by decide +kernel
theorem dL_isNeeded_1 : decode cL_isNeeded 1 = .ok (.invokestatic 117, 3) := by decide +kernel
theorem dL_isNeeded_4 : decode cL_isNeeded 4 = .ok (.lstore_n 3, 1) := by decide +kernel
theorem dL_isNeeded_5 : decode cL_isNeeded 5 = .ok (.aload_n 0, 1) := by decide +kernel
theorem dL_isNeeded_6 : decode cL_isNeeded 6 = .ok (.iload_n 1, 1) := by decide +kernel
theorem dL_isNeeded_7 : decode cL_isNeeded 7 = .ok (.iload_n 2, 1) := by decide +kernel
theorem dL_isNeeded_8 : decode cL_isNeeded 8 = .ok (.invokestatic 169, 3) := by decide +kernel
theorem dL_isNeeded_11 : decode cL_isNeeded 11 = .ok (.istore 5, 2) := by decide +kernel
theorem dL_isNeeded_13 : decode cL_isNeeded 13 = .ok (.aload_n 0, 1) := by decide +kernel
theorem dL_isNeeded_14 : decode cL_isNeeded 14 = .ok (.iload_n 1, 1) := by decide +kernel
theorem dL_isNeeded_15 : decode cL_isNeeded 15 = .ok (.iconst 1, 1) := by decide +kernel
theorem dL_isNeeded_16 : decode cL_isNeeded 16 = .ok (.invokestatic 160, 3) := by decide +kernel
theorem dL_isNeeded_19 : decode cL_isNeeded 19 = .ok (.istore 6, 2) := by decide +kernel
theorem dL_isNeeded_21 : decode cL_isNeeded 21 = .ok (.iconst 0, 1) := by decide +kernel
theorem dL_isNeeded_22 : decode cL_isNeeded 22 = .ok (.istore 7, 2) := by decide +kernel
theorem dL_isNeeded_24 : decode cL_isNeeded 24 = .ok (.iconst 1, 1) := by decide +kernel
theorem dL_isNeeded_25 : decode cL_isNeeded 25 = .ok (.istore 8, 2) := by decide +kernel
theorem dL_isNeeded_27 : decode cL_isNeeded 27 = .ok (.iload 8, 2) := by decide +kernel
theorem dL_isNeeded_29 : decode cL_isNeeded 29 = .ok (.iload_n 2, 1) := by decide +kernel
theorem dL_isNeeded_30 : decode cL_isNeeded 30 = .ok (.if_icmp .gt 63, 3) := by decide +kernel
theorem dL_isNeeded_33 : decode cL_isNeeded 33 = .ok (.iload 7, 2) := by decide +kernel
theorem dL_isNeeded_35 : decode cL_isNeeded 35 = .ok (.ifCond .ne 58, 3) := by decide +kernel
theorem dL_isNeeded_38 : decode cL_isNeeded 38 = .ok (.aload_n 0, 1) := by decide +kernel
theorem dL_isNeeded_39 : decode cL_isNeeded 39 = .ok (.iload 8, 2) := by decide +kernel
theorem dL_isNeeded_41 : decode cL_isNeeded 41 = .ok (.invokestatic 156, 3) := by decide +kernel
theorem dL_isNeeded_44 : decode cL_isNeeded 44 = .ok (.istore 9, 2) := by decide +kernel
theorem dL_isNeeded_46 : decode cL_isNeeded 46 = .ok (.iload 9, 2) := by decide +kernel
theorem dL_isNeeded_48 : decode cL_isNeeded 48 = .ok (.ifCond .lt 17, 3) := by decide +kernel
theorem dL_isNeeded_51 : decode cL_isNeeded 51 = .ok (.aload_n 0, 1) := by decide +kernel
theorem dL_isNeeded_52 : decode cL_isNeeded 52 = .ok (.iload_n 1, 1) := by decide +kernel
theorem dL_isNeeded_53 : decode cL_isNeeded 53 = .ok (.iconst 3, 1) := by decide +kernel
theorem dL_isNeeded_54 : decode cL_isNeeded 54 = .ok (.invokestatic 136, 3) := by decide +kernel
theorem dL_isNeeded_57 : decode cL_isNeeded 57 = .ok (.iconst 1, 1) := by decide +kernel
theorem dL_isNeeded_58 : decode cL_isNeeded 58 = .ok (.if_icmp .ne 7, 3) := by decide +kernel
theorem dL_isNeeded_61 : decode cL_isNeeded 61 = .ok (.iconst 1, 1) := by decide +kernel
theorem dL_isNeeded_62 : decode cL_isNeeded 62 = .ok (.goto 4, 3) := by decide +kernel
theorem dL_isNeeded_65 : decode cL_isNeeded 65 = .ok (.iconst 0, 1) := by decide +kernel
theorem dL_isNeeded_66 : decode cL_isNeeded 66 = .ok (.istore 7, 2) := by decide +kernel
theorem dL_isNeeded_68 : decode cL_isNeeded 68 = .ok (.aload_n 0, 1) := by decide +kernel
theorem dL_isNeeded_69 : decode cL_isNeeded 69 = .ok (.invokestatic 110, 3) := by decide +kernel
theorem dL_isNeeded_72 : decode cL_isNeeded 72 = .ok (.ifCond .lt 12, 3) := by decide +kernel
theorem dL_isNeeded_75 : decode cL_isNeeded 75 = .ok (.iload 7, 2) := by decide +kernel
theorem dL_isNeeded_77 : decode cL_isNeeded 77 = .ok (.ifCond .eq 7, 3) := by decide +kernel
theorem dL_isNeeded_80 : decode cL_isNeeded 80 = .ok (.iconst 1, 1) := by decide +kernel
theorem dL_isNeeded_81 : decode cL_isNeeded 81 = .ok (.goto 4, 3) := by decide +kernel
theorem dL_isNeeded_84 : decode cL_isNeeded 84 = .ok (.iconst 0, 1) := by decide +kernel
theorem dL_isNeeded_85 : decode cL_isNeeded 85 = .ok (.istore 7, 2) := by decide +kernel
theorem dL_isNeeded_87 : decode cL_isNeeded 87 = .ok (.iinc 8 1, 3) := by decide +kernel
theorem dL_isNeeded_90 : decode cL_isNeeded 90 = .ok (.goto (-63), 3) := by decide +kernel
theorem dL_isNeeded_93 : decode cL_isNeeded 93 = .ok (.iload 7, 2) := by decide +kernel
theorem dL_isNeeded_95 : decode cL_isNeeded 95 = .ok (.ifCond .ne 8, 3) := by decide +kernel
theorem dL_isNeeded_98 : decode cL_isNeeded 98 = .ok (.iload 5, 2) := by decide +kernel
theorem dL_isNeeded_100 : decode cL_isNeeded 100 = .ok (.ifCond .ne 7, 3) := by decide +kernel
theorem dL_isNeeded_103 : decode cL_isNeeded 103 = .ok (.iconst 1, 1) := by decide +kernel
theorem dL_isNeeded_104 : decode cL_isNeeded 104 = .ok (.goto 4, 3) := by decide +kernel
theorem dL_isNeeded_107 : decode cL_isNeeded 107 = .ok (.iconst 0, 1) := by decide +kernel
theorem dL_isNeeded_108 : decode cL_isNeeded 108 = .ok (.istore 8, 2) := by decide +kernel
theorem dL_isNeeded_110 : decode cL_isNeeded 110 = .ok (.iconst 0, 1) := by decide +kernel
theorem dL_isNeeded_111 : decode cL_isNeeded 111 = .ok (.istore 9, 2) := by decide +kernel
theorem dL_isNeeded_113 : decode cL_isNeeded 113 = .ok (.iload 9, 2) := by decide +kernel
theorem dL_isNeeded_115 : decode cL_isNeeded 115 = .ok (.aload_n 0, 1) := by decide +kernel
theorem dL_isNeeded_116 : decode cL_isNeeded 116 = .ok (.bipush 12, 2) := by decide +kernel
theorem dL_isNeeded_118 : decode cL_isNeeded 118 = .ok (.invokestatic 103, 3) := by decide +kernel
theorem dL_isNeeded_121 : decode cL_isNeeded 121 = .ok (.if_icmp .ge 147, 3) := by decide +kernel
theorem dL_isNeeded_124 : decode cL_isNeeded 124 = .ok (.iload 8, 2) := by decide +kernel
theorem dL_isNeeded_126 : decode cL_isNeeded 126 = .ok (.ifCond .eq 142, 3) := by decide +kernel
theorem dL_isNeeded_129 : decode cL_isNeeded 129 = .ok (.iload 7, 2) := by decide +kernel
theorem dL_isNeeded_131 : decode cL_isNeeded 131 = .ok (.ifCond .eq 137, 3) := by decide +kernel
theorem dL_isNeeded_134 : decode cL_isNeeded 134 = .ok (.iconst 0, 1) := by decide +kernel
theorem dL_isNeeded_135 : decode cL_isNeeded 135 = .ok (.istore 10, 2) := by decide +kernel
theorem dL_isNeeded_137 : decode cL_isNeeded 137 = .ok (.aload_n 0, 1) := by decide +kernel
theorem dL_isNeeded_138 : decode cL_isNeeded 138 = .ok (.iload 9, 2) := by decide +kernel
theorem dL_isNeeded_140 : decode cL_isNeeded 140 = .ok (.iconst 1, 1) := by decide +kernel
theorem dL_isNeeded_141 : decode cL_isNeeded 141 = .ok (.invokestatic 141, 3) := by decide +kernel
theorem dL_isNeeded_144 : decode cL_isNeeded 144 = .ok (.ifCond .lt 7, 3) := by decide +kernel
theorem dL_isNeeded_147 : decode cL_isNeeded 147 = .ok (.iconst 1, 1) := by decide +kernel
theorem dL_isNeeded_148 : decode cL_isNeeded 148 = .ok (.goto 4, 3) := by decide +kernel
theorem dL_isNeeded_151 : decode cL_isNeeded 151 = .ok (.iconst 0, 1) := by decide +kernel
theorem dL_isNeeded_152 : decode cL_isNeeded 152 = .ok (.istore 8, 2) := by decide +kernel
theorem dL_isNeeded_154 : decode cL_isNeeded 154 = .ok (.iconst 1, 1) := by decide +kernel
theorem dL_isNeeded_155 : decode cL_isNeeded 155 = .ok (.istore 11, 2) := by decide +kernel
theorem dL_isNeeded_157 : decode cL_isNeeded 157 = .ok (.iload 11, 2) := by decide +kernel
theorem dL_isNeeded_159 : decode cL_isNeeded 159 = .ok (.iload_n 2, 1) := by decide +kernel
theorem dL_isNeeded_160 : decode cL_isNeeded 160 = .ok (.if_icmp .gt 63, 3) := by decide +kernel
theorem dL_isNeeded_163 : decode cL_isNeeded 163 = .ok (.iload 10, 2) := by decide +kernel
theorem dL_isNeeded_165 : decode cL_isNeeded 165 = .ok (.ifCond .ne 58, 3) := by decide +kernel
theorem dL_isNeeded_168 : decode cL_isNeeded 168 = .ok (.aload_n 0, 1) := by decide +kernel
theorem dL_isNeeded_169 : decode cL_isNeeded 169 = .ok (.iload 11, 2) := by decide +kernel
theorem dL_isNeeded_171 : decode cL_isNeeded 171 = .ok (.invokestatic 156, 3) := by decide +kernel
theorem dL_isNeeded_174 : decode cL_isNeeded 174 = .ok (.istore 12, 2) := by decide +kernel
theorem dL_isNeeded_176 : decode cL_isNeeded 176 = .ok (.iload 12, 2) := by decide +kernel
theorem dL_isNeeded_178 : decode cL_isNeeded 178 = .ok (.ifCond .lt 17, 3) := by decide +kernel
theorem dL_isNeeded_181 : decode cL_isNeeded 181 = .ok (.aload_n 0, 1) := by decide +kernel
theorem dL_isNeeded_182 : decode cL_isNeeded 182 = .ok (.iload_n 1, 1) := by decide +kernel
theorem dL_isNeeded_183 : decode cL_isNeeded 183 = .ok (.iconst 3, 1) := by decide +kernel
theorem dL_isNeeded_184 : decode cL_isNeeded 184 = .ok (.invokestatic 136, 3) := by decide +kernel
theorem dL_isNeeded_187 : decode cL_isNeeded 187 = .ok (.iconst 1, 1) := by decide +kernel
theorem dL_isNeeded_188 : decode cL_isNeeded 188 = .ok (.if_icmp .ne 7, 3) := by decide +kernel
theorem dL_isNeeded_191 : decode cL_isNeeded 191 = .ok (.iconst 1, 1) := by decide +kernel
theorem dL_isNeeded_192 : decode cL_isNeeded 192 = .ok (.goto 4, 3) := by decide +kernel
theorem dL_isNeeded_195 : decode cL_isNeeded 195 = .ok (.iconst 0, 1) := by decide +kernel
theorem dL_isNeeded_196 : decode cL_isNeeded 196 = .ok (.istore 10, 2) := by decide +kernel
theorem dL_isNeeded_198 : decode cL_isNeeded 198 = .ok (.aload_n 0, 1) := by decide +kernel
theorem dL_isNeeded_199 : decode cL_isNeeded 199 = .ok (.invokestatic 110, 3) := by decide +kernel
theorem dL_isNeeded_202 : decode cL_isNeeded 202 = .ok (.ifCond .lt 12, 3) := by decide +kernel
theorem dL_isNeeded_205 : decode cL_isNeeded 205 = .ok (.iload 10, 2) := by decide +kernel
theorem dL_isNeeded_207 : decode cL_isNeeded 207 = .ok (.ifCond .eq 7, 3) := by decide +kernel
theorem dL_isNeeded_210 : decode cL_isNeeded 210 = .ok (.iconst 1, 1) := by decide +kernel
theorem dL_isNeeded_211 : decode cL_isNeeded 211 = .ok (.goto 4, 3) := by decide +kernel
theorem dL_isNeeded_214 : decode cL_isNeeded 214 = .ok (.iconst 0, 1) := by decide +kernel
theorem dL_isNeeded_215 : decode cL_isNeeded 215 = .ok (.istore 10, 2) := by decide +kernel
theorem dL_isNeeded_217 : decode cL_isNeeded 217 = .ok (.iinc 11 1, 3) := by decide +kernel
theorem dL_isNeeded_220 : decode cL_isNeeded 220 = .ok (.goto (-63), 3) := by decide +kernel
theorem dL_isNeeded_223 : decode cL_isNeeded 223 = .ok (.iload 8, 2) := by decide +kernel
theorem dL_isNeeded_225 : decode cL_isNeeded 225 = .ok (.ifCond .eq 34, 3) := by decide +kernel
theorem dL_isNeeded_228 : decode cL_isNeeded 228 = .ok (.iload 5, 2) := by decide +kernel
theorem dL_isNeeded_230 : decode cL_isNeeded 230 = .ok (.iload 9, 2) := by decide +kernel
theorem dL_isNeeded_232 : decode cL_isNeeded 232 = .ok (.ishr, 1) := by decide +kernel
theorem dL_isNeeded_233 : decode cL_isNeeded 233 = .ok (.iconst 1, 1) := by decide +kernel
theorem dL_isNeeded_234 : decode cL_isNeeded 234 = .ok (.iand, 1) := by decide +kernel
theorem dL_isNeeded_235 : decode cL_isNeeded 235 = .ok (.iload 10, 2) := by decide +kernel
theorem dL_isNeeded_237 : decode cL_isNeeded 237 = .ok (.ifCond .eq 7, 3) := by decide +kernel
theorem dL_isNeeded_240 : decode cL_isNeeded 240 = .ok (.iconst 0, 1) := by decide +kernel
theorem dL_isNeeded_241 : decode cL_isNeeded 241 = .ok (.goto 4, 3) := by decide +kernel
theorem dL_isNeeded_244 : decode cL_isNeeded 244 = .ok (.iconst 1, 1) := by decide +kernel
theorem dL_isNeeded_245 : decode cL_isNeeded 245 = .ok (.if_icmp .ne 14, 3) := by decide +kernel
theorem dL_isNeeded_248 : decode cL_isNeeded 248 = .ok (.aload_n 0, 1) := by decide +kernel
theorem dL_isNeeded_249 : decode cL_isNeeded 249 = .ok (.invokestatic 110, 3) := by decide +kernel
theorem dL_isNeeded_252 : decode cL_isNeeded 252 = .ok (.ifCond .lt 7, 3) := by decide +kernel
theorem dL_isNeeded_255 : decode cL_isNeeded 255 = .ok (.iconst 1, 1) := by decide +kernel
