theorem dL_isThought_0 : decode cL_isThought 0 = .ok (.aload_n 0, 1) := by decide +kernel
theorem dL_isThought_1 : decode cL_isThought 1 = .ok (.invokestatic 117, 3) := by decide +kernel
theorem dL_isThought_4 : decode cL_isThought 4 = .ok (.lstore_n 3, 1) := by decide +kernel
theorem dL_isThought_5 : decode cL_isThought 5 = .ok (.aload_n 0, 1) := by decide +kernel
theorem dL_isThought_6 : decode cL_isThought 6 = .ok (.iload_n 1, 1) := by decide +kernel
theorem dL_isThought_7 : decode cL_isThought 7 = .ok (.iload_n 2, 1) := by decide +kernel
theorem dL_isThought_8 : decode cL_isThought 8 = .ok (.invokestatic 160, 3) := by decide +kernel
theorem dL_isThought_11 : decode cL_isThought 11 = .ok (.istore 5, 2) := by decide +kernel
theorem dL_isThought_13 : decode cL_isThought 13 = .ok (.aload_n 0, 1) := by decide +kernel
theorem dL_isThought_14 : decode cL_isThought 14 = .ok (.iload_n 1, 1) := by decide +kernel
theorem dL_isThought_15 : decode cL_isThought 15 = .ok (.iload_n 2, 1) := by decide +kernel
theorem dL_isThought_16 : decode cL_isThought 16 = .ok (.invokestatic 162, 3) := by decide +kernel
theorem dL_isThought_19 : decode cL_isThought 19 = .ok (.istore 6, 2) := by decide +kernel
theorem dL_isThought_21 : decode cL_isThought 21 = .ok (.aload_n 0, 1) := by decide +kernel
theorem dL_isThought_22 : decode cL_isThought 22 = .ok (.iload_n 2, 1) := by decide +kernel
theorem dL_isThought_23 : decode cL_isThought 23 = .ok (.invokestatic 171, 3) := by decide +kernel
theorem dL_isThought_26 : decode cL_isThought 26 = .ok (.istore 7, 2) := by decide +kernel
theorem dL_isThought_28 : decode cL_isThought 28 = .ok (.aload_n 0, 1) := by decide +kernel
theorem dL_isThought_29 : decode cL_isThought 29 = .ok (.iconst 1, 1) := by decide +kernel
theorem dL_isThought_30 : decode cL_isThought 30 = .ok (.invokestatic 158, 3) := by decide +kernel
theorem dL_isThought_33 : decode cL_isThought 33 = .ok (.istore 8, 2) := by decide +kernel
theorem dL_isThought_35 : decode cL_isThought 35 = .ok (.aload_n 0, 1) := by decide +kernel
theorem dL_isThought_36 : decode cL_isThought 36 = .ok (.invokestatic 117, 3) := by decide +kernel
theorem dL_isThought_39 : decode cL_isThought 39 = .ok (.lload_n 3, 1) := by decide +kernel
theorem dL_isThought_40 : decode cL_isThought 40 = .ok (.lcmp, 1) := by decide +kernel
theorem dL_isThought_41 : decode cL_isThought 41 = .ok (.ifCond .ne 62, 3) := by decide +kernel
theorem dL_isThought_44 : decode cL_isThought 44 = .ok (.iload 5, 2) := by decide +kernel
theorem dL_isThought_46 : decode cL_isThought 46 = .ok (.ifCond .ne 7, 3) := by decide +kernel
theorem dL_isThought_49 : decode cL_isThought 49 = .ok (.iconst 1, 1) := by decide +kernel
theorem dL_isThought_50 : decode cL_isThought 50 = .ok (.goto 4, 3) := by decide +kernel
theorem dL_isThought_53 : decode cL_isThought 53 = .ok (.iconst 0, 1) := by decide +kernel
theorem dL_isThought_54 : decode cL_isThought 54 = .ok (.aload_n 0, 1) := by decide +kernel
theorem dL_isThought_55 : decode cL_isThought 55 = .ok (.iload_n 1, 1) := by decide +kernel
theorem dL_isThought_56 : decode cL_isThought 56 = .ok (.iconst 3, 1) := by decide +kernel
theorem dL_isThought_57 : decode cL_isThought 57 = .ok (.invokestatic 136, 3) := by decide +kernel
theorem dL_isThought_60 : decode cL_isThought 60 = .ok (.iconst 1, 1) := by decide +kernel
theorem dL_isThought_61 : decode cL_isThought 61 = .ok (.if_icmp .ne 7, 3) := by decide +kernel
theorem dL_isThought_64 : decode cL_isThought 64 = .ok (.iconst 1, 1) := by decide +kernel
theorem dL_isThought_65 : decode cL_isThought 65 = .ok (.goto 4, 3) := by decide +kernel
theorem dL_isThought_68 : decode cL_isThought 68 = .ok (.iconst 0, 1) := by decide +kernel
theorem dL_isThought_69 : decode cL_isThought 69 = .ok (.if_icmp .ne 34, 3) := by decide +kernel
theorem dL_isThought_72 : decode cL_isThought 72 = .ok (.iload 7, 2) := by decide +kernel
theorem dL_isThought_74 : decode cL_isThought 74 = .ok (.ifCond .ne 7, 3) := by decide +kernel
theorem dL_isThought_77 : decode cL_isThought 77 = .ok (.iconst 1, 1) := by decide +kernel
theorem dL_isThought_78 : decode cL_isThought 78 = .ok (.goto 4, 3) := by decide +kernel
theorem dL_isThought_81 : decode cL_isThought 81 = .ok (.iconst 0, 1) := by decide +kernel
theorem dL_isThought_82 : decode cL_isThought 82 = .ok (.aload_n 0, 1) := by decide +kernel
theorem dL_isThought_83 : decode cL_isThought 83 = .ok (.bipush 8, 2) := by decide +kernel
theorem dL_isThought_85 : decode cL_isThought 85 = .ok (.invokestatic 103, 3) := by decide +kernel
theorem dL_isThought_88 : decode cL_isThought 88 = .ok (.ifCond .ne 7, 3) := by decide +kernel
theorem dL_isThought_91 : decode cL_isThought 91 = .ok (.iconst 1, 1) := by decide +kernel
theorem dL_isThought_92 : decode cL_isThought 92 = .ok (.goto 4, 3) := by decide +kernel
theorem dL_isThought_95 : decode cL_isThought 95 = .ok (.iconst 0, 1) := by decide +kernel
theorem dL_isThought_96 : decode cL_isThought 96 = .ok (.if_icmp .ne 7, 3) := by decide +kernel
theorem dL_isThought_99 : decode cL_isThought 99 = .ok (.iconst 1, 1) := by decide +kernel
theorem dL_isThought_100 : decode cL_isThought 100 = .ok (.goto 4, 3) := by decide +kernel
theorem dL_isThought_103 : decode cL_isThought 103 = .ok (.iconst 0, 1) := by decide +kernel
theorem dL_isThought_104 : decode cL_isThought 104 = .ok (.istore 9, 2) := by decide +kernel
theorem dL_isThought_106 : decode cL_isThought 106 = .ok (.aload_n 0, 1) := by decide +kernel
theorem dL_isThought_107 : decode cL_isThought 107 = .ok (.iload_n 1, 1) := by decide +kernel
theorem dL_isThought_108 : decode cL_isThought 108 = .ok (.iconst 3, 1) := by decide +kernel
theorem dL_isThought_109 : decode cL_isThought 109 = .ok (.invokestatic 136, 3) := by decide +kernel
theorem dL_isThought_112 : decode cL_isThought 112 = .ok (.iconst 1, 1) := by decide +kernel
theorem dL_isThought_113 : decode cL_isThought 113 = .ok (.if_icmp .ne 7, 3) := by decide +kernel
theorem dL_isThought_116 : decode cL_isThought 116 = .ok (.iconst 0, 1) := by decide +kernel
theorem dL_isThought_117 : decode cL_isThought 117 = .ok (.goto 4, 3) := by decide +kernel
theorem dL_isThought_120 : decode cL_isThought 120 = .ok (.iconst (-1), 1) := by decide +kernel
theorem dL_isThought_121 : decode cL_isThought 121 = .ok (.istore 10, 2) := by decide +kernel
theorem dL_isThought_123 : decode cL_isThought 123 = .ok (.aload_n 0, 1) := by decide +kernel
theorem dL_isThought_124 : decode cL_isThought 124 = .ok (.bipush 8, 2) := by decide +kernel
theorem dL_isThought_126 : decode cL_isThought 126 = .ok (.invokestatic 103, 3) := by decide +kernel
theorem dL_isThought_129 : decode cL_isThought 129 = .ok (.ifCond .ne 7, 3) := by decide +kernel
theorem dL_isThought_132 : decode cL_isThought 132 = .ok (.iconst 0, 1) := by decide +kernel
theorem dL_isThought_133 : decode cL_isThought 133 = .ok (.goto 4, 3) := by decide +kernel
theorem dL_isThought_136 : decode cL_isThought 136 = .ok (.iconst (-1), 1) := by decide +kernel
theorem dL_isThought_137 : decode cL_isThought 137 = .ok (.istore 11, 2) := by decide +kernel
theorem dL_isThought_139 : decode cL_isThought 139 = .ok (.iconst 1, 1) := by decide +kernel
theorem dL_isThought_140 : decode cL_isThought 140 = .ok (.istore 12, 2) := by decide +kernel
theorem dL_isThought_142 : decode cL_isThought 142 = .ok (.iload 12, 2) := by decide +kernel
theorem dL_isThought_144 : decode cL_isThought 144 = .ok (.iload_n 2, 1) := by decide +kernel
theorem dL_isThought_145 : decode cL_isThought 145 = .ok (.if_icmp .gt 128, 3) := by decide +kernel
theorem dL_isThought_148 : decode cL_isThought 148 = .ok (.iload 9, 2) := by decide +kernel
theorem dL_isThought_150 : decode cL_isThought 150 = .ok (.ifCond .eq 123, 3) := by decide +kernel
theorem dL_isThought_153 : decode cL_isThought 153 = .ok (.aload_n 0, 1) := by decide +kernel
theorem dL_isThought_154 : decode cL_isThought 154 = .ok (.iload 12, 2) := by decide +kernel
theorem dL_isThought_156 : decode cL_isThought 156 = .ok (.invokestatic 156, 3) := by decide +kernel
theorem dL_isThought_159 : decode cL_isThought 159 = .ok (.ifCond .lt 7, 3) := by decide +kernel
theorem dL_isThought_162 : decode cL_isThought 162 = .ok (.iconst 1, 1) := by decide +kernel
theorem dL_isThought_163 : decode cL_isThought 163 = .ok (.goto 4, 3) := by decide +kernel
theorem dL_isThought_166 : decode cL_isThought 166 = .ok (.iconst 0, 1) := by decide +kernel
theorem dL_isThought_167 : decode cL_isThought 167 = .ok (.istore 9, 2) := by decide +kernel
theorem dL_isThought_169 : decode cL_isThought 169 = .ok (.iload 10, 2) := by decide +kernel
theorem dL_isThought_171 : decode cL_isThought 171 = .ok (.iconst (-1), 1) := by decide +kernel
theorem dL_isThought_172 : decode cL_isThought 172 = .ok (.if_icmp .ne 18, 3) := by decide +kernel
theorem dL_isThought_175 : decode cL_isThought 175 = .ok (.aload_n 0, 1) := by decide +kernel
theorem dL_isThought_176 : decode cL_isThought 176 = .ok (.iload_n 1, 1) := by decide +kernel
theorem dL_isThought_177 : decode cL_isThought 177 = .ok (.iconst 3, 1) := by decide +kernel
theorem dL_isThought_178 : decode cL_isThought 178 = .ok (.invokestatic 136, 3) := by decide +kernel
theorem dL_isThought_181 : decode cL_isThought 181 = .ok (.iconst 1, 1) := by decide +kernel
theorem dL_isThought_182 : decode cL_isThought 182 = .ok (.if_icmp .ne 8, 3) := by decide +kernel
theorem dL_isThought_185 : decode cL_isThought 185 = .ok (.iload 12, 2) := by decide +kernel
theorem dL_isThought_187 : decode cL_isThought 187 = .ok (.goto 5, 3) := by decide +kernel
theorem dL_isThought_190 : decode cL_isThought 190 = .ok (.iload 10, 2) := by decide +kernel
theorem dL_isThought_192 : decode cL_isThought 192 = .ok (.istore 10, 2) := by decide +kernel
theorem dL_isThought_194 : decode cL_isThought 194 = .ok (.iload 11, 2) := by decide +kernel
theorem dL_isThought_196 : decode cL_isThought 196 = .ok (.iconst (-1), 1) := by decide +kernel
theorem dL_isThought_197 : decode cL_isThought 197 = .ok (.if_icmp .ne 17, 3) := by decide +kernel
theorem dL_isThought_200 : decode cL_isThought 200 = .ok (.aload_n 0, 1) := by decide +kernel
theorem dL_isThought_201 : decode cL_isThought 201 = .ok (.bipush 8, 2) := by decide +kernel
theorem dL_isThought_203 : decode cL_isThought 203 = .ok (.invokestatic 103, 3) := by decide +kernel
theorem dL_isThought_206 : decode cL_isThought 206 = .ok (.ifCond .ne 8, 3) := by decide +kernel
theorem dL_isThought_209 : decode cL_isThought 209 = .ok (.iload 12, 2) := by decide +kernel
theorem dL_isThought_211 : decode cL_isThought 211 = .ok (.goto 5, 3) := by decide +kernel
theorem dL_isThought_214 : decode cL_isThought 214 = .ok (.iload 11, 2) := by decide +kernel
theorem dL_isThought_216 : decode cL_isThought 216 = .ok (.istore 11, 2) := by decide +kernel
theorem dL_isThought_218 : decode cL_isThought 218 = .ok (.iload 9, 2) := by decide +kernel
theorem dL_isThought_220 : decode cL_isThought 220 = .ok (.ifCond .eq 44, 3) := by decide +kernel
theorem dL_isThought_223 : decode cL_isThought 223 = .ok (.iload 12, 2) := by decide +kernel
theorem dL_isThought_225 : decode cL_isThought 225 = .ok (.iload_n 2, 1) := by decide +kernel
theorem dL_isThought_226 : decode cL_isThought 226 = .ok (.if_icmp .lt 14, 3) := by decide +kernel
theorem dL_isThought_229 : decode cL_isThought 229 = .ok (.aload_n 0, 1) := by decide +kernel
theorem dL_isThought_230 : decode cL_isThought 230 = .ok (.iload_n 1, 1) := by decide +kernel
theorem dL_isThought_231 : decode cL_isThought 231 = .ok (.iconst 0, 1) := by decide +kernel
theorem dL_isThought_232 : decode cL_isThought 232 = .ok (.invokestatic 136, 3) := by decide +kernel
theorem dL_isThought_235 : decode cL_isThought 235 = .ok (.iload 6, 2) := by decide +kernel
theorem dL_isThought_237 : decode cL_isThought 237 = .ok (.if_icmp .ne 27, 3) := by decide +kernel
theorem dL_isThought_240 : decode cL_isThought 240 = .ok (.aload_n 0, 1) := by decide +kernel
theorem dL_isThought_241 : decode cL_isThought 241 = .ok (.iconst 1, 1) := by decide +kernel
theorem dL_isThought_242 : decode cL_isThought 242 = .ok (.invokestatic 158, 3) := by decide +kernel
theorem dL_isThought_245 : decode cL_isThought 245 = .ok (.iload 8, 2) := by decide +kernel
