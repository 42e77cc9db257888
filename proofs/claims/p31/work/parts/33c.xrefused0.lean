theorem dL_refused_0 : decode cL_refused 0 = .ok (.aload_n 0, 1) := by decide +kernel
theorem dL_refused_1 : decode cL_refused 1 = .ok (.invokestatic 117, 3) := by decide +kernel
theorem dL_refused_4 : decode cL_refused 4 = .ok (.lstore_n 1, 1) := by decide +kernel
theorem dL_refused_5 : decode cL_refused 5 = .ok (.aload_n 0, 1) := by decide +kernel
theorem dL_refused_6 : decode cL_refused 6 = .ok (.bipush 6, 2) := by decide +kernel
theorem dL_refused_8 : decode cL_refused 8 = .ok (.invokestatic 103, 3) := by decide +kernel
theorem dL_refused_11 : decode cL_refused 11 = .ok (.istore_n 3, 1) := by decide +kernel
theorem dL_refused_12 : decode cL_refused 12 = .ok (.aload_n 0, 1) := by decide +kernel
theorem dL_refused_13 : decode cL_refused 13 = .ok (.bipush 7, 2) := by decide +kernel
theorem dL_refused_15 : decode cL_refused 15 = .ok (.invokestatic 103, 3) := by decide +kernel
theorem dL_refused_18 : decode cL_refused 18 = .ok (.istore 4, 2) := by decide +kernel
theorem dL_refused_20 : decode cL_refused 20 = .ok (.aload_n 0, 1) := by decide +kernel
theorem dL_refused_21 : decode cL_refused 21 = .ok (.iconst 0, 1) := by decide +kernel
theorem dL_refused_22 : decode cL_refused 22 = .ok (.invokestatic 121, 3) := by decide +kernel
theorem dL_refused_25 : decode cL_refused 25 = .ok (.sipush (-2051), 3) := by decide +kernel
theorem dL_refused_28 : decode cL_refused 28 = .ok (.if_icmp .ne 275, 3) := by decide +kernel
theorem dL_refused_31 : decode cL_refused 31 = .ok (.aload_n 0, 1) := by decide +kernel
theorem dL_refused_32 : decode cL_refused 32 = .ok (.iconst 5, 1) := by decide +kernel
theorem dL_refused_33 : decode cL_refused 33 = .ok (.invokestatic 121, 3) := by decide +kernel
theorem dL_refused_36 : decode cL_refused 36 = .ok (.sipush (-2051), 3) := by decide +kernel
theorem dL_refused_39 : decode cL_refused 39 = .ok (.if_icmp .ne 264, 3) := by decide +kernel
theorem dL_refused_42 : decode cL_refused 42 = .ok (.aload_n 0, 1) := by decide +kernel
theorem dL_refused_43 : decode cL_refused 43 = .ok (.iload_n 3, 1) := by decide +kernel
theorem dL_refused_44 : decode cL_refused 44 = .ok (.iconst 1, 1) := by decide +kernel
theorem dL_refused_45 : decode cL_refused 45 = .ok (.iadd, 1) := by decide +kernel
theorem dL_refused_46 : decode cL_refused 46 = .ok (.iconst 0, 1) := by decide +kernel
theorem dL_refused_47 : decode cL_refused 47 = .ok (.iconst 1, 1) := by decide +kernel
theorem dL_refused_48 : decode cL_refused 48 = .ok (.invokestatic 123, 3) := by decide +kernel
theorem dL_refused_51 : decode cL_refused 51 = .ok (.sipush (-2053), 3) := by decide +kernel
theorem dL_refused_54 : decode cL_refused 54 = .ok (.if_icmp .ne 249, 3) := by decide +kernel
theorem dL_refused_57 : decode cL_refused 57 = .ok (.aload_n 0, 1) := by decide +kernel
theorem dL_refused_58 : decode cL_refused 58 = .ok (.iload_n 3, 1) := by decide +kernel
theorem dL_refused_59 : decode cL_refused 59 = .ok (.iconst 1, 1) := by decide +kernel
theorem dL_refused_60 : decode cL_refused 60 = .ok (.iadd, 1) := by decide +kernel
theorem dL_refused_61 : decode cL_refused 61 = .ok (.iload_n 3, 1) := by decide +kernel
theorem dL_refused_62 : decode cL_refused 62 = .ok (.iconst 1, 1) := by decide +kernel
theorem dL_refused_63 : decode cL_refused 63 = .ok (.iadd, 1) := by decide +kernel
theorem dL_refused_64 : decode cL_refused 64 = .ok (.iconst 1, 1) := by decide +kernel
theorem dL_refused_65 : decode cL_refused 65 = .ok (.invokestatic 123, 3) := by decide +kernel
theorem dL_refused_68 : decode cL_refused 68 = .ok (.sipush (-2053), 3) := by decide +kernel
theorem dL_refused_71 : decode cL_refused 71 = .ok (.if_icmp .ne 232, 3) := by decide +kernel
theorem dL_refused_74 : decode cL_refused 74 = .ok (.aload_n 0, 1) := by decide +kernel
theorem dL_refused_75 : decode cL_refused 75 = .ok (.iload_n 3, 1) := by decide +kernel
theorem dL_refused_76 : decode cL_refused 76 = .ok (.iload_n 3, 1) := by decide +kernel
theorem dL_refused_77 : decode cL_refused 77 = .ok (.iconst 1, 1) := by decide +kernel
theorem dL_refused_78 : decode cL_refused 78 = .ok (.invokestatic 123, 3) := by decide +kernel
theorem dL_refused_81 : decode cL_refused 81 = .ok (.sipush (-2051), 3) := by decide +kernel
theorem dL_refused_84 : decode cL_refused 84 = .ok (.if_icmp .ne 219, 3) := by decide +kernel
theorem dL_refused_87 : decode cL_refused 87 = .ok (.aload_n 0, 1) := by decide +kernel
theorem dL_refused_88 : decode cL_refused 88 = .ok (.iconst 0, 1) := by decide +kernel
theorem dL_refused_89 : decode cL_refused 89 = .ok (.iload_n 3, 1) := by decide +kernel
theorem dL_refused_90 : decode cL_refused 90 = .ok (.iconst 1, 1) := by decide +kernel
theorem dL_refused_91 : decode cL_refused 91 = .ok (.iadd, 1) := by decide +kernel
theorem dL_refused_92 : decode cL_refused 92 = .ok (.invokestatic 126, 3) := by decide +kernel
theorem dL_refused_95 : decode cL_refused 95 = .ok (.sipush (-2053), 3) := by decide +kernel
theorem dL_refused_98 : decode cL_refused 98 = .ok (.if_icmp .ne 205, 3) := by decide +kernel
theorem dL_refused_101 : decode cL_refused 101 = .ok (.aload_n 0, 1) := by decide +kernel
theorem dL_refused_102 : decode cL_refused 102 = .ok (.iload_n 3, 1) := by decide +kernel
theorem dL_refused_103 : decode cL_refused 103 = .ok (.iload_n 3, 1) := by decide +kernel
theorem dL_refused_104 : decode cL_refused 104 = .ok (.invokestatic 126, 3) := by decide +kernel
theorem dL_refused_107 : decode cL_refused 107 = .ok (.ifCond .ne 196, 3) := by decide +kernel
theorem dL_refused_110 : decode cL_refused 110 = .ok (.aload_n 0, 1) := by decide +kernel
theorem dL_refused_111 : decode cL_refused 111 = .ok (.iconst 0, 1) := by decide +kernel
theorem dL_refused_112 : decode cL_refused 112 = .ok (.invokestatic 129, 3) := by decide +kernel
theorem dL_refused_115 : decode cL_refused 115 = .ok (.sipush (-2051), 3) := by decide +kernel
theorem dL_refused_118 : decode cL_refused 118 = .ok (.if_icmp .ne 185, 3) := by decide +kernel
theorem dL_refused_121 : decode cL_refused 121 = .ok (.aload_n 0, 1) := by decide +kernel
theorem dL_refused_122 : decode cL_refused 122 = .ok (.sipush 201, 3) := by decide +kernel
theorem dL_refused_125 : decode cL_refused 125 = .ok (.invokestatic 129, 3) := by decide +kernel
theorem dL_refused_128 : decode cL_refused 128 = .ok (.sipush (-2051), 3) := by decide +kernel
theorem dL_refused_131 : decode cL_refused 131 = .ok (.if_icmp .ne 172, 3) := by decide +kernel
theorem dL_refused_134 : decode cL_refused 134 = .ok (.aload_n 0, 1) := by decide +kernel
theorem dL_refused_135 : decode cL_refused 135 = .ok (.bipush 9, 2) := by decide +kernel
theorem dL_refused_137 : decode cL_refused 137 = .ok (.invokestatic 108, 3) := by decide +kernel
theorem dL_refused_140 : decode cL_refused 140 = .ok (.sipush (-2051), 3) := by decide +kernel
theorem dL_refused_143 : decode cL_refused 143 = .ok (.if_icmp .ne 160, 3) := by decide +kernel
theorem dL_refused_146 : decode cL_refused 146 = .ok (.aload_n 0, 1) := by decide +kernel
theorem dL_refused_147 : decode cL_refused 147 = .ok (.bipush 6, 2) := by decide +kernel
theorem dL_refused_149 : decode cL_refused 149 = .ok (.iconst 0, 1) := by decide +kernel
theorem dL_refused_150 : decode cL_refused 150 = .ok (.invokestatic 131, 3) := by decide +kernel
theorem dL_refused_153 : decode cL_refused 153 = .ok (.sipush (-2051), 3) := by decide +kernel
theorem dL_refused_156 : decode cL_refused 156 = .ok (.if_icmp .ne 147, 3) := by decide +kernel
theorem dL_refused_159 : decode cL_refused 159 = .ok (.aload_n 0, 1) := by decide +kernel
theorem dL_refused_160 : decode cL_refused 160 = .ok (.iconst 0, 1) := by decide +kernel
theorem dL_refused_161 : decode cL_refused 161 = .ok (.bipush 61, 2) := by decide +kernel
theorem dL_refused_163 : decode cL_refused 163 = .ok (.invokestatic 131, 3) := by decide +kernel
theorem dL_refused_166 : decode cL_refused 166 = .ok (.sipush (-2051), 3) := by decide +kernel
theorem dL_refused_169 : decode cL_refused 169 = .ok (.if_icmp .ne 134, 3) := by decide +kernel
theorem dL_refused_172 : decode cL_refused 172 = .ok (.aload_n 0, 1) := by decide +kernel
theorem dL_refused_173 : decode cL_refused 173 = .ok (.iconst 1, 1) := by decide +kernel
theorem dL_refused_174 : decode cL_refused 174 = .ok (.iconst 1, 1) := by decide +kernel
theorem dL_refused_175 : decode cL_refused 175 = .ok (.invokestatic 131, 3) := by decide +kernel
theorem dL_refused_178 : decode cL_refused 178 = .ok (.sipush (-2051), 3) := by decide +kernel
theorem dL_refused_181 : decode cL_refused 181 = .ok (.if_icmp .ne 122, 3) := by decide +kernel
theorem dL_refused_184 : decode cL_refused 184 = .ok (.aload_n 0, 1) := by decide +kernel
theorem dL_refused_185 : decode cL_refused 185 = .ok (.iconst 2, 1) := by decide +kernel
theorem dL_refused_186 : decode cL_refused 186 = .ok (.bipush 31, 2) := by decide +kernel
theorem dL_refused_188 : decode cL_refused 188 = .ok (.invokestatic 131, 3) := by decide +kernel
theorem dL_refused_191 : decode cL_refused 191 = .ok (.sipush (-2051), 3) := by decide +kernel
theorem dL_refused_194 : decode cL_refused 194 = .ok (.if_icmp .ne 109, 3) := by decide +kernel
theorem dL_refused_197 : decode cL_refused 197 = .ok (.aload_n 0, 1) := by decide +kernel
theorem dL_refused_198 : decode cL_refused 198 = .ok (.iconst 3, 1) := by decide +kernel
theorem dL_refused_199 : decode cL_refused 199 = .ok (.iconst 2, 1) := by decide +kernel
theorem dL_refused_200 : decode cL_refused 200 = .ok (.invokestatic 131, 3) := by decide +kernel
theorem dL_refused_203 : decode cL_refused 203 = .ok (.sipush (-2051), 3) := by decide +kernel
theorem dL_refused_206 : decode cL_refused 206 = .ok (.if_icmp .ne 97, 3) := by decide +kernel
theorem dL_refused_209 : decode cL_refused 209 = .ok (.aload_n 0, 1) := by decide +kernel
theorem dL_refused_210 : decode cL_refused 210 = .ok (.iconst 4, 1) := by decide +kernel
theorem dL_refused_211 : decode cL_refused 211 = .ok (.bipush 9, 2) := by decide +kernel
theorem dL_refused_213 : decode cL_refused 213 = .ok (.invokestatic 131, 3) := by decide +kernel
theorem dL_refused_216 : decode cL_refused 216 = .ok (.sipush (-2051), 3) := by decide +kernel
theorem dL_refused_219 : decode cL_refused 219 = .ok (.if_icmp .ne 84, 3) := by decide +kernel
theorem dL_refused_222 : decode cL_refused 222 = .ok (.aload_n 0, 1) := by decide +kernel
theorem dL_refused_223 : decode cL_refused 223 = .ok (.iconst 5, 1) := by decide +kernel
theorem dL_refused_224 : decode cL_refused 224 = .ok (.sipush 1000, 3) := by decide +kernel
theorem dL_refused_227 : decode cL_refused 227 = .ok (.invokestatic 131, 3) := by decide +kernel
theorem dL_refused_230 : decode cL_refused 230 = .ok (.sipush (-2051), 3) := by decide +kernel
theorem dL_refused_233 : decode cL_refused 233 = .ok (.if_icmp .ne 70, 3) := by decide +kernel
theorem dL_refused_236 : decode cL_refused 236 = .ok (.aload_n 0, 1) := by decide +kernel
theorem dL_refused_237 : decode cL_refused 237 = .ok (.iload_n 3, 1) := by decide +kernel
theorem dL_refused_238 : decode cL_refused 238 = .ok (.iconst (-1), 1) := by decide +kernel
theorem dL_refused_239 : decode cL_refused 239 = .ok (.invokestatic 133, 3) := by decide +kernel
theorem dL_refused_242 : decode cL_refused 242 = .ok (.sipush (-2053), 3) := by decide +kernel
theorem dL_refused_245 : decode cL_refused 245 = .ok (.if_icmp .ne 58, 3) := by decide +kernel
theorem dL_refused_248 : decode cL_refused 248 = .ok (.aload_n 0, 1) := by decide +kernel
theorem dL_refused_249 : decode cL_refused 249 = .ok (.iconst 0, 1) := by decide +kernel
theorem dL_refused_250 : decode cL_refused 250 = .ok (.ldc 135, 2) := by decide +kernel
theorem dL_refused_252 : decode cL_refused 252 = .ok (.invokestatic 133, 3) := by decide +kernel
theorem dL_refused_255 : decode cL_refused 255 = .ok (.sipush (-2051), 3) := by decide +kernel
theorem dL_refused_258 : decode cL_refused 258 = .ok (.if_icmp .ne 45, 3) := by decide +kernel
