theorem dL_isHouse_0 : decode cL_isHouse 0 = .ok (.aload_n 0, 1) := by decide +kernel
theorem dL_isHouse_1 : decode cL_isHouse 1 = .ok (.bipush 6, 2) := by decide +kernel
theorem dL_isHouse_3 : decode cL_isHouse 3 = .ok (.invokestatic 103, 3) := by decide +kernel
theorem dL_isHouse_6 : decode cL_isHouse 6 = .ok (.istore_n 1, 1) := by decide +kernel
theorem dL_isHouse_7 : decode cL_isHouse 7 = .ok (.aload_n 0, 1) := by decide +kernel
theorem dL_isHouse_8 : decode cL_isHouse 8 = .ok (.iconst 5, 1) := by decide +kernel
theorem dL_isHouse_9 : decode cL_isHouse 9 = .ok (.invokestatic 103, 3) := by decide +kernel
theorem dL_isHouse_12 : decode cL_isHouse 12 = .ok (.aload_n 0, 1) := by decide +kernel
theorem dL_isHouse_13 : decode cL_isHouse 13 = .ok (.iconst 4, 1) := by decide +kernel
theorem dL_isHouse_14 : decode cL_isHouse 14 = .ok (.invokestatic 103, 3) := by decide +kernel
theorem dL_isHouse_17 : decode cL_isHouse 17 = .ok (.imul, 1) := by decide +kernel
theorem dL_isHouse_18 : decode cL_isHouse 18 = .ok (.bipush 8, 2) := by decide +kernel
theorem dL_isHouse_20 : decode cL_isHouse 20 = .ok (.idiv, 1) := by decide +kernel
theorem dL_isHouse_21 : decode cL_isHouse 21 = .ok (.aload_n 0, 1) := by decide +kernel
theorem dL_isHouse_22 : decode cL_isHouse 22 = .ok (.iconst 0, 1) := by decide +kernel
theorem dL_isHouse_23 : decode cL_isHouse 23 = .ok (.invokestatic 103, 3) := by decide +kernel
theorem dL_isHouse_26 : decode cL_isHouse 26 = .ok (.isub, 1) := by decide +kernel
theorem dL_isHouse_27 : decode cL_isHouse 27 = .ok (.istore_n 2, 1) := by decide +kernel
theorem dL_isHouse_28 : decode cL_isHouse 28 = .ok (.aload_n 0, 1) := by decide +kernel
theorem dL_isHouse_29 : decode cL_isHouse 29 = .ok (.bipush 11, 2) := by decide +kernel
theorem dL_isHouse_31 : decode cL_isHouse 31 = .ok (.invokestatic 103, 3) := by decide +kernel
theorem dL_isHouse_34 : decode cL_isHouse 34 = .ok (.iload_n 2, 1) := by decide +kernel
theorem dL_isHouse_35 : decode cL_isHouse 35 = .ok (.ifCond .ge 7, 3) := by decide +kernel
theorem dL_isHouse_38 : decode cL_isHouse 38 = .ok (.iconst 0, 1) := by decide +kernel
theorem dL_isHouse_39 : decode cL_isHouse 39 = .ok (.goto 4, 3) := by decide +kernel
theorem dL_isHouse_42 : decode cL_isHouse 42 = .ok (.iload_n 2, 1) := by decide +kernel
theorem dL_isHouse_43 : decode cL_isHouse 43 = .ok (.if_icmp .ne 81, 3) := by decide +kernel
theorem dL_isHouse_46 : decode cL_isHouse 46 = .ok (.aload_n 0, 1) := by decide +kernel
theorem dL_isHouse_47 : decode cL_isHouse 47 = .ok (.bipush 9, 2) := by decide +kernel
theorem dL_isHouse_49 : decode cL_isHouse 49 = .ok (.invokestatic 103, 3) := by decide +kernel
theorem dL_isHouse_52 : decode cL_isHouse 52 = .ok (.aload_n 0, 1) := by decide +kernel
theorem dL_isHouse_53 : decode cL_isHouse 53 = .ok (.bipush 8, 2) := by decide +kernel
theorem dL_isHouse_55 : decode cL_isHouse 55 = .ok (.invokestatic 103, 3) := by decide +kernel
theorem dL_isHouse_58 : decode cL_isHouse 58 = .ok (.ifCond .ne 7, 3) := by decide +kernel
theorem dL_isHouse_61 : decode cL_isHouse 61 = .ok (.iconst 0, 1) := by decide +kernel
theorem dL_isHouse_62 : decode cL_isHouse 62 = .ok (.goto 14, 3) := by decide +kernel
theorem dL_isHouse_65 : decode cL_isHouse 65 = .ok (.iconst 1, 1) := by decide +kernel
theorem dL_isHouse_66 : decode cL_isHouse 66 = .ok (.aload_n 0, 1) := by decide +kernel
theorem dL_isHouse_67 : decode cL_isHouse 67 = .ok (.bipush 8, 2) := by decide +kernel
theorem dL_isHouse_69 : decode cL_isHouse 69 = .ok (.invokestatic 103, 3) := by decide +kernel
theorem dL_isHouse_72 : decode cL_isHouse 72 = .ok (.bipush 25, 2) := by decide +kernel
theorem dL_isHouse_74 : decode cL_isHouse 74 = .ok (.idiv, 1) := by decide +kernel
theorem dL_isHouse_75 : decode cL_isHouse 75 = .ok (.iadd, 1) := by decide +kernel
theorem dL_isHouse_76 : decode cL_isHouse 76 = .ok (.if_icmp .ne 48, 3) := by decide +kernel
theorem dL_isHouse_79 : decode cL_isHouse 79 = .ok (.aload_n 0, 1) := by decide +kernel
theorem dL_isHouse_80 : decode cL_isHouse 80 = .ok (.iconst 4, 1) := by decide +kernel
theorem dL_isHouse_81 : decode cL_isHouse 81 = .ok (.invokestatic 103, 3) := by decide +kernel
theorem dL_isHouse_84 : decode cL_isHouse 84 = .ok (.ifCond .lt 40, 3) := by decide +kernel
theorem dL_isHouse_87 : decode cL_isHouse 87 = .ok (.aload_n 0, 1) := by decide +kernel
theorem dL_isHouse_88 : decode cL_isHouse 88 = .ok (.iconst 4, 1) := by decide +kernel
theorem dL_isHouse_89 : decode cL_isHouse 89 = .ok (.invokestatic 103, 3) := by decide +kernel
theorem dL_isHouse_92 : decode cL_isHouse 92 = .ok (.bipush 8, 2) := by decide +kernel
theorem dL_isHouse_94 : decode cL_isHouse 94 = .ok (.if_icmp .gt 30, 3) := by decide +kernel
theorem dL_isHouse_97 : decode cL_isHouse 97 = .ok (.aload_n 0, 1) := by decide +kernel
theorem dL_isHouse_98 : decode cL_isHouse 98 = .ok (.bipush 8, 2) := by decide +kernel
theorem dL_isHouse_100 : decode cL_isHouse 100 = .ok (.invokestatic 103, 3) := by decide +kernel
theorem dL_isHouse_103 : decode cL_isHouse 103 = .ok (.sipush 200, 3) := by decide +kernel
theorem dL_isHouse_106 : decode cL_isHouse 106 = .ok (.if_icmp .gt 18, 3) := by decide +kernel
theorem dL_isHouse_109 : decode cL_isHouse 109 = .ok (.aload_n 0, 1) := by decide +kernel
theorem dL_isHouse_110 : decode cL_isHouse 110 = .ok (.iconst 5, 1) := by decide +kernel
theorem dL_isHouse_111 : decode cL_isHouse 111 = .ok (.invokestatic 103, 3) := by decide +kernel
theorem dL_isHouse_114 : decode cL_isHouse 114 = .ok (.sipush 999, 3) := by decide +kernel
theorem dL_isHouse_117 : decode cL_isHouse 117 = .ok (.if_icmp .gt 7, 3) := by decide +kernel
theorem dL_isHouse_120 : decode cL_isHouse 120 = .ok (.iconst 1, 1) := by decide +kernel
theorem dL_isHouse_121 : decode cL_isHouse 121 = .ok (.goto 4, 3) := by decide +kernel
theorem dL_isHouse_124 : decode cL_isHouse 124 = .ok (.iconst 0, 1) := by decide +kernel
theorem dL_isHouse_125 : decode cL_isHouse 125 = .ok (.istore_n 3, 1) := by decide +kernel
theorem dL_isHouse_126 : decode cL_isHouse 126 = .ok (.iconst 0, 1) := by decide +kernel
theorem dL_isHouse_127 : decode cL_isHouse 127 = .ok (.istore 4, 2) := by decide +kernel
theorem dL_isHouse_129 : decode cL_isHouse 129 = .ok (.iload 4, 2) := by decide +kernel
theorem dL_isHouse_131 : decode cL_isHouse 131 = .ok (.iload_n 1, 1) := by decide +kernel
theorem dL_isHouse_132 : decode cL_isHouse 132 = .ok (.if_icmp .ge 416, 3) := by decide +kernel
theorem dL_isHouse_135 : decode cL_isHouse 135 = .ok (.iload_n 3, 1) := by decide +kernel
theorem dL_isHouse_136 : decode cL_isHouse 136 = .ok (.ifCond .eq 412, 3) := by decide +kernel
theorem dL_isHouse_139 : decode cL_isHouse 139 = .ok (.iconst 0, 1) := by decide +kernel
theorem dL_isHouse_140 : decode cL_isHouse 140 = .ok (.istore 5, 2) := by decide +kernel
theorem dL_isHouse_142 : decode cL_isHouse 142 = .ok (.iconst 0, 1) := by decide +kernel
theorem dL_isHouse_143 : decode cL_isHouse 143 = .ok (.istore 6, 2) := by decide +kernel
theorem dL_isHouse_145 : decode cL_isHouse 145 = .ok (.iconst 0, 1) := by decide +kernel
theorem dL_isHouse_146 : decode cL_isHouse 146 = .ok (.istore 7, 2) := by decide +kernel
theorem dL_isHouse_148 : decode cL_isHouse 148 = .ok (.iconst 0, 1) := by decide +kernel
theorem dL_isHouse_149 : decode cL_isHouse 149 = .ok (.istore 8, 2) := by decide +kernel
theorem dL_isHouse_151 : decode cL_isHouse 151 = .ok (.iload 8, 2) := by decide +kernel
theorem dL_isHouse_153 : decode cL_isHouse 153 = .ok (.aload_n 0, 1) := by decide +kernel
theorem dL_isHouse_154 : decode cL_isHouse 154 = .ok (.bipush 12, 2) := by decide +kernel
theorem dL_isHouse_156 : decode cL_isHouse 156 = .ok (.invokestatic 103, 3) := by decide +kernel
theorem dL_isHouse_159 : decode cL_isHouse 159 = .ok (.if_icmp .ge 168, 3) := by decide +kernel
theorem dL_isHouse_162 : decode cL_isHouse 162 = .ok (.aload_n 0, 1) := by decide +kernel
theorem dL_isHouse_163 : decode cL_isHouse 163 = .ok (.iload 8, 2) := by decide +kernel
theorem dL_isHouse_165 : decode cL_isHouse 165 = .ok (.bipush 8, 2) := by decide +kernel
theorem dL_isHouse_167 : decode cL_isHouse 167 = .ok (.invokestatic 143, 3) := by decide +kernel
theorem dL_isHouse_170 : decode cL_isHouse 170 = .ok (.iconst 1, 1) := by decide +kernel
theorem dL_isHouse_171 : decode cL_isHouse 171 = .ok (.if_icmp .ne 19, 3) := by decide +kernel
theorem dL_isHouse_174 : decode cL_isHouse 174 = .ok (.aload_n 0, 1) := by decide +kernel
theorem dL_isHouse_175 : decode cL_isHouse 175 = .ok (.iload 8, 2) := by decide +kernel
theorem dL_isHouse_177 : decode cL_isHouse 177 = .ok (.iconst 0, 1) := by decide +kernel
theorem dL_isHouse_178 : decode cL_isHouse 178 = .ok (.invokestatic 143, 3) := by decide +kernel
theorem dL_isHouse_181 : decode cL_isHouse 181 = .ok (.iload 4, 2) := by decide +kernel
theorem dL_isHouse_183 : decode cL_isHouse 183 = .ok (.if_icmp .ne 7, 3) := by decide +kernel
theorem dL_isHouse_186 : decode cL_isHouse 186 = .ok (.iconst 1, 1) := by decide +kernel
theorem dL_isHouse_187 : decode cL_isHouse 187 = .ok (.goto 4, 3) := by decide +kernel
theorem dL_isHouse_190 : decode cL_isHouse 190 = .ok (.iconst 0, 1) := by decide +kernel
theorem dL_isHouse_191 : decode cL_isHouse 191 = .ok (.istore 9, 2) := by decide +kernel
theorem dL_isHouse_193 : decode cL_isHouse 193 = .ok (.iload 5, 2) := by decide +kernel
theorem dL_isHouse_195 : decode cL_isHouse 195 = .ok (.iload 9, 2) := by decide +kernel
theorem dL_isHouse_197 : decode cL_isHouse 197 = .ok (.ifCond .eq 10, 3) := by decide +kernel
theorem dL_isHouse_200 : decode cL_isHouse 200 = .ok (.iconst 1, 1) := by decide +kernel
theorem dL_isHouse_201 : decode cL_isHouse 201 = .ok (.iload 8, 2) := by decide +kernel
theorem dL_isHouse_203 : decode cL_isHouse 203 = .ok (.ishl, 1) := by decide +kernel
theorem dL_isHouse_204 : decode cL_isHouse 204 = .ok (.goto 4, 3) := by decide +kernel
theorem dL_isHouse_207 : decode cL_isHouse 207 = .ok (.iconst 0, 1) := by decide +kernel
theorem dL_isHouse_208 : decode cL_isHouse 208 = .ok (.ior, 1) := by decide +kernel
theorem dL_isHouse_209 : decode cL_isHouse 209 = .ok (.istore 5, 2) := by decide +kernel
theorem dL_isHouse_211 : decode cL_isHouse 211 = .ok (.iload 6, 2) := by decide +kernel
theorem dL_isHouse_213 : decode cL_isHouse 213 = .ok (.iload 9, 2) := by decide +kernel
theorem dL_isHouse_215 : decode cL_isHouse 215 = .ok (.ifCond .eq 13, 3) := by decide +kernel
theorem dL_isHouse_218 : decode cL_isHouse 218 = .ok (.aload_n 0, 1) := by decide +kernel
theorem dL_isHouse_219 : decode cL_isHouse 219 = .ok (.iload 8, 2) := by decide +kernel
theorem dL_isHouse_221 : decode cL_isHouse 221 = .ok (.iconst 4, 1) := by decide +kernel
theorem dL_isHouse_222 : decode cL_isHouse 222 = .ok (.invokestatic 143, 3) := by decide +kernel
theorem dL_isHouse_225 : decode cL_isHouse 225 = .ok (.goto 4, 3) := by decide +kernel
theorem dL_isHouse_228 : decode cL_isHouse 228 = .ok (.iconst 0, 1) := by decide +kernel
theorem dL_isHouse_229 : decode cL_isHouse 229 = .ok (.iadd, 1) := by decide +kernel
theorem dL_isHouse_230 : decode cL_isHouse 230 = .ok (.istore 6, 2) := by decide +kernel
theorem dL_isHouse_232 : decode cL_isHouse 232 = .ok (.iload 7, 2) := by decide +kernel
theorem dL_isHouse_234 : decode cL_isHouse 234 = .ok (.iload 9, 2) := by decide +kernel
theorem dL_isHouse_236 : decode cL_isHouse 236 = .ok (.ifCond .eq 7, 3) := by decide +kernel
theorem dL_isHouse_239 : decode cL_isHouse 239 = .ok (.iconst 1, 1) := by decide +kernel
theorem dL_isHouse_240 : decode cL_isHouse 240 = .ok (.goto 4, 3) := by decide +kernel
theorem dL_isHouse_243 : decode cL_isHouse 243 = .ok (.iconst 0, 1) := by decide +kernel
