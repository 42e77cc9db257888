theorem dL_isNeeded_256 : decode cL_isNeeded 256 = .ok (.goto 4, 3) := by decide +kernel
theorem dL_isNeeded_259 : decode cL_isNeeded 259 = .ok (.iconst 0, 1) := by decide +kernel
theorem dL_isNeeded_260 : decode cL_isNeeded 260 = .ok (.istore 8, 2) := by decide +kernel
theorem dL_isNeeded_262 : decode cL_isNeeded 262 = .ok (.iinc 9 1, 3) := by decide +kernel
theorem dL_isNeeded_265 : decode cL_isNeeded 265 = .ok (.goto (-152), 3) := by decide +kernel
theorem dL_isNeeded_268 : decode cL_isNeeded 268 = .ok (.iload 8, 2) := by decide +kernel
theorem dL_isNeeded_270 : decode cL_isNeeded 270 = .ok (.ifCond .eq 22, 3) := by decide +kernel
theorem dL_isNeeded_273 : decode cL_isNeeded 273 = .ok (.iload 6, 2) := by decide +kernel
theorem dL_isNeeded_275 : decode cL_isNeeded 275 = .ok (.iconst (-1), 1) := by decide +kernel
theorem dL_isNeeded_276 : decode cL_isNeeded 276 = .ok (.if_icmp .lt 16, 3) := by decide +kernel
theorem dL_isNeeded_279 : decode cL_isNeeded 279 = .ok (.aload_n 0, 1) := by decide +kernel
theorem dL_isNeeded_280 : decode cL_isNeeded 280 = .ok (.invokestatic 117, 3) := by decide +kernel
theorem dL_isNeeded_283 : decode cL_isNeeded 283 = .ok (.lload_n 3, 1) := by decide +kernel
theorem dL_isNeeded_284 : decode cL_isNeeded 284 = .ok (.lcmp, 1) := by decide +kernel
theorem dL_isNeeded_285 : decode cL_isNeeded 285 = .ok (.ifCond .ne 7, 3) := by decide +kernel
theorem dL_isNeeded_288 : decode cL_isNeeded 288 = .ok (.iconst 1, 1) := by decide +kernel
theorem dL_isNeeded_289 : decode cL_isNeeded 289 = .ok (.goto 4, 3) := by decide +kernel
theorem dL_isNeeded_292 : decode cL_isNeeded 292 = .ok (.iconst 0, 1) := by decide +kernel
theorem dL_isNeeded_293 : decode cL_isNeeded 293 = .ok (.ireturn, 1) := by decide +kernel
