theorem dL_isThought_247 : decode cL_isThought 247 = .ok (.isub, 1) := by decide +kernel
theorem dL_isThought_248 : decode cL_isThought 248 = .ok (.iload 12, 2) := by decide +kernel
theorem dL_isThought_250 : decode cL_isThought 250 = .ok (.if_icmp .gt 14, 3) := by decide +kernel
theorem dL_isThought_253 : decode cL_isThought 253 = .ok (.aload_n 0, 1) := by decide +kernel
theorem dL_isThought_254 : decode cL_isThought 254 = .ok (.invokestatic 110, 3) := by decide +kernel
theorem dL_isThought_257 : decode cL_isThought 257 = .ok (.ifCond .lt 7, 3) := by decide +kernel
theorem dL_isThought_260 : decode cL_isThought 260 = .ok (.iconst 1, 1) := by decide +kernel
theorem dL_isThought_261 : decode cL_isThought 261 = .ok (.goto 4, 3) := by decide +kernel
theorem dL_isThought_264 : decode cL_isThought 264 = .ok (.iconst 0, 1) := by decide +kernel
theorem dL_isThought_265 : decode cL_isThought 265 = .ok (.istore 9, 2) := by decide +kernel
theorem dL_isThought_267 : decode cL_isThought 267 = .ok (.iinc 12 1, 3) := by decide +kernel
theorem dL_isThought_270 : decode cL_isThought 270 = .ok (.goto (-128), 3) := by decide +kernel
theorem dL_isThought_273 : decode cL_isThought 273 = .ok (.iload 9, 2) := by decide +kernel
theorem dL_isThought_275 : decode cL_isThought 275 = .ok (.ifCond .eq 30, 3) := by decide +kernel
theorem dL_isThought_278 : decode cL_isThought 278 = .ok (.iload 10, 2) := by decide +kernel
theorem dL_isThought_280 : decode cL_isThought 280 = .ok (.iload 5, 2) := by decide +kernel
theorem dL_isThought_282 : decode cL_isThought 282 = .ok (.if_icmp .ne 23, 3) := by decide +kernel
theorem dL_isThought_285 : decode cL_isThought 285 = .ok (.iload 11, 2) := by decide +kernel
theorem dL_isThought_287 : decode cL_isThought 287 = .ok (.iload 7, 2) := by decide +kernel
theorem dL_isThought_289 : decode cL_isThought 289 = .ok (.if_icmp .ne 16, 3) := by decide +kernel
theorem dL_isThought_292 : decode cL_isThought 292 = .ok (.aload_n 0, 1) := by decide +kernel
theorem dL_isThought_293 : decode cL_isThought 293 = .ok (.invokestatic 117, 3) := by decide +kernel
theorem dL_isThought_296 : decode cL_isThought 296 = .ok (.lload_n 3, 1) := by decide +kernel
theorem dL_isThought_297 : decode cL_isThought 297 = .ok (.lcmp, 1) := by decide +kernel
theorem dL_isThought_298 : decode cL_isThought 298 = .ok (.ifCond .ne 7, 3) := by decide +kernel
theorem dL_isThought_301 : decode cL_isThought 301 = .ok (.iconst 1, 1) := by decide +kernel
theorem dL_isThought_302 : decode cL_isThought 302 = .ok (.goto 4, 3) := by decide +kernel
theorem dL_isThought_305 : decode cL_isThought 305 = .ok (.iconst 0, 1) := by decide +kernel
theorem dL_isThought_306 : decode cL_isThought 306 = .ok (.ireturn, 1) := by decide +kernel
