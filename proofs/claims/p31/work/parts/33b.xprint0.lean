theorem dL_print_0 : decode cL_print 0 = .ok (.aload_n 0, 1) := by decide +kernel
theorem dL_print_1 : decode cL_print 1 = .ok (.bipush 10, 2) := by decide +kernel
theorem dL_print_3 : decode cL_print 3 = .ok (.invokestatic 103, 3) := by decide +kernel
theorem dL_print_6 : decode cL_print 6 = .ok (.istore_n 1, 1) := by decide +kernel
theorem dL_print_7 : decode cL_print 7 = .ok (.aload_n 0, 1) := by decide +kernel
theorem dL_print_8 : decode cL_print 8 = .ok (.iload_n 1, 1) := by decide +kernel
theorem dL_print_9 : decode cL_print 9 = .ok (.invokestatic 108, 3) := by decide +kernel
theorem dL_print_12 : decode cL_print 12 = .ok (.istore_n 2, 1) := by decide +kernel
theorem dL_print_13 : decode cL_print 13 = .ok (.aload_n 0, 1) := by decide +kernel
theorem dL_print_14 : decode cL_print 14 = .ok (.invokestatic 110, 3) := by decide +kernel
theorem dL_print_17 : decode cL_print 17 = .ok (.istore_n 3, 1) := by decide +kernel
theorem dL_print_18 : decode cL_print 18 = .ok (.iload_n 2, 1) := by decide +kernel
theorem dL_print_19 : decode cL_print 19 = .ok (.iload_n 1, 1) := by decide +kernel
theorem dL_print_20 : decode cL_print 20 = .ok (.if_icmp .ne 13, 3) := by decide +kernel
theorem dL_print_23 : decode cL_print 23 = .ok (.aload_n 0, 1) := by decide +kernel
theorem dL_print_24 : decode cL_print 24 = .ok (.invokevirtual 113, 3) := by decide +kernel
theorem dL_print_27 : decode cL_print 27 = .ok (.iload_n 3, 1) := by decide +kernel
theorem dL_print_28 : decode cL_print 28 = .ok (.i2l, 1) := by decide +kernel
theorem dL_print_29 : decode cL_print 29 = .ok (.lsub, 1) := by decide +kernel
theorem dL_print_30 : decode cL_print 30 = .ok (.goto 4, 3) := by decide +kernel
theorem dL_print_33 : decode cL_print 33 = .ok (.lconst 0, 1) := by decide +kernel
theorem dL_print_34 : decode cL_print 34 = .ok (.lreturn, 1) := by decide +kernel
