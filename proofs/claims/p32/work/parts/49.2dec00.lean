theorem dX10_gcd_0 : decode cX10_gcd 0 = .ok (.iload_n 0, 1) := by decide +kernel
theorem dX10_gcd_1 : decode cX10_gcd 1 = .ok (.ifCond .ge 8, 3) := by decide +kernel
theorem dX10_gcd_4 : decode cX10_gcd 4 = .ok (.iload_n 0, 1) := by decide +kernel
theorem dX10_gcd_5 : decode cX10_gcd 5 = .ok (.ineg, 1) := by decide +kernel
theorem dX10_gcd_6 : decode cX10_gcd 6 = .ok (.goto 4, 3) := by decide +kernel
theorem dX10_gcd_9 : decode cX10_gcd 9 = .ok (.iload_n 0, 1) := by decide +kernel
theorem dX10_gcd_10 : decode cX10_gcd 10 = .ok (.istore_n 2, 1) := by decide +kernel
theorem dX10_gcd_11 : decode cX10_gcd 11 = .ok (.iload_n 1, 1) := by decide +kernel
theorem dX10_gcd_12 : decode cX10_gcd 12 = .ok (.istore_n 3, 1) := by decide +kernel
theorem dX10_gcd_13 : decode cX10_gcd 13 = .ok (.iload_n 3, 1) := by decide +kernel
theorem dX10_gcd_14 : decode cX10_gcd 14 = .ok (.ifCond .eq 16, 3) := by decide +kernel
theorem dX10_gcd_17 : decode cX10_gcd 17 = .ok (.iload_n 2, 1) := by decide +kernel
theorem dX10_gcd_18 : decode cX10_gcd 18 = .ok (.iload_n 3, 1) := by decide +kernel
theorem dX10_gcd_19 : decode cX10_gcd 19 = .ok (.irem, 1) := by decide +kernel
theorem dX10_gcd_20 : decode cX10_gcd 20 = .ok (.istore 4, 2) := by decide +kernel
theorem dX10_gcd_22 : decode cX10_gcd 22 = .ok (.iload_n 3, 1) := by decide +kernel
theorem dX10_gcd_23 : decode cX10_gcd 23 = .ok (.istore_n 2, 1) := by decide +kernel
theorem dX10_gcd_24 : decode cX10_gcd 24 = .ok (.iload 4, 2) := by decide +kernel
theorem dX10_gcd_26 : decode cX10_gcd 26 = .ok (.istore_n 3, 1) := by decide +kernel
theorem dX10_gcd_27 : decode cX10_gcd 27 = .ok (.goto (-14), 3) := by decide +kernel
theorem dX10_gcd_30 : decode cX10_gcd 30 = .ok (.iload_n 2, 1) := by decide +kernel
theorem dX10_gcd_31 : decode cX10_gcd 31 = .ok (.ireturn, 1) := by decide +kernel
