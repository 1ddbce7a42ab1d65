theorem dX9_isDayCount_0 : decode cX9_isDayCount 0 = .ok (.iload_n 0, 1) := by decide +kernel
theorem dX9_isDayCount_1 : decode cX9_isDayCount 1 = .ok (.iconst 1, 1) := by decide +kernel
theorem dX9_isDayCount_2 : decode cX9_isDayCount 2 = .ok (.if_icmp .lt 13, 3) := by decide +kernel
theorem dX9_isDayCount_5 : decode cX9_isDayCount 5 = .ok (.iload_n 0, 1) := by decide +kernel
theorem dX9_isDayCount_6 : decode cX9_isDayCount 6 = .ok (.bipush 60, 2) := by decide +kernel
theorem dX9_isDayCount_8 : decode cX9_isDayCount 8 = .ok (.if_icmp .gt 7, 3) := by decide +kernel
theorem dX9_isDayCount_11 : decode cX9_isDayCount 11 = .ok (.iconst 1, 1) := by decide +kernel
theorem dX9_isDayCount_12 : decode cX9_isDayCount 12 = .ok (.goto 4, 3) := by decide +kernel
theorem dX9_isDayCount_15 : decode cX9_isDayCount 15 = .ok (.iconst 0, 1) := by decide +kernel
theorem dX9_isDayCount_16 : decode cX9_isDayCount 16 = .ok (.ireturn, 1) := by decide +kernel
theorem dX9_isIn_0 : decode cX9_isIn 0 = .ok (.iload_n 1, 1) := by decide +kernel
theorem dX9_isIn_1 : decode cX9_isIn 1 = .ok (.ifCond .lt 22, 3) := by decide +kernel
theorem dX9_isIn_4 : decode cX9_isIn 4 = .ok (.iload_n 1, 1) := by decide +kernel
theorem dX9_isIn_5 : decode cX9_isIn 5 = .ok (.bipush 31, 2) := by decide +kernel
theorem dX9_isIn_7 : decode cX9_isIn 7 = .ok (.if_icmp .ge 16, 3) := by decide +kernel
theorem dX9_isIn_10 : decode cX9_isIn 10 = .ok (.iload_n 0, 1) := by decide +kernel
theorem dX9_isIn_11 : decode cX9_isIn 11 = .ok (.iload_n 1, 1) := by decide +kernel
theorem dX9_isIn_12 : decode cX9_isIn 12 = .ok (.ishr, 1) := by decide +kernel
theorem dX9_isIn_13 : decode cX9_isIn 13 = .ok (.iconst 1, 1) := by decide +kernel
theorem dX9_isIn_14 : decode cX9_isIn 14 = .ok (.iand, 1) := by decide +kernel
theorem dX9_isIn_15 : decode cX9_isIn 15 = .ok (.iconst 1, 1) := by decide +kernel
theorem dX9_isIn_16 : decode cX9_isIn 16 = .ok (.if_icmp .ne 7, 3) := by decide +kernel
theorem dX9_isIn_19 : decode cX9_isIn 19 = .ok (.iconst 1, 1) := by decide +kernel
theorem dX9_isIn_20 : decode cX9_isIn 20 = .ok (.goto 4, 3) := by decide +kernel
theorem dX9_isIn_23 : decode cX9_isIn 23 = .ok (.iconst 0, 1) := by decide +kernel
theorem dX9_isIn_24 : decode cX9_isIn 24 = .ok (.ireturn, 1) := by decide +kernel
theorem dX9_within_0 : decode cX9_within 0 = .ok (.iload_n 0, 1) := by decide +kernel
theorem dX9_within_1 : decode cX9_within 1 = .ok (.iload_n 1, 1) := by decide +kernel
theorem dX9_within_2 : decode cX9_within 2 = .ok (.if_icmp .lt 12, 3) := by decide +kernel
theorem dX9_within_5 : decode cX9_within 5 = .ok (.iload_n 0, 1) := by decide +kernel
theorem dX9_within_6 : decode cX9_within 6 = .ok (.iload_n 2, 1) := by decide +kernel
theorem dX9_within_7 : decode cX9_within 7 = .ok (.if_icmp .gt 7, 3) := by decide +kernel
theorem dX9_within_10 : decode cX9_within 10 = .ok (.iconst 1, 1) := by decide +kernel
theorem dX9_within_11 : decode cX9_within 11 = .ok (.goto 4, 3) := by decide +kernel
theorem dX9_within_14 : decode cX9_within 14 = .ok (.iconst 0, 1) := by decide +kernel
theorem dX9_within_15 : decode cX9_within 15 = .ok (.ireturn, 1) := by decide +kernel
