theorem dX7_hasChore_0 : decode cX7_hasChore 0 = .ok (.iload_n 1, 1) := by decide +kernel
theorem dX7_hasChore_1 : decode cX7_hasChore 1 = .ok (.ifCond .lt 24, 3) := by decide +kernel
theorem dX7_hasChore_4 : decode cX7_hasChore 4 = .ok (.iload_n 1, 1) := by decide +kernel
theorem dX7_hasChore_5 : decode cX7_hasChore 5 = .ok (.bipush 12, 2) := by decide +kernel
theorem dX7_hasChore_7 : decode cX7_hasChore 7 = .ok (.if_icmp .ge 18, 3) := by decide +kernel
theorem dX7_hasChore_10 : decode cX7_hasChore 10 = .ok (.aload_n 0, 1) := by decide +kernel
theorem dX7_hasChore_11 : decode cX7_hasChore 11 = .ok (.getfield 32, 3) := by decide +kernel
theorem dX7_hasChore_14 : decode cX7_hasChore 14 = .ok (.iload_n 1, 1) := by decide +kernel
theorem dX7_hasChore_15 : decode cX7_hasChore 15 = .ok (.invokestatic 28, 3) := by decide +kernel
theorem dX7_hasChore_18 : decode cX7_hasChore 18 = .ok (.ifCond .eq 7, 3) := by decide +kernel
theorem dX7_hasChore_21 : decode cX7_hasChore 21 = .ok (.iconst 1, 1) := by decide +kernel
theorem dX7_hasChore_22 : decode cX7_hasChore 22 = .ok (.goto 4, 3) := by decide +kernel
theorem dX7_hasChore_25 : decode cX7_hasChore 25 = .ok (.iconst 0, 1) := by decide +kernel
theorem dX7_hasChore_26 : decode cX7_hasChore 26 = .ok (.ireturn, 1) := by decide +kernel
theorem dX7_hasPerson_0 : decode cX7_hasPerson 0 = .ok (.iload_n 1, 1) := by decide +kernel
theorem dX7_hasPerson_1 : decode cX7_hasPerson 1 = .ok (.ifCond .lt 24, 3) := by decide +kernel
theorem dX7_hasPerson_4 : decode cX7_hasPerson 4 = .ok (.iload_n 1, 1) := by decide +kernel
theorem dX7_hasPerson_5 : decode cX7_hasPerson 5 = .ok (.bipush 10, 2) := by decide +kernel
theorem dX7_hasPerson_7 : decode cX7_hasPerson 7 = .ok (.if_icmp .ge 18, 3) := by decide +kernel
theorem dX7_hasPerson_10 : decode cX7_hasPerson 10 = .ok (.aload_n 0, 1) := by decide +kernel
theorem dX7_hasPerson_11 : decode cX7_hasPerson 11 = .ok (.getfield 24, 3) := by decide +kernel
theorem dX7_hasPerson_14 : decode cX7_hasPerson 14 = .ok (.iload_n 1, 1) := by decide +kernel
theorem dX7_hasPerson_15 : decode cX7_hasPerson 15 = .ok (.invokestatic 28, 3) := by decide +kernel
theorem dX7_hasPerson_18 : decode cX7_hasPerson 18 = .ok (.ifCond .eq 7, 3) := by decide +kernel
theorem dX7_hasPerson_21 : decode cX7_hasPerson 21 = .ok (.iconst 1, 1) := by decide +kernel
theorem dX7_hasPerson_22 : decode cX7_hasPerson 22 = .ok (.goto 4, 3) := by decide +kernel
theorem dX7_hasPerson_25 : decode cX7_hasPerson 25 = .ok (.iconst 0, 1) := by decide +kernel
theorem dX7_hasPerson_26 : decode cX7_hasPerson 26 = .ok (.ireturn, 1) := by decide +kernel
