theorem dX8_run_23 : decode cX8_run 23 = .ok (.aload_n 0, 1) := by decide +kernel
theorem dX8_run_24 : decode cX8_run 24 = .ok (.invokevirtual 74, 3) := by decide +kernel
theorem dX8_run_27 : decode cX8_run 27 = .ok (.pop, 1) := by decide +kernel
theorem dX8_run_28 : decode cX8_run 28 = .ok (.iinc 3 1, 3) := by decide +kernel
theorem dX8_run_31 : decode cX8_run 31 = .ok (.goto (-29), 3) := by decide +kernel
theorem dX8_run_34 : decode cX8_run 34 = .ok (.aload_n 0, 1) := by decide +kernel
theorem dX8_run_35 : decode cX8_run 35 = .ok (.getfield 12, 3) := by decide +kernel
theorem dX8_run_38 : decode cX8_run 38 = .ok (.getfield 53, 3) := by decide +kernel
theorem dX8_run_41 : decode cX8_run 41 = .ok (.aload_n 0, 1) := by decide +kernel
theorem dX8_run_42 : decode cX8_run 42 = .ok (.getfield 56, 3) := by decide +kernel
theorem dX8_run_45 : decode cX8_run 45 = .ok (.isub, 1) := by decide +kernel
theorem dX8_run_46 : decode cX8_run 46 = .ok (.ireturn, 1) := by decide +kernel
theorem dX8_setFront_0 : decode cX8_setFront 0 = .ok (.aload_n 0, 1) := by decide +kernel
theorem dX8_setFront_1 : decode cX8_setFront 1 = .ok (.iload_n 1, 1) := by decide +kernel
theorem dX8_setFront_2 : decode cX8_setFront 2 = .ok (.putfield 50, 3) := by decide +kernel
theorem dX8_setFront_5 : decode cX8_setFront 5 = .ok (.aload_n 0, 1) := by decide +kernel
theorem dX8_setFront_6 : decode cX8_setFront 6 = .ok (.iload_n 2, 1) := by decide +kernel
theorem dX8_setFront_7 : decode cX8_setFront 7 = .ok (.putfield 71, 3) := by decide +kernel
theorem dX8_setFront_10 : decode cX8_setFront 10 = .ok (.return_, 1) := by decide +kernel
theorem dX8_setIdle_0 : decode cX8_setIdle 0 = .ok (.aload_n 0, 1) := by decide +kernel
theorem dX8_setIdle_1 : decode cX8_setIdle 1 = .ok (.iload_n 1, 1) := by decide +kernel
theorem dX8_setIdle_2 : decode cX8_setIdle 2 = .ok (.putfield 46, 3) := by decide +kernel
theorem dX8_setIdle_5 : decode cX8_setIdle 5 = .ok (.aload_n 0, 1) := by decide +kernel
theorem dX8_setIdle_6 : decode cX8_setIdle 6 = .ok (.iload_n 2, 1) := by decide +kernel
theorem dX8_setIdle_7 : decode cX8_setIdle 7 = .ok (.putfield 65, 3) := by decide +kernel
theorem dX8_setIdle_10 : decode cX8_setIdle 10 = .ok (.aload_n 0, 1) := by decide +kernel
theorem dX8_setIdle_11 : decode cX8_setIdle 11 = .ok (.iload_n 3, 1) := by decide +kernel
theorem dX8_setIdle_12 : decode cX8_setIdle 12 = .ok (.putfield 68, 3) := by decide +kernel
theorem dX8_setIdle_15 : decode cX8_setIdle 15 = .ok (.return_, 1) := by decide +kernel
theorem dX8_staysClear_0 : decode cX8_staysClear 0 = .ok (.iconst 1, 1) := by decide +kernel
theorem dX8_staysClear_1 : decode cX8_staysClear 1 = .ok (.istore_n 2, 1) := by decide +kernel
theorem dX8_staysClear_2 : decode cX8_staysClear 2 = .ok (.iconst 0, 1) := by decide +kernel
theorem dX8_staysClear_3 : decode cX8_staysClear 3 = .ok (.istore_n 3, 1) := by decide +kernel
theorem dX8_staysClear_4 : decode cX8_staysClear 4 = .ok (.iload_n 3, 1) := by decide +kernel
theorem dX8_staysClear_5 : decode cX8_staysClear 5 = .ok (.iload_n 1, 1) := by decide +kernel
theorem dX8_staysClear_6 : decode cX8_staysClear 6 = .ok (.if_icmp .ge 26, 3) := by decide +kernel
theorem dX8_staysClear_9 : decode cX8_staysClear 9 = .ok (.iload_n 2, 1) := by decide +kernel
theorem dX8_staysClear_10 : decode cX8_staysClear 10 = .ok (.ifCond .eq 22, 3) := by decide +kernel
theorem dX8_staysClear_13 : decode cX8_staysClear 13 = .ok (.aload_n 0, 1) := by decide +kernel
theorem dX8_staysClear_14 : decode cX8_staysClear 14 = .ok (.invokevirtual 74, 3) := by decide +kernel
theorem dX8_staysClear_17 : decode cX8_staysClear 17 = .ok (.ifCond .ne 7, 3) := by decide +kernel
theorem dX8_staysClear_20 : decode cX8_staysClear 20 = .ok (.iconst 1, 1) := by decide +kernel
theorem dX8_staysClear_21 : decode cX8_staysClear 21 = .ok (.goto 4, 3) := by decide +kernel
theorem dX8_staysClear_25 : decode cX8_staysClear 25 = .ok (.istore_n 2, 1) := by decide +kernel
theorem dX8_staysClear_26 : decode cX8_staysClear 26 = .ok (.iinc 3 1, 3) := by decide +kernel
theorem dX8_staysClear_29 : decode cX8_staysClear 29 = .ok (.goto (-25), 3) := by decide +kernel
theorem dX8_staysClear_32 : decode cX8_staysClear 32 = .ok (.iload_n 2, 1) := by decide +kernel
theorem dX8_staysClear_33 : decode cX8_staysClear 33 = .ok (.ireturn, 1) := by decide +kernel
theorem dX9_areTold_0 : decode cX9_areTold 0 = .ok (.iload_n 1, 1) := by decide +kernel
theorem dX9_areTold_1 : decode cX9_areTold 1 = .ok (.aload_n 0, 1) := by decide +kernel
theorem dX9_areTold_2 : decode cX9_areTold 2 = .ok (.getfield 19, 3) := by decide +kernel
theorem dX9_areTold_5 : decode cX9_areTold 5 = .ok (.getfield 85, 3) := by decide +kernel
theorem dX9_areTold_8 : decode cX9_areTold 8 = .ok (.iconst (-1), 1) := by decide +kernel
theorem dX9_areTold_9 : decode cX9_areTold 9 = .ok (.ixor, 1) := by decide +kernel
theorem dX9_areTold_10 : decode cX9_areTold 10 = .ok (.iand, 1) := by decide +kernel
theorem dX9_areTold_11 : decode cX9_areTold 11 = .ok (.ifCond .ne 7, 3) := by decide +kernel
theorem dX9_areTold_14 : decode cX9_areTold 14 = .ok (.iconst 1, 1) := by decide +kernel
theorem dX9_areTold_15 : decode cX9_areTold 15 = .ok (.goto 4, 3) := by decide +kernel
theorem dX9_areTold_18 : decode cX9_areTold 18 = .ok (.iconst 0, 1) := by decide +kernel
theorem dX9_areTold_19 : decode cX9_areTold 19 = .ok (.ireturn, 1) := by decide +kernel
theorem dX9_canLeave_0 : decode cX9_canLeave 0 = .ok (.aload_n 0, 1) := by decide +kernel
theorem dX9_canLeave_1 : decode cX9_canLeave 1 = .ok (.getfield 19, 3) := by decide +kernel
theorem dX9_canLeave_4 : decode cX9_canLeave 4 = .ok (.iload_n 1, 1) := by decide +kernel
theorem dX9_canLeave_5 : decode cX9_canLeave 5 = .ok (.invokevirtual 173, 3) := by decide +kernel
theorem dX9_canLeave_8 : decode cX9_canLeave 8 = .ok (.ifCond .eq 18, 3) := by decide +kernel
theorem dX9_canLeave_26 : decode cX9_canLeave 26 = .ok (.iconst 0, 1) := by decide +kernel
theorem dX9_canLeave_27 : decode cX9_canLeave 27 = .ok (.ireturn, 1) := by decide +kernel
theorem dX9_isDayCount_0 : decode cX9_isDayCount 0 = .ok (.iload_n 0, 1) := by decide +kernel
theorem dX9_isDayCount_1 : decode cX9_isDayCount 1 = .ok (.iconst 1, 1) := by decide +kernel
theorem dX9_isDayCount_2 : decode cX9_isDayCount 2 = .ok (.if_icmp .lt 13, 3) := by decide +kernel
theorem dX9_isDayCount_5 : decode cX9_isDayCount 5 = .ok (.iload_n 0, 1) := by decide +kernel
theorem dX9_isDayCount_6 : decode cX9_isDayCount 6 = .ok (.bipush 60, 2) := by decide +kernel
theorem dX9_isDayCount_8 : decode cX9_isDayCount 8 = .ok (.if_icmp .gt 7, 3) := by decide +kernel
theorem dX9_isDayCount_11 : decode cX9_isDayCount 11 = .ok (.iconst 1, 1) := by decide +kernel
theorem dX9_isDayCount_12 : decode cX9_isDayCount 12 = .ok (.goto 4, 3) := by decide +kernel
theorem dX9_isDayCount_15 : decode cX9_isDayCount 15 = .ok (.iconst 0, 1) := by decide +kernel
theorem dX9_isDayCount_16 : decode cX9_isDayCount 16 = .ok (.ireturn, 1) := by decide +kernel
theorem dX9_isIn_0 : decode cX9_isIn 0 = .ok (.iload_n 1, 1) := by decide +kernel
theorem dX9_isIn_1 : decode cX9_isIn 1 = .ok (.ifCond .lt 22, 3) := by decide +kernel
theorem dX9_isIn_4 : decode cX9_isIn 4 = .ok (.iload_n 1, 1) := by decide +kernel
theorem dX9_isIn_5 : decode cX9_isIn 5 = .ok (.bipush 31, 2) := by decide +kernel
theorem dX9_isIn_7 : decode cX9_isIn 7 = .ok (.if_icmp .ge 16, 3) := by decide +kernel
theorem dX9_isIn_10 : decode cX9_isIn 10 = .ok (.iload_n 0, 1) := by decide +kernel
theorem dX9_isIn_11 : decode cX9_isIn 11 = .ok (.iload_n 1, 1) := by decide +kernel
theorem dX9_isIn_12 : decode cX9_isIn 12 = .ok (.ishr, 1) := by decide +kernel
theorem dX9_isIn_13 : decode cX9_isIn 13 = .ok (.iconst 1, 1) := by decide +kernel
theorem dX9_isIn_14 : decode cX9_isIn 14 = .ok (.iand, 1) := by decide +kernel
theorem dX9_isIn_15 : decode cX9_isIn 15 = .ok (.iconst 1, 1) := by decide +kernel
theorem dX9_isIn_16 : decode cX9_isIn 16 = .ok (.if_icmp .ne 7, 3) := by decide +kernel
theorem dX9_isIn_19 : decode cX9_isIn 19 = .ok (.iconst 1, 1) := by decide +kernel
theorem dX9_isIn_20 : decode cX9_isIn 20 = .ok (.goto 4, 3) := by decide +kernel
theorem dX9_isIn_23 : decode cX9_isIn 23 = .ok (.iconst 0, 1) := by decide +kernel
theorem dX9_isIn_24 : decode cX9_isIn 24 = .ok (.ireturn, 1) := by decide +kernel
theorem dX9_within_0 : decode cX9_within 0 = .ok (.iload_n 0, 1) := by decide +kernel
theorem dX9_within_1 : decode cX9_within 1 = .ok (.iload_n 1, 1) := by decide +kernel
theorem dX9_within_2 : decode cX9_within 2 = .ok (.if_icmp .lt 12, 3) := by decide +kernel
theorem dX9_within_5 : decode cX9_within 5 = .ok (.iload_n 0, 1) := by decide +kernel
theorem dX9_within_6 : decode cX9_within 6 = .ok (.iload_n 2, 1) := by decide +kernel
theorem dX9_within_7 : decode cX9_within 7 = .ok (.if_icmp .gt 7, 3) := by decide +kernel
theorem dX9_within_10 : decode cX9_within 10 = .ok (.iconst 1, 1) := by decide +kernel
theorem dX9_within_11 : decode cX9_within 11 = .ok (.goto 4, 3) := by decide +kernel
theorem dX9_within_14 : decode cX9_within 14 = .ok (.iconst 0, 1) := by decide +kernel
theorem dX9_within_15 : decode cX9_within 15 = .ok (.ireturn, 1) := by decide +kernel
