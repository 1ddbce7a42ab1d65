theorem dX10_areDays_0 : decode cX10_areDays 0 = .ok (.iload_n 0, 1) := by decide +kernel
theorem dX10_areDays_1 : decode cX10_areDays 1 = .ok (.iconst 1, 1) := by decide +kernel
theorem dX10_areDays_2 : decode cX10_areDays 2 = .ok (.bipush 60, 2) := by decide +kernel
theorem dX10_areDays_4 : decode cX10_areDays 4 = .ok (.invokestatic 157, 3) := by decide +kernel
theorem dX10_areDays_7 : decode cX10_areDays 7 = .ok (.ireturn, 1) := by decide +kernel
theorem dX10_awayOn_0 : decode cX10_awayOn 0 = .ok (.iconst 0, 1) := by decide +kernel
theorem dX10_awayOn_1 : decode cX10_awayOn 1 = .ok (.istore_n 2, 1) := by decide +kernel
theorem dX10_awayOn_2 : decode cX10_awayOn 2 = .ok (.iconst 0, 1) := by decide +kernel
theorem dX10_awayOn_3 : decode cX10_awayOn 3 = .ok (.istore_n 3, 1) := by decide +kernel
theorem dX10_awayOn_4 : decode cX10_awayOn 4 = .ok (.iload_n 3, 1) := by decide +kernel
theorem dX10_awayOn_5 : decode cX10_awayOn 5 = .ok (.bipush 10, 2) := by decide +kernel
theorem dX10_awayOn_7 : decode cX10_awayOn 7 = .ok (.if_icmp .ge 36, 3) := by decide +kernel
theorem dX10_awayOn_10 : decode cX10_awayOn 10 = .ok (.iload_n 2, 1) := by decide +kernel
theorem dX10_awayOn_11 : decode cX10_awayOn 11 = .ok (.aload_n 0, 1) := by decide +kernel
theorem dX10_awayOn_12 : decode cX10_awayOn 12 = .ok (.iload_n 3, 1) := by decide +kernel
theorem dX10_awayOn_13 : decode cX10_awayOn 13 = .ok (.invokevirtual 307, 3) := by decide +kernel
theorem dX10_awayOn_16 : decode cX10_awayOn 16 = .ok (.ifCond .eq 18, 3) := by decide +kernel
theorem dX10_awayOn_19 : decode cX10_awayOn 19 = .ok (.aload_n 0, 1) := by decide +kernel
theorem dX10_awayOn_20 : decode cX10_awayOn 20 = .ok (.iload_n 3, 1) := by decide +kernel
theorem dX10_awayOn_21 : decode cX10_awayOn 21 = .ok (.iload_n 1, 1) := by decide +kernel
theorem dX10_awayOn_22 : decode cX10_awayOn 22 = .ok (.invokevirtual 310, 3) := by decide +kernel
theorem dX10_awayOn_25 : decode cX10_awayOn 25 = .ok (.ifCond .eq 9, 3) := by decide +kernel
theorem dX10_awayOn_28 : decode cX10_awayOn 28 = .ok (.iconst 1, 1) := by decide +kernel
theorem dX10_awayOn_29 : decode cX10_awayOn 29 = .ok (.iload_n 3, 1) := by decide +kernel
theorem dX10_awayOn_30 : decode cX10_awayOn 30 = .ok (.ishl, 1) := by decide +kernel
theorem dX10_awayOn_31 : decode cX10_awayOn 31 = .ok (.goto 4, 3) := by decide +kernel
theorem dX10_awayOn_34 : decode cX10_awayOn 34 = .ok (.iconst 0, 1) := by decide +kernel
theorem dX10_awayOn_35 : decode cX10_awayOn 35 = .ok (.ior, 1) := by decide +kernel
theorem dX10_awayOn_36 : decode cX10_awayOn 36 = .ok (.istore_n 2, 1) := by decide +kernel
theorem dX10_awayOn_37 : decode cX10_awayOn 37 = .ok (.iinc 3 1, 3) := by decide +kernel
theorem dX10_awayOn_40 : decode cX10_awayOn 40 = .ok (.goto (-36), 3) := by decide +kernel
theorem dX10_awayOn_43 : decode cX10_awayOn 43 = .ok (.iload_n 2, 1) := by decide +kernel
theorem dX10_awayOn_44 : decode cX10_awayOn 44 = .ok (.ireturn, 1) := by decide +kernel
theorem dX10_bits_0 : decode cX10_bits 0 = .ok (.iconst 0, 1) := by decide +kernel
theorem dX10_bits_1 : decode cX10_bits 1 = .ok (.istore_n 1, 1) := by decide +kernel
theorem dX10_bits_2 : decode cX10_bits 2 = .ok (.iconst 0, 1) := by decide +kernel
theorem dX10_bits_3 : decode cX10_bits 3 = .ok (.istore_n 2, 1) := by decide +kernel
theorem dX10_bits_4 : decode cX10_bits 4 = .ok (.iload_n 2, 1) := by decide +kernel
theorem dX10_bits_5 : decode cX10_bits 5 = .ok (.bipush 12, 2) := by decide +kernel
theorem dX10_bits_7 : decode cX10_bits 7 = .ok (.if_icmp .ge 17, 3) := by decide +kernel
theorem dX10_bits_10 : decode cX10_bits 10 = .ok (.iload_n 1, 1) := by decide +kernel
theorem dX10_bits_11 : decode cX10_bits 11 = .ok (.iload_n 0, 1) := by decide +kernel
theorem dX10_bits_12 : decode cX10_bits 12 = .ok (.iload_n 2, 1) := by decide +kernel
theorem dX10_bits_13 : decode cX10_bits 13 = .ok (.ishr, 1) := by decide +kernel
theorem dX10_bits_14 : decode cX10_bits 14 = .ok (.iconst 1, 1) := by decide +kernel
theorem dX10_bits_15 : decode cX10_bits 15 = .ok (.iand, 1) := by decide +kernel
theorem dX10_bits_16 : decode cX10_bits 16 = .ok (.iadd, 1) := by decide +kernel
theorem dX10_bits_17 : decode cX10_bits 17 = .ok (.istore_n 1, 1) := by decide +kernel
theorem dX10_bits_18 : decode cX10_bits 18 = .ok (.iinc 2 1, 3) := by decide +kernel
theorem dX10_bits_21 : decode cX10_bits 21 = .ok (.goto (-17), 3) := by decide +kernel
theorem dX10_bits_24 : decode cX10_bits 24 = .ok (.iload_n 1, 1) := by decide +kernel
theorem dX10_bits_25 : decode cX10_bits 25 = .ok (.ireturn, 1) := by decide +kernel
theorem dX10_feels_0 : decode cX10_feels 0 = .ok (.iconst 0, 1) := by decide +kernel
theorem dX10_feels_1 : decode cX10_feels 1 = .ok (.istore_n 2, 1) := by decide +kernel
theorem dX10_feels_2 : decode cX10_feels 2 = .ok (.iload_n 2, 1) := by decide +kernel
theorem dX10_feels_3 : decode cX10_feels 3 = .ok (.bipush 8, 2) := by decide +kernel
theorem dX10_feels_5 : decode cX10_feels 5 = .ok (.if_icmp .ge 16, 3) := by decide +kernel
theorem dX10_feels_8 : decode cX10_feels 8 = .ok (.aload_n 0, 1) := by decide +kernel
theorem dX10_feels_9 : decode cX10_feels 9 = .ok (.getfield 83, 3) := by decide +kernel
theorem dX10_feels_12 : decode cX10_feels 12 = .ok (.iload_n 2, 1) := by decide +kernel
theorem dX10_feels_13 : decode cX10_feels 13 = .ok (.iconst 0, 1) := by decide +kernel
theorem dX10_feels_14 : decode cX10_feels 14 = .ok (.iastore, 1) := by decide +kernel
theorem dX10_feels_15 : decode cX10_feels 15 = .ok (.iinc 2 1, 3) := by decide +kernel
theorem dX10_feels_18 : decode cX10_feels 18 = .ok (.goto (-16), 3) := by decide +kernel
theorem dX10_feels_21 : decode cX10_feels 21 = .ok (.aload_n 0, 1) := by decide +kernel
theorem dX10_feels_22 : decode cX10_feels 22 = .ok (.getfield 83, 3) := by decide +kernel
theorem dX10_feels_25 : decode cX10_feels 25 = .ok (.iconst 3, 1) := by decide +kernel
theorem dX10_feels_26 : decode cX10_feels 26 = .ok (.aload_n 0, 1) := by decide +kernel
theorem dX10_feels_27 : decode cX10_feels 27 = .ok (.getfield 7, 3) := by decide +kernel
theorem dX10_feels_30 : decode cX10_feels 30 = .ok (.bipush 13, 2) := by decide +kernel
theorem dX10_feels_32 : decode cX10_feels 32 = .ok (.iaload, 1) := by decide +kernel
theorem dX10_feels_33 : decode cX10_feels 33 = .ok (.iastore, 1) := by decide +kernel
theorem dX10_feels_34 : decode cX10_feels 34 = .ok (.aload_n 0, 1) := by decide +kernel
theorem dX10_feels_35 : decode cX10_feels 35 = .ok (.getfield 83, 3) := by decide +kernel
theorem dX10_feels_38 : decode cX10_feels 38 = .ok (.iconst 4, 1) := by decide +kernel
theorem dX10_feels_39 : decode cX10_feels 39 = .ok (.aload_n 0, 1) := by decide +kernel
theorem dX10_feels_40 : decode cX10_feels 40 = .ok (.getfield 7, 3) := by decide +kernel
theorem dX10_feels_43 : decode cX10_feels 43 = .ok (.bipush 13, 2) := by decide +kernel
theorem dX10_feels_45 : decode cX10_feels 45 = .ok (.iaload, 1) := by decide +kernel
theorem dX10_feels_46 : decode cX10_feels 46 = .ok (.bipush 7, 2) := by decide +kernel
theorem dX10_feels_48 : decode cX10_feels 48 = .ok (.irem, 1) := by decide +kernel
theorem dX10_feels_49 : decode cX10_feels 49 = .ok (.iastore, 1) := by decide +kernel
theorem dX10_feels_50 : decode cX10_feels 50 = .ok (.aload_n 0, 1) := by decide +kernel
theorem dX10_feels_51 : decode cX10_feels 51 = .ok (.getfield 83, 3) := by decide +kernel
theorem dX10_feels_54 : decode cX10_feels 54 = .ok (.iconst 5, 1) := by decide +kernel
theorem dX10_feels_55 : decode cX10_feels 55 = .ok (.iload_n 1, 1) := by decide +kernel
theorem dX10_feels_56 : decode cX10_feels 56 = .ok (.ifCond .eq 7, 3) := by decide +kernel
theorem dX10_feels_59 : decode cX10_feels 59 = .ok (.iconst 1, 1) := by decide +kernel
theorem dX10_feels_60 : decode cX10_feels 60 = .ok (.goto 4, 3) := by decide +kernel
theorem dX10_feels_63 : decode cX10_feels 63 = .ok (.iconst 0, 1) := by decide +kernel
theorem dX10_feels_64 : decode cX10_feels 64 = .ok (.iastore, 1) := by decide +kernel
theorem dX10_feels_65 : decode cX10_feels 65 = .ok (.aload_n 0, 1) := by decide +kernel
theorem dX10_feels_66 : decode cX10_feels 66 = .ok (.getfield 83, 3) := by decide +kernel
theorem dX10_feels_69 : decode cX10_feels 69 = .ok (.bipush 6, 2) := by decide +kernel
theorem dX10_feels_71 : decode cX10_feels 71 = .ok (.aload_n 0, 1) := by decide +kernel
theorem dX10_feels_72 : decode cX10_feels 72 = .ok (.aload_n 0, 1) := by decide +kernel
theorem dX10_feels_73 : decode cX10_feels 73 = .ok (.getfield 7, 3) := by decide +kernel
theorem dX10_feels_76 : decode cX10_feels 76 = .ok (.bipush 13, 2) := by decide +kernel
theorem dX10_feels_78 : decode cX10_feels 78 = .ok (.iaload, 1) := by decide +kernel
theorem dX10_feels_79 : decode cX10_feels 79 = .ok (.invokevirtual 313, 3) := by decide +kernel
theorem dX10_feels_82 : decode cX10_feels 82 = .ok (.invokestatic 297, 3) := by decide +kernel
theorem dX10_feels_85 : decode cX10_feels 85 = .ok (.iastore, 1) := by decide +kernel
theorem dX10_feels_86 : decode cX10_feels 86 = .ok (.return_, 1) := by decide +kernel
theorem dX10_goes_0 : decode cX10_goes 0 = .ok (.aload_n 0, 1) := by decide +kernel
theorem dX10_goes_1 : decode cX10_goes 1 = .ok (.getfield 101, 3) := by decide +kernel
theorem dX10_goes_4 : decode cX10_goes 4 = .ok (.iload_n 1, 1) := by decide +kernel
theorem dX10_goes_5 : decode cX10_goes 5 = .ok (.iload_n 2, 1) := by decide +kernel
theorem dX10_goes_6 : decode cX10_goes 6 = .ok (.iastore, 1) := by decide +kernel
theorem dX10_goes_7 : decode cX10_goes 7 = .ok (.aload_n 0, 1) := by decide +kernel
theorem dX10_goes_8 : decode cX10_goes 8 = .ok (.getfield 104, 3) := by decide +kernel
theorem dX10_goes_11 : decode cX10_goes 11 = .ok (.iload_n 1, 1) := by decide +kernel
theorem dX10_goes_12 : decode cX10_goes 12 = .ok (.iload_n 3, 1) := by decide +kernel
theorem dX10_goes_13 : decode cX10_goes 13 = .ok (.iastore, 1) := by decide +kernel
theorem dX10_goes_14 : decode cX10_goes 14 = .ok (.return_, 1) := by decide +kernel
theorem dX10_hasLeave_0 : decode cX10_hasLeave 0 = .ok (.aload_n 0, 1) := by decide +kernel
theorem dX10_hasLeave_1 : decode cX10_hasLeave 1 = .ok (.getfield 28, 3) := by decide +kernel
theorem dX10_hasLeave_4 : decode cX10_hasLeave 4 = .ok (.iload_n 1, 1) := by decide +kernel
theorem dX10_hasLeave_5 : decode cX10_hasLeave 5 = .ok (.iaload, 1) := by decide +kernel
theorem dX10_hasLeave_6 : decode cX10_hasLeave 6 = .ok (.bipush (-2), 2) := by decide +kernel
theorem dX10_hasLeave_8 : decode cX10_hasLeave 8 = .ok (.if_icmp .eq 7, 3) := by decide +kernel
theorem dX10_hasLeave_11 : decode cX10_hasLeave 11 = .ok (.iconst 1, 1) := by decide +kernel
theorem dX10_hasLeave_12 : decode cX10_hasLeave 12 = .ok (.goto 4, 3) := by decide +kernel
theorem dX10_hasLeave_15 : decode cX10_hasLeave 15 = .ok (.iconst 0, 1) := by decide +kernel
theorem dX10_hasLeave_16 : decode cX10_hasLeave 16 = .ok (.ireturn, 1) := by decide +kernel
theorem dX10_isAway_0 : decode cX10_isAway 0 = .ok (.iload_n 2, 1) := by decide +kernel
theorem dX10_isAway_1 : decode cX10_isAway 1 = .ok (.aload_n 0, 1) := by decide +kernel
theorem dX10_isAway_2 : decode cX10_isAway 2 = .ok (.getfield 101, 3) := by decide +kernel
theorem dX10_isAway_5 : decode cX10_isAway 5 = .ok (.iload_n 1, 1) := by decide +kernel
theorem dX10_isAway_6 : decode cX10_isAway 6 = .ok (.iaload, 1) := by decide +kernel
theorem dX10_isAway_7 : decode cX10_isAway 7 = .ok (.aload_n 0, 1) := by decide +kernel
theorem dX10_isAway_8 : decode cX10_isAway 8 = .ok (.getfield 104, 3) := by decide +kernel
theorem dX10_isAway_11 : decode cX10_isAway 11 = .ok (.iload_n 1, 1) := by decide +kernel
theorem dX10_isAway_12 : decode cX10_isAway 12 = .ok (.iaload, 1) := by decide +kernel
theorem dX10_isAway_13 : decode cX10_isAway 13 = .ok (.invokestatic 157, 3) := by decide +kernel
theorem dX10_isAway_16 : decode cX10_isAway 16 = .ok (.ireturn, 1) := by decide +kernel
theorem dX10_isChore_0 : decode cX10_isChore 0 = .ok (.iload_n 1, 1) := by decide +kernel
theorem dX10_isChore_1 : decode cX10_isChore 1 = .ok (.ifCond .lt 24, 3) := by decide +kernel
theorem dX10_isChore_4 : decode cX10_isChore 4 = .ok (.iload_n 1, 1) := by decide +kernel
theorem dX10_isChore_5 : decode cX10_isChore 5 = .ok (.bipush 12, 2) := by decide +kernel
theorem dX10_isChore_7 : decode cX10_isChore 7 = .ok (.if_icmp .ge 18, 3) := by decide +kernel
theorem dX10_isChore_10 : decode cX10_isChore 10 = .ok (.aload_n 0, 1) := by decide +kernel
theorem dX10_isChore_11 : decode cX10_isChore 11 = .ok (.getfield 154, 3) := by decide +kernel
theorem dX10_isChore_14 : decode cX10_isChore 14 = .ok (.iload_n 1, 1) := by decide +kernel
theorem dX10_isChore_15 : decode cX10_isChore 15 = .ok (.invokestatic 150, 3) := by decide +kernel
theorem dX10_isChore_18 : decode cX10_isChore 18 = .ok (.ifCond .eq 7, 3) := by decide +kernel
theorem dX10_isChore_21 : decode cX10_isChore 21 = .ok (.iconst 1, 1) := by decide +kernel
theorem dX10_isChore_22 : decode cX10_isChore 22 = .ok (.goto 4, 3) := by decide +kernel
theorem dX10_isChore_25 : decode cX10_isChore 25 = .ok (.iconst 0, 1) := by decide +kernel
theorem dX10_isChore_26 : decode cX10_isChore 26 = .ok (.ireturn, 1) := by decide +kernel
theorem dX10_isPerson_0 : decode cX10_isPerson 0 = .ok (.iload_n 1, 1) := by decide +kernel
theorem dX10_isPerson_1 : decode cX10_isPerson 1 = .ok (.ifCond .lt 24, 3) := by decide +kernel
theorem dX10_isPerson_4 : decode cX10_isPerson 4 = .ok (.iload_n 1, 1) := by decide +kernel
theorem dX10_isPerson_5 : decode cX10_isPerson 5 = .ok (.bipush 10, 2) := by decide +kernel
theorem dX10_isPerson_7 : decode cX10_isPerson 7 = .ok (.if_icmp .ge 18, 3) := by decide +kernel
theorem dX10_isPerson_10 : decode cX10_isPerson 10 = .ok (.aload_n 0, 1) := by decide +kernel
theorem dX10_isPerson_11 : decode cX10_isPerson 11 = .ok (.getfield 146, 3) := by decide +kernel
theorem dX10_isPerson_14 : decode cX10_isPerson 14 = .ok (.iload_n 1, 1) := by decide +kernel
theorem dX10_isPerson_15 : decode cX10_isPerson 15 = .ok (.invokestatic 150, 3) := by decide +kernel
theorem dX10_isPerson_18 : decode cX10_isPerson 18 = .ok (.ifCond .eq 7, 3) := by decide +kernel
theorem dX10_isPerson_21 : decode cX10_isPerson 21 = .ok (.iconst 1, 1) := by decide +kernel
theorem dX10_isPerson_22 : decode cX10_isPerson 22 = .ok (.goto 4, 3) := by decide +kernel
theorem dX10_isPerson_25 : decode cX10_isPerson 25 = .ok (.iconst 0, 1) := by decide +kernel
theorem dX10_isPerson_26 : decode cX10_isPerson 26 = .ok (.ireturn, 1) := by decide +kernel
theorem dX10_leaveSet_0 : decode cX10_leaveSet 0 = .ok (.iconst 0, 1) := by decide +kernel
theorem dX10_leaveSet_1 : decode cX10_leaveSet 1 = .ok (.istore_n 1, 1) := by decide +kernel
theorem dX10_leaveSet_2 : decode cX10_leaveSet 2 = .ok (.iconst 0, 1) := by decide +kernel
theorem dX10_leaveSet_3 : decode cX10_leaveSet 3 = .ok (.istore_n 2, 1) := by decide +kernel
theorem dX10_leaveSet_4 : decode cX10_leaveSet 4 = .ok (.iload_n 2, 1) := by decide +kernel
theorem dX10_leaveSet_5 : decode cX10_leaveSet 5 = .ok (.bipush 10, 2) := by decide +kernel
theorem dX10_leaveSet_7 : decode cX10_leaveSet 7 = .ok (.if_icmp .ge 27, 3) := by decide +kernel
theorem dX10_leaveSet_10 : decode cX10_leaveSet 10 = .ok (.iload_n 1, 1) := by decide +kernel
theorem dX10_leaveSet_11 : decode cX10_leaveSet 11 = .ok (.aload_n 0, 1) := by decide +kernel
theorem dX10_leaveSet_12 : decode cX10_leaveSet 12 = .ok (.iload_n 2, 1) := by decide +kernel
theorem dX10_leaveSet_13 : decode cX10_leaveSet 13 = .ok (.invokevirtual 291, 3) := by decide +kernel
theorem dX10_leaveSet_16 : decode cX10_leaveSet 16 = .ok (.ifCond .eq 9, 3) := by decide +kernel
theorem dX10_leaveSet_19 : decode cX10_leaveSet 19 = .ok (.iconst 1, 1) := by decide +kernel
theorem dX10_leaveSet_20 : decode cX10_leaveSet 20 = .ok (.iload_n 2, 1) := by decide +kernel
theorem dX10_leaveSet_21 : decode cX10_leaveSet 21 = .ok (.ishl, 1) := by decide +kernel
theorem dX10_leaveSet_22 : decode cX10_leaveSet 22 = .ok (.goto 4, 3) := by decide +kernel
theorem dX10_leaveSet_25 : decode cX10_leaveSet 25 = .ok (.iconst 0, 1) := by decide +kernel
theorem dX10_leaveSet_26 : decode cX10_leaveSet 26 = .ok (.ior, 1) := by decide +kernel
theorem dX10_leaveSet_27 : decode cX10_leaveSet 27 = .ok (.istore_n 1, 1) := by decide +kernel
theorem dX10_leaveSet_28 : decode cX10_leaveSet 28 = .ok (.iinc 2 1, 3) := by decide +kernel
theorem dX10_leaveSet_31 : decode cX10_leaveSet 31 = .ok (.goto (-27), 3) := by decide +kernel
theorem dX10_leaveSet_34 : decode cX10_leaveSet 34 = .ok (.iload_n 1, 1) := by decide +kernel
theorem dX10_leaveSet_35 : decode cX10_leaveSet 35 = .ok (.ireturn, 1) := by decide +kernel
theorem dX10_min_0 : decode cX10_min 0 = .ok (.iload_n 0, 1) := by decide +kernel
theorem dX10_min_1 : decode cX10_min 1 = .ok (.iload_n 1, 1) := by decide +kernel
theorem dX10_min_2 : decode cX10_min 2 = .ok (.if_icmp .ge 7, 3) := by decide +kernel
theorem dX10_min_5 : decode cX10_min 5 = .ok (.iload_n 0, 1) := by decide +kernel
theorem dX10_min_6 : decode cX10_min 6 = .ok (.goto 4, 3) := by decide +kernel
theorem dX10_min_9 : decode cX10_min 9 = .ok (.iload_n 1, 1) := by decide +kernel
theorem dX10_min_10 : decode cX10_min 10 = .ok (.ireturn, 1) := by decide +kernel
theorem dX10_undoneAll_0 : decode cX10_undoneAll 0 = .ok (.iconst 0, 1) := by decide +kernel
theorem dX10_undoneAll_1 : decode cX10_undoneAll 1 = .ok (.istore_n 1, 1) := by decide +kernel
theorem dX10_undoneAll_2 : decode cX10_undoneAll 2 = .ok (.iconst 0, 1) := by decide +kernel
theorem dX10_undoneAll_3 : decode cX10_undoneAll 3 = .ok (.istore_n 2, 1) := by decide +kernel
theorem dX10_undoneAll_4 : decode cX10_undoneAll 4 = .ok (.iload_n 2, 1) := by decide +kernel
theorem dX10_undoneAll_5 : decode cX10_undoneAll 5 = .ok (.bipush 12, 2) := by decide +kernel
theorem dX10_undoneAll_7 : decode cX10_undoneAll 7 = .ok (.if_icmp .ge 30, 3) := by decide +kernel
theorem dX10_undoneAll_10 : decode cX10_undoneAll 10 = .ok (.iload_n 1, 1) := by decide +kernel
theorem dX10_undoneAll_11 : decode cX10_undoneAll 11 = .ok (.aload_n 0, 1) := by decide +kernel
theorem dX10_undoneAll_12 : decode cX10_undoneAll 12 = .ok (.iload_n 2, 1) := by decide +kernel
theorem dX10_undoneAll_13 : decode cX10_undoneAll 13 = .ok (.invokevirtual 331, 3) := by decide +kernel
theorem dX10_undoneAll_16 : decode cX10_undoneAll 16 = .ok (.ifCond .eq 12, 3) := by decide +kernel
theorem dX10_undoneAll_19 : decode cX10_undoneAll 19 = .ok (.aload_n 0, 1) := by decide +kernel
theorem dX10_undoneAll_20 : decode cX10_undoneAll 20 = .ok (.getfield 7, 3) := by decide +kernel
theorem dX10_undoneAll_23 : decode cX10_undoneAll 23 = .ok (.iload_n 2, 1) := by decide +kernel
theorem dX10_undoneAll_24 : decode cX10_undoneAll 24 = .ok (.iaload, 1) := by decide +kernel
theorem dX10_undoneAll_25 : decode cX10_undoneAll 25 = .ok (.goto 4, 3) := by decide +kernel
theorem dX10_undoneAll_28 : decode cX10_undoneAll 28 = .ok (.iconst 0, 1) := by decide +kernel
theorem dX10_undoneAll_29 : decode cX10_undoneAll 29 = .ok (.iadd, 1) := by decide +kernel
theorem dX10_undoneAll_30 : decode cX10_undoneAll 30 = .ok (.istore_n 1, 1) := by decide +kernel
theorem dX10_undoneAll_31 : decode cX10_undoneAll 31 = .ok (.iinc 2 1, 3) := by decide +kernel
theorem dX10_undoneAll_34 : decode cX10_undoneAll 34 = .ok (.goto (-30), 3) := by decide +kernel
theorem dX10_undoneAll_37 : decode cX10_undoneAll 37 = .ok (.iload_n 1, 1) := by decide +kernel
theorem dX10_undoneAll_38 : decode cX10_undoneAll 38 = .ok (.ireturn, 1) := by decide +kernel
