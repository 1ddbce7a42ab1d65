theorem dX4_allUndone_0 : decode cX4_allUndone 0 = .ok (.iconst 0, 1) := by decide +kernel
theorem dX4_allUndone_1 : decode cX4_allUndone 1 = .ok (.istore_n 1, 1) := by decide +kernel
theorem dX4_allUndone_2 : decode cX4_allUndone 2 = .ok (.iconst 0, 1) := by decide +kernel
theorem dX4_allUndone_3 : decode cX4_allUndone 3 = .ok (.istore_n 2, 1) := by decide +kernel
theorem dX4_allUndone_4 : decode cX4_allUndone 4 = .ok (.iload_n 2, 1) := by decide +kernel
theorem dX4_allUndone_5 : decode cX4_allUndone 5 = .ok (.bipush 12, 2) := by decide +kernel
theorem dX4_allUndone_7 : decode cX4_allUndone 7 = .ok (.if_icmp .ge 18, 3) := by decide +kernel
theorem dX4_allUndone_10 : decode cX4_allUndone 10 = .ok (.iload_n 1, 1) := by decide +kernel
theorem dX4_allUndone_11 : decode cX4_allUndone 11 = .ok (.aload_n 0, 1) := by decide +kernel
theorem dX4_allUndone_12 : decode cX4_allUndone 12 = .ok (.getfield 9, 3) := by decide +kernel
theorem dX4_allUndone_15 : decode cX4_allUndone 15 = .ok (.iload_n 2, 1) := by decide +kernel
theorem dX4_allUndone_16 : decode cX4_allUndone 16 = .ok (.iaload, 1) := by decide +kernel
theorem dX4_allUndone_17 : decode cX4_allUndone 17 = .ok (.iadd, 1) := by decide +kernel
theorem dX4_allUndone_18 : decode cX4_allUndone 18 = .ok (.istore_n 1, 1) := by decide +kernel
theorem dX4_allUndone_19 : decode cX4_allUndone 19 = .ok (.iinc 2 1, 3) := by decide +kernel
theorem dX4_allUndone_22 : decode cX4_allUndone 22 = .ok (.goto (-18), 3) := by decide +kernel
theorem dX4_allUndone_25 : decode cX4_allUndone 25 = .ok (.iload_n 1, 1) := by decide +kernel
theorem dX4_allUndone_26 : decode cX4_allUndone 26 = .ok (.ireturn, 1) := by decide +kernel
theorem dX4_awayBits_0 : decode cX4_awayBits 0 = .ok (.iconst 0, 1) := by decide +kernel
theorem dX4_awayBits_1 : decode cX4_awayBits 1 = .ok (.istore_n 1, 1) := by decide +kernel
theorem dX4_awayBits_2 : decode cX4_awayBits 2 = .ok (.iconst 0, 1) := by decide +kernel
theorem dX4_awayBits_3 : decode cX4_awayBits 3 = .ok (.istore_n 2, 1) := by decide +kernel
theorem dX4_awayBits_4 : decode cX4_awayBits 4 = .ok (.iload_n 2, 1) := by decide +kernel
theorem dX4_awayBits_5 : decode cX4_awayBits 5 = .ok (.bipush 10, 2) := by decide +kernel
theorem dX4_awayBits_7 : decode cX4_awayBits 7 = .ok (.if_icmp .ge 27, 3) := by decide +kernel
theorem dX4_awayBits_10 : decode cX4_awayBits 10 = .ok (.iload_n 1, 1) := by decide +kernel
theorem dX4_awayBits_11 : decode cX4_awayBits 11 = .ok (.aload_n 0, 1) := by decide +kernel
theorem dX4_awayBits_12 : decode cX4_awayBits 12 = .ok (.iload_n 2, 1) := by decide +kernel
theorem dX4_awayBits_13 : decode cX4_awayBits 13 = .ok (.invokevirtual 51, 3) := by decide +kernel
theorem dX4_awayBits_16 : decode cX4_awayBits 16 = .ok (.ifCond .eq 9, 3) := by decide +kernel
theorem dX4_awayBits_19 : decode cX4_awayBits 19 = .ok (.iconst 1, 1) := by decide +kernel
theorem dX4_awayBits_20 : decode cX4_awayBits 20 = .ok (.iload_n 2, 1) := by decide +kernel
theorem dX4_awayBits_21 : decode cX4_awayBits 21 = .ok (.ishl, 1) := by decide +kernel
theorem dX4_awayBits_22 : decode cX4_awayBits 22 = .ok (.goto 4, 3) := by decide +kernel
theorem dX4_awayBits_25 : decode cX4_awayBits 25 = .ok (.iconst 0, 1) := by decide +kernel
theorem dX4_awayBits_26 : decode cX4_awayBits 26 = .ok (.ior, 1) := by decide +kernel
theorem dX4_awayBits_27 : decode cX4_awayBits 27 = .ok (.istore_n 1, 1) := by decide +kernel
theorem dX4_awayBits_28 : decode cX4_awayBits 28 = .ok (.iinc 2 1, 3) := by decide +kernel
theorem dX4_awayBits_31 : decode cX4_awayBits 31 = .ok (.goto (-27), 3) := by decide +kernel
theorem dX4_awayBits_34 : decode cX4_awayBits 34 = .ok (.iload_n 1, 1) := by decide +kernel
theorem dX4_awayBits_35 : decode cX4_awayBits 35 = .ok (.ireturn, 1) := by decide +kernel
theorem dX4_copy_0 : decode cX4_copy 0 = .ok (.aload_n 1, 1) := by decide +kernel
theorem dX4_copy_1 : decode cX4_copy 1 = .ok (.getfield 9, 3) := by decide +kernel
theorem dX4_copy_4 : decode cX4_copy 4 = .ok (.iconst 0, 1) := by decide +kernel
theorem dX4_copy_5 : decode cX4_copy 5 = .ok (.aload_n 0, 1) := by decide +kernel
theorem dX4_copy_6 : decode cX4_copy 6 = .ok (.getfield 9, 3) := by decide +kernel
theorem dX4_copy_9 : decode cX4_copy 9 = .ok (.iconst 0, 1) := by decide +kernel
theorem dX4_copy_10 : decode cX4_copy 10 = .ok (.bipush 12, 2) := by decide +kernel
theorem dX4_copy_12 : decode cX4_copy 12 = .ok (.invokestatic 31, 3) := by decide +kernel
theorem dX4_copy_15 : decode cX4_copy 15 = .ok (.aload_n 1, 1) := by decide +kernel
theorem dX4_copy_16 : decode cX4_copy 16 = .ok (.getfield 15, 3) := by decide +kernel
theorem dX4_copy_19 : decode cX4_copy 19 = .ok (.iconst 0, 1) := by decide +kernel
theorem dX4_copy_20 : decode cX4_copy 20 = .ok (.aload_n 0, 1) := by decide +kernel
theorem dX4_copy_21 : decode cX4_copy 21 = .ok (.getfield 15, 3) := by decide +kernel
theorem dX4_copy_24 : decode cX4_copy 24 = .ok (.iconst 0, 1) := by decide +kernel
theorem dX4_copy_25 : decode cX4_copy 25 = .ok (.bipush 10, 2) := by decide +kernel
theorem dX4_copy_27 : decode cX4_copy 27 = .ok (.invokestatic 31, 3) := by decide +kernel
theorem dX4_copy_30 : decode cX4_copy 30 = .ok (.aload_n 1, 1) := by decide +kernel
theorem dX4_copy_31 : decode cX4_copy 31 = .ok (.getfield 18, 3) := by decide +kernel
theorem dX4_copy_34 : decode cX4_copy 34 = .ok (.iconst 0, 1) := by decide +kernel
theorem dX4_copy_35 : decode cX4_copy 35 = .ok (.aload_n 0, 1) := by decide +kernel
theorem dX4_copy_36 : decode cX4_copy 36 = .ok (.getfield 18, 3) := by decide +kernel
theorem dX4_copy_39 : decode cX4_copy 39 = .ok (.iconst 0, 1) := by decide +kernel
theorem dX4_copy_40 : decode cX4_copy 40 = .ok (.bipush 10, 2) := by decide +kernel
theorem dX4_copy_42 : decode cX4_copy 42 = .ok (.invokestatic 31, 3) := by decide +kernel
theorem dX4_copy_45 : decode cX4_copy 45 = .ok (.aload_n 0, 1) := by decide +kernel
theorem dX4_copy_46 : decode cX4_copy 46 = .ok (.aload_n 1, 1) := by decide +kernel
theorem dX4_copy_47 : decode cX4_copy 47 = .ok (.getfield 37, 3) := by decide +kernel
theorem dX4_copy_50 : decode cX4_copy 50 = .ok (.putfield 37, 3) := by decide +kernel
theorem dX4_copy_53 : decode cX4_copy 53 = .ok (.aload_n 0, 1) := by decide +kernel
theorem dX4_copy_54 : decode cX4_copy 54 = .ok (.aload_n 1, 1) := by decide +kernel
theorem dX4_copy_55 : decode cX4_copy 55 = .ok (.getfield 40, 3) := by decide +kernel
theorem dX4_copy_58 : decode cX4_copy 58 = .ok (.putfield 40, 3) := by decide +kernel
theorem dX4_copy_61 : decode cX4_copy 61 = .ok (.aload_n 0, 1) := by decide +kernel
theorem dX4_copy_62 : decode cX4_copy 62 = .ok (.aload_n 1, 1) := by decide +kernel
theorem dX4_copy_63 : decode cX4_copy 63 = .ok (.getfield 21, 3) := by decide +kernel
theorem dX4_copy_66 : decode cX4_copy 66 = .ok (.putfield 21, 3) := by decide +kernel
theorem dX4_copy_69 : decode cX4_copy 69 = .ok (.return_, 1) := by decide +kernel
theorem dX4_endLeaves_0 : decode cX4_endLeaves 0 = .ok (.iconst 0, 1) := by decide +kernel
theorem dX4_endLeaves_1 : decode cX4_endLeaves 1 = .ok (.istore_n 2, 1) := by decide +kernel
theorem dX4_endLeaves_2 : decode cX4_endLeaves 2 = .ok (.iload_n 2, 1) := by decide +kernel
theorem dX4_endLeaves_3 : decode cX4_endLeaves 3 = .ok (.bipush 10, 2) := by decide +kernel
theorem dX4_endLeaves_5 : decode cX4_endLeaves 5 = .ok (.if_icmp .ge 33, 3) := by decide +kernel
theorem dX4_endLeaves_8 : decode cX4_endLeaves 8 = .ok (.iload_n 1, 1) := by decide +kernel
theorem dX4_endLeaves_9 : decode cX4_endLeaves 9 = .ok (.iload_n 2, 1) := by decide +kernel
theorem dX4_endLeaves_10 : decode cX4_endLeaves 10 = .ok (.invokestatic 43, 3) := by decide +kernel
theorem dX4_endLeaves_13 : decode cX4_endLeaves 13 = .ok (.ifCond .eq 19, 3) := by decide +kernel
theorem dX4_endLeaves_16 : decode cX4_endLeaves 16 = .ok (.aload_n 0, 1) := by decide +kernel
theorem dX4_endLeaves_17 : decode cX4_endLeaves 17 = .ok (.getfield 15, 3) := by decide +kernel
theorem dX4_endLeaves_20 : decode cX4_endLeaves 20 = .ok (.iload_n 2, 1) := by decide +kernel
theorem dX4_endLeaves_21 : decode cX4_endLeaves 21 = .ok (.bipush (-2), 2) := by decide +kernel
theorem dX4_endLeaves_23 : decode cX4_endLeaves 23 = .ok (.iastore, 1) := by decide +kernel
theorem dX4_endLeaves_24 : decode cX4_endLeaves 24 = .ok (.aload_n 0, 1) := by decide +kernel
theorem dX4_endLeaves_25 : decode cX4_endLeaves 25 = .ok (.getfield 18, 3) := by decide +kernel
theorem dX4_endLeaves_28 : decode cX4_endLeaves 28 = .ok (.iload_n 2, 1) := by decide +kernel
theorem dX4_endLeaves_29 : decode cX4_endLeaves 29 = .ok (.bipush (-2), 2) := by decide +kernel
theorem dX4_endLeaves_31 : decode cX4_endLeaves 31 = .ok (.iastore, 1) := by decide +kernel
theorem dX4_endLeaves_32 : decode cX4_endLeaves 32 = .ok (.iinc 2 1, 3) := by decide +kernel
theorem dX4_endLeaves_35 : decode cX4_endLeaves 35 = .ok (.goto (-33), 3) := by decide +kernel
theorem dX4_endLeaves_38 : decode cX4_endLeaves 38 = .ok (.return_, 1) := by decide +kernel
theorem dX4_giveLeave_0 : decode cX4_giveLeave 0 = .ok (.iload_n 1, 1) := by decide +kernel
theorem dX4_giveLeave_1 : decode cX4_giveLeave 1 = .ok (.ifCond .lt 23, 3) := by decide +kernel
theorem dX4_giveLeave_4 : decode cX4_giveLeave 4 = .ok (.iload_n 1, 1) := by decide +kernel
theorem dX4_giveLeave_5 : decode cX4_giveLeave 5 = .ok (.bipush 10, 2) := by decide +kernel
theorem dX4_giveLeave_7 : decode cX4_giveLeave 7 = .ok (.if_icmp .ge 17, 3) := by decide +kernel
theorem dX4_giveLeave_10 : decode cX4_giveLeave 10 = .ok (.aload_n 0, 1) := by decide +kernel
theorem dX4_giveLeave_11 : decode cX4_giveLeave 11 = .ok (.getfield 15, 3) := by decide +kernel
theorem dX4_giveLeave_14 : decode cX4_giveLeave 14 = .ok (.iload_n 1, 1) := by decide +kernel
theorem dX4_giveLeave_15 : decode cX4_giveLeave 15 = .ok (.iload_n 2, 1) := by decide +kernel
theorem dX4_giveLeave_16 : decode cX4_giveLeave 16 = .ok (.iastore, 1) := by decide +kernel
theorem dX4_giveLeave_17 : decode cX4_giveLeave 17 = .ok (.aload_n 0, 1) := by decide +kernel
theorem dX4_giveLeave_18 : decode cX4_giveLeave 18 = .ok (.getfield 18, 3) := by decide +kernel
theorem dX4_giveLeave_21 : decode cX4_giveLeave 21 = .ok (.iload_n 1, 1) := by decide +kernel
theorem dX4_giveLeave_22 : decode cX4_giveLeave 22 = .ok (.iload_n 3, 1) := by decide +kernel
theorem dX4_giveLeave_23 : decode cX4_giveLeave 23 = .ok (.iastore, 1) := by decide +kernel
theorem dX4_giveLeave_24 : decode cX4_giveLeave 24 = .ok (.return_, 1) := by decide +kernel
theorem dX4_hasLeave_0 : decode cX4_hasLeave 0 = .ok (.iload_n 1, 1) := by decide +kernel
theorem dX4_hasLeave_1 : decode cX4_hasLeave 1 = .ok (.ifCond .lt 24, 3) := by decide +kernel
theorem dX4_hasLeave_4 : decode cX4_hasLeave 4 = .ok (.iload_n 1, 1) := by decide +kernel
theorem dX4_hasLeave_5 : decode cX4_hasLeave 5 = .ok (.bipush 10, 2) := by decide +kernel
theorem dX4_hasLeave_7 : decode cX4_hasLeave 7 = .ok (.if_icmp .ge 18, 3) := by decide +kernel
theorem dX4_hasLeave_10 : decode cX4_hasLeave 10 = .ok (.aload_n 0, 1) := by decide +kernel
theorem dX4_hasLeave_11 : decode cX4_hasLeave 11 = .ok (.getfield 15, 3) := by decide +kernel
theorem dX4_hasLeave_14 : decode cX4_hasLeave 14 = .ok (.iload_n 1, 1) := by decide +kernel
theorem dX4_hasLeave_15 : decode cX4_hasLeave 15 = .ok (.iaload, 1) := by decide +kernel
theorem dX4_hasLeave_16 : decode cX4_hasLeave 16 = .ok (.bipush (-2), 2) := by decide +kernel
theorem dX4_hasLeave_18 : decode cX4_hasLeave 18 = .ok (.if_icmp .eq 7, 3) := by decide +kernel
theorem dX4_hasLeave_21 : decode cX4_hasLeave 21 = .ok (.iconst 1, 1) := by decide +kernel
theorem dX4_hasLeave_22 : decode cX4_hasLeave 22 = .ok (.goto 4, 3) := by decide +kernel
theorem dX4_hasLeave_25 : decode cX4_hasLeave 25 = .ok (.iconst 0, 1) := by decide +kernel
theorem dX4_hasLeave_26 : decode cX4_hasLeave 26 = .ok (.ireturn, 1) := by decide +kernel
theorem dX4_isAway_0 : decode cX4_isAway 0 = .ok (.iload_n 1, 1) := by decide +kernel
theorem dX4_isAway_1 : decode cX4_isAway 1 = .ok (.ifCond .lt 39, 3) := by decide +kernel
theorem dX4_isAway_4 : decode cX4_isAway 4 = .ok (.iload_n 1, 1) := by decide +kernel
theorem dX4_isAway_5 : decode cX4_isAway 5 = .ok (.bipush 10, 2) := by decide +kernel
theorem dX4_isAway_7 : decode cX4_isAway 7 = .ok (.if_icmp .ge 33, 3) := by decide +kernel
theorem dX4_isAway_10 : decode cX4_isAway 10 = .ok (.aload_n 0, 1) := by decide +kernel
theorem dX4_isAway_11 : decode cX4_isAway 11 = .ok (.getfield 15, 3) := by decide +kernel
theorem dX4_isAway_14 : decode cX4_isAway 14 = .ok (.iload_n 1, 1) := by decide +kernel
theorem dX4_isAway_15 : decode cX4_isAway 15 = .ok (.iaload, 1) := by decide +kernel
theorem dX4_isAway_16 : decode cX4_isAway 16 = .ok (.aload_n 0, 1) := by decide +kernel
theorem dX4_isAway_17 : decode cX4_isAway 17 = .ok (.getfield 40, 3) := by decide +kernel
theorem dX4_isAway_20 : decode cX4_isAway 20 = .ok (.if_icmp .gt 20, 3) := by decide +kernel
theorem dX4_isAway_23 : decode cX4_isAway 23 = .ok (.aload_n 0, 1) := by decide +kernel
theorem dX4_isAway_24 : decode cX4_isAway 24 = .ok (.getfield 40, 3) := by decide +kernel
theorem dX4_isAway_27 : decode cX4_isAway 27 = .ok (.aload_n 0, 1) := by decide +kernel
theorem dX4_isAway_28 : decode cX4_isAway 28 = .ok (.getfield 18, 3) := by decide +kernel
theorem dX4_isAway_31 : decode cX4_isAway 31 = .ok (.iload_n 1, 1) := by decide +kernel
theorem dX4_isAway_32 : decode cX4_isAway 32 = .ok (.iaload, 1) := by decide +kernel
theorem dX4_isAway_33 : decode cX4_isAway 33 = .ok (.if_icmp .gt 7, 3) := by decide +kernel
theorem dX4_isAway_36 : decode cX4_isAway 36 = .ok (.iconst 1, 1) := by decide +kernel
theorem dX4_isAway_37 : decode cX4_isAway 37 = .ok (.goto 4, 3) := by decide +kernel
theorem dX4_isAway_40 : decode cX4_isAway 40 = .ok (.iconst 0, 1) := by decide +kernel
theorem dX4_isAway_41 : decode cX4_isAway 41 = .ok (.ireturn, 1) := by decide +kernel
theorem dX4_leaveBits_0 : decode cX4_leaveBits 0 = .ok (.iconst 0, 1) := by decide +kernel
theorem dX4_leaveBits_1 : decode cX4_leaveBits 1 = .ok (.istore_n 1, 1) := by decide +kernel
theorem dX4_leaveBits_2 : decode cX4_leaveBits 2 = .ok (.iconst 0, 1) := by decide +kernel
theorem dX4_leaveBits_3 : decode cX4_leaveBits 3 = .ok (.istore_n 2, 1) := by decide +kernel
theorem dX4_leaveBits_4 : decode cX4_leaveBits 4 = .ok (.iload_n 2, 1) := by decide +kernel
theorem dX4_leaveBits_5 : decode cX4_leaveBits 5 = .ok (.bipush 10, 2) := by decide +kernel
theorem dX4_leaveBits_7 : decode cX4_leaveBits 7 = .ok (.if_icmp .ge 27, 3) := by decide +kernel
theorem dX4_leaveBits_10 : decode cX4_leaveBits 10 = .ok (.iload_n 1, 1) := by decide +kernel
theorem dX4_leaveBits_11 : decode cX4_leaveBits 11 = .ok (.aload_n 0, 1) := by decide +kernel
theorem dX4_leaveBits_12 : decode cX4_leaveBits 12 = .ok (.iload_n 2, 1) := by decide +kernel
theorem dX4_leaveBits_13 : decode cX4_leaveBits 13 = .ok (.invokevirtual 47, 3) := by decide +kernel
theorem dX4_leaveBits_16 : decode cX4_leaveBits 16 = .ok (.ifCond .eq 9, 3) := by decide +kernel
theorem dX4_leaveBits_19 : decode cX4_leaveBits 19 = .ok (.iconst 1, 1) := by decide +kernel
theorem dX4_leaveBits_20 : decode cX4_leaveBits 20 = .ok (.iload_n 2, 1) := by decide +kernel
theorem dX4_leaveBits_21 : decode cX4_leaveBits 21 = .ok (.ishl, 1) := by decide +kernel
theorem dX4_leaveBits_22 : decode cX4_leaveBits 22 = .ok (.goto 4, 3) := by decide +kernel
theorem dX4_leaveBits_25 : decode cX4_leaveBits 25 = .ok (.iconst 0, 1) := by decide +kernel
theorem dX4_leaveBits_26 : decode cX4_leaveBits 26 = .ok (.ior, 1) := by decide +kernel
theorem dX4_leaveBits_27 : decode cX4_leaveBits 27 = .ok (.istore_n 1, 1) := by decide +kernel
theorem dX4_leaveBits_28 : decode cX4_leaveBits 28 = .ok (.iinc 2 1, 3) := by decide +kernel
theorem dX4_leaveBits_31 : decode cX4_leaveBits 31 = .ok (.goto (-27), 3) := by decide +kernel
theorem dX4_leaveBits_34 : decode cX4_leaveBits 34 = .ok (.iload_n 1, 1) := by decide +kernel
theorem dX4_leaveBits_35 : decode cX4_leaveBits 35 = .ok (.ireturn, 1) := by decide +kernel
