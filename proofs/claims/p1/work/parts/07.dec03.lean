theorem dX1_setDay_6 : decode cX1_setDay 6 = .ok (.iastore, 1) := by decide +kernel
theorem dX1_setDay_7 : decode cX1_setDay 7 = .ok (.aload_n 0, 1) := by decide +kernel
theorem dX1_setDay_8 : decode cX1_setDay 8 = .ok (.getfield 27, 3) := by decide +kernel
theorem dX1_setDay_11 : decode cX1_setDay 11 = .ok (.iconst 4, 1) := by decide +kernel
theorem dX1_setDay_12 : decode cX1_setDay 12 = .ok (.iload_n 1, 1) := by decide +kernel
theorem dX1_setDay_13 : decode cX1_setDay 13 = .ok (.bipush 7, 2) := by decide +kernel
theorem dX1_setDay_15 : decode cX1_setDay 15 = .ok (.irem, 1) := by decide +kernel
theorem dX1_setDay_16 : decode cX1_setDay 16 = .ok (.iastore, 1) := by decide +kernel
theorem dX1_setDay_17 : decode cX1_setDay 17 = .ok (.aload_n 0, 1) := by decide +kernel
theorem dX1_setDay_18 : decode cX1_setDay 18 = .ok (.getfield 27, 3) := by decide +kernel
theorem dX1_setDay_21 : decode cX1_setDay 21 = .ok (.iconst 5, 1) := by decide +kernel
theorem dX1_setDay_22 : decode cX1_setDay 22 = .ok (.iload_n 2, 1) := by decide +kernel
theorem dX1_setDay_23 : decode cX1_setDay 23 = .ok (.iastore, 1) := by decide +kernel
theorem dX1_setDay_24 : decode cX1_setDay 24 = .ok (.aload_n 0, 1) := by decide +kernel
theorem dX1_setDay_25 : decode cX1_setDay 25 = .ok (.getfield 27, 3) := by decide +kernel
theorem dX1_setDay_28 : decode cX1_setDay 28 = .ok (.bipush 6, 2) := by decide +kernel
theorem dX1_setDay_30 : decode cX1_setDay 30 = .ok (.iload_n 3, 1) := by decide +kernel
theorem dX1_setDay_31 : decode cX1_setDay 31 = .ok (.iastore, 1) := by decide +kernel
theorem dX1_setDay_32 : decode cX1_setDay 32 = .ok (.return_, 1) := by decide +kernel
theorem dX2_init_0 : decode cX2_init 0 = .ok (.aload_n 0, 1) := by decide +kernel
theorem dX2_init_1 : decode cX2_init 1 = .ok (.invokespecial 3, 3) := by decide +kernel
theorem dX2_init_4 : decode cX2_init 4 = .ok (.aload_n 0, 1) := by decide +kernel
theorem dX2_init_5 : decode cX2_init 5 = .ok (.new 9, 3) := by decide +kernel
theorem dX2_init_8 : decode cX2_init 8 = .ok (.dup, 1) := by decide +kernel
theorem dX2_init_9 : decode cX2_init 9 = .ok (.invokespecial 11, 3) := by decide +kernel
theorem dX2_init_12 : decode cX2_init 12 = .ok (.putfield 12, 3) := by decide +kernel
theorem dX2_init_15 : decode cX2_init 15 = .ok (.aload_n 0, 1) := by decide +kernel
theorem dX2_init_16 : decode cX2_init 16 = .ok (.aload_n 1, 1) := by decide +kernel
theorem dX2_init_17 : decode cX2_init 17 = .ok (.putfield 18, 3) := by decide +kernel
theorem dX2_init_20 : decode cX2_init 20 = .ok (.return_, 1) := by decide +kernel
theorem dX3_init_0 : decode cX3_init 0 = .ok (.aload_n 0, 1) := by decide +kernel
theorem dX3_init_1 : decode cX3_init 1 = .ok (.invokespecial 3, 3) := by decide +kernel
theorem dX3_init_4 : decode cX3_init 4 = .ok (.aload_n 0, 1) := by decide +kernel
theorem dX3_init_5 : decode cX3_init 5 = .ok (.bipush 10, 2) := by decide +kernel
theorem dX3_init_7 : decode cX3_init 7 = .ok (.newarray .int, 2) := by decide +kernel
theorem dX3_init_9 : decode cX3_init 9 = .ok (.putfield 9, 3) := by decide +kernel
theorem dX3_init_12 : decode cX3_init 12 = .ok (.aload_n 0, 1) := by decide +kernel
theorem dX3_init_13 : decode cX3_init 13 = .ok (.bipush 10, 2) := by decide +kernel
theorem dX3_init_15 : decode cX3_init 15 = .ok (.newarray .int, 2) := by decide +kernel
theorem dX3_init_17 : decode cX3_init 17 = .ok (.putfield 15, 3) := by decide +kernel
theorem dX3_init_20 : decode cX3_init 20 = .ok (.aload_n 0, 1) := by decide +kernel
theorem dX3_init_21 : decode cX3_init 21 = .ok (.aload_n 1, 1) := by decide +kernel
theorem dX3_init_22 : decode cX3_init 22 = .ok (.putfield 18, 3) := by decide +kernel
theorem dX3_init_25 : decode cX3_init 25 = .ok (.return_, 1) := by decide +kernel
theorem dX4_allUndone_0 : decode cX4_allUndone 0 = .ok (.iconst 0, 1) := by decide +kernel
theorem dX4_allUndone_1 : decode cX4_allUndone 1 = .ok (.istore_n 1, 1) := by decide +kernel
theorem dX4_allUndone_2 : decode cX4_allUndone 2 = .ok (.iconst 0, 1) := by decide +kernel
theorem dX4_allUndone_3 : decode cX4_allUndone 3 = .ok (.istore_n 2, 1) := by decide +kernel
theorem dX4_allUndone_4 : decode cX4_allUndone 4 = .ok (.iload_n 2, 1) := by decide +kernel
theorem dX4_allUndone_5 : decode cX4_allUndone 5 = .ok (.bipush 12, 2) := by decide +kernel
theorem dX4_allUndone_7 : decode cX4_allUndone 7 = .ok (.if_icmp .ge 18, 3) := by decide +kernel
theorem dX4_allUndone_10 : decode cX4_allUndone 10 = .ok (.iload_n 1, 1) := by decide +kernel
theorem dX4_allUndone_11 : decode cX4_allUndone 11 = .ok (.aload_n 0, 1) := by decide +kernel
theorem dX4_allUndone_12 : decode cX4_allUndone 12 = .ok (.getfield 9, 3) := by decide +kernel
theorem dX4_allUndone_15 : decode cX4_allUndone 15 = .ok (.iload_n 2, 1) := by decide +kernel
theorem dX4_allUndone_16 : decode cX4_allUndone 16 = .ok (.iaload, 1) := by decide +kernel
theorem dX4_allUndone_17 : decode cX4_allUndone 17 = .ok (.iadd, 1) := by decide +kernel
theorem dX4_allUndone_18 : decode cX4_allUndone 18 = .ok (.istore_n 1, 1) := by decide +kernel
theorem dX4_allUndone_19 : decode cX4_allUndone 19 = .ok (.iinc 2 1, 3) := by decide +kernel
theorem dX4_allUndone_22 : decode cX4_allUndone 22 = .ok (.goto (-18), 3) := by decide +kernel
theorem dX4_allUndone_25 : decode cX4_allUndone 25 = .ok (.iload_n 1, 1) := by decide +kernel
theorem dX4_allUndone_26 : decode cX4_allUndone 26 = .ok (.ireturn, 1) := by decide +kernel
theorem dX4_awayBits_0 : decode cX4_awayBits 0 = .ok (.iconst 0, 1) := by decide +kernel
theorem dX4_awayBits_1 : decode cX4_awayBits 1 = .ok (.istore_n 1, 1) := by decide +kernel
theorem dX4_awayBits_2 : decode cX4_awayBits 2 = .ok (.iconst 0, 1) := by decide +kernel
theorem dX4_awayBits_3 : decode cX4_awayBits 3 = .ok (.istore_n 2, 1) := by decide +kernel
theorem dX4_awayBits_4 : decode cX4_awayBits 4 = .ok (.iload_n 2, 1) := by decide +kernel
theorem dX4_awayBits_5 : decode cX4_awayBits 5 = .ok (.bipush 10, 2) := by decide +kernel
theorem dX4_awayBits_7 : decode cX4_awayBits 7 = .ok (.if_icmp .ge 27, 3) := by decide +kernel
theorem dX4_awayBits_10 : decode cX4_awayBits 10 = .ok (.iload_n 1, 1) := by decide +kernel
theorem dX4_awayBits_11 : decode cX4_awayBits 11 = .ok (.aload_n 0, 1) := by decide +kernel
theorem dX4_awayBits_12 : decode cX4_awayBits 12 = .ok (.iload_n 2, 1) := by decide +kernel
theorem dX4_awayBits_13 : decode cX4_awayBits 13 = .ok (.invokevirtual 51, 3) := by decide +kernel
theorem dX4_awayBits_16 : decode cX4_awayBits 16 = .ok (.ifCond .eq 9, 3) := by decide +kernel
theorem dX4_awayBits_25 : decode cX4_awayBits 25 = .ok (.iconst 0, 1) := by decide +kernel
theorem dX4_awayBits_26 : decode cX4_awayBits 26 = .ok (.ior, 1) := by decide +kernel
theorem dX4_awayBits_27 : decode cX4_awayBits 27 = .ok (.istore_n 1, 1) := by decide +kernel
theorem dX4_awayBits_28 : decode cX4_awayBits 28 = .ok (.iinc 2 1, 3) := by decide +kernel
theorem dX4_awayBits_31 : decode cX4_awayBits 31 = .ok (.goto (-27), 3) := by decide +kernel
theorem dX4_awayBits_34 : decode cX4_awayBits 34 = .ok (.iload_n 1, 1) := by decide +kernel
theorem dX4_awayBits_35 : decode cX4_awayBits 35 = .ok (.ireturn, 1) := by decide +kernel
theorem dX4_copy_0 : decode cX4_copy 0 = .ok (.aload_n 1, 1) := by decide +kernel
theorem dX4_copy_1 : decode cX4_copy 1 = .ok (.getfield 9, 3) := by decide +kernel
theorem dX4_copy_4 : decode cX4_copy 4 = .ok (.iconst 0, 1) := by decide +kernel
theorem dX4_copy_5 : decode cX4_copy 5 = .ok (.aload_n 0, 1) := by decide +kernel
theorem dX4_copy_6 : decode cX4_copy 6 = .ok (.getfield 9, 3) := by decide +kernel
theorem dX4_copy_9 : decode cX4_copy 9 = .ok (.iconst 0, 1) := by decide +kernel
theorem dX4_copy_10 : decode cX4_copy 10 = .ok (.bipush 12, 2) := by decide +kernel
theorem dX4_copy_12 : decode cX4_copy 12 = .ok (.invokestatic 31, 3) := by decide +kernel
theorem dX4_copy_15 : decode cX4_copy 15 = .ok (.aload_n 1, 1) := by decide +kernel
theorem dX4_copy_16 : decode cX4_copy 16 = .ok (.getfield 15, 3) := by decide +kernel
theorem dX4_copy_19 : decode cX4_copy 19 = .ok (.iconst 0, 1) := by decide +kernel
theorem dX4_copy_20 : decode cX4_copy 20 = .ok (.aload_n 0, 1) := by decide +kernel
theorem dX4_copy_21 : decode cX4_copy 21 = .ok (.getfield 15, 3) := by decide +kernel
theorem dX4_copy_24 : decode cX4_copy 24 = .ok (.iconst 0, 1) := by decide +kernel
theorem dX4_copy_25 : decode cX4_copy 25 = .ok (.bipush 10, 2) := by decide +kernel
theorem dX4_copy_27 : decode cX4_copy 27 = .ok (.invokestatic 31, 3) := by decide +kernel
theorem dX4_copy_30 : decode cX4_copy 30 = .ok (.aload_n 1, 1) := by decide +kernel
theorem dX4_copy_31 : decode cX4_copy 31 = .ok (.getfield 18, 3) := by decide +kernel
theorem dX4_copy_34 : decode cX4_copy 34 = .ok (.iconst 0, 1) := by decide +kernel
theorem dX4_copy_35 : decode cX4_copy 35 = .ok (.aload_n 0, 1) := by decide +kernel
theorem dX4_copy_36 : decode cX4_copy 36 = .ok (.getfield 18, 3) := by decide +kernel
theorem dX4_copy_39 : decode cX4_copy 39 = .ok (.iconst 0, 1) := by decide +kernel
theorem dX4_copy_40 : decode cX4_copy 40 = .ok (.bipush 10, 2) := by decide +kernel
theorem dX4_copy_42 : decode cX4_copy 42 = .ok (.invokestatic 31, 3) := by decide +kernel
theorem dX4_copy_45 : decode cX4_copy 45 = .ok (.aload_n 0, 1) := by decide +kernel
theorem dX4_copy_46 : decode cX4_copy 46 = .ok (.aload_n 1, 1) := by decide +kernel
theorem dX4_copy_47 : decode cX4_copy 47 = .ok (.getfield 37, 3) := by decide +kernel
theorem dX4_copy_50 : decode cX4_copy 50 = .ok (.putfield 37, 3) := by decide +kernel
theorem dX4_copy_53 : decode cX4_copy 53 = .ok (.aload_n 0, 1) := by decide +kernel
theorem dX4_copy_54 : decode cX4_copy 54 = .ok (.aload_n 1, 1) := by decide +kernel
theorem dX4_copy_55 : decode cX4_copy 55 = .ok (.getfield 40, 3) := by decide +kernel
theorem dX4_copy_58 : decode cX4_copy 58 = .ok (.putfield 40, 3) := by decide +kernel
theorem dX4_copy_61 : decode cX4_copy 61 = .ok (.aload_n 0, 1) := by decide +kernel
theorem dX4_copy_62 : decode cX4_copy 62 = .ok (.aload_n 1, 1) := by decide +kernel
theorem dX4_copy_63 : decode cX4_copy 63 = .ok (.getfield 21, 3) := by decide +kernel
theorem dX4_copy_66 : decode cX4_copy 66 = .ok (.putfield 21, 3) := by decide +kernel
theorem dX4_copy_69 : decode cX4_copy 69 = .ok (.return_, 1) := by decide +kernel
theorem dX4_endLeaves_0 : decode cX4_endLeaves 0 = .ok (.iconst 0, 1) := by decide +kernel
theorem dX4_endLeaves_1 : decode cX4_endLeaves 1 = .ok (.istore_n 2, 1) := by decide +kernel
theorem dX4_endLeaves_2 : decode cX4_endLeaves 2 = .ok (.iload_n 2, 1) := by decide +kernel
theorem dX4_endLeaves_3 : decode cX4_endLeaves 3 = .ok (.bipush 10, 2) := by decide +kernel
theorem dX4_endLeaves_5 : decode cX4_endLeaves 5 = .ok (.if_icmp .ge 33, 3) := by decide +kernel
theorem dX4_endLeaves_8 : decode cX4_endLeaves 8 = .ok (.iload_n 1, 1) := by decide +kernel
theorem dX4_endLeaves_9 : decode cX4_endLeaves 9 = .ok (.iload_n 2, 1) := by decide +kernel
theorem dX4_endLeaves_10 : decode cX4_endLeaves 10 = .ok (.invokestatic 43, 3) := by decide +kernel
theorem dX4_endLeaves_13 : decode cX4_endLeaves 13 = .ok (.ifCond .eq 19, 3) := by decide +kernel
theorem dX4_endLeaves_16 : decode cX4_endLeaves 16 = .ok (.aload_n 0, 1) := by decide +kernel
theorem dX4_endLeaves_17 : decode cX4_endLeaves 17 = .ok (.getfield 15, 3) := by decide +kernel
theorem dX4_endLeaves_20 : decode cX4_endLeaves 20 = .ok (.iload_n 2, 1) := by decide +kernel
theorem dX4_endLeaves_21 : decode cX4_endLeaves 21 = .ok (.bipush (-2), 2) := by decide +kernel
theorem dX4_endLeaves_23 : decode cX4_endLeaves 23 = .ok (.iastore, 1) := by decide +kernel
theorem dX4_endLeaves_24 : decode cX4_endLeaves 24 = .ok (.aload_n 0, 1) := by decide +kernel
theorem dX4_endLeaves_25 : decode cX4_endLeaves 25 = .ok (.getfield 18, 3) := by decide +kernel
theorem dX4_endLeaves_28 : decode cX4_endLeaves 28 = .ok (.iload_n 2, 1) := by decide +kernel
theorem dX4_endLeaves_29 : decode cX4_endLeaves 29 = .ok (.bipush (-2), 2) := by decide +kernel
theorem dX4_endLeaves_31 : decode cX4_endLeaves 31 = .ok (.iastore, 1) := by decide +kernel
theorem dX4_endLeaves_32 : decode cX4_endLeaves 32 = .ok (.iinc 2 1, 3) := by decide +kernel
theorem dX4_endLeaves_35 : decode cX4_endLeaves 35 = .ok (.goto (-33), 3) := by decide +kernel
theorem dX4_endLeaves_38 : decode cX4_endLeaves 38 = .ok (.return_, 1) := by decide +kernel
theorem dX4_hasLeave_0 : decode cX4_hasLeave 0 = .ok (.iload_n 1, 1) := by decide +kernel
theorem dX4_hasLeave_1 : decode cX4_hasLeave 1 = .ok (.ifCond .lt 24, 3) := by decide +kernel
theorem dX4_hasLeave_4 : decode cX4_hasLeave 4 = .ok (.iload_n 1, 1) := by decide +kernel
theorem dX4_hasLeave_5 : decode cX4_hasLeave 5 = .ok (.bipush 10, 2) := by decide +kernel
theorem dX4_hasLeave_7 : decode cX4_hasLeave 7 = .ok (.if_icmp .ge 18, 3) := by decide +kernel
theorem dX4_hasLeave_10 : decode cX4_hasLeave 10 = .ok (.aload_n 0, 1) := by decide +kernel
theorem dX4_hasLeave_11 : decode cX4_hasLeave 11 = .ok (.getfield 15, 3) := by decide +kernel
theorem dX4_hasLeave_14 : decode cX4_hasLeave 14 = .ok (.iload_n 1, 1) := by decide +kernel
theorem dX4_hasLeave_15 : decode cX4_hasLeave 15 = .ok (.iaload, 1) := by decide +kernel
theorem dX4_hasLeave_16 : decode cX4_hasLeave 16 = .ok (.bipush (-2), 2) := by decide +kernel
theorem dX4_hasLeave_18 : decode cX4_hasLeave 18 = .ok (.if_icmp .eq 7, 3) := by decide +kernel
theorem dX4_hasLeave_25 : decode cX4_hasLeave 25 = .ok (.iconst 0, 1) := by decide +kernel
theorem dX4_hasLeave_26 : decode cX4_hasLeave 26 = .ok (.ireturn, 1) := by decide +kernel
theorem dX4_init_0 : decode cX4_init 0 = .ok (.aload_n 0, 1) := by decide +kernel
theorem dX4_init_1 : decode cX4_init 1 = .ok (.invokespecial 3, 3) := by decide +kernel
theorem dX4_init_4 : decode cX4_init 4 = .ok (.aload_n 0, 1) := by decide +kernel
theorem dX4_init_5 : decode cX4_init 5 = .ok (.bipush 12, 2) := by decide +kernel
theorem dX4_init_7 : decode cX4_init 7 = .ok (.newarray .int, 2) := by decide +kernel
theorem dX4_init_9 : decode cX4_init 9 = .ok (.putfield 9, 3) := by decide +kernel
theorem dX4_init_12 : decode cX4_init 12 = .ok (.aload_n 0, 1) := by decide +kernel
theorem dX4_init_13 : decode cX4_init 13 = .ok (.bipush 10, 2) := by decide +kernel
theorem dX4_init_15 : decode cX4_init 15 = .ok (.newarray .int, 2) := by decide +kernel
theorem dX4_init_17 : decode cX4_init 17 = .ok (.putfield 15, 3) := by decide +kernel
theorem dX4_init_20 : decode cX4_init 20 = .ok (.aload_n 0, 1) := by decide +kernel
theorem dX4_init_21 : decode cX4_init 21 = .ok (.bipush 10, 2) := by decide +kernel
theorem dX4_init_23 : decode cX4_init 23 = .ok (.newarray .int, 2) := by decide +kernel
theorem dX4_init_25 : decode cX4_init 25 = .ok (.putfield 18, 3) := by decide +kernel
theorem dX4_init_28 : decode cX4_init 28 = .ok (.aload_n 0, 1) := by decide +kernel
theorem dX4_init_29 : decode cX4_init 29 = .ok (.iconst 1, 1) := by decide +kernel
theorem dX4_init_30 : decode cX4_init 30 = .ok (.putfield 21, 3) := by decide +kernel
theorem dX4_init_33 : decode cX4_init 33 = .ok (.aload_n 0, 1) := by decide +kernel
theorem dX4_init_34 : decode cX4_init 34 = .ok (.getfield 15, 3) := by decide +kernel
theorem dX4_init_37 : decode cX4_init 37 = .ok (.bipush (-2), 2) := by decide +kernel
theorem dX4_init_39 : decode cX4_init 39 = .ok (.invokestatic 25, 3) := by decide +kernel
theorem dX4_init_42 : decode cX4_init 42 = .ok (.aload_n 0, 1) := by decide +kernel
theorem dX4_init_43 : decode cX4_init 43 = .ok (.getfield 18, 3) := by decide +kernel
theorem dX4_init_46 : decode cX4_init 46 = .ok (.bipush (-2), 2) := by decide +kernel
theorem dX4_init_48 : decode cX4_init 48 = .ok (.invokestatic 25, 3) := by decide +kernel
theorem dX4_init_51 : decode cX4_init 51 = .ok (.return_, 1) := by decide +kernel
theorem dX4_isAway_0 : decode cX4_isAway 0 = .ok (.iload_n 1, 1) := by decide +kernel
theorem dX4_isAway_1 : decode cX4_isAway 1 = .ok (.ifCond .lt 39, 3) := by decide +kernel
theorem dX4_isAway_4 : decode cX4_isAway 4 = .ok (.iload_n 1, 1) := by decide +kernel
theorem dX4_isAway_5 : decode cX4_isAway 5 = .ok (.bipush 10, 2) := by decide +kernel
theorem dX4_isAway_7 : decode cX4_isAway 7 = .ok (.if_icmp .ge 33, 3) := by decide +kernel
theorem dX4_isAway_10 : decode cX4_isAway 10 = .ok (.aload_n 0, 1) := by decide +kernel
theorem dX4_isAway_11 : decode cX4_isAway 11 = .ok (.getfield 15, 3) := by decide +kernel
theorem dX4_isAway_14 : decode cX4_isAway 14 = .ok (.iload_n 1, 1) := by decide +kernel
theorem dX4_isAway_15 : decode cX4_isAway 15 = .ok (.iaload, 1) := by decide +kernel
theorem dX4_isAway_16 : decode cX4_isAway 16 = .ok (.aload_n 0, 1) := by decide +kernel
theorem dX4_isAway_17 : decode cX4_isAway 17 = .ok (.getfield 40, 3) := by decide +kernel
theorem dX4_isAway_20 : decode cX4_isAway 20 = .ok (.if_icmp .gt 20, 3) := by decide +kernel
theorem dX4_isAway_23 : decode cX4_isAway 23 = .ok (.aload_n 0, 1) := by decide +kernel
theorem dX4_isAway_24 : decode cX4_isAway 24 = .ok (.getfield 40, 3) := by decide +kernel
theorem dX4_isAway_27 : decode cX4_isAway 27 = .ok (.aload_n 0, 1) := by decide +kernel
theorem dX4_isAway_28 : decode cX4_isAway 28 = .ok (.getfield 18, 3) := by decide +kernel
theorem dX4_isAway_31 : decode cX4_isAway 31 = .ok (.iload_n 1, 1) := by decide +kernel
theorem dX4_isAway_32 : decode cX4_isAway 32 = .ok (.iaload, 1) := by decide +kernel
theorem dX4_isAway_33 : decode cX4_isAway 33 = .ok (.if_icmp .gt 7, 3) := by decide +kernel
theorem dX4_isAway_40 : decode cX4_isAway 40 = .ok (.iconst 0, 1) := by decide +kernel
theorem dX4_isAway_41 : decode cX4_isAway 41 = .ok (.ireturn, 1) := by decide +kernel
theorem dX4_leaveBits_0 : decode cX4_leaveBits 0 = .ok (.iconst 0, 1) := by decide +kernel
theorem dX4_leaveBits_1 : decode cX4_leaveBits 1 = .ok (.istore_n 1, 1) := by decide +kernel
theorem dX4_leaveBits_2 : decode cX4_leaveBits 2 = .ok (.iconst 0, 1) := by decide +kernel
theorem dX4_leaveBits_3 : decode cX4_leaveBits 3 = .ok (.istore_n 2, 1) := by decide +kernel
theorem dX4_leaveBits_4 : decode cX4_leaveBits 4 = .ok (.iload_n 2, 1) := by decide +kernel
theorem dX4_leaveBits_5 : decode cX4_leaveBits 5 = .ok (.bipush 10, 2) := by decide +kernel
theorem dX4_leaveBits_7 : decode cX4_leaveBits 7 = .ok (.if_icmp .ge 27, 3) := by decide +kernel
theorem dX4_leaveBits_10 : decode cX4_leaveBits 10 = .ok (.iload_n 1, 1) := by decide +kernel
theorem dX4_leaveBits_11 : decode cX4_leaveBits 11 = .ok (.aload_n 0, 1) := by decide +kernel
theorem dX4_leaveBits_12 : decode cX4_leaveBits 12 = .ok (.iload_n 2, 1) := by decide +kernel
theorem dX4_leaveBits_13 : decode cX4_leaveBits 13 = .ok (.invokevirtual 47, 3) := by decide +kernel
theorem dX4_leaveBits_16 : decode cX4_leaveBits 16 = .ok (.ifCond .eq 9, 3) := by decide +kernel
theorem dX4_leaveBits_25 : decode cX4_leaveBits 25 = .ok (.iconst 0, 1) := by decide +kernel
theorem dX4_leaveBits_26 : decode cX4_leaveBits 26 = .ok (.ior, 1) := by decide +kernel
theorem dX4_leaveBits_27 : decode cX4_leaveBits 27 = .ok (.istore_n 1, 1) := by decide +kernel
theorem dX4_leaveBits_28 : decode cX4_leaveBits 28 = .ok (.iinc 2 1, 3) := by decide +kernel
theorem dX4_leaveBits_31 : decode cX4_leaveBits 31 = .ok (.goto (-27), 3) := by decide +kernel
theorem dX4_leaveBits_34 : decode cX4_leaveBits 34 = .ok (.iload_n 1, 1) := by decide +kernel
theorem dX4_leaveBits_35 : decode cX4_leaveBits 35 = .ok (.ireturn, 1) := by decide +kernel
theorem dX5_addWord_0 : decode cX5_addWord 0 = .ok (.bipush 24, 2) := by decide +kernel
theorem dX5_addWord_2 : decode cX5_addWord 2 = .ok (.istore_n 2, 1) := by decide +kernel
theorem dX5_addWord_3 : decode cX5_addWord 3 = .ok (.iload_n 2, 1) := by decide +kernel
theorem dX5_addWord_4 : decode cX5_addWord 4 = .ok (.ifCond .lt 47, 3) := by decide +kernel
theorem dX5_addWord_7 : decode cX5_addWord 7 = .ok (.aload_n 0, 1) := by decide +kernel
theorem dX5_addWord_8 : decode cX5_addWord 8 = .ok (.getfield 15, 3) := by decide +kernel
theorem dX5_addWord_11 : decode cX5_addWord 11 = .ok (.aload_n 0, 1) := by decide +kernel
theorem dX5_addWord_12 : decode cX5_addWord 12 = .ok (.getfield 9, 3) := by decide +kernel
theorem dX5_addWord_15 : decode cX5_addWord 15 = .ok (.arraylength, 1) := by decide +kernel
theorem dX5_addWord_16 : decode cX5_addWord 16 = .ok (.if_icmp .ge 29, 3) := by decide +kernel
theorem dX5_addWord_19 : decode cX5_addWord 19 = .ok (.aload_n 0, 1) := by decide +kernel
theorem dX5_addWord_20 : decode cX5_addWord 20 = .ok (.getfield 9, 3) := by decide +kernel
theorem dX5_addWord_23 : decode cX5_addWord 23 = .ok (.aload_n 0, 1) := by decide +kernel
theorem dX5_addWord_24 : decode cX5_addWord 24 = .ok (.getfield 15, 3) := by decide +kernel
theorem dX5_addWord_27 : decode cX5_addWord 27 = .ok (.iload_n 1, 1) := by decide +kernel
theorem dX5_addWord_28 : decode cX5_addWord 28 = .ok (.iload_n 2, 1) := by decide +kernel
theorem dX5_addWord_29 : decode cX5_addWord 29 = .ok (.ishr, 1) := by decide +kernel
theorem dX5_addWord_30 : decode cX5_addWord 30 = .ok (.sipush 255, 3) := by decide +kernel
theorem dX5_addWord_33 : decode cX5_addWord 33 = .ok (.iand, 1) := by decide +kernel
theorem dX5_addWord_34 : decode cX5_addWord 34 = .ok (.iastore, 1) := by decide +kernel
theorem dX5_addWord_35 : decode cX5_addWord 35 = .ok (.aload_n 0, 1) := by decide +kernel
theorem dX5_addWord_36 : decode cX5_addWord 36 = .ok (.dup, 1) := by decide +kernel
theorem dX5_addWord_37 : decode cX5_addWord 37 = .ok (.getfield 15, 3) := by decide +kernel
theorem dX5_addWord_40 : decode cX5_addWord 40 = .ok (.iconst 1, 1) := by decide +kernel
theorem dX5_addWord_41 : decode cX5_addWord 41 = .ok (.iadd, 1) := by decide +kernel
theorem dX5_addWord_42 : decode cX5_addWord 42 = .ok (.putfield 15, 3) := by decide +kernel
theorem dX5_addWord_45 : decode cX5_addWord 45 = .ok (.iinc 2 (-8), 3) := by decide +kernel
theorem dX5_addWord_48 : decode cX5_addWord 48 = .ok (.goto (-45), 3) := by decide +kernel
theorem dX5_addWord_51 : decode cX5_addWord 51 = .ok (.return_, 1) := by decide +kernel
theorem dX5_canGive_0 : decode cX5_canGive 0 = .ok (.iload_n 1, 1) := by decide +kernel
theorem dX5_canGive_1 : decode cX5_canGive 1 = .ok (.iload_n 2, 1) := by decide +kernel
theorem dX5_canGive_2 : decode cX5_canGive 2 = .ok (.if_icmp .lt 20, 3) := by decide +kernel
theorem dX5_canGive_5 : decode cX5_canGive 5 = .ok (.iload_n 1, 1) := by decide +kernel
theorem dX5_canGive_6 : decode cX5_canGive 6 = .ok (.iload_n 3, 1) := by decide +kernel
theorem dX5_canGive_7 : decode cX5_canGive 7 = .ok (.if_icmp .gt 15, 3) := by decide +kernel
theorem dX5_canGive_10 : decode cX5_canGive 10 = .ok (.iload_n 1, 1) := by decide +kernel
theorem dX5_canGive_11 : decode cX5_canGive 11 = .ok (.aload_n 0, 1) := by decide +kernel
theorem dX5_canGive_12 : decode cX5_canGive 12 = .ok (.getfield 15, 3) := by decide +kernel
theorem dX5_canGive_15 : decode cX5_canGive 15 = .ok (.if_icmp .gt 7, 3) := by decide +kernel
theorem dX5_canGive_18 : decode cX5_canGive 18 = .ok (.iconst 1, 1) := by decide +kernel
theorem dX5_canGive_19 : decode cX5_canGive 19 = .ok (.goto 4, 3) := by decide +kernel
theorem dX5_canGive_22 : decode cX5_canGive 22 = .ok (.iconst 0, 1) := by decide +kernel
theorem dX5_canGive_23 : decode cX5_canGive 23 = .ok (.ireturn, 1) := by decide +kernel
theorem dX5_hasRoomFor_0 : decode cX5_hasRoomFor 0 = .ok (.aload_n 0, 1) := by decide +kernel
theorem dX5_hasRoomFor_1 : decode cX5_hasRoomFor 1 = .ok (.getfield 15, 3) := by decide +kernel
theorem dX5_hasRoomFor_4 : decode cX5_hasRoomFor 4 = .ok (.iload_n 1, 1) := by decide +kernel
theorem dX5_hasRoomFor_5 : decode cX5_hasRoomFor 5 = .ok (.iadd, 1) := by decide +kernel
theorem dX5_hasRoomFor_6 : decode cX5_hasRoomFor 6 = .ok (.aload_n 0, 1) := by decide +kernel
theorem dX5_hasRoomFor_7 : decode cX5_hasRoomFor 7 = .ok (.getfield 9, 3) := by decide +kernel
theorem dX5_hasRoomFor_10 : decode cX5_hasRoomFor 10 = .ok (.arraylength, 1) := by decide +kernel
theorem dX5_hasRoomFor_11 : decode cX5_hasRoomFor 11 = .ok (.if_icmp .gt 7, 3) := by decide +kernel
theorem dX5_hasRoomFor_14 : decode cX5_hasRoomFor 14 = .ok (.iconst 1, 1) := by decide +kernel
theorem dX5_hasRoomFor_15 : decode cX5_hasRoomFor 15 = .ok (.goto 4, 3) := by decide +kernel
theorem dX5_hasRoomFor_19 : decode cX5_hasRoomFor 19 = .ok (.ireturn, 1) := by decide +kernel
theorem dX5_init_0 : decode cX5_init 0 = .ok (.aload_n 0, 1) := by decide +kernel
theorem dX5_init_1 : decode cX5_init 1 = .ok (.invokespecial 3, 3) := by decide +kernel
theorem dX5_init_4 : decode cX5_init 4 = .ok (.aload_n 0, 1) := by decide +kernel
theorem dX5_init_5 : decode cX5_init 5 = .ok (.sipush 260, 3) := by decide +kernel
theorem dX5_init_8 : decode cX5_init 8 = .ok (.newarray .int, 2) := by decide +kernel
theorem dX5_init_10 : decode cX5_init 10 = .ok (.putfield 9, 3) := by decide +kernel
theorem dX5_init_13 : decode cX5_init 13 = .ok (.return_, 1) := by decide +kernel
theorem dX6_init_0 : decode cX6_init 0 = .ok (.aload_n 0, 1) := by decide +kernel
theorem dX6_init_1 : decode cX6_init 1 = .ok (.invokespecial 3, 3) := by decide +kernel
theorem dX6_init_4 : decode cX6_init 4 = .ok (.aload_n 0, 1) := by decide +kernel
theorem dX6_init_5 : decode cX6_init 5 = .ok (.aload_n 1, 1) := by decide +kernel
theorem dX6_init_6 : decode cX6_init 6 = .ok (.putfield 9, 3) := by decide +kernel
theorem dX6_init_9 : decode cX6_init 9 = .ok (.return_, 1) := by decide +kernel
theorem dX7_hasChore_0 : decode cX7_hasChore 0 = .ok (.iload_n 1, 1) := by decide +kernel
theorem dX7_hasChore_1 : decode cX7_hasChore 1 = .ok (.ifCond .lt 24, 3) := by decide +kernel
theorem dX7_hasChore_4 : decode cX7_hasChore 4 = .ok (.iload_n 1, 1) := by decide +kernel
theorem dX7_hasChore_5 : decode cX7_hasChore 5 = .ok (.bipush 12, 2) := by decide +kernel
theorem dX7_hasChore_7 : decode cX7_hasChore 7 = .ok (.if_icmp .ge 18, 3) := by decide +kernel
theorem dX7_hasChore_10 : decode cX7_hasChore 10 = .ok (.aload_n 0, 1) := by decide +kernel
theorem dX7_hasChore_11 : decode cX7_hasChore 11 = .ok (.getfield 32, 3) := by decide +kernel
theorem dX7_hasChore_14 : decode cX7_hasChore 14 = .ok (.iload_n 1, 1) := by decide +kernel
theorem dX7_hasChore_15 : decode cX7_hasChore 15 = .ok (.invokestatic 28, 3) := by decide +kernel
theorem dX7_hasChore_18 : decode cX7_hasChore 18 = .ok (.ifCond .eq 7, 3) := by decide +kernel
theorem dX7_hasChore_25 : decode cX7_hasChore 25 = .ok (.iconst 0, 1) := by decide +kernel
theorem dX7_hasChore_26 : decode cX7_hasChore 26 = .ok (.ireturn, 1) := by decide +kernel
theorem dX7_hasPerson_0 : decode cX7_hasPerson 0 = .ok (.iload_n 1, 1) := by decide +kernel
theorem dX7_hasPerson_1 : decode cX7_hasPerson 1 = .ok (.ifCond .lt 24, 3) := by decide +kernel
theorem dX7_hasPerson_4 : decode cX7_hasPerson 4 = .ok (.iload_n 1, 1) := by decide +kernel
theorem dX7_hasPerson_5 : decode cX7_hasPerson 5 = .ok (.bipush 10, 2) := by decide +kernel
theorem dX7_hasPerson_7 : decode cX7_hasPerson 7 = .ok (.if_icmp .ge 18, 3) := by decide +kernel
theorem dX7_hasPerson_10 : decode cX7_hasPerson 10 = .ok (.aload_n 0, 1) := by decide +kernel
theorem dX7_hasPerson_11 : decode cX7_hasPerson 11 = .ok (.getfield 24, 3) := by decide +kernel
theorem dX7_hasPerson_14 : decode cX7_hasPerson 14 = .ok (.iload_n 1, 1) := by decide +kernel
theorem dX7_hasPerson_15 : decode cX7_hasPerson 15 = .ok (.invokestatic 28, 3) := by decide +kernel
theorem dX7_hasPerson_18 : decode cX7_hasPerson 18 = .ok (.ifCond .eq 7, 3) := by decide +kernel
theorem dX7_hasPerson_25 : decode cX7_hasPerson 25 = .ok (.iconst 0, 1) := by decide +kernel
theorem dX7_hasPerson_26 : decode cX7_hasPerson 26 = .ok (.ireturn, 1) := by decide +kernel
theorem dX7_init_0 : decode cX7_init 0 = .ok (.aload_n 0, 1) := by decide +kernel
theorem dX7_init_1 : decode cX7_init 1 = .ok (.invokespecial 3, 3) := by decide +kernel
theorem dX7_init_4 : decode cX7_init 4 = .ok (.aload_n 0, 1) := by decide +kernel
theorem dX7_init_5 : decode cX7_init 5 = .ok (.bipush 10, 2) := by decide +kernel
theorem dX7_init_7 : decode cX7_init 7 = .ok (.newarray .int, 2) := by decide +kernel
theorem dX7_init_9 : decode cX7_init 9 = .ok (.putfield 9, 3) := by decide +kernel
theorem dX7_init_12 : decode cX7_init 12 = .ok (.aload_n 0, 1) := by decide +kernel
theorem dX7_init_13 : decode cX7_init 13 = .ok (.bipush 12, 2) := by decide +kernel
theorem dX7_init_15 : decode cX7_init 15 = .ok (.newarray .int, 2) := by decide +kernel
theorem dX7_init_17 : decode cX7_init 17 = .ok (.putfield 15, 3) := by decide +kernel
theorem dX7_init_20 : decode cX7_init 20 = .ok (.aload_n 0, 1) := by decide +kernel
theorem dX7_init_21 : decode cX7_init 21 = .ok (.bipush 120, 2) := by decide +kernel
theorem dX7_init_23 : decode cX7_init 23 = .ok (.newarray .int, 2) := by decide +kernel
theorem dX7_init_25 : decode cX7_init 25 = .ok (.putfield 18, 3) := by decide +kernel
theorem dX7_init_28 : decode cX7_init 28 = .ok (.aload_n 0, 1) := by decide +kernel
theorem dX7_init_29 : decode cX7_init 29 = .ok (.bipush 12, 2) := by decide +kernel
theorem dX7_init_31 : decode cX7_init 31 = .ok (.newarray .int, 2) := by decide +kernel
theorem dX7_init_33 : decode cX7_init 33 = .ok (.putfield 21, 3) := by decide +kernel
theorem dX7_init_36 : decode cX7_init 36 = .ok (.return_, 1) := by decide +kernel
theorem dX8_allDone_0 : decode cX8_allDone 0 = .ok (.iconst 0, 1) := by decide +kernel
theorem dX8_allDone_1 : decode cX8_allDone 1 = .ok (.istore_n 1, 1) := by decide +kernel
theorem dX8_allDone_2 : decode cX8_allDone 2 = .ok (.iconst 0, 1) := by decide +kernel
theorem dX8_allDone_3 : decode cX8_allDone 3 = .ok (.istore_n 2, 1) := by decide +kernel
theorem dX8_allDone_4 : decode cX8_allDone 4 = .ok (.iload_n 2, 1) := by decide +kernel
theorem dX8_allDone_5 : decode cX8_allDone 5 = .ok (.bipush 10, 2) := by decide +kernel
theorem dX8_allDone_7 : decode cX8_allDone 7 = .ok (.if_icmp .ge 18, 3) := by decide +kernel
theorem dX8_allDone_10 : decode cX8_allDone 10 = .ok (.iload_n 1, 1) := by decide +kernel
theorem dX8_allDone_11 : decode cX8_allDone 11 = .ok (.aload_n 0, 1) := by decide +kernel
theorem dX8_allDone_12 : decode cX8_allDone 12 = .ok (.getfield 25, 3) := by decide +kernel
theorem dX8_allDone_15 : decode cX8_allDone 15 = .ok (.iload_n 2, 1) := by decide +kernel
theorem dX8_allDone_16 : decode cX8_allDone 16 = .ok (.iaload, 1) := by decide +kernel
theorem dX8_allDone_17 : decode cX8_allDone 17 = .ok (.iadd, 1) := by decide +kernel
theorem dX8_allDone_18 : decode cX8_allDone 18 = .ok (.istore_n 1, 1) := by decide +kernel
theorem dX8_allDone_19 : decode cX8_allDone 19 = .ok (.iinc 2 1, 3) := by decide +kernel
theorem dX8_allDone_22 : decode cX8_allDone 22 = .ok (.goto (-18), 3) := by decide +kernel
theorem dX8_allDone_25 : decode cX8_allDone 25 = .ok (.iload_n 1, 1) := by decide +kernel
theorem dX8_allDone_26 : decode cX8_allDone 26 = .ok (.ireturn, 1) := by decide +kernel
theorem dX8_begin_0 : decode cX8_begin 0 = .ok (.aload_n 0, 1) := by decide +kernel
theorem dX8_begin_1 : decode cX8_begin 1 = .ok (.getfield 12, 3) := by decide +kernel
theorem dX8_begin_4 : decode cX8_begin 4 = .ok (.aload_n 1, 1) := by decide +kernel
theorem dX8_begin_5 : decode cX8_begin 5 = .ok (.invokevirtual 36, 3) := by decide +kernel
theorem dX8_begin_8 : decode cX8_begin 8 = .ok (.aload_n 0, 1) := by decide +kernel
theorem dX8_begin_9 : decode cX8_begin 9 = .ok (.getfield 18, 3) := by decide +kernel
theorem dX8_begin_12 : decode cX8_begin 12 = .ok (.iconst 0, 1) := by decide +kernel
theorem dX8_begin_13 : decode cX8_begin 13 = .ok (.invokestatic 40, 3) := by decide +kernel
theorem dX8_begin_16 : decode cX8_begin 16 = .ok (.aload_n 0, 1) := by decide +kernel
theorem dX8_begin_17 : decode cX8_begin 17 = .ok (.getfield 25, 3) := by decide +kernel
theorem dX8_begin_20 : decode cX8_begin 20 = .ok (.iconst 0, 1) := by decide +kernel
theorem dX8_begin_21 : decode cX8_begin 21 = .ok (.invokestatic 40, 3) := by decide +kernel
theorem dX8_begin_24 : decode cX8_begin 24 = .ok (.aload_n 0, 1) := by decide +kernel
theorem dX8_begin_25 : decode cX8_begin 25 = .ok (.iconst (-1), 1) := by decide +kernel
theorem dX8_begin_26 : decode cX8_begin 26 = .ok (.putfield 46, 3) := by decide +kernel
theorem dX8_begin_29 : decode cX8_begin 29 = .ok (.aload_n 0, 1) := by decide +kernel
theorem dX8_begin_30 : decode cX8_begin 30 = .ok (.iconst (-1), 1) := by decide +kernel
theorem dX8_begin_31 : decode cX8_begin 31 = .ok (.putfield 50, 3) := by decide +kernel
theorem dX8_begin_34 : decode cX8_begin 34 = .ok (.aload_n 0, 1) := by decide +kernel
theorem dX8_begin_35 : decode cX8_begin 35 = .ok (.aload_n 1, 1) := by decide +kernel
theorem dX8_begin_36 : decode cX8_begin 36 = .ok (.getfield 53, 3) := by decide +kernel
theorem dX8_begin_39 : decode cX8_begin 39 = .ok (.putfield 56, 3) := by decide +kernel
theorem dX8_begin_42 : decode cX8_begin 42 = .ok (.aload_n 0, 1) := by decide +kernel
theorem dX8_begin_43 : decode cX8_begin 43 = .ok (.iconst 0, 1) := by decide +kernel
theorem dX8_begin_44 : decode cX8_begin 44 = .ok (.putfield 59, 3) := by decide +kernel
theorem dX8_begin_47 : decode cX8_begin 47 = .ok (.aload_n 0, 1) := by decide +kernel
theorem dX8_begin_48 : decode cX8_begin 48 = .ok (.iconst 0, 1) := by decide +kernel
theorem dX8_begin_49 : decode cX8_begin 49 = .ok (.putfield 62, 3) := by decide +kernel
theorem dX8_begin_52 : decode cX8_begin 52 = .ok (.return_, 1) := by decide +kernel
theorem dX8_goThroughDay_0 : decode cX8_goThroughDay 0 = .ok (.aload_n 0, 1) := by decide +kernel
theorem dX8_goThroughDay_1 : decode cX8_goThroughDay 1 = .ok (.getfield 12, 3) := by decide +kernel
theorem dX8_goThroughDay_4 : decode cX8_goThroughDay 4 = .ok (.getfield 78, 3) := by decide +kernel
theorem dX8_goThroughDay_7 : decode cX8_goThroughDay 7 = .ok (.sipush 9999, 3) := by decide +kernel
theorem dX8_goThroughDay_10 : decode cX8_goThroughDay 10 = .ok (.if_icmp .lt 5, 3) := by decide +kernel
theorem dX8_goThroughDay_15 : decode cX8_goThroughDay 15 = .ok (.aload_n 0, 1) := by decide +kernel
theorem dX8_goThroughDay_16 : decode cX8_goThroughDay 16 = .ok (.getfield 12, 3) := by decide +kernel
theorem dX8_goThroughDay_19 : decode cX8_goThroughDay 19 = .ok (.sipush 25173, 3) := by decide +kernel
theorem dX8_goThroughDay_22 : decode cX8_goThroughDay 22 = .ok (.aload_n 0, 1) := by decide +kernel
theorem dX8_goThroughDay_23 : decode cX8_goThroughDay 23 = .ok (.getfield 12, 3) := by decide +kernel
theorem dX8_goThroughDay_26 : decode cX8_goThroughDay 26 = .ok (.getfield 81, 3) := by decide +kernel
theorem dX8_goThroughDay_29 : decode cX8_goThroughDay 29 = .ok (.imul, 1) := by decide +kernel
theorem dX8_goThroughDay_30 : decode cX8_goThroughDay 30 = .ok (.sipush 13849, 3) := by decide +kernel
theorem dX8_goThroughDay_33 : decode cX8_goThroughDay 33 = .ok (.iadd, 1) := by decide +kernel
theorem dX8_goThroughDay_34 : decode cX8_goThroughDay 34 = .ok (.ldc 84, 2) := by decide +kernel
theorem dX8_goThroughDay_36 : decode cX8_goThroughDay 36 = .ok (.irem, 1) := by decide +kernel
theorem dX8_goThroughDay_37 : decode cX8_goThroughDay 37 = .ok (.putfield 81, 3) := by decide +kernel
theorem dX8_goThroughDay_40 : decode cX8_goThroughDay 40 = .ok (.aload_n 0, 1) := by decide +kernel
theorem dX8_goThroughDay_41 : decode cX8_goThroughDay 41 = .ok (.getfield 12, 3) := by decide +kernel
theorem dX8_goThroughDay_44 : decode cX8_goThroughDay 44 = .ok (.getfield 81, 3) := by decide +kernel
theorem dX8_goThroughDay_47 : decode cX8_goThroughDay 47 = .ok (.bipush 10, 2) := by decide +kernel
theorem dX8_goThroughDay_49 : decode cX8_goThroughDay 49 = .ok (.irem, 1) := by decide +kernel
theorem dX8_goThroughDay_50 : decode cX8_goThroughDay 50 = .ok (.aload_n 0, 1) := by decide +kernel
theorem dX8_goThroughDay_51 : decode cX8_goThroughDay 51 = .ok (.getfield 28, 3) := by decide +kernel
theorem dX8_goThroughDay_54 : decode cX8_goThroughDay 54 = .ok (.getfield 85, 3) := by decide +kernel
theorem dX8_goThroughDay_57 : decode cX8_goThroughDay 57 = .ok (.if_icmp .ge 7, 3) := by decide +kernel
theorem dX8_goThroughDay_64 : decode cX8_goThroughDay 64 = .ok (.iconst 0, 1) := by decide +kernel
theorem dX8_goThroughDay_65 : decode cX8_goThroughDay 65 = .ok (.istore_n 1, 1) := by decide +kernel
theorem dX8_goThroughDay_66 : decode cX8_goThroughDay 66 = .ok (.aload_n 0, 1) := by decide +kernel
theorem dX8_goThroughDay_67 : decode cX8_goThroughDay 67 = .ok (.getfield 12, 3) := by decide +kernel
theorem dX8_goThroughDay_70 : decode cX8_goThroughDay 70 = .ok (.invokevirtual 90, 3) := by decide +kernel
theorem dX8_goThroughDay_73 : decode cX8_goThroughDay 73 = .ok (.istore_n 2, 1) := by decide +kernel
theorem dX8_goThroughDay_74 : decode cX8_goThroughDay 74 = .ok (.aload_n 0, 1) := by decide +kernel
theorem dX8_goThroughDay_75 : decode cX8_goThroughDay 75 = .ok (.getfield 32, 3) := by decide +kernel
theorem dX8_goThroughDay_78 : decode cX8_goThroughDay 78 = .ok (.aload_n 0, 1) := by decide +kernel
theorem dX8_goThroughDay_79 : decode cX8_goThroughDay 79 = .ok (.getfield 12, 3) := by decide +kernel
theorem dX8_goThroughDay_82 : decode cX8_goThroughDay 82 = .ok (.getfield 78, 3) := by decide +kernel
theorem dX8_goThroughDay_85 : decode cX8_goThroughDay 85 = .ok (.iload_n 1, 1) := by decide +kernel
theorem dX8_goThroughDay_86 : decode cX8_goThroughDay 86 = .ok (.ifCond .eq 7, 3) := by decide +kernel
theorem dX8_goThroughDay_93 : decode cX8_goThroughDay 93 = .ok (.iconst 0, 1) := by decide +kernel
theorem dX8_goThroughDay_94 : decode cX8_goThroughDay 94 = .ok (.iload_n 2, 1) := by decide +kernel
theorem dX8_goThroughDay_95 : decode cX8_goThroughDay 95 = .ok (.invokestatic 93, 3) := by decide +kernel
theorem dX8_goThroughDay_98 : decode cX8_goThroughDay 98 = .ok (.invokevirtual 99, 3) := by decide +kernel
theorem dX8_goThroughDay_101 : decode cX8_goThroughDay 101 = .ok (.aload_n 0, 1) := by decide +kernel
theorem dX8_goThroughDay_102 : decode cX8_goThroughDay 102 = .ok (.getfield 28, 3) := by decide +kernel
theorem dX8_goThroughDay_105 : decode cX8_goThroughDay 105 = .ok (.getfield 105, 3) := by decide +kernel
theorem dX8_goThroughDay_108 : decode cX8_goThroughDay 108 = .ok (.iload_n 2, 1) := by decide +kernel
theorem dX8_goThroughDay_109 : decode cX8_goThroughDay 109 = .ok (.iconst (-1), 1) := by decide +kernel
theorem dX8_goThroughDay_110 : decode cX8_goThroughDay 110 = .ok (.ixor, 1) := by decide +kernel
theorem dX8_goThroughDay_111 : decode cX8_goThroughDay 111 = .ok (.iand, 1) := by decide +kernel
theorem dX8_goThroughDay_112 : decode cX8_goThroughDay 112 = .ok (.istore_n 3, 1) := by decide +kernel
theorem dX8_goThroughDay_113 : decode cX8_goThroughDay 113 = .ok (.iconst 0, 1) := by decide +kernel
theorem dX8_goThroughDay_114 : decode cX8_goThroughDay 114 = .ok (.istore 4, 2) := by decide +kernel
theorem dX8_goThroughDay_116 : decode cX8_goThroughDay 116 = .ok (.iload 4, 2) := by decide +kernel
theorem dX8_goThroughDay_118 : decode cX8_goThroughDay 118 = .ok (.bipush 10, 2) := by decide +kernel
theorem dX8_goThroughDay_120 : decode cX8_goThroughDay 120 = .ok (.if_icmp .ge 35, 3) := by decide +kernel
theorem dX8_goThroughDay_123 : decode cX8_goThroughDay 123 = .ok (.aload_n 0, 1) := by decide +kernel
theorem dX8_goThroughDay_124 : decode cX8_goThroughDay 124 = .ok (.getfield 22, 3) := by decide +kernel
theorem dX8_goThroughDay_127 : decode cX8_goThroughDay 127 = .ok (.iload 4, 2) := by decide +kernel
theorem dX8_goThroughDay_129 : decode cX8_goThroughDay 129 = .ok (.iload_n 3, 1) := by decide +kernel
theorem dX8_goThroughDay_130 : decode cX8_goThroughDay 130 = .ok (.iload 4, 2) := by decide +kernel
theorem dX8_goThroughDay_132 : decode cX8_goThroughDay 132 = .ok (.invokestatic 108, 3) := by decide +kernel
theorem dX8_goThroughDay_135 : decode cX8_goThroughDay 135 = .ok (.ifCond .eq 12, 3) := by decide +kernel
theorem dX8_goThroughDay_147 : decode cX8_goThroughDay 147 = .ok (.iconst 0, 1) := by decide +kernel
theorem dX8_goThroughDay_148 : decode cX8_goThroughDay 148 = .ok (.iastore, 1) := by decide +kernel
theorem dX8_goThroughDay_149 : decode cX8_goThroughDay 149 = .ok (.iinc 4 1, 3) := by decide +kernel
theorem dX8_goThroughDay_152 : decode cX8_goThroughDay 152 = .ok (.goto (-36), 3) := by decide +kernel
theorem dX8_goThroughDay_155 : decode cX8_goThroughDay 155 = .ok (.iconst 0, 1) := by decide +kernel
theorem dX8_goThroughDay_156 : decode cX8_goThroughDay 156 = .ok (.istore 4, 2) := by decide +kernel
theorem dX8_goThroughDay_158 : decode cX8_goThroughDay 158 = .ok (.iconst 0, 1) := by decide +kernel
theorem dX8_goThroughDay_159 : decode cX8_goThroughDay 159 = .ok (.istore 5, 2) := by decide +kernel
theorem dX8_goThroughDay_161 : decode cX8_goThroughDay 161 = .ok (.iload 5, 2) := by decide +kernel
theorem dX8_goThroughDay_163 : decode cX8_goThroughDay 163 = .ok (.bipush 12, 2) := by decide +kernel
theorem dX8_goThroughDay_165 : decode cX8_goThroughDay 165 = .ok (.if_icmp .ge 39, 3) := by decide +kernel
theorem dX8_goThroughDay_168 : decode cX8_goThroughDay 168 = .ok (.iload 4, 2) := by decide +kernel
theorem dX8_goThroughDay_170 : decode cX8_goThroughDay 170 = .ok (.aload_n 0, 1) := by decide +kernel
theorem dX8_goThroughDay_171 : decode cX8_goThroughDay 171 = .ok (.getfield 28, 3) := by decide +kernel
theorem dX8_goThroughDay_174 : decode cX8_goThroughDay 174 = .ok (.getfield 115, 3) := by decide +kernel
theorem dX8_goThroughDay_177 : decode cX8_goThroughDay 177 = .ok (.iload 5, 2) := by decide +kernel
theorem dX8_goThroughDay_179 : decode cX8_goThroughDay 179 = .ok (.invokestatic 108, 3) := by decide +kernel
theorem dX8_goThroughDay_182 : decode cX8_goThroughDay 182 = .ok (.ifCond .eq 12, 3) := by decide +kernel
theorem dX8_goThroughDay_194 : decode cX8_goThroughDay 194 = .ok (.iconst 0, 1) := by decide +kernel
theorem dX8_goThroughDay_195 : decode cX8_goThroughDay 195 = .ok (.iadd, 1) := by decide +kernel
theorem dX8_goThroughDay_196 : decode cX8_goThroughDay 196 = .ok (.istore 4, 2) := by decide +kernel
theorem dX8_goThroughDay_198 : decode cX8_goThroughDay 198 = .ok (.iinc 5 1, 3) := by decide +kernel
theorem dX8_goThroughDay_201 : decode cX8_goThroughDay 201 = .ok (.goto (-40), 3) := by decide +kernel
theorem dX8_goThroughDay_204 : decode cX8_goThroughDay 204 = .ok (.aload_n 0, 1) := by decide +kernel
theorem dX8_goThroughDay_205 : decode cX8_goThroughDay 205 = .ok (.dup, 1) := by decide +kernel
theorem dX8_goThroughDay_206 : decode cX8_goThroughDay 206 = .ok (.getfield 59, 3) := by decide +kernel
theorem dX8_goThroughDay_209 : decode cX8_goThroughDay 209 = .ok (.iload_n 1, 1) := by decide +kernel
theorem dX8_goThroughDay_210 : decode cX8_goThroughDay 210 = .ok (.ifCond .eq 7, 3) := by decide +kernel
theorem dX8_goThroughDay_217 : decode cX8_goThroughDay 217 = .ok (.iconst 0, 1) := by decide +kernel
theorem dX8_goThroughDay_218 : decode cX8_goThroughDay 218 = .ok (.iadd, 1) := by decide +kernel
theorem dX8_goThroughDay_219 : decode cX8_goThroughDay 219 = .ok (.putfield 59, 3) := by decide +kernel
theorem dX8_goThroughDay_222 : decode cX8_goThroughDay 222 = .ok (.aload_n 0, 1) := by decide +kernel
theorem dX8_goThroughDay_223 : decode cX8_goThroughDay 223 = .ok (.dup, 1) := by decide +kernel
theorem dX8_goThroughDay_224 : decode cX8_goThroughDay 224 = .ok (.getfield 62, 3) := by decide +kernel
theorem dX8_goThroughDay_227 : decode cX8_goThroughDay 227 = .ok (.iload 4, 2) := by decide +kernel
theorem dX8_goThroughDay_229 : decode cX8_goThroughDay 229 = .ok (.ifCond .ne 7, 3) := by decide +kernel
theorem dX8_goThroughDay_232 : decode cX8_goThroughDay 232 = .ok (.iconst 1, 1) := by decide +kernel
theorem dX8_goThroughDay_233 : decode cX8_goThroughDay 233 = .ok (.goto 4, 3) := by decide +kernel
theorem dX8_goThroughDay_237 : decode cX8_goThroughDay 237 = .ok (.iadd, 1) := by decide +kernel
theorem dX8_goThroughDay_238 : decode cX8_goThroughDay 238 = .ok (.putfield 62, 3) := by decide +kernel
theorem dX8_goThroughDay_241 : decode cX8_goThroughDay 241 = .ok (.aload_n 0, 1) := by decide +kernel
theorem dX8_goThroughDay_242 : decode cX8_goThroughDay 242 = .ok (.getfield 12, 3) := by decide +kernel
theorem dX8_goThroughDay_245 : decode cX8_goThroughDay 245 = .ok (.dup, 1) := by decide +kernel
theorem dX8_goThroughDay_246 : decode cX8_goThroughDay 246 = .ok (.getfield 78, 3) := by decide +kernel
theorem dX8_goThroughDay_249 : decode cX8_goThroughDay 249 = .ok (.iconst 1, 1) := by decide +kernel
theorem dX8_goThroughDay_250 : decode cX8_goThroughDay 250 = .ok (.iadd, 1) := by decide +kernel
theorem dX8_goThroughDay_251 : decode cX8_goThroughDay 251 = .ok (.putfield 78, 3) := by decide +kernel
theorem dX8_goThroughDay_254 : decode cX8_goThroughDay 254 = .ok (.iload 4, 2) := by decide +kernel
theorem dX8_goThroughDay_256 : decode cX8_goThroughDay 256 = .ok (.ireturn, 1) := by decide +kernel
theorem dX8_init_0 : decode cX8_init 0 = .ok (.aload_n 0, 1) := by decide +kernel
theorem dX8_init_1 : decode cX8_init 1 = .ok (.invokespecial 3, 3) := by decide +kernel
theorem dX8_init_4 : decode cX8_init 4 = .ok (.aload_n 0, 1) := by decide +kernel
theorem dX8_init_5 : decode cX8_init 5 = .ok (.new 9, 3) := by decide +kernel
theorem dX8_init_8 : decode cX8_init 8 = .ok (.dup, 1) := by decide +kernel
theorem dX8_init_9 : decode cX8_init 9 = .ok (.invokespecial 11, 3) := by decide +kernel
theorem dX8_init_12 : decode cX8_init 12 = .ok (.putfield 12, 3) := by decide +kernel
theorem dX8_init_15 : decode cX8_init 15 = .ok (.aload_n 0, 1) := by decide +kernel
theorem dX8_init_16 : decode cX8_init 16 = .ok (.bipush 10, 2) := by decide +kernel
theorem dX8_init_18 : decode cX8_init 18 = .ok (.newarray .int, 2) := by decide +kernel
theorem dX8_init_20 : decode cX8_init 20 = .ok (.putfield 18, 3) := by decide +kernel
theorem dX8_init_23 : decode cX8_init 23 = .ok (.aload_n 0, 1) := by decide +kernel
