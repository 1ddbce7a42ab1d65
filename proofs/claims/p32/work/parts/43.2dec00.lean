theorem dX10_chore_0 : decode cX10_chore 0 = .ok (.iload_n 1, 1) := by decide +kernel
theorem dX10_chore_1 : decode cX10_chore 1 = .ok (.iconst 0, 1) := by decide +kernel
theorem dX10_chore_2 : decode cX10_chore 2 = .ok (.bipush 11, 2) := by decide +kernel
theorem dX10_chore_4 : decode cX10_chore 4 = .ok (.invokestatic 157, 3) := by decide +kernel
theorem dX10_chore_7 : decode cX10_chore 7 = .ok (.ifCond .eq 13, 3) := by decide +kernel
theorem dX10_chore_10 : decode cX10_chore 10 = .ok (.iload_n 2, 1) := by decide +kernel
theorem dX10_chore_11 : decode cX10_chore 11 = .ok (.iconst 0, 1) := by decide +kernel
theorem dX10_chore_12 : decode cX10_chore 12 = .ok (.bipush 20, 2) := by decide +kernel
theorem dX10_chore_14 : decode cX10_chore 14 = .ok (.invokestatic 157, 3) := by decide +kernel
theorem dX10_chore_17 : decode cX10_chore 17 = .ok (.ifCond .ne 5, 3) := by decide +kernel
theorem dX10_chore_20 : decode cX10_chore 20 = .ok (.iconst 0, 1) := by decide +kernel
theorem dX10_chore_21 : decode cX10_chore 21 = .ok (.ireturn, 1) := by decide +kernel
theorem dX10_chore_22 : decode cX10_chore 22 = .ok (.aload_n 0, 1) := by decide +kernel
theorem dX10_chore_23 : decode cX10_chore 23 = .ok (.aload_n 0, 1) := by decide +kernel
theorem dX10_chore_24 : decode cX10_chore 24 = .ok (.getfield 154, 3) := by decide +kernel
theorem dX10_chore_27 : decode cX10_chore 27 = .ok (.iconst 1, 1) := by decide +kernel
theorem dX10_chore_28 : decode cX10_chore 28 = .ok (.iload_n 1, 1) := by decide +kernel
theorem dX10_chore_29 : decode cX10_chore 29 = .ok (.ishl, 1) := by decide +kernel
theorem dX10_chore_30 : decode cX10_chore 30 = .ok (.ior, 1) := by decide +kernel
theorem dX10_chore_31 : decode cX10_chore 31 = .ok (.putfield 154, 3) := by decide +kernel
theorem dX10_chore_34 : decode cX10_chore 34 = .ok (.aload_n 0, 1) := by decide +kernel
theorem dX10_chore_35 : decode cX10_chore 35 = .ok (.getfield 34, 3) := by decide +kernel
theorem dX10_chore_38 : decode cX10_chore 38 = .ok (.iload_n 1, 1) := by decide +kernel
theorem dX10_chore_39 : decode cX10_chore 39 = .ok (.iload_n 2, 1) := by decide +kernel
theorem dX10_chore_40 : decode cX10_chore 40 = .ok (.iastore, 1) := by decide +kernel
theorem dX10_chore_41 : decode cX10_chore 41 = .ok (.aload_n 0, 1) := by decide +kernel
theorem dX10_chore_42 : decode cX10_chore 42 = .ok (.getfield 7, 3) := by decide +kernel
theorem dX10_chore_45 : decode cX10_chore 45 = .ok (.iload_n 1, 1) := by decide +kernel
theorem dX10_chore_46 : decode cX10_chore 46 = .ok (.iconst 0, 1) := by decide +kernel
theorem dX10_chore_47 : decode cX10_chore 47 = .ok (.iastore, 1) := by decide +kernel
theorem dX10_chore_48 : decode cX10_chore 48 = .ok (.iconst 1, 1) := by decide +kernel
theorem dX10_chore_49 : decode cX10_chore 49 = .ok (.ireturn, 1) := by decide +kernel
theorem dX10_cost_0 : decode cX10_cost 0 = .ok (.iload_n 1, 1) := by decide +kernel
theorem dX10_cost_1 : decode cX10_cost 1 = .ok (.iconst 0, 1) := by decide +kernel
theorem dX10_cost_2 : decode cX10_cost 2 = .ok (.sipush 1023, 3) := by decide +kernel
theorem dX10_cost_5 : decode cX10_cost 5 = .ok (.invokestatic 157, 3) := by decide +kernel
theorem dX10_cost_8 : decode cX10_cost 8 = .ok (.ifCond .eq 21, 3) := by decide +kernel
theorem dX10_cost_11 : decode cX10_cost 11 = .ok (.iload_n 1, 1) := by decide +kernel
theorem dX10_cost_12 : decode cX10_cost 12 = .ok (.aload_n 0, 1) := by decide +kernel
theorem dX10_cost_13 : decode cX10_cost 13 = .ok (.getfield 146, 3) := by decide +kernel
theorem dX10_cost_16 : decode cX10_cost 16 = .ok (.iconst (-1), 1) := by decide +kernel
theorem dX10_cost_17 : decode cX10_cost 17 = .ok (.ixor, 1) := by decide +kernel
theorem dX10_cost_18 : decode cX10_cost 18 = .ok (.iand, 1) := by decide +kernel
theorem dX10_cost_19 : decode cX10_cost 19 = .ok (.ifCond .ne 10, 3) := by decide +kernel
theorem dX10_cost_22 : decode cX10_cost 22 = .ok (.iload_n 2, 1) := by decide +kernel
theorem dX10_cost_23 : decode cX10_cost 23 = .ok (.invokestatic 366, 3) := by decide +kernel
theorem dX10_cost_26 : decode cX10_cost 26 = .ok (.ifCond .ne 5, 3) := by decide +kernel
theorem dX10_cost_29 : decode cX10_cost 29 = .ok (.iconst (-1), 1) := by decide +kernel
theorem dX10_cost_30 : decode cX10_cost 30 = .ok (.ireturn, 1) := by decide +kernel
theorem dX10_cost_31 : decode cX10_cost 31 = .ok (.aload_n 0, 1) := by decide +kernel
theorem dX10_cost_32 : decode cX10_cost 32 = .ok (.iload_n 1, 1) := by decide +kernel
theorem dX10_cost_33 : decode cX10_cost 33 = .ok (.iload_n 2, 1) := by decide +kernel
theorem dX10_cost_34 : decode cX10_cost 34 = .ok (.invokevirtual 378, 3) := by decide +kernel
theorem dX10_cost_37 : decode cX10_cost 37 = .ok (.ireturn, 1) := by decide +kernel
theorem dX10_costOf_0 : decode cX10_costOf 0 = .ok (.aload_n 0, 1) := by decide +kernel
theorem dX10_costOf_1 : decode cX10_costOf 1 = .ok (.iload_n 1, 1) := by decide +kernel
theorem dX10_costOf_2 : decode cX10_costOf 2 = .ok (.invokevirtual 369, 3) := by decide +kernel
theorem dX10_costOf_5 : decode cX10_costOf 5 = .ok (.aload_n 0, 1) := by decide +kernel
theorem dX10_costOf_6 : decode cX10_costOf 6 = .ok (.iload_n 2, 1) := by decide +kernel
theorem dX10_costOf_7 : decode cX10_costOf 7 = .ok (.invokevirtual 375, 3) := by decide +kernel
theorem dX10_costOf_10 : decode cX10_costOf 10 = .ok (.ireturn, 1) := by decide +kernel
theorem dX10_days_0 : decode cX10_days 0 = .ok (.iload_n 1, 1) := by decide +kernel
theorem dX10_days_1 : decode cX10_days 1 = .ok (.invokestatic 366, 3) := by decide +kernel
theorem dX10_days_4 : decode cX10_days 4 = .ok (.ifCond .ne 5, 3) := by decide +kernel
theorem dX10_days_7 : decode cX10_days 7 = .ok (.iconst (-1), 1) := by decide +kernel
theorem dX10_days_8 : decode cX10_days 8 = .ok (.ireturn, 1) := by decide +kernel
theorem dX10_days_9 : decode cX10_days 9 = .ok (.aload_n 0, 1) := by decide +kernel
theorem dX10_days_10 : decode cX10_days 10 = .ok (.sipush 1023, 3) := by decide +kernel
theorem dX10_days_13 : decode cX10_days 13 = .ok (.invokevirtual 369, 3) := by decide +kernel
theorem dX10_days_16 : decode cX10_days 16 = .ok (.aload_n 0, 1) := by decide +kernel
theorem dX10_days_17 : decode cX10_days 17 = .ok (.getfield 7, 3) := by decide +kernel
theorem dX10_days_20 : decode cX10_days 20 = .ok (.bipush 12, 2) := by decide +kernel
theorem dX10_days_22 : decode cX10_days 22 = .ok (.iaload, 1) := by decide +kernel
theorem dX10_days_23 : decode cX10_days 23 = .ok (.istore_n 2, 1) := by decide +kernel
theorem dX10_days_24 : decode cX10_days 24 = .ok (.aload_n 0, 1) := by decide +kernel
theorem dX10_days_25 : decode cX10_days 25 = .ok (.iload_n 1, 1) := by decide +kernel
theorem dX10_days_26 : decode cX10_days 26 = .ok (.invokevirtual 363, 3) := by decide +kernel
theorem dX10_days_29 : decode cX10_days 29 = .ok (.aload_n 0, 1) := by decide +kernel
theorem dX10_days_30 : decode cX10_days 30 = .ok (.getfield 7, 3) := by decide +kernel
theorem dX10_days_33 : decode cX10_days 33 = .ok (.bipush 12, 2) := by decide +kernel
theorem dX10_days_35 : decode cX10_days 35 = .ok (.iaload, 1) := by decide +kernel
theorem dX10_days_36 : decode cX10_days 36 = .ok (.iload_n 2, 1) := by decide +kernel
theorem dX10_days_37 : decode cX10_days 37 = .ok (.isub, 1) := by decide +kernel
theorem dX10_days_38 : decode cX10_days 38 = .ok (.ireturn, 1) := by decide +kernel
theorem dX10_feed_0 : decode cX10_feed 0 = .ok (.aload_n 0, 1) := by decide +kernel
theorem dX10_feed_1 : decode cX10_feed 1 = .ok (.getfield 164, 3) := by decide +kernel
theorem dX10_feed_4 : decode cX10_feed 4 = .ok (.bipush 20, 2) := by decide +kernel
theorem dX10_feed_6 : decode cX10_feed 6 = .ok (.iadd, 1) := by decide +kernel
theorem dX10_feed_7 : decode cX10_feed 7 = .ok (.sipush 260, 3) := by decide +kernel
theorem dX10_feed_10 : decode cX10_feed 10 = .ok (.if_icmp .le 5, 3) := by decide +kernel
theorem dX10_feed_13 : decode cX10_feed 13 = .ok (.iconst (-1), 1) := by decide +kernel
theorem dX10_feed_14 : decode cX10_feed 14 = .ok (.ireturn, 1) := by decide +kernel
theorem dX10_feed_15 : decode cX10_feed 15 = .ok (.aload_n 0, 1) := by decide +kernel
theorem dX10_feed_16 : decode cX10_feed 16 = .ok (.iload_n 1, 1) := by decide +kernel
theorem dX10_feed_17 : decode cX10_feed 17 = .ok (.invokevirtual 167, 3) := by decide +kernel
theorem dX10_feed_20 : decode cX10_feed 20 = .ok (.aload_n 0, 1) := by decide +kernel
theorem dX10_feed_21 : decode cX10_feed 21 = .ok (.iload_n 2, 1) := by decide +kernel
theorem dX10_feed_22 : decode cX10_feed 22 = .ok (.invokevirtual 167, 3) := by decide +kernel
theorem dX10_feed_25 : decode cX10_feed 25 = .ok (.aload_n 0, 1) := by decide +kernel
theorem dX10_feed_26 : decode cX10_feed 26 = .ok (.iload_n 3, 1) := by decide +kernel
theorem dX10_feed_27 : decode cX10_feed 27 = .ok (.invokevirtual 167, 3) := by decide +kernel
theorem dX10_feed_30 : decode cX10_feed 30 = .ok (.aload_n 0, 1) := by decide +kernel
theorem dX10_feed_31 : decode cX10_feed 31 = .ok (.iload 4, 2) := by decide +kernel
theorem dX10_feed_33 : decode cX10_feed 33 = .ok (.invokevirtual 167, 3) := by decide +kernel
theorem dX10_feed_36 : decode cX10_feed 36 = .ok (.aload_n 0, 1) := by decide +kernel
theorem dX10_feed_37 : decode cX10_feed 37 = .ok (.iload 5, 2) := by decide +kernel
theorem dX10_feed_39 : decode cX10_feed 39 = .ok (.invokevirtual 167, 3) := by decide +kernel
theorem dX10_feed_42 : decode cX10_feed 42 = .ok (.aload_n 0, 1) := by decide +kernel
theorem dX10_feed_43 : decode cX10_feed 43 = .ok (.getfield 164, 3) := by decide +kernel
theorem dX10_feed_46 : decode cX10_feed 46 = .ok (.ireturn, 1) := by decide +kernel
theorem dX10_home_0 : decode cX10_home 0 = .ok (.aload_n 0, 1) := by decide +kernel
theorem dX10_home_1 : decode cX10_home 1 = .ok (.invokevirtual 294, 3) := by decide +kernel
theorem dX10_home_4 : decode cX10_home 4 = .ok (.invokestatic 297, 3) := by decide +kernel
theorem dX10_home_7 : decode cX10_home 7 = .ok (.istore_n 1, 1) := by decide +kernel
theorem dX10_home_8 : decode cX10_home 8 = .ok (.iconst 0, 1) := by decide +kernel
theorem dX10_home_9 : decode cX10_home 9 = .ok (.istore_n 2, 1) := by decide +kernel
theorem dX10_home_10 : decode cX10_home 10 = .ok (.iload_n 2, 1) := by decide +kernel
theorem dX10_home_11 : decode cX10_home 11 = .ok (.bipush 10, 2) := by decide +kernel
theorem dX10_home_13 : decode cX10_home 13 = .ok (.if_icmp .ge 17, 3) := by decide +kernel
theorem dX10_home_16 : decode cX10_home 16 = .ok (.aload_n 0, 1) := by decide +kernel
theorem dX10_home_17 : decode cX10_home 17 = .ok (.getfield 28, 3) := by decide +kernel
theorem dX10_home_20 : decode cX10_home 20 = .ok (.iload_n 2, 1) := by decide +kernel
theorem dX10_home_21 : decode cX10_home 21 = .ok (.bipush (-2), 2) := by decide +kernel
theorem dX10_home_23 : decode cX10_home 23 = .ok (.iastore, 1) := by decide +kernel
theorem dX10_home_24 : decode cX10_home 24 = .ok (.iinc 2 1, 3) := by decide +kernel
theorem dX10_home_27 : decode cX10_home 27 = .ok (.goto (-17), 3) := by decide +kernel
theorem dX10_home_30 : decode cX10_home 30 = .ok (.iload_n 1, 1) := by decide +kernel
theorem dX10_home_31 : decode cX10_home 31 = .ok (.ireturn, 1) := by decide +kernel
theorem dX10_isGoer_0 : decode cX10_isGoer 0 = .ok (.aload_n 0, 1) := by decide +kernel
theorem dX10_isGoer_1 : decode cX10_isGoer 1 = .ok (.iload_n 1, 1) := by decide +kernel
theorem dX10_isGoer_2 : decode cX10_isGoer 2 = .ok (.invokevirtual 307, 3) := by decide +kernel
theorem dX10_isGoer_5 : decode cX10_isGoer 5 = .ok (.ifCond .eq 15, 3) := by decide +kernel
theorem dX10_isGoer_8 : decode cX10_isGoer 8 = .ok (.aload_n 0, 1) := by decide +kernel
theorem dX10_isGoer_9 : decode cX10_isGoer 9 = .ok (.iload_n 1, 1) := by decide +kernel
theorem dX10_isGoer_10 : decode cX10_isGoer 10 = .ok (.invokevirtual 291, 3) := by decide +kernel
theorem dX10_isGoer_13 : decode cX10_isGoer 13 = .ok (.ifCond .eq 7, 3) := by decide +kernel
theorem dX10_isGoer_16 : decode cX10_isGoer 16 = .ok (.iconst 1, 1) := by decide +kernel
theorem dX10_isGoer_17 : decode cX10_isGoer 17 = .ok (.goto 4, 3) := by decide +kernel
theorem dX10_isGoer_20 : decode cX10_isGoer 20 = .ok (.iconst 0, 1) := by decide +kernel
theorem dX10_isGoer_21 : decode cX10_isGoer 21 = .ok (.ireturn, 1) := by decide +kernel
theorem dX10_keep_0 : decode cX10_keep 0 = .ok (.aload_n 0, 1) := by decide +kernel
theorem dX10_keep_1 : decode cX10_keep 1 = .ok (.iconst 1, 1) := by decide +kernel
theorem dX10_keep_2 : decode cX10_keep 2 = .ok (.putfield 435, 3) := by decide +kernel
theorem dX10_keep_5 : decode cX10_keep 5 = .ok (.aload_n 0, 1) := by decide +kernel
theorem dX10_keep_6 : decode cX10_keep 6 = .ok (.getfield 7, 3) := by decide +kernel
theorem dX10_keep_9 : decode cX10_keep 9 = .ok (.aload_n 0, 1) := by decide +kernel
theorem dX10_keep_10 : decode cX10_keep 10 = .ok (.getfield 16, 3) := by decide +kernel
theorem dX10_keep_13 : decode cX10_keep 13 = .ok (.bipush 15, 2) := by decide +kernel
theorem dX10_keep_15 : decode cX10_keep 15 = .ok (.invokestatic 359, 3) := by decide +kernel
theorem dX10_keep_18 : decode cX10_keep 18 = .ok (.aload_n 0, 1) := by decide +kernel
theorem dX10_keep_19 : decode cX10_keep 19 = .ok (.getfield 28, 3) := by decide +kernel
theorem dX10_keep_22 : decode cX10_keep 22 = .ok (.aload_n 0, 1) := by decide +kernel
theorem dX10_keep_23 : decode cX10_keep 23 = .ok (.getfield 19, 3) := by decide +kernel
theorem dX10_keep_26 : decode cX10_keep 26 = .ok (.bipush 10, 2) := by decide +kernel
theorem dX10_keep_28 : decode cX10_keep 28 = .ok (.invokestatic 359, 3) := by decide +kernel
theorem dX10_keep_31 : decode cX10_keep 31 = .ok (.aload_n 0, 1) := by decide +kernel
theorem dX10_keep_32 : decode cX10_keep 32 = .ok (.getfield 31, 3) := by decide +kernel
theorem dX10_keep_35 : decode cX10_keep 35 = .ok (.aload_n 0, 1) := by decide +kernel
theorem dX10_keep_36 : decode cX10_keep 36 = .ok (.getfield 22, 3) := by decide +kernel
theorem dX10_keep_39 : decode cX10_keep 39 = .ok (.bipush 10, 2) := by decide +kernel
theorem dX10_keep_41 : decode cX10_keep 41 = .ok (.invokestatic 359, 3) := by decide +kernel
theorem dX10_keep_44 : decode cX10_keep 44 = .ok (.aload_n 0, 1) := by decide +kernel
theorem dX10_keep_45 : decode cX10_keep 45 = .ok (.getfield 7, 3) := by decide +kernel
theorem dX10_keep_48 : decode cX10_keep 48 = .ok (.bipush 13, 2) := by decide +kernel
theorem dX10_keep_50 : decode cX10_keep 50 = .ok (.iaload, 1) := by decide +kernel
theorem dX10_keep_51 : decode cX10_keep 51 = .ok (.ireturn, 1) := by decide +kernel
theorem dX10_laysGoing_0 : decode cX10_laysGoing 0 = .ok (.aload_n 0, 1) := by decide +kernel
theorem dX10_laysGoing_1 : decode cX10_laysGoing 1 = .ok (.invokevirtual 300, 3) := by decide +kernel
theorem dX10_laysGoing_4 : decode cX10_laysGoing 4 = .ok (.iconst 0, 1) := by decide +kernel
theorem dX10_laysGoing_5 : decode cX10_laysGoing 5 = .ok (.istore_n 2, 1) := by decide +kernel
theorem dX10_laysGoing_6 : decode cX10_laysGoing 6 = .ok (.iload_n 2, 1) := by decide +kernel
theorem dX10_laysGoing_7 : decode cX10_laysGoing 7 = .ok (.bipush 10, 2) := by decide +kernel
theorem dX10_laysGoing_9 : decode cX10_laysGoing 9 = .ok (.if_icmp .ge 42, 3) := by decide +kernel
theorem dX10_laysGoing_12 : decode cX10_laysGoing 12 = .ok (.iload_n 1, 1) := by decide +kernel
theorem dX10_laysGoing_13 : decode cX10_laysGoing 13 = .ok (.iload_n 2, 1) := by decide +kernel
theorem dX10_laysGoing_14 : decode cX10_laysGoing 14 = .ok (.invokestatic 150, 3) := by decide +kernel
theorem dX10_laysGoing_17 : decode cX10_laysGoing 17 = .ok (.ifCond .eq 28, 3) := by decide +kernel
theorem dX10_laysGoing_20 : decode cX10_laysGoing 20 = .ok (.aload_n 0, 1) := by decide +kernel
theorem dX10_laysGoing_21 : decode cX10_laysGoing 21 = .ok (.iload_n 2, 1) := by decide +kernel
theorem dX10_laysGoing_22 : decode cX10_laysGoing 22 = .ok (.invokevirtual 291, 3) := by decide +kernel
theorem dX10_laysGoing_25 : decode cX10_laysGoing 25 = .ok (.ifCond .eq 20, 3) := by decide +kernel
theorem dX10_laysGoing_28 : decode cX10_laysGoing 28 = .ok (.aload_n 0, 1) := by decide +kernel
theorem dX10_laysGoing_29 : decode cX10_laysGoing 29 = .ok (.iload_n 2, 1) := by decide +kernel
theorem dX10_laysGoing_30 : decode cX10_laysGoing 30 = .ok (.aload_n 0, 1) := by decide +kernel
theorem dX10_laysGoing_31 : decode cX10_laysGoing 31 = .ok (.getfield 28, 3) := by decide +kernel
theorem dX10_laysGoing_34 : decode cX10_laysGoing 34 = .ok (.iload_n 2, 1) := by decide +kernel
theorem dX10_laysGoing_35 : decode cX10_laysGoing 35 = .ok (.iaload, 1) := by decide +kernel
theorem dX10_laysGoing_36 : decode cX10_laysGoing 36 = .ok (.aload_n 0, 1) := by decide +kernel
theorem dX10_laysGoing_37 : decode cX10_laysGoing 37 = .ok (.getfield 31, 3) := by decide +kernel
theorem dX10_laysGoing_40 : decode cX10_laysGoing 40 = .ok (.iload_n 2, 1) := by decide +kernel
theorem dX10_laysGoing_41 : decode cX10_laysGoing 41 = .ok (.iaload, 1) := by decide +kernel
theorem dX10_laysGoing_42 : decode cX10_laysGoing 42 = .ok (.invokevirtual 303, 3) := by decide +kernel
theorem dX10_laysGoing_45 : decode cX10_laysGoing 45 = .ok (.iinc 2 1, 3) := by decide +kernel
theorem dX10_laysGoing_48 : decode cX10_laysGoing 48 = .ok (.goto (-42), 3) := by decide +kernel
theorem dX10_laysGoing_51 : decode cX10_laysGoing 51 = .ok (.return_, 1) := by decide +kernel
theorem dX10_laysNobody_0 : decode cX10_laysNobody 0 = .ok (.iconst 0, 1) := by decide +kernel
theorem dX10_laysNobody_1 : decode cX10_laysNobody 1 = .ok (.istore_n 1, 1) := by decide +kernel
theorem dX10_laysNobody_2 : decode cX10_laysNobody 2 = .ok (.iload_n 1, 1) := by decide +kernel
theorem dX10_laysNobody_3 : decode cX10_laysNobody 3 = .ok (.bipush 10, 2) := by decide +kernel
theorem dX10_laysNobody_5 : decode cX10_laysNobody 5 = .ok (.if_icmp .ge 48, 3) := by decide +kernel
theorem dX10_laysNobody_8 : decode cX10_laysNobody 8 = .ok (.aload_n 0, 1) := by decide +kernel
theorem dX10_laysNobody_9 : decode cX10_laysNobody 9 = .ok (.getfield 101, 3) := by decide +kernel
theorem dX10_laysNobody_12 : decode cX10_laysNobody 12 = .ok (.iload_n 1, 1) := by decide +kernel
theorem dX10_laysNobody_13 : decode cX10_laysNobody 13 = .ok (.bipush (-2), 2) := by decide +kernel
theorem dX10_laysNobody_15 : decode cX10_laysNobody 15 = .ok (.iastore, 1) := by decide +kernel
theorem dX10_laysNobody_16 : decode cX10_laysNobody 16 = .ok (.aload_n 0, 1) := by decide +kernel
theorem dX10_laysNobody_17 : decode cX10_laysNobody 17 = .ok (.getfield 104, 3) := by decide +kernel
theorem dX10_laysNobody_20 : decode cX10_laysNobody 20 = .ok (.iload_n 1, 1) := by decide +kernel
theorem dX10_laysNobody_21 : decode cX10_laysNobody 21 = .ok (.bipush (-3), 2) := by decide +kernel
theorem dX10_laysNobody_23 : decode cX10_laysNobody 23 = .ok (.iastore, 1) := by decide +kernel
theorem dX10_laysNobody_24 : decode cX10_laysNobody 24 = .ok (.aload_n 0, 1) := by decide +kernel
theorem dX10_laysNobody_25 : decode cX10_laysNobody 25 = .ok (.getfield 107, 3) := by decide +kernel
theorem dX10_laysNobody_28 : decode cX10_laysNobody 28 = .ok (.iload_n 1, 1) := by decide +kernel
theorem dX10_laysNobody_29 : decode cX10_laysNobody 29 = .ok (.bipush (-2), 2) := by decide +kernel
theorem dX10_laysNobody_31 : decode cX10_laysNobody 31 = .ok (.iastore, 1) := by decide +kernel
theorem dX10_laysNobody_32 : decode cX10_laysNobody 32 = .ok (.aload_n 0, 1) := by decide +kernel
theorem dX10_laysNobody_33 : decode cX10_laysNobody 33 = .ok (.getfield 110, 3) := by decide +kernel
theorem dX10_laysNobody_36 : decode cX10_laysNobody 36 = .ok (.iload_n 1, 1) := by decide +kernel
theorem dX10_laysNobody_37 : decode cX10_laysNobody 37 = .ok (.bipush (-3), 2) := by decide +kernel
theorem dX10_laysNobody_39 : decode cX10_laysNobody 39 = .ok (.iastore, 1) := by decide +kernel
theorem dX10_laysNobody_40 : decode cX10_laysNobody 40 = .ok (.aload_n 0, 1) := by decide +kernel
theorem dX10_laysNobody_41 : decode cX10_laysNobody 41 = .ok (.getfield 113, 3) := by decide +kernel
theorem dX10_laysNobody_44 : decode cX10_laysNobody 44 = .ok (.iload_n 1, 1) := by decide +kernel
theorem dX10_laysNobody_45 : decode cX10_laysNobody 45 = .ok (.iconst 0, 1) := by decide +kernel
theorem dX10_laysNobody_46 : decode cX10_laysNobody 46 = .ok (.iastore, 1) := by decide +kernel
theorem dX10_laysNobody_47 : decode cX10_laysNobody 47 = .ok (.iinc 1 1, 3) := by decide +kernel
theorem dX10_laysNobody_50 : decode cX10_laysNobody 50 = .ok (.goto (-48), 3) := by decide +kernel
theorem dX10_laysNobody_53 : decode cX10_laysNobody 53 = .ok (.iconst 0, 1) := by decide +kernel
theorem dX10_laysNobody_54 : decode cX10_laysNobody 54 = .ok (.istore_n 1, 1) := by decide +kernel
theorem dX10_laysNobody_55 : decode cX10_laysNobody 55 = .ok (.iload_n 1, 1) := by decide +kernel
theorem dX10_laysNobody_56 : decode cX10_laysNobody 56 = .ok (.bipush 12, 2) := by decide +kernel
theorem dX10_laysNobody_58 : decode cX10_laysNobody 58 = .ok (.if_icmp .ge 16, 3) := by decide +kernel
theorem dX10_laysNobody_61 : decode cX10_laysNobody 61 = .ok (.aload_n 0, 1) := by decide +kernel
theorem dX10_laysNobody_62 : decode cX10_laysNobody 62 = .ok (.getfield 116, 3) := by decide +kernel
theorem dX10_laysNobody_65 : decode cX10_laysNobody 65 = .ok (.iload_n 1, 1) := by decide +kernel
theorem dX10_laysNobody_66 : decode cX10_laysNobody 66 = .ok (.iconst (-1), 1) := by decide +kernel
theorem dX10_laysNobody_67 : decode cX10_laysNobody 67 = .ok (.iastore, 1) := by decide +kernel
theorem dX10_laysNobody_68 : decode cX10_laysNobody 68 = .ok (.iinc 1 1, 3) := by decide +kernel
theorem dX10_laysNobody_71 : decode cX10_laysNobody 71 = .ok (.goto (-16), 3) := by decide +kernel
theorem dX10_laysNobody_74 : decode cX10_laysNobody 74 = .ok (.return_, 1) := by decide +kernel
theorem dX10_missed_0 : decode cX10_missed 0 = .ok (.aload_n 0, 1) := by decide +kernel
theorem dX10_missed_1 : decode cX10_missed 1 = .ok (.iload_n 1, 1) := by decide +kernel
theorem dX10_missed_2 : decode cX10_missed 2 = .ok (.invokevirtual 381, 3) := by decide +kernel
theorem dX10_missed_5 : decode cX10_missed 5 = .ok (.ifCond .eq 28, 3) := by decide +kernel
theorem dX10_missed_8 : decode cX10_missed 8 = .ok (.iload_n 2, 1) := by decide +kernel
theorem dX10_missed_9 : decode cX10_missed 9 = .ok (.invokestatic 366, 3) := by decide +kernel
theorem dX10_missed_12 : decode cX10_missed 12 = .ok (.ifCond .eq 21, 3) := by decide +kernel
theorem dX10_missed_15 : decode cX10_missed 15 = .ok (.aload_n 0, 1) := by decide +kernel
theorem dX10_missed_16 : decode cX10_missed 16 = .ok (.iconst 1, 1) := by decide +kernel
theorem dX10_missed_17 : decode cX10_missed 17 = .ok (.iload_n 1, 1) := by decide +kernel
theorem dX10_missed_18 : decode cX10_missed 18 = .ok (.ishl, 1) := by decide +kernel
theorem dX10_missed_19 : decode cX10_missed 19 = .ok (.iload_n 2, 1) := by decide +kernel
theorem dX10_missed_20 : decode cX10_missed 20 = .ok (.invokevirtual 378, 3) := by decide +kernel
theorem dX10_missed_23 : decode cX10_missed 23 = .ok (.aload_n 0, 1) := by decide +kernel
theorem dX10_missed_24 : decode cX10_missed 24 = .ok (.iconst 0, 1) := by decide +kernel
theorem dX10_missed_25 : decode cX10_missed 25 = .ok (.iload_n 2, 1) := by decide +kernel
theorem dX10_missed_26 : decode cX10_missed 26 = .ok (.invokevirtual 378, 3) := by decide +kernel
theorem dX10_missed_29 : decode cX10_missed 29 = .ok (.isub, 1) := by decide +kernel
theorem dX10_missed_30 : decode cX10_missed 30 = .ok (.goto 6, 3) := by decide +kernel
theorem dX10_missed_33 : decode cX10_missed 33 = .ok (.ldc_w 384, 3) := by decide +kernel
theorem dX10_missed_36 : decode cX10_missed 36 = .ok (.ireturn, 1) := by decide +kernel
theorem dX10_missedWithout_0 : decode cX10_missedWithout 0 = .ok (.aload_n 0, 1) := by decide +kernel
theorem dX10_missedWithout_1 : decode cX10_missedWithout 1 = .ok (.invokevirtual 300, 3) := by decide +kernel
theorem dX10_missedWithout_4 : decode cX10_missedWithout 4 = .ok (.iconst 0, 1) := by decide +kernel
theorem dX10_missedWithout_5 : decode cX10_missedWithout 5 = .ok (.istore_n 3, 1) := by decide +kernel
theorem dX10_missedWithout_6 : decode cX10_missedWithout 6 = .ok (.iload_n 3, 1) := by decide +kernel
theorem dX10_missedWithout_7 : decode cX10_missedWithout 7 = .ok (.bipush 10, 2) := by decide +kernel
theorem dX10_missedWithout_9 : decode cX10_missedWithout 9 = .ok (.if_icmp .ge 26, 3) := by decide +kernel
theorem dX10_missedWithout_12 : decode cX10_missedWithout 12 = .ok (.iload_n 1, 1) := by decide +kernel
theorem dX10_missedWithout_13 : decode cX10_missedWithout 13 = .ok (.iload_n 3, 1) := by decide +kernel
theorem dX10_missedWithout_14 : decode cX10_missedWithout 14 = .ok (.invokestatic 150, 3) := by decide +kernel
theorem dX10_missedWithout_17 : decode cX10_missedWithout 17 = .ok (.ifCond .eq 12, 3) := by decide +kernel
theorem dX10_missedWithout_20 : decode cX10_missedWithout 20 = .ok (.aload_n 0, 1) := by decide +kernel
theorem dX10_missedWithout_21 : decode cX10_missedWithout 21 = .ok (.iload_n 3, 1) := by decide +kernel
theorem dX10_missedWithout_22 : decode cX10_missedWithout 22 = .ok (.iconst 0, 1) := by decide +kernel
theorem dX10_missedWithout_23 : decode cX10_missedWithout 23 = .ok (.ldc_w 400, 3) := by decide +kernel
theorem dX10_missedWithout_26 : decode cX10_missedWithout 26 = .ok (.invokevirtual 303, 3) := by decide +kernel
theorem dX10_missedWithout_29 : decode cX10_missedWithout 29 = .ok (.iinc 3 1, 3) := by decide +kernel
theorem dX10_missedWithout_32 : decode cX10_missedWithout 32 = .ok (.goto (-26), 3) := by decide +kernel
theorem dX10_missedWithout_35 : decode cX10_missedWithout 35 = .ok (.aload_n 0, 1) := by decide +kernel
theorem dX10_missedWithout_36 : decode cX10_missedWithout 36 = .ok (.iload_n 2, 1) := by decide +kernel
theorem dX10_missedWithout_37 : decode cX10_missedWithout 37 = .ok (.invokevirtual 375, 3) := by decide +kernel
theorem dX10_missedWithout_40 : decode cX10_missedWithout 40 = .ok (.ireturn, 1) := by decide +kernel
theorem dX10_person_0 : decode cX10_person 0 = .ok (.iload_n 1, 1) := by decide +kernel
theorem dX10_person_1 : decode cX10_person 1 = .ok (.iconst 0, 1) := by decide +kernel
theorem dX10_person_2 : decode cX10_person 2 = .ok (.bipush 9, 2) := by decide +kernel
theorem dX10_person_4 : decode cX10_person 4 = .ok (.invokestatic 157, 3) := by decide +kernel
theorem dX10_person_7 : decode cX10_person 7 = .ok (.ifCond .eq 13, 3) := by decide +kernel
theorem dX10_person_10 : decode cX10_person 10 = .ok (.iload_n 2, 1) := by decide +kernel
theorem dX10_person_11 : decode cX10_person 11 = .ok (.iconst 0, 1) := by decide +kernel
theorem dX10_person_12 : decode cX10_person 12 = .ok (.bipush 20, 2) := by decide +kernel
theorem dX10_person_14 : decode cX10_person 14 = .ok (.invokestatic 157, 3) := by decide +kernel
theorem dX10_person_17 : decode cX10_person 17 = .ok (.ifCond .ne 5, 3) := by decide +kernel
theorem dX10_person_20 : decode cX10_person 20 = .ok (.iconst 0, 1) := by decide +kernel
theorem dX10_person_21 : decode cX10_person 21 = .ok (.ireturn, 1) := by decide +kernel
theorem dX10_person_22 : decode cX10_person 22 = .ok (.aload_n 0, 1) := by decide +kernel
theorem dX10_person_23 : decode cX10_person 23 = .ok (.aload_n 0, 1) := by decide +kernel
theorem dX10_person_24 : decode cX10_person 24 = .ok (.getfield 146, 3) := by decide +kernel
theorem dX10_person_27 : decode cX10_person 27 = .ok (.iconst 1, 1) := by decide +kernel
theorem dX10_person_28 : decode cX10_person 28 = .ok (.iload_n 1, 1) := by decide +kernel
theorem dX10_person_29 : decode cX10_person 29 = .ok (.ishl, 1) := by decide +kernel
theorem dX10_person_30 : decode cX10_person 30 = .ok (.ior, 1) := by decide +kernel
theorem dX10_person_31 : decode cX10_person 31 = .ok (.putfield 146, 3) := by decide +kernel
theorem dX10_person_34 : decode cX10_person 34 = .ok (.aload_n 0, 1) := by decide +kernel
theorem dX10_person_35 : decode cX10_person 35 = .ok (.getfield 25, 3) := by decide +kernel
theorem dX10_person_38 : decode cX10_person 38 = .ok (.iload_n 1, 1) := by decide +kernel
theorem dX10_person_39 : decode cX10_person 39 = .ok (.iload_n 2, 1) := by decide +kernel
theorem dX10_person_40 : decode cX10_person 40 = .ok (.iastore, 1) := by decide +kernel
theorem dX10_person_41 : decode cX10_person 41 = .ok (.iconst 1, 1) := by decide +kernel
theorem dX10_person_42 : decode cX10_person 42 = .ok (.ireturn, 1) := by decide +kernel
theorem dX10_rain_0 : decode cX10_rain 0 = .ok (.iload_n 1, 1) := by decide +kernel
theorem dX10_rain_1 : decode cX10_rain 1 = .ok (.iconst 0, 1) := by decide +kernel
theorem dX10_rain_2 : decode cX10_rain 2 = .ok (.bipush 10, 2) := by decide +kernel
theorem dX10_rain_4 : decode cX10_rain 4 = .ok (.invokestatic 157, 3) := by decide +kernel
theorem dX10_rain_7 : decode cX10_rain 7 = .ok (.ifCond .ne 5, 3) := by decide +kernel
theorem dX10_rain_10 : decode cX10_rain 10 = .ok (.iconst 0, 1) := by decide +kernel
theorem dX10_rain_11 : decode cX10_rain 11 = .ok (.ireturn, 1) := by decide +kernel
theorem dX10_rain_12 : decode cX10_rain 12 = .ok (.aload_n 0, 1) := by decide +kernel
theorem dX10_rain_13 : decode cX10_rain 13 = .ok (.iload_n 1, 1) := by decide +kernel
theorem dX10_rain_14 : decode cX10_rain 14 = .ok (.putfield 161, 3) := by decide +kernel
theorem dX10_rain_17 : decode cX10_rain 17 = .ok (.iconst 1, 1) := by decide +kernel
theorem dX10_rain_18 : decode cX10_rain 18 = .ok (.ireturn, 1) := by decide +kernel
theorem dX10_seed_0 : decode cX10_seed 0 = .ok (.iload_n 1, 1) := by decide +kernel
theorem dX10_seed_1 : decode cX10_seed 1 = .ok (.iconst 0, 1) := by decide +kernel
theorem dX10_seed_2 : decode cX10_seed 2 = .ok (.ldc_w 434, 3) := by decide +kernel
theorem dX10_seed_5 : decode cX10_seed 5 = .ok (.invokestatic 157, 3) := by decide +kernel
theorem dX10_seed_8 : decode cX10_seed 8 = .ok (.ifCond .ne 5, 3) := by decide +kernel
theorem dX10_seed_11 : decode cX10_seed 11 = .ok (.iconst 0, 1) := by decide +kernel
theorem dX10_seed_12 : decode cX10_seed 12 = .ok (.ireturn, 1) := by decide +kernel
theorem dX10_seed_13 : decode cX10_seed 13 = .ok (.aload_n 0, 1) := by decide +kernel
theorem dX10_seed_14 : decode cX10_seed 14 = .ok (.getfield 7, 3) := by decide +kernel
theorem dX10_seed_17 : decode cX10_seed 17 = .ok (.bipush 14, 2) := by decide +kernel
theorem dX10_seed_19 : decode cX10_seed 19 = .ok (.iload_n 1, 1) := by decide +kernel
theorem dX10_seed_20 : decode cX10_seed 20 = .ok (.iastore, 1) := by decide +kernel
theorem dX10_seed_21 : decode cX10_seed 21 = .ok (.iconst 1, 1) := by decide +kernel
theorem dX10_seed_22 : decode cX10_seed 22 = .ok (.ireturn, 1) := by decide +kernel
theorem dX10_together_0 : decode cX10_together 0 = .ok (.aload_n 0, 1) := by decide +kernel
theorem dX10_together_1 : decode cX10_together 1 = .ok (.iload_n 1, 1) := by decide +kernel
theorem dX10_together_2 : decode cX10_together 2 = .ok (.invokevirtual 381, 3) := by decide +kernel
theorem dX10_together_5 : decode cX10_together 5 = .ok (.ifCond .eq 23, 3) := by decide +kernel
theorem dX10_together_8 : decode cX10_together 8 = .ok (.aload_n 0, 1) := by decide +kernel
theorem dX10_together_9 : decode cX10_together 9 = .ok (.iload_n 2, 1) := by decide +kernel
theorem dX10_together_10 : decode cX10_together 10 = .ok (.invokevirtual 381, 3) := by decide +kernel
theorem dX10_together_13 : decode cX10_together 13 = .ok (.ifCond .eq 15, 3) := by decide +kernel
theorem dX10_together_16 : decode cX10_together 16 = .ok (.iload_n 1, 1) := by decide +kernel
theorem dX10_together_17 : decode cX10_together 17 = .ok (.iload_n 2, 1) := by decide +kernel
theorem dX10_together_18 : decode cX10_together 18 = .ok (.if_icmp .eq 10, 3) := by decide +kernel
theorem dX10_together_21 : decode cX10_together 21 = .ok (.iload_n 3, 1) := by decide +kernel
theorem dX10_together_22 : decode cX10_together 22 = .ok (.invokestatic 366, 3) := by decide +kernel
theorem dX10_together_25 : decode cX10_together 25 = .ok (.ifCond .ne 7, 3) := by decide +kernel
theorem dX10_together_28 : decode cX10_together 28 = .ok (.ldc_w 384, 3) := by decide +kernel
theorem dX10_together_31 : decode cX10_together 31 = .ok (.ireturn, 1) := by decide +kernel
theorem dX10_together_32 : decode cX10_together 32 = .ok (.aload_n 0, 1) := by decide +kernel
theorem dX10_together_33 : decode cX10_together 33 = .ok (.iconst 1, 1) := by decide +kernel
theorem dX10_together_34 : decode cX10_together 34 = .ok (.iload_n 1, 1) := by decide +kernel
theorem dX10_together_35 : decode cX10_together 35 = .ok (.ishl, 1) := by decide +kernel
theorem dX10_together_36 : decode cX10_together 36 = .ok (.iconst 1, 1) := by decide +kernel
theorem dX10_together_37 : decode cX10_together 37 = .ok (.iload_n 2, 1) := by decide +kernel
theorem dX10_together_38 : decode cX10_together 38 = .ok (.ishl, 1) := by decide +kernel
theorem dX10_together_39 : decode cX10_together 39 = .ok (.ior, 1) := by decide +kernel
theorem dX10_together_40 : decode cX10_together 40 = .ok (.iload_n 3, 1) := by decide +kernel
theorem dX10_together_41 : decode cX10_together 41 = .ok (.invokevirtual 378, 3) := by decide +kernel
theorem dX10_together_44 : decode cX10_together 44 = .ok (.aload_n 0, 1) := by decide +kernel
theorem dX10_together_45 : decode cX10_together 45 = .ok (.iconst 0, 1) := by decide +kernel
theorem dX10_together_46 : decode cX10_together 46 = .ok (.iload_n 3, 1) := by decide +kernel
theorem dX10_together_47 : decode cX10_together 47 = .ok (.invokevirtual 378, 3) := by decide +kernel
theorem dX10_together_50 : decode cX10_together 50 = .ok (.iadd, 1) := by decide +kernel
theorem dX10_together_51 : decode cX10_together 51 = .ok (.aload_n 0, 1) := by decide +kernel
theorem dX10_together_52 : decode cX10_together 52 = .ok (.iconst 1, 1) := by decide +kernel
theorem dX10_together_53 : decode cX10_together 53 = .ok (.iload_n 1, 1) := by decide +kernel
theorem dX10_together_54 : decode cX10_together 54 = .ok (.ishl, 1) := by decide +kernel
theorem dX10_together_55 : decode cX10_together 55 = .ok (.iload_n 3, 1) := by decide +kernel
theorem dX10_together_56 : decode cX10_together 56 = .ok (.invokevirtual 378, 3) := by decide +kernel
theorem dX10_together_59 : decode cX10_together 59 = .ok (.isub, 1) := by decide +kernel
theorem dX10_together_60 : decode cX10_together 60 = .ok (.aload_n 0, 1) := by decide +kernel
theorem dX10_together_61 : decode cX10_together 61 = .ok (.iconst 1, 1) := by decide +kernel
theorem dX10_together_62 : decode cX10_together 62 = .ok (.iload_n 2, 1) := by decide +kernel
theorem dX10_together_63 : decode cX10_together 63 = .ok (.ishl, 1) := by decide +kernel
theorem dX10_together_64 : decode cX10_together 64 = .ok (.iload_n 3, 1) := by decide +kernel
theorem dX10_together_65 : decode cX10_together 65 = .ok (.invokevirtual 378, 3) := by decide +kernel
theorem dX10_together_68 : decode cX10_together 68 = .ok (.isub, 1) := by decide +kernel
theorem dX10_together_69 : decode cX10_together 69 = .ok (.ireturn, 1) := by decide +kernel
theorem dX10_types_0 : decode cX10_types 0 = .ok (.iconst 3, 1) := by decide +kernel
theorem dX10_types_1 : decode cX10_types 1 = .ok (.istore_n 2, 1) := by decide +kernel
theorem dX10_types_2 : decode cX10_types 2 = .ok (.iload_n 2, 1) := by decide +kernel
theorem dX10_types_3 : decode cX10_types 3 = .ok (.ifCond .lt 35, 3) := by decide +kernel
theorem dX10_types_6 : decode cX10_types 6 = .ok (.aload_n 0, 1) := by decide +kernel
theorem dX10_types_7 : decode cX10_types 7 = .ok (.getfield 43, 3) := by decide +kernel
theorem dX10_types_10 : decode cX10_types 10 = .ok (.aload_n 0, 1) := by decide +kernel
theorem dX10_types_11 : decode cX10_types 11 = .ok (.getfield 164, 3) := by decide +kernel
theorem dX10_types_14 : decode cX10_types 14 = .ok (.iload_n 1, 1) := by decide +kernel
theorem dX10_types_15 : decode cX10_types 15 = .ok (.bipush 8, 2) := by decide +kernel
theorem dX10_types_17 : decode cX10_types 17 = .ok (.iload_n 2, 1) := by decide +kernel
theorem dX10_types_18 : decode cX10_types 18 = .ok (.imul, 1) := by decide +kernel
theorem dX10_types_19 : decode cX10_types 19 = .ok (.ishr, 1) := by decide +kernel
theorem dX10_types_20 : decode cX10_types 20 = .ok (.i2b, 1) := by decide +kernel
theorem dX10_types_21 : decode cX10_types 21 = .ok (.bastore, 1) := by decide +kernel
theorem dX10_types_22 : decode cX10_types 22 = .ok (.aload_n 0, 1) := by decide +kernel
theorem dX10_types_23 : decode cX10_types 23 = .ok (.aload_n 0, 1) := by decide +kernel
theorem dX10_types_24 : decode cX10_types 24 = .ok (.getfield 164, 3) := by decide +kernel
