theorem dX9_check_0 : decode cX9_check 0 = .ok (.aload_n 0, 1) := by decide +kernel
theorem dX9_check_1 : decode cX9_check 1 = .ok (.getfield 10, 3) := by decide +kernel
theorem dX9_check_4 : decode cX9_check 4 = .ok (.iload_n 1, 1) := by decide +kernel
theorem dX9_check_5 : decode cX9_check 5 = .ok (.iconst 0, 1) := by decide +kernel
theorem dX9_check_6 : decode cX9_check 6 = .ok (.bipush 12, 2) := by decide +kernel
theorem dX9_check_8 : decode cX9_check 8 = .ok (.invokevirtual 115, 3) := by decide +kernel
theorem dX9_check_11 : decode cX9_check 11 = .ok (.ifCond .ne 6, 3) := by decide +kernel
theorem dX9_check_14 : decode cX9_check 14 = .ok (.bipush (-2), 2) := by decide +kernel
theorem dX9_check_16 : decode cX9_check 16 = .ok (.ireturn, 1) := by decide +kernel
theorem dX9_check_17 : decode cX9_check 17 = .ok (.aload_n 0, 1) := by decide +kernel
theorem dX9_check_18 : decode cX9_check 18 = .ok (.aload_n 0, 1) := by decide +kernel
theorem dX9_check_19 : decode cX9_check 19 = .ok (.getfield 26, 3) := by decide +kernel
theorem dX9_check_22 : decode cX9_check 22 = .ok (.iload_n 1, 1) := by decide +kernel
theorem dX9_check_23 : decode cX9_check 23 = .ok (.invokevirtual 270, 3) := by decide +kernel
theorem dX9_check_26 : decode cX9_check 26 = .ok (.istore_n 2, 1) := by decide +kernel
theorem dX9_check_27 : decode cX9_check 27 = .ok (.aload_n 0, 1) := by decide +kernel
theorem dX9_check_28 : decode cX9_check 28 = .ok (.getfield 10, 3) := by decide +kernel
theorem dX9_check_31 : decode cX9_check 31 = .ok (.iconst 0, 1) := by decide +kernel
theorem dX9_check_32 : decode cX9_check 32 = .ok (.putfield 112, 3) := by decide +kernel
theorem dX9_check_35 : decode cX9_check 35 = .ok (.iload_n 2, 1) := by decide +kernel
theorem dX9_check_36 : decode cX9_check 36 = .ok (.ireturn, 1) := by decide +kernel
theorem dX9_chore_0 : decode cX9_chore 0 = .ok (.iload_n 1, 1) := by decide +kernel
theorem dX9_chore_1 : decode cX9_chore 1 = .ok (.iconst 0, 1) := by decide +kernel
theorem dX9_chore_2 : decode cX9_chore 2 = .ok (.bipush 11, 2) := by decide +kernel
theorem dX9_chore_4 : decode cX9_chore 4 = .ok (.invokestatic 81, 3) := by decide +kernel
theorem dX9_chore_7 : decode cX9_chore 7 = .ok (.ifCond .eq 13, 3) := by decide +kernel
theorem dX9_chore_10 : decode cX9_chore 10 = .ok (.iload_n 2, 1) := by decide +kernel
theorem dX9_chore_11 : decode cX9_chore 11 = .ok (.iconst 0, 1) := by decide +kernel
theorem dX9_chore_12 : decode cX9_chore 12 = .ok (.bipush 20, 2) := by decide +kernel
theorem dX9_chore_14 : decode cX9_chore 14 = .ok (.invokestatic 81, 3) := by decide +kernel
theorem dX9_chore_17 : decode cX9_chore 17 = .ok (.ifCond .ne 5, 3) := by decide +kernel
theorem dX9_chore_20 : decode cX9_chore 20 = .ok (.iconst 0, 1) := by decide +kernel
theorem dX9_chore_21 : decode cX9_chore 21 = .ok (.ireturn, 1) := by decide +kernel
theorem dX9_chore_22 : decode cX9_chore 22 = .ok (.aload_n 0, 1) := by decide +kernel
theorem dX9_chore_23 : decode cX9_chore 23 = .ok (.getfield 19, 3) := by decide +kernel
theorem dX9_chore_26 : decode cX9_chore 26 = .ok (.dup, 1) := by decide +kernel
theorem dX9_chore_27 : decode cX9_chore 27 = .ok (.getfield 92, 3) := by decide +kernel
theorem dX9_chore_30 : decode cX9_chore 30 = .ok (.iconst 1, 1) := by decide +kernel
theorem dX9_chore_31 : decode cX9_chore 31 = .ok (.iload_n 1, 1) := by decide +kernel
theorem dX9_chore_32 : decode cX9_chore 32 = .ok (.ishl, 1) := by decide +kernel
theorem dX9_chore_33 : decode cX9_chore 33 = .ok (.ior, 1) := by decide +kernel
theorem dX9_chore_34 : decode cX9_chore 34 = .ok (.putfield 92, 3) := by decide +kernel
theorem dX9_chore_37 : decode cX9_chore 37 = .ok (.aload_n 0, 1) := by decide +kernel
theorem dX9_chore_38 : decode cX9_chore 38 = .ok (.getfield 19, 3) := by decide +kernel
theorem dX9_chore_41 : decode cX9_chore 41 = .ok (.getfield 95, 3) := by decide +kernel
theorem dX9_chore_44 : decode cX9_chore 44 = .ok (.iload_n 1, 1) := by decide +kernel
theorem dX9_chore_45 : decode cX9_chore 45 = .ok (.iload_n 2, 1) := by decide +kernel
theorem dX9_chore_46 : decode cX9_chore 46 = .ok (.iastore, 1) := by decide +kernel
theorem dX9_chore_47 : decode cX9_chore 47 = .ok (.aload_n 0, 1) := by decide +kernel
theorem dX9_chore_48 : decode cX9_chore 48 = .ok (.getfield 26, 3) := by decide +kernel
theorem dX9_chore_51 : decode cX9_chore 51 = .ok (.getfield 98, 3) := by decide +kernel
theorem dX9_chore_54 : decode cX9_chore 54 = .ok (.iload_n 1, 1) := by decide +kernel
theorem dX9_chore_55 : decode cX9_chore 55 = .ok (.iconst 0, 1) := by decide +kernel
theorem dX9_chore_56 : decode cX9_chore 56 = .ok (.iastore, 1) := by decide +kernel
theorem dX9_chore_57 : decode cX9_chore 57 = .ok (.iconst 1, 1) := by decide +kernel
theorem dX9_chore_58 : decode cX9_chore 58 = .ok (.ireturn, 1) := by decide +kernel
theorem dX9_doers_0 : decode cX9_doers 0 = .ok (.aload_n 0, 1) := by decide +kernel
theorem dX9_doers_1 : decode cX9_doers 1 = .ok (.getfield 10, 3) := by decide +kernel
theorem dX9_doers_4 : decode cX9_doers 4 = .ok (.iload_n 1, 1) := by decide +kernel
theorem dX9_doers_5 : decode cX9_doers 5 = .ok (.iconst 1, 1) := by decide +kernel
theorem dX9_doers_6 : decode cX9_doers 6 = .ok (.bipush 120, 2) := by decide +kernel
theorem dX9_doers_8 : decode cX9_doers 8 = .ok (.invokevirtual 115, 3) := by decide +kernel
theorem dX9_doers_11 : decode cX9_doers 11 = .ok (.ifCond .ne 5, 3) := by decide +kernel
theorem dX9_doers_14 : decode cX9_doers 14 = .ok (.iconst (-1), 1) := by decide +kernel
theorem dX9_doers_15 : decode cX9_doers 15 = .ok (.ireturn, 1) := by decide +kernel
theorem dX9_doers_16 : decode cX9_doers 16 = .ok (.aload_n 0, 1) := by decide +kernel
theorem dX9_doers_17 : decode cX9_doers 17 = .ok (.getfield 57, 3) := by decide +kernel
theorem dX9_doers_20 : decode cX9_doers 20 = .ok (.iload_n 1, 1) := by decide +kernel
theorem dX9_doers_21 : decode cX9_doers 21 = .ok (.invokevirtual 129, 3) := by decide +kernel
theorem dX9_doers_24 : decode cX9_doers 24 = .ok (.istore_n 2, 1) := by decide +kernel
theorem dX9_doers_25 : decode cX9_doers 25 = .ok (.iload_n 2, 1) := by decide +kernel
theorem dX9_doers_26 : decode cX9_doers 26 = .ok (.ifCond .le 14, 3) := by decide +kernel
theorem dX9_doers_29 : decode cX9_doers 29 = .ok (.aload_n 0, 1) := by decide +kernel
theorem dX9_doers_30 : decode cX9_doers 30 = .ok (.getfield 57, 3) := by decide +kernel
theorem dX9_doers_33 : decode cX9_doers 33 = .ok (.aload_n 0, 1) := by decide +kernel
theorem dX9_doers_34 : decode cX9_doers 34 = .ok (.getfield 19, 3) := by decide +kernel
theorem dX9_doers_37 : decode cX9_doers 37 = .ok (.invokevirtual 130, 3) := by decide +kernel
theorem dX9_doers_40 : decode cX9_doers 40 = .ok (.aload_n 0, 1) := by decide +kernel
theorem dX9_doers_41 : decode cX9_doers 41 = .ok (.getfield 10, 3) := by decide +kernel
theorem dX9_doers_44 : decode cX9_doers 44 = .ok (.iconst 0, 1) := by decide +kernel
theorem dX9_doers_45 : decode cX9_doers 45 = .ok (.putfield 112, 3) := by decide +kernel
theorem dX9_doers_48 : decode cX9_doers 48 = .ok (.iload_n 2, 1) := by decide +kernel
theorem dX9_doers_49 : decode cX9_doers 49 = .ok (.ireturn, 1) := by decide +kernel
theorem dX9_feed_0 : decode cX9_feed 0 = .ok (.aload_n 0, 1) := by decide +kernel
theorem dX9_feed_1 : decode cX9_feed 1 = .ok (.getfield 10, 3) := by decide +kernel
theorem dX9_feed_4 : decode cX9_feed 4 = .ok (.bipush 20, 2) := by decide +kernel
theorem dX9_feed_6 : decode cX9_feed 6 = .ok (.invokevirtual 104, 3) := by decide +kernel
theorem dX9_feed_9 : decode cX9_feed 9 = .ok (.ifCond .ne 5, 3) := by decide +kernel
theorem dX9_feed_12 : decode cX9_feed 12 = .ok (.iconst (-1), 1) := by decide +kernel
theorem dX9_feed_13 : decode cX9_feed 13 = .ok (.ireturn, 1) := by decide +kernel
theorem dX9_feed_14 : decode cX9_feed 14 = .ok (.aload_n 0, 1) := by decide +kernel
theorem dX9_feed_15 : decode cX9_feed 15 = .ok (.getfield 10, 3) := by decide +kernel
theorem dX9_feed_18 : decode cX9_feed 18 = .ok (.iload_n 1, 1) := by decide +kernel
theorem dX9_feed_19 : decode cX9_feed 19 = .ok (.invokevirtual 108, 3) := by decide +kernel
theorem dX9_feed_22 : decode cX9_feed 22 = .ok (.aload_n 0, 1) := by decide +kernel
theorem dX9_feed_23 : decode cX9_feed 23 = .ok (.getfield 10, 3) := by decide +kernel
theorem dX9_feed_26 : decode cX9_feed 26 = .ok (.iload_n 2, 1) := by decide +kernel
theorem dX9_feed_27 : decode cX9_feed 27 = .ok (.invokevirtual 108, 3) := by decide +kernel
theorem dX9_feed_30 : decode cX9_feed 30 = .ok (.aload_n 0, 1) := by decide +kernel
theorem dX9_feed_31 : decode cX9_feed 31 = .ok (.getfield 10, 3) := by decide +kernel
theorem dX9_feed_34 : decode cX9_feed 34 = .ok (.iload_n 3, 1) := by decide +kernel
theorem dX9_feed_35 : decode cX9_feed 35 = .ok (.invokevirtual 108, 3) := by decide +kernel
theorem dX9_feed_38 : decode cX9_feed 38 = .ok (.aload_n 0, 1) := by decide +kernel
theorem dX9_feed_39 : decode cX9_feed 39 = .ok (.getfield 10, 3) := by decide +kernel
theorem dX9_feed_42 : decode cX9_feed 42 = .ok (.iload 4, 2) := by decide +kernel
theorem dX9_feed_44 : decode cX9_feed 44 = .ok (.invokevirtual 108, 3) := by decide +kernel
theorem dX9_feed_47 : decode cX9_feed 47 = .ok (.aload_n 0, 1) := by decide +kernel
theorem dX9_feed_48 : decode cX9_feed 48 = .ok (.getfield 10, 3) := by decide +kernel
theorem dX9_feed_51 : decode cX9_feed 51 = .ok (.iload 5, 2) := by decide +kernel
theorem dX9_feed_53 : decode cX9_feed 53 = .ok (.invokevirtual 108, 3) := by decide +kernel
theorem dX9_feed_56 : decode cX9_feed 56 = .ok (.aload_n 0, 1) := by decide +kernel
theorem dX9_feed_57 : decode cX9_feed 57 = .ok (.getfield 10, 3) := by decide +kernel
theorem dX9_feed_60 : decode cX9_feed 60 = .ok (.getfield 112, 3) := by decide +kernel
theorem dX9_feed_63 : decode cX9_feed 63 = .ok (.ireturn, 1) := by decide +kernel
theorem dX9_home_0 : decode cX9_home 0 = .ok (.aload_n 0, 1) := by decide +kernel
theorem dX9_home_1 : decode cX9_home 1 = .ok (.getfield 26, 3) := by decide +kernel
theorem dX9_home_4 : decode cX9_home 4 = .ok (.invokevirtual 138, 3) := by decide +kernel
theorem dX9_home_7 : decode cX9_home 7 = .ok (.invokestatic 142, 3) := by decide +kernel
theorem dX9_home_10 : decode cX9_home 10 = .ok (.istore_n 1, 1) := by decide +kernel
theorem dX9_home_11 : decode cX9_home 11 = .ok (.aload_n 0, 1) := by decide +kernel
theorem dX9_home_12 : decode cX9_home 12 = .ok (.getfield 26, 3) := by decide +kernel
theorem dX9_home_15 : decode cX9_home 15 = .ok (.sipush 1023, 3) := by decide +kernel
theorem dX9_home_18 : decode cX9_home 18 = .ok (.invokevirtual 147, 3) := by decide +kernel
theorem dX9_home_21 : decode cX9_home 21 = .ok (.iload_n 1, 1) := by decide +kernel
theorem dX9_home_22 : decode cX9_home 22 = .ok (.ireturn, 1) := by decide +kernel
theorem dX9_keep_0 : decode cX9_keep 0 = .ok (.aload_n 0, 1) := by decide +kernel
theorem dX9_keep_1 : decode cX9_keep 1 = .ok (.getfield 30, 3) := by decide +kernel
theorem dX9_keep_4 : decode cX9_keep 4 = .ok (.aload_n 0, 1) := by decide +kernel
theorem dX9_keep_5 : decode cX9_keep 5 = .ok (.getfield 26, 3) := by decide +kernel
theorem dX9_keep_8 : decode cX9_keep 8 = .ok (.invokevirtual 168, 3) := by decide +kernel
theorem dX9_keep_11 : decode cX9_keep 11 = .ok (.aload_n 0, 1) := by decide +kernel
theorem dX9_keep_12 : decode cX9_keep 12 = .ok (.iconst 1, 1) := by decide +kernel
theorem dX9_keep_13 : decode cX9_keep 13 = .ok (.putfield 296, 3) := by decide +kernel
theorem dX9_keep_16 : decode cX9_keep 16 = .ok (.aload_n 0, 1) := by decide +kernel
theorem dX9_keep_17 : decode cX9_keep 17 = .ok (.getfield 26, 3) := by decide +kernel
theorem dX9_keep_20 : decode cX9_keep 20 = .ok (.getfield 209, 3) := by decide +kernel
theorem dX9_keep_23 : decode cX9_keep 23 = .ok (.ireturn, 1) := by decide +kernel
theorem dX9_leaves_0 : decode cX9_leaves 0 = .ok (.aload_n 0, 1) := by decide +kernel
theorem dX9_leaves_1 : decode cX9_leaves 1 = .ok (.getfield 10, 3) := by decide +kernel
theorem dX9_leaves_4 : decode cX9_leaves 4 = .ok (.iload_n 1, 1) := by decide +kernel
theorem dX9_leaves_5 : decode cX9_leaves 5 = .ok (.iconst 1, 1) := by decide +kernel
theorem dX9_leaves_6 : decode cX9_leaves 6 = .ok (.bipush 120, 2) := by decide +kernel
theorem dX9_leaves_8 : decode cX9_leaves 8 = .ok (.invokevirtual 115, 3) := by decide +kernel
theorem dX9_leaves_11 : decode cX9_leaves 11 = .ok (.ifCond .ne 5, 3) := by decide +kernel
theorem dX9_leaves_14 : decode cX9_leaves 14 = .ok (.iconst (-1), 1) := by decide +kernel
theorem dX9_leaves_15 : decode cX9_leaves 15 = .ok (.ireturn, 1) := by decide +kernel
theorem dX9_leaves_16 : decode cX9_leaves 16 = .ok (.aload_n 0, 1) := by decide +kernel
theorem dX9_leaves_17 : decode cX9_leaves 17 = .ok (.getfield 64, 3) := by decide +kernel
theorem dX9_leaves_20 : decode cX9_leaves 20 = .ok (.iload_n 1, 1) := by decide +kernel
theorem dX9_leaves_21 : decode cX9_leaves 21 = .ok (.invokevirtual 134, 3) := by decide +kernel
theorem dX9_leaves_24 : decode cX9_leaves 24 = .ok (.istore_n 2, 1) := by decide +kernel
theorem dX9_leaves_25 : decode cX9_leaves 25 = .ok (.iload_n 2, 1) := by decide +kernel
theorem dX9_leaves_26 : decode cX9_leaves 26 = .ok (.ifCond .le 14, 3) := by decide +kernel
theorem dX9_leaves_29 : decode cX9_leaves 29 = .ok (.aload_n 0, 1) := by decide +kernel
theorem dX9_leaves_30 : decode cX9_leaves 30 = .ok (.getfield 64, 3) := by decide +kernel
theorem dX9_leaves_33 : decode cX9_leaves 33 = .ok (.aload_n 0, 1) := by decide +kernel
theorem dX9_leaves_34 : decode cX9_leaves 34 = .ok (.getfield 26, 3) := by decide +kernel
theorem dX9_leaves_37 : decode cX9_leaves 37 = .ok (.invokevirtual 135, 3) := by decide +kernel
theorem dX9_leaves_40 : decode cX9_leaves 40 = .ok (.aload_n 0, 1) := by decide +kernel
theorem dX9_leaves_41 : decode cX9_leaves 41 = .ok (.getfield 10, 3) := by decide +kernel
theorem dX9_leaves_44 : decode cX9_leaves 44 = .ok (.iconst 0, 1) := by decide +kernel
theorem dX9_leaves_45 : decode cX9_leaves 45 = .ok (.putfield 112, 3) := by decide +kernel
theorem dX9_leaves_48 : decode cX9_leaves 48 = .ok (.iload_n 2, 1) := by decide +kernel
theorem dX9_leaves_49 : decode cX9_leaves 49 = .ok (.ireturn, 1) := by decide +kernel
theorem dX9_person_0 : decode cX9_person 0 = .ok (.iload_n 1, 1) := by decide +kernel
theorem dX9_person_1 : decode cX9_person 1 = .ok (.iconst 0, 1) := by decide +kernel
theorem dX9_person_2 : decode cX9_person 2 = .ok (.bipush 9, 2) := by decide +kernel
theorem dX9_person_4 : decode cX9_person 4 = .ok (.invokestatic 81, 3) := by decide +kernel
theorem dX9_person_7 : decode cX9_person 7 = .ok (.ifCond .eq 13, 3) := by decide +kernel
theorem dX9_person_10 : decode cX9_person 10 = .ok (.iload_n 2, 1) := by decide +kernel
theorem dX9_person_11 : decode cX9_person 11 = .ok (.iconst 0, 1) := by decide +kernel
theorem dX9_person_12 : decode cX9_person 12 = .ok (.bipush 20, 2) := by decide +kernel
theorem dX9_person_14 : decode cX9_person 14 = .ok (.invokestatic 81, 3) := by decide +kernel
theorem dX9_person_17 : decode cX9_person 17 = .ok (.ifCond .ne 5, 3) := by decide +kernel
theorem dX9_person_20 : decode cX9_person 20 = .ok (.iconst 0, 1) := by decide +kernel
theorem dX9_person_21 : decode cX9_person 21 = .ok (.ireturn, 1) := by decide +kernel
theorem dX9_person_22 : decode cX9_person 22 = .ok (.aload_n 0, 1) := by decide +kernel
theorem dX9_person_23 : decode cX9_person 23 = .ok (.getfield 19, 3) := by decide +kernel
theorem dX9_person_26 : decode cX9_person 26 = .ok (.dup, 1) := by decide +kernel
theorem dX9_person_27 : decode cX9_person 27 = .ok (.getfield 85, 3) := by decide +kernel
theorem dX9_person_30 : decode cX9_person 30 = .ok (.iconst 1, 1) := by decide +kernel
theorem dX9_person_31 : decode cX9_person 31 = .ok (.iload_n 1, 1) := by decide +kernel
theorem dX9_person_32 : decode cX9_person 32 = .ok (.ishl, 1) := by decide +kernel
theorem dX9_person_33 : decode cX9_person 33 = .ok (.ior, 1) := by decide +kernel
theorem dX9_person_34 : decode cX9_person 34 = .ok (.putfield 85, 3) := by decide +kernel
theorem dX9_person_37 : decode cX9_person 37 = .ok (.aload_n 0, 1) := by decide +kernel
theorem dX9_person_38 : decode cX9_person 38 = .ok (.getfield 19, 3) := by decide +kernel
theorem dX9_person_41 : decode cX9_person 41 = .ok (.getfield 89, 3) := by decide +kernel
theorem dX9_person_44 : decode cX9_person 44 = .ok (.iload_n 1, 1) := by decide +kernel
theorem dX9_person_45 : decode cX9_person 45 = .ok (.iload_n 2, 1) := by decide +kernel
theorem dX9_person_46 : decode cX9_person 46 = .ok (.iastore, 1) := by decide +kernel
theorem dX9_person_47 : decode cX9_person 47 = .ok (.iconst 1, 1) := by decide +kernel
theorem dX9_person_48 : decode cX9_person 48 = .ok (.ireturn, 1) := by decide +kernel
theorem dX9_rain_0 : decode cX9_rain 0 = .ok (.iload_n 1, 1) := by decide +kernel
theorem dX9_rain_1 : decode cX9_rain 1 = .ok (.iconst 0, 1) := by decide +kernel
theorem dX9_rain_2 : decode cX9_rain 2 = .ok (.bipush 10, 2) := by decide +kernel
theorem dX9_rain_4 : decode cX9_rain 4 = .ok (.invokestatic 81, 3) := by decide +kernel
theorem dX9_rain_7 : decode cX9_rain 7 = .ok (.ifCond .ne 5, 3) := by decide +kernel
theorem dX9_rain_10 : decode cX9_rain 10 = .ok (.iconst 0, 1) := by decide +kernel
theorem dX9_rain_11 : decode cX9_rain 11 = .ok (.ireturn, 1) := by decide +kernel
theorem dX9_rain_12 : decode cX9_rain 12 = .ok (.aload_n 0, 1) := by decide +kernel
theorem dX9_rain_13 : decode cX9_rain 13 = .ok (.getfield 19, 3) := by decide +kernel
theorem dX9_rain_16 : decode cX9_rain 16 = .ok (.iload_n 1, 1) := by decide +kernel
theorem dX9_rain_17 : decode cX9_rain 17 = .ok (.putfield 101, 3) := by decide +kernel
theorem dX9_rain_20 : decode cX9_rain 20 = .ok (.iconst 1, 1) := by decide +kernel
theorem dX9_rain_21 : decode cX9_rain 21 = .ok (.ireturn, 1) := by decide +kernel
theorem dX9_seed_0 : decode cX9_seed 0 = .ok (.iload_n 1, 1) := by decide +kernel
theorem dX9_seed_1 : decode cX9_seed 1 = .ok (.iconst 0, 1) := by decide +kernel
theorem dX9_seed_2 : decode cX9_seed 2 = .ok (.ldc 150, 2) := by decide +kernel
theorem dX9_seed_4 : decode cX9_seed 4 = .ok (.invokestatic 81, 3) := by decide +kernel
theorem dX9_seed_7 : decode cX9_seed 7 = .ok (.ifCond .ne 5, 3) := by decide +kernel
theorem dX9_seed_10 : decode cX9_seed 10 = .ok (.iconst 0, 1) := by decide +kernel
theorem dX9_seed_11 : decode cX9_seed 11 = .ok (.ireturn, 1) := by decide +kernel
theorem dX9_seed_12 : decode cX9_seed 12 = .ok (.aload_n 0, 1) := by decide +kernel
theorem dX9_seed_13 : decode cX9_seed 13 = .ok (.getfield 26, 3) := by decide +kernel
theorem dX9_seed_16 : decode cX9_seed 16 = .ok (.iload_n 1, 1) := by decide +kernel
theorem dX9_seed_17 : decode cX9_seed 17 = .ok (.putfield 151, 3) := by decide +kernel
theorem dX9_seed_20 : decode cX9_seed 20 = .ok (.iconst 1, 1) := by decide +kernel
theorem dX9_seed_21 : decode cX9_seed 21 = .ok (.ireturn, 1) := by decide +kernel
theorem dX9_stopped_0 : decode cX9_stopped 0 = .ok (.aload_n 0, 1) := by decide +kernel
theorem dX9_stopped_1 : decode cX9_stopped 1 = .ok (.getfield 10, 3) := by decide +kernel
theorem dX9_stopped_4 : decode cX9_stopped 4 = .ok (.iload_n 1, 1) := by decide +kernel
theorem dX9_stopped_5 : decode cX9_stopped 5 = .ok (.iconst 1, 1) := by decide +kernel
theorem dX9_stopped_6 : decode cX9_stopped 6 = .ok (.bipush 12, 2) := by decide +kernel
theorem dX9_stopped_8 : decode cX9_stopped 8 = .ok (.invokevirtual 115, 3) := by decide +kernel
theorem dX9_stopped_11 : decode cX9_stopped 11 = .ok (.ifCond .ne 5, 3) := by decide +kernel
theorem dX9_stopped_14 : decode cX9_stopped 14 = .ok (.iconst (-1), 1) := by decide +kernel
theorem dX9_stopped_15 : decode cX9_stopped 15 = .ok (.ireturn, 1) := by decide +kernel
theorem dX9_stopped_16 : decode cX9_stopped 16 = .ok (.iconst 0, 1) := by decide +kernel
theorem dX9_stopped_17 : decode cX9_stopped 17 = .ok (.istore_n 2, 1) := by decide +kernel
theorem dX9_stopped_18 : decode cX9_stopped 18 = .ok (.iconst 0, 1) := by decide +kernel
theorem dX9_stopped_19 : decode cX9_stopped 19 = .ok (.istore_n 3, 1) := by decide +kernel
theorem dX9_stopped_20 : decode cX9_stopped 20 = .ok (.iload_n 3, 1) := by decide +kernel
theorem dX9_stopped_21 : decode cX9_stopped 21 = .ok (.bipush 10, 2) := by decide +kernel
theorem dX9_stopped_23 : decode cX9_stopped 23 = .ok (.if_icmp .gt 73, 3) := by decide +kernel
theorem dX9_stopped_26 : decode cX9_stopped 26 = .ok (.iload_n 3, 1) := by decide +kernel
theorem dX9_stopped_27 : decode cX9_stopped 27 = .ok (.bipush 10, 2) := by decide +kernel
theorem dX9_stopped_29 : decode cX9_stopped 29 = .ok (.if_icmp .eq 14, 3) := by decide +kernel
theorem dX9_stopped_32 : decode cX9_stopped 32 = .ok (.aload_n 0, 1) := by decide +kernel
theorem dX9_stopped_33 : decode cX9_stopped 33 = .ok (.getfield 19, 3) := by decide +kernel
theorem dX9_stopped_36 : decode cX9_stopped 36 = .ok (.iload_n 3, 1) := by decide +kernel
theorem dX9_stopped_37 : decode cX9_stopped 37 = .ok (.invokevirtual 173, 3) := by decide +kernel
theorem dX9_stopped_40 : decode cX9_stopped 40 = .ok (.ifCond .eq 50, 3) := by decide +kernel
theorem dX9_stopped_43 : decode cX9_stopped 43 = .ok (.aload_n 0, 1) := by decide +kernel
theorem dX9_stopped_44 : decode cX9_stopped 44 = .ok (.iload_n 3, 1) := by decide +kernel
theorem dX9_stopped_45 : decode cX9_stopped 45 = .ok (.bipush 10, 2) := by decide +kernel
theorem dX9_stopped_47 : decode cX9_stopped 47 = .ok (.if_icmp .ne 7, 3) := by decide +kernel
theorem dX9_stopped_50 : decode cX9_stopped 50 = .ok (.iconst 0, 1) := by decide +kernel
theorem dX9_stopped_51 : decode cX9_stopped 51 = .ok (.goto 6, 3) := by decide +kernel
theorem dX9_stopped_54 : decode cX9_stopped 54 = .ok (.iconst 1, 1) := by decide +kernel
theorem dX9_stopped_55 : decode cX9_stopped 55 = .ok (.iload_n 3, 1) := by decide +kernel
theorem dX9_stopped_56 : decode cX9_stopped 56 = .ok (.ishl, 1) := by decide +kernel
theorem dX9_stopped_57 : decode cX9_stopped 57 = .ok (.iconst 1, 1) := by decide +kernel
theorem dX9_stopped_58 : decode cX9_stopped 58 = .ok (.ldc 160, 2) := by decide +kernel
theorem dX9_stopped_60 : decode cX9_stopped 60 = .ok (.invokevirtual 266, 3) := by decide +kernel
theorem dX9_stopped_63 : decode cX9_stopped 63 = .ok (.pop, 1) := by decide +kernel
theorem dX9_stopped_64 : decode cX9_stopped 64 = .ok (.iload_n 2, 1) := by decide +kernel
theorem dX9_stopped_65 : decode cX9_stopped 65 = .ok (.aload_n 0, 1) := by decide +kernel
theorem dX9_stopped_66 : decode cX9_stopped 66 = .ok (.aload_n 0, 1) := by decide +kernel
theorem dX9_stopped_67 : decode cX9_stopped 67 = .ok (.getfield 73, 3) := by decide +kernel
theorem dX9_stopped_70 : decode cX9_stopped 70 = .ok (.getfield 165, 3) := by decide +kernel
theorem dX9_stopped_73 : decode cX9_stopped 73 = .ok (.iload_n 1, 1) := by decide +kernel
theorem dX9_stopped_74 : decode cX9_stopped 74 = .ok (.invokevirtual 270, 3) := by decide +kernel
theorem dX9_stopped_77 : decode cX9_stopped 77 = .ok (.iconst (-1), 1) := by decide +kernel
theorem dX9_stopped_78 : decode cX9_stopped 78 = .ok (.if_icmp .ne 9, 3) := by decide +kernel
theorem dX9_stopped_81 : decode cX9_stopped 81 = .ok (.iconst 1, 1) := by decide +kernel
theorem dX9_stopped_82 : decode cX9_stopped 82 = .ok (.iload_n 3, 1) := by decide +kernel
theorem dX9_stopped_83 : decode cX9_stopped 83 = .ok (.ishl, 1) := by decide +kernel
theorem dX9_stopped_84 : decode cX9_stopped 84 = .ok (.goto 4, 3) := by decide +kernel
theorem dX9_stopped_87 : decode cX9_stopped 87 = .ok (.iconst 0, 1) := by decide +kernel
theorem dX9_stopped_88 : decode cX9_stopped 88 = .ok (.ior, 1) := by decide +kernel
theorem dX9_stopped_89 : decode cX9_stopped 89 = .ok (.istore_n 2, 1) := by decide +kernel
theorem dX9_stopped_90 : decode cX9_stopped 90 = .ok (.iinc 3 1, 3) := by decide +kernel
theorem dX9_stopped_93 : decode cX9_stopped 93 = .ok (.goto (-73), 3) := by decide +kernel
theorem dX9_stopped_96 : decode cX9_stopped 96 = .ok (.aload_n 0, 1) := by decide +kernel
theorem dX9_stopped_97 : decode cX9_stopped 97 = .ok (.getfield 10, 3) := by decide +kernel
theorem dX9_stopped_100 : decode cX9_stopped 100 = .ok (.iconst 0, 1) := by decide +kernel
theorem dX9_stopped_101 : decode cX9_stopped 101 = .ok (.putfield 112, 3) := by decide +kernel
theorem dX9_stopped_104 : decode cX9_stopped 104 = .ok (.iload_n 2, 1) := by decide +kernel
theorem dX9_stopped_105 : decode cX9_stopped 105 = .ok (.ireturn, 1) := by decide +kernel
theorem dX9_undo_0 : decode cX9_undo 0 = .ok (.aload_n 0, 1) := by decide +kernel
theorem dX9_undo_1 : decode cX9_undo 1 = .ok (.getfield 296, 3) := by decide +kernel
theorem dX9_undo_4 : decode cX9_undo 4 = .ok (.ifCond .eq 14, 3) := by decide +kernel
theorem dX9_undo_7 : decode cX9_undo 7 = .ok (.aload_n 0, 1) := by decide +kernel
theorem dX9_undo_8 : decode cX9_undo 8 = .ok (.getfield 26, 3) := by decide +kernel
theorem dX9_undo_11 : decode cX9_undo 11 = .ok (.aload_n 0, 1) := by decide +kernel
theorem dX9_undo_12 : decode cX9_undo 12 = .ok (.getfield 30, 3) := by decide +kernel
theorem dX9_undo_15 : decode cX9_undo 15 = .ok (.invokevirtual 168, 3) := by decide +kernel
theorem dX9_undo_18 : decode cX9_undo 18 = .ok (.aload_n 0, 1) := by decide +kernel
theorem dX9_undo_19 : decode cX9_undo 19 = .ok (.getfield 296, 3) := by decide +kernel
theorem dX9_undo_22 : decode cX9_undo 22 = .ok (.ireturn, 1) := by decide +kernel
