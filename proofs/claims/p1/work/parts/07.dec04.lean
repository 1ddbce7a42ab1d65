theorem dX8_init_24 : decode cX8_init 24 = .ok (.bipush 10, 2) := by decide +kernel
theorem dX8_init_26 : decode cX8_init 26 = .ok (.newarray .int, 2) := by decide +kernel
theorem dX8_init_28 : decode cX8_init 28 = .ok (.putfield 22, 3) := by decide +kernel
theorem dX8_init_31 : decode cX8_init 31 = .ok (.aload_n 0, 1) := by decide +kernel
theorem dX8_init_32 : decode cX8_init 32 = .ok (.bipush 10, 2) := by decide +kernel
theorem dX8_init_34 : decode cX8_init 34 = .ok (.newarray .int, 2) := by decide +kernel
theorem dX8_init_36 : decode cX8_init 36 = .ok (.putfield 25, 3) := by decide +kernel
theorem dX8_init_39 : decode cX8_init 39 = .ok (.aload_n 0, 1) := by decide +kernel
theorem dX8_init_40 : decode cX8_init 40 = .ok (.aload_n 1, 1) := by decide +kernel
theorem dX8_init_41 : decode cX8_init 41 = .ok (.putfield 28, 3) := by decide +kernel
theorem dX8_init_44 : decode cX8_init 44 = .ok (.aload_n 0, 1) := by decide +kernel
theorem dX8_init_45 : decode cX8_init 45 = .ok (.aload_n 2, 1) := by decide +kernel
theorem dX8_init_46 : decode cX8_init 46 = .ok (.putfield 32, 3) := by decide +kernel
theorem dX8_init_49 : decode cX8_init 49 = .ok (.return_, 1) := by decide +kernel
theorem dX8_run_0 : decode cX8_run 0 = .ok (.iconst 0, 1) := by decide +kernel
theorem dX8_run_1 : decode cX8_run 1 = .ok (.istore_n 3, 1) := by decide +kernel
theorem dX8_run_2 : decode cX8_run 2 = .ok (.iload_n 3, 1) := by decide +kernel
theorem dX8_run_3 : decode cX8_run 3 = .ok (.iload_n 1, 1) := by decide +kernel
theorem dX8_run_4 : decode cX8_run 4 = .ok (.if_icmp .ge 30, 3) := by decide +kernel
theorem dX8_run_7 : decode cX8_run 7 = .ok (.aload_n 0, 1) := by decide +kernel
theorem dX8_run_8 : decode cX8_run 8 = .ok (.getfield 12, 3) := by decide +kernel
theorem dX8_run_11 : decode cX8_run 11 = .ok (.getfield 53, 3) := by decide +kernel
theorem dX8_run_14 : decode cX8_run 14 = .ok (.aload_n 0, 1) := by decide +kernel
theorem dX8_run_15 : decode cX8_run 15 = .ok (.getfield 56, 3) := by decide +kernel
theorem dX8_run_18 : decode cX8_run 18 = .ok (.isub, 1) := by decide +kernel
theorem dX8_run_19 : decode cX8_run 19 = .ok (.iload_n 2, 1) := by decide +kernel
theorem dX8_run_20 : decode cX8_run 20 = .ok (.if_icmp .ge 14, 3) := by decide +kernel
theorem dX8_run_23 : decode cX8_run 23 = .ok (.aload_n 0, 1) := by decide +kernel
theorem dX8_run_24 : decode cX8_run 24 = .ok (.invokevirtual 74, 3) := by decide +kernel
theorem dX8_run_27 : decode cX8_run 27 = .ok (.pop, 1) := by decide +kernel
theorem dX8_run_28 : decode cX8_run 28 = .ok (.iinc 3 1, 3) := by decide +kernel
theorem dX8_run_31 : decode cX8_run 31 = .ok (.goto (-29), 3) := by decide +kernel
theorem dX8_run_34 : decode cX8_run 34 = .ok (.aload_n 0, 1) := by decide +kernel
theorem dX8_run_35 : decode cX8_run 35 = .ok (.getfield 12, 3) := by decide +kernel
theorem dX8_run_38 : decode cX8_run 38 = .ok (.getfield 53, 3) := by decide +kernel
theorem dX8_run_41 : decode cX8_run 41 = .ok (.aload_n 0, 1) := by decide +kernel
theorem dX8_run_42 : decode cX8_run 42 = .ok (.getfield 56, 3) := by decide +kernel
theorem dX8_run_45 : decode cX8_run 45 = .ok (.isub, 1) := by decide +kernel
theorem dX8_run_46 : decode cX8_run 46 = .ok (.ireturn, 1) := by decide +kernel
theorem dX8_setFront_0 : decode cX8_setFront 0 = .ok (.aload_n 0, 1) := by decide +kernel
theorem dX8_setFront_1 : decode cX8_setFront 1 = .ok (.iload_n 1, 1) := by decide +kernel
theorem dX8_setFront_2 : decode cX8_setFront 2 = .ok (.putfield 50, 3) := by decide +kernel
theorem dX8_setFront_5 : decode cX8_setFront 5 = .ok (.aload_n 0, 1) := by decide +kernel
theorem dX8_setFront_6 : decode cX8_setFront 6 = .ok (.iload_n 2, 1) := by decide +kernel
theorem dX8_setFront_7 : decode cX8_setFront 7 = .ok (.putfield 71, 3) := by decide +kernel
theorem dX8_setFront_10 : decode cX8_setFront 10 = .ok (.return_, 1) := by decide +kernel
theorem dX8_setIdle_0 : decode cX8_setIdle 0 = .ok (.aload_n 0, 1) := by decide +kernel
theorem dX8_setIdle_1 : decode cX8_setIdle 1 = .ok (.iload_n 1, 1) := by decide +kernel
theorem dX8_setIdle_2 : decode cX8_setIdle 2 = .ok (.putfield 46, 3) := by decide +kernel
theorem dX8_setIdle_5 : decode cX8_setIdle 5 = .ok (.aload_n 0, 1) := by decide +kernel
theorem dX8_setIdle_6 : decode cX8_setIdle 6 = .ok (.iload_n 2, 1) := by decide +kernel
theorem dX8_setIdle_7 : decode cX8_setIdle 7 = .ok (.putfield 65, 3) := by decide +kernel
theorem dX8_setIdle_10 : decode cX8_setIdle 10 = .ok (.aload_n 0, 1) := by decide +kernel
theorem dX8_setIdle_11 : decode cX8_setIdle 11 = .ok (.iload_n 3, 1) := by decide +kernel
theorem dX8_setIdle_12 : decode cX8_setIdle 12 = .ok (.putfield 68, 3) := by decide +kernel
theorem dX8_setIdle_15 : decode cX8_setIdle 15 = .ok (.return_, 1) := by decide +kernel
theorem dX8_staysClear_0 : decode cX8_staysClear 0 = .ok (.iconst 1, 1) := by decide +kernel
theorem dX8_staysClear_1 : decode cX8_staysClear 1 = .ok (.istore_n 2, 1) := by decide +kernel
theorem dX8_staysClear_2 : decode cX8_staysClear 2 = .ok (.iconst 0, 1) := by decide +kernel
theorem dX8_staysClear_3 : decode cX8_staysClear 3 = .ok (.istore_n 3, 1) := by decide +kernel
theorem dX8_staysClear_4 : decode cX8_staysClear 4 = .ok (.iload_n 3, 1) := by decide +kernel
theorem dX8_staysClear_5 : decode cX8_staysClear 5 = .ok (.iload_n 1, 1) := by decide +kernel
theorem dX8_staysClear_6 : decode cX8_staysClear 6 = .ok (.if_icmp .ge 26, 3) := by decide +kernel
theorem dX8_staysClear_9 : decode cX8_staysClear 9 = .ok (.iload_n 2, 1) := by decide +kernel
theorem dX8_staysClear_10 : decode cX8_staysClear 10 = .ok (.ifCond .eq 22, 3) := by decide +kernel
theorem dX8_staysClear_13 : decode cX8_staysClear 13 = .ok (.aload_n 0, 1) := by decide +kernel
theorem dX8_staysClear_14 : decode cX8_staysClear 14 = .ok (.invokevirtual 74, 3) := by decide +kernel
theorem dX8_staysClear_17 : decode cX8_staysClear 17 = .ok (.ifCond .ne 7, 3) := by decide +kernel
theorem dX8_staysClear_20 : decode cX8_staysClear 20 = .ok (.iconst 1, 1) := by decide +kernel
theorem dX8_staysClear_21 : decode cX8_staysClear 21 = .ok (.goto 4, 3) := by decide +kernel
theorem dX8_staysClear_25 : decode cX8_staysClear 25 = .ok (.istore_n 2, 1) := by decide +kernel
theorem dX8_staysClear_26 : decode cX8_staysClear 26 = .ok (.iinc 3 1, 3) := by decide +kernel
theorem dX8_staysClear_29 : decode cX8_staysClear 29 = .ok (.goto (-25), 3) := by decide +kernel
theorem dX8_staysClear_32 : decode cX8_staysClear 32 = .ok (.iload_n 2, 1) := by decide +kernel
theorem dX8_staysClear_33 : decode cX8_staysClear 33 = .ok (.ireturn, 1) := by decide +kernel
theorem dX9_against_0 : decode cX9_against 0 = .ok (.aload_n 0, 1) := by decide +kernel
theorem dX9_against_1 : decode cX9_against 1 = .ok (.getfield 19, 3) := by decide +kernel
theorem dX9_against_4 : decode cX9_against 4 = .ok (.iload_n 1, 1) := by decide +kernel
theorem dX9_against_5 : decode cX9_against 5 = .ok (.invokevirtual 173, 3) := by decide +kernel
theorem dX9_against_8 : decode cX9_against 8 = .ok (.ifCond .eq 23, 3) := by decide +kernel
theorem dX9_against_31 : decode cX9_against 31 = .ok (.iconst 0, 1) := by decide +kernel
theorem dX9_against_32 : decode cX9_against 32 = .ok (.istore 6, 2) := by decide +kernel
theorem dX9_against_34 : decode cX9_against 34 = .ok (.iload 6, 2) := by decide +kernel
theorem dX9_against_36 : decode cX9_against 36 = .ok (.ifCond .eq 33, 3) := by decide +kernel
theorem dX9_against_69 : decode cX9_against 69 = .ok (.ldc 231, 2) := by decide +kernel
theorem dX9_against_71 : decode cX9_against 71 = .ok (.ireturn, 1) := by decide +kernel
theorem dX9_allIsDoneIfStay_0 : decode cX9_allIsDoneIfStay 0 = .ok (.aload_n 0, 1) := by decide +kernel
theorem dX9_allIsDoneIfStay_1 : decode cX9_allIsDoneIfStay 1 = .ok (.getfield 73, 3) := by decide +kernel
theorem dX9_allIsDoneIfStay_4 : decode cX9_allIsDoneIfStay 4 = .ok (.aload_n 0, 1) := by decide +kernel
theorem dX9_allIsDoneIfStay_5 : decode cX9_allIsDoneIfStay 5 = .ok (.getfield 26, 3) := by decide +kernel
theorem dX9_allIsDoneIfStay_8 : decode cX9_allIsDoneIfStay 8 = .ok (.invokevirtual 157, 3) := by decide +kernel
theorem dX9_allIsDoneIfStay_11 : decode cX9_allIsDoneIfStay 11 = .ok (.aload_n 0, 1) := by decide +kernel
theorem dX9_allIsDoneIfStay_12 : decode cX9_allIsDoneIfStay 12 = .ok (.getfield 73, 3) := by decide +kernel
theorem dX9_allIsDoneIfStay_15 : decode cX9_allIsDoneIfStay 15 = .ok (.getfield 165, 3) := by decide +kernel
theorem dX9_allIsDoneIfStay_18 : decode cX9_allIsDoneIfStay 18 = .ok (.iload_n 1, 1) := by decide +kernel
theorem dX9_allIsDoneIfStay_19 : decode cX9_allIsDoneIfStay 19 = .ok (.invokevirtual 147, 3) := by decide +kernel
theorem dX9_allIsDoneIfStay_22 : decode cX9_allIsDoneIfStay 22 = .ok (.aload_n 0, 1) := by decide +kernel
theorem dX9_allIsDoneIfStay_23 : decode cX9_allIsDoneIfStay 23 = .ok (.getfield 73, 3) := by decide +kernel
theorem dX9_allIsDoneIfStay_26 : decode cX9_allIsDoneIfStay 26 = .ok (.iload_n 2, 1) := by decide +kernel
theorem dX9_allIsDoneIfStay_27 : decode cX9_allIsDoneIfStay 27 = .ok (.invokevirtual 323, 3) := by decide +kernel
theorem dX9_allIsDoneIfStay_30 : decode cX9_allIsDoneIfStay 30 = .ok (.ireturn, 1) := by decide +kernel
theorem dX9_areTold_0 : decode cX9_areTold 0 = .ok (.iload_n 1, 1) := by decide +kernel
theorem dX9_areTold_1 : decode cX9_areTold 1 = .ok (.aload_n 0, 1) := by decide +kernel
theorem dX9_areTold_2 : decode cX9_areTold 2 = .ok (.getfield 19, 3) := by decide +kernel
theorem dX9_areTold_5 : decode cX9_areTold 5 = .ok (.getfield 85, 3) := by decide +kernel
theorem dX9_areTold_8 : decode cX9_areTold 8 = .ok (.iconst (-1), 1) := by decide +kernel
theorem dX9_areTold_9 : decode cX9_areTold 9 = .ok (.ixor, 1) := by decide +kernel
theorem dX9_areTold_10 : decode cX9_areTold 10 = .ok (.iand, 1) := by decide +kernel
theorem dX9_areTold_11 : decode cX9_areTold 11 = .ok (.ifCond .ne 7, 3) := by decide +kernel
theorem dX9_areTold_14 : decode cX9_areTold 14 = .ok (.iconst 1, 1) := by decide +kernel
theorem dX9_areTold_15 : decode cX9_areTold 15 = .ok (.goto 4, 3) := by decide +kernel
theorem dX9_areTold_18 : decode cX9_areTold 18 = .ok (.iconst 0, 1) := by decide +kernel
theorem dX9_areTold_19 : decode cX9_areTold 19 = .ok (.ireturn, 1) := by decide +kernel
theorem dX9_byTurns_0 : decode cX9_byTurns 0 = .ok (.iload_n 1, 1) := by decide +kernel
theorem dX9_byTurns_1 : decode cX9_byTurns 1 = .ok (.invokestatic 142, 3) := by decide +kernel
theorem dX9_byTurns_4 : decode cX9_byTurns 4 = .ok (.istore 4, 2) := by decide +kernel
theorem dX9_byTurns_6 : decode cX9_byTurns 6 = .ok (.aload_n 0, 1) := by decide +kernel
theorem dX9_byTurns_7 : decode cX9_byTurns 7 = .ok (.iload_n 1, 1) := by decide +kernel
theorem dX9_byTurns_8 : decode cX9_byTurns 8 = .ok (.invokevirtual 221, 3) := by decide +kernel
theorem dX9_byTurns_11 : decode cX9_byTurns 11 = .ok (.ifCond .eq 35, 3) := by decide +kernel
theorem dX9_byTurns_14 : decode cX9_byTurns 14 = .ok (.iload 4, 2) := by decide +kernel
theorem dX9_byTurns_16 : decode cX9_byTurns 16 = .ok (.iconst 2, 1) := by decide +kernel
theorem dX9_byTurns_17 : decode cX9_byTurns 17 = .ok (.iconst 4, 1) := by decide +kernel
theorem dX9_byTurns_18 : decode cX9_byTurns 18 = .ok (.invokestatic 81, 3) := by decide +kernel
theorem dX9_byTurns_21 : decode cX9_byTurns 21 = .ok (.ifCond .eq 25, 3) := by decide +kernel
theorem dX9_byTurns_46 : decode cX9_byTurns 46 = .ok (.iconst 0, 1) := by decide +kernel
theorem dX9_byTurns_47 : decode cX9_byTurns 47 = .ok (.istore 5, 2) := by decide +kernel
theorem dX9_byTurns_49 : decode cX9_byTurns 49 = .ok (.iload 5, 2) := by decide +kernel
theorem dX9_byTurns_51 : decode cX9_byTurns 51 = .ok (.ifCond .eq 13, 3) := by decide +kernel
theorem dX9_byTurns_64 : decode cX9_byTurns 64 = .ok (.iconst (-1), 1) := by decide +kernel
theorem dX9_byTurns_65 : decode cX9_byTurns 65 = .ok (.ireturn, 1) := by decide +kernel
theorem dX9_canLeave_0 : decode cX9_canLeave 0 = .ok (.aload_n 0, 1) := by decide +kernel
theorem dX9_canLeave_1 : decode cX9_canLeave 1 = .ok (.getfield 19, 3) := by decide +kernel
theorem dX9_canLeave_4 : decode cX9_canLeave 4 = .ok (.iload_n 1, 1) := by decide +kernel
theorem dX9_canLeave_5 : decode cX9_canLeave 5 = .ok (.invokevirtual 173, 3) := by decide +kernel
theorem dX9_canLeave_8 : decode cX9_canLeave 8 = .ok (.ifCond .eq 18, 3) := by decide +kernel
theorem dX9_canLeave_26 : decode cX9_canLeave 26 = .ok (.iconst 0, 1) := by decide +kernel
theorem dX9_canLeave_27 : decode cX9_canLeave 27 = .ok (.ireturn, 1) := by decide +kernel
theorem dX9_check_0 : decode cX9_check 0 = .ok (.aload_n 0, 1) := by decide +kernel
theorem dX9_check_1 : decode cX9_check 1 = .ok (.getfield 10, 3) := by decide +kernel
theorem dX9_check_4 : decode cX9_check 4 = .ok (.iload_n 1, 1) := by decide +kernel
theorem dX9_check_5 : decode cX9_check 5 = .ok (.iconst 0, 1) := by decide +kernel
theorem dX9_check_6 : decode cX9_check 6 = .ok (.bipush 12, 2) := by decide +kernel
theorem dX9_check_8 : decode cX9_check 8 = .ok (.invokevirtual 115, 3) := by decide +kernel
theorem dX9_check_11 : decode cX9_check 11 = .ok (.ifCond .ne 6, 3) := by decide +kernel
theorem dX9_check_14 : decode cX9_check 14 = .ok (.bipush (-2), 2) := by decide +kernel
theorem dX9_check_16 : decode cX9_check 16 = .ok (.ireturn, 1) := by decide +kernel
theorem dX9_check_17 : decode cX9_check 17 = .ok (.aload_n 0, 1) := by decide +kernel
theorem dX9_check_18 : decode cX9_check 18 = .ok (.aload_n 0, 1) := by decide +kernel
theorem dX9_check_19 : decode cX9_check 19 = .ok (.getfield 26, 3) := by decide +kernel
theorem dX9_check_22 : decode cX9_check 22 = .ok (.iload_n 1, 1) := by decide +kernel
theorem dX9_check_23 : decode cX9_check 23 = .ok (.invokevirtual 270, 3) := by decide +kernel
theorem dX9_check_26 : decode cX9_check 26 = .ok (.istore_n 2, 1) := by decide +kernel
theorem dX9_check_27 : decode cX9_check 27 = .ok (.aload_n 0, 1) := by decide +kernel
theorem dX9_check_28 : decode cX9_check 28 = .ok (.getfield 10, 3) := by decide +kernel
theorem dX9_check_31 : decode cX9_check 31 = .ok (.iconst 0, 1) := by decide +kernel
theorem dX9_check_32 : decode cX9_check 32 = .ok (.putfield 112, 3) := by decide +kernel
theorem dX9_check_35 : decode cX9_check 35 = .ok (.iload_n 2, 1) := by decide +kernel
theorem dX9_check_36 : decode cX9_check 36 = .ok (.ireturn, 1) := by decide +kernel
theorem dX9_chore_0 : decode cX9_chore 0 = .ok (.iload_n 1, 1) := by decide +kernel
theorem dX9_chore_1 : decode cX9_chore 1 = .ok (.iconst 0, 1) := by decide +kernel
theorem dX9_chore_2 : decode cX9_chore 2 = .ok (.bipush 11, 2) := by decide +kernel
theorem dX9_chore_4 : decode cX9_chore 4 = .ok (.invokestatic 81, 3) := by decide +kernel
theorem dX9_chore_7 : decode cX9_chore 7 = .ok (.ifCond .eq 13, 3) := by decide +kernel
theorem dX9_chore_10 : decode cX9_chore 10 = .ok (.iload_n 2, 1) := by decide +kernel
theorem dX9_chore_11 : decode cX9_chore 11 = .ok (.iconst 0, 1) := by decide +kernel
theorem dX9_chore_12 : decode cX9_chore 12 = .ok (.bipush 20, 2) := by decide +kernel
theorem dX9_chore_14 : decode cX9_chore 14 = .ok (.invokestatic 81, 3) := by decide +kernel
theorem dX9_chore_17 : decode cX9_chore 17 = .ok (.ifCond .ne 5, 3) := by decide +kernel
theorem dX9_chore_20 : decode cX9_chore 20 = .ok (.iconst 0, 1) := by decide +kernel
theorem dX9_chore_21 : decode cX9_chore 21 = .ok (.ireturn, 1) := by decide +kernel
theorem dX9_chore_22 : decode cX9_chore 22 = .ok (.aload_n 0, 1) := by decide +kernel
theorem dX9_chore_23 : decode cX9_chore 23 = .ok (.getfield 19, 3) := by decide +kernel
theorem dX9_chore_26 : decode cX9_chore 26 = .ok (.dup, 1) := by decide +kernel
theorem dX9_chore_27 : decode cX9_chore 27 = .ok (.getfield 92, 3) := by decide +kernel
theorem dX9_chore_30 : decode cX9_chore 30 = .ok (.iconst 1, 1) := by decide +kernel
theorem dX9_chore_31 : decode cX9_chore 31 = .ok (.iload_n 1, 1) := by decide +kernel
theorem dX9_chore_32 : decode cX9_chore 32 = .ok (.ishl, 1) := by decide +kernel
theorem dX9_chore_33 : decode cX9_chore 33 = .ok (.ior, 1) := by decide +kernel
theorem dX9_chore_34 : decode cX9_chore 34 = .ok (.putfield 92, 3) := by decide +kernel
theorem dX9_chore_37 : decode cX9_chore 37 = .ok (.aload_n 0, 1) := by decide +kernel
theorem dX9_chore_38 : decode cX9_chore 38 = .ok (.getfield 19, 3) := by decide +kernel
theorem dX9_chore_41 : decode cX9_chore 41 = .ok (.getfield 95, 3) := by decide +kernel
theorem dX9_chore_44 : decode cX9_chore 44 = .ok (.iload_n 1, 1) := by decide +kernel
theorem dX9_chore_45 : decode cX9_chore 45 = .ok (.iload_n 2, 1) := by decide +kernel
theorem dX9_chore_46 : decode cX9_chore 46 = .ok (.iastore, 1) := by decide +kernel
theorem dX9_chore_47 : decode cX9_chore 47 = .ok (.aload_n 0, 1) := by decide +kernel
theorem dX9_chore_48 : decode cX9_chore 48 = .ok (.getfield 26, 3) := by decide +kernel
theorem dX9_chore_51 : decode cX9_chore 51 = .ok (.getfield 98, 3) := by decide +kernel
theorem dX9_chore_54 : decode cX9_chore 54 = .ok (.iload_n 1, 1) := by decide +kernel
theorem dX9_chore_55 : decode cX9_chore 55 = .ok (.iconst 0, 1) := by decide +kernel
theorem dX9_chore_56 : decode cX9_chore 56 = .ok (.iastore, 1) := by decide +kernel
theorem dX9_chore_57 : decode cX9_chore 57 = .ok (.iconst 1, 1) := by decide +kernel
theorem dX9_chore_58 : decode cX9_chore 58 = .ok (.ireturn, 1) := by decide +kernel
theorem dX9_choreIs_0 : decode cX9_choreIs 0 = .ok (.aload_n 0, 1) := by decide +kernel
theorem dX9_choreIs_1 : decode cX9_choreIs 1 = .ok (.getfield 19, 3) := by decide +kernel
theorem dX9_choreIs_4 : decode cX9_choreIs 4 = .ok (.iload_n 1, 1) := by decide +kernel
theorem dX9_choreIs_5 : decode cX9_choreIs 5 = .ok (.invokevirtual 170, 3) := by decide +kernel
theorem dX9_choreIs_8 : decode cX9_choreIs 8 = .ok (.ifCond .ne 5, 3) := by decide +kernel
theorem dX9_choreIs_11 : decode cX9_choreIs 11 = .ok (.iconst (-1), 1) := by decide +kernel
theorem dX9_choreIs_12 : decode cX9_choreIs 12 = .ok (.ireturn, 1) := by decide +kernel
theorem dX9_cost_0 : decode cX9_cost 0 = .ok (.iload_n 2, 1) := by decide +kernel
theorem dX9_cost_1 : decode cX9_cost 1 = .ok (.invokestatic 154, 3) := by decide +kernel
theorem dX9_cost_4 : decode cX9_cost 4 = .ok (.ifCond .eq 23, 3) := by decide +kernel
theorem dX9_cost_7 : decode cX9_cost 7 = .ok (.aload_n 0, 1) := by decide +kernel
theorem dX9_cost_8 : decode cX9_cost 8 = .ok (.iload_n 1, 1) := by decide +kernel
theorem dX9_cost_9 : decode cX9_cost 9 = .ok (.invokevirtual 221, 3) := by decide +kernel
theorem dX9_cost_12 : decode cX9_cost 12 = .ok (.ifCond .eq 15, 3) := by decide +kernel
theorem dX9_cost_15 : decode cX9_cost 15 = .ok (.aload_n 0, 1) := by decide +kernel
theorem dX9_cost_16 : decode cX9_cost 16 = .ok (.iload_n 1, 1) := by decide +kernel
theorem dX9_cost_17 : decode cX9_cost 17 = .ok (.iload_n 2, 1) := by decide +kernel
theorem dX9_cost_18 : decode cX9_cost 18 = .ok (.iconst (-1), 1) := by decide +kernel
theorem dX9_cost_19 : decode cX9_cost 19 = .ok (.iconst (-1), 1) := by decide +kernel
theorem dX9_cost_20 : decode cX9_cost 20 = .ok (.iconst (-1), 1) := by decide +kernel
theorem dX9_cost_21 : decode cX9_cost 21 = .ok (.invokevirtual 224, 3) := by decide +kernel
theorem dX9_cost_24 : decode cX9_cost 24 = .ok (.goto 4, 3) := by decide +kernel
theorem dX9_cost_27 : decode cX9_cost 27 = .ok (.iconst (-1), 1) := by decide +kernel
theorem dX9_cost_28 : decode cX9_cost 28 = .ok (.ireturn, 1) := by decide +kernel
theorem dX9_costIf_0 : decode cX9_costIf 0 = .ok (.aload_n 0, 1) := by decide +kernel
theorem dX9_costIf_1 : decode cX9_costIf 1 = .ok (.getfield 73, 3) := by decide +kernel
theorem dX9_costIf_4 : decode cX9_costIf 4 = .ok (.aload_n 0, 1) := by decide +kernel
theorem dX9_costIf_5 : decode cX9_costIf 5 = .ok (.getfield 26, 3) := by decide +kernel
theorem dX9_costIf_8 : decode cX9_costIf 8 = .ok (.invokevirtual 157, 3) := by decide +kernel
theorem dX9_costIf_11 : decode cX9_costIf 11 = .ok (.aload_n 0, 1) := by decide +kernel
theorem dX9_costIf_12 : decode cX9_costIf 12 = .ok (.getfield 73, 3) := by decide +kernel
theorem dX9_costIf_15 : decode cX9_costIf 15 = .ok (.getfield 165, 3) := by decide +kernel
theorem dX9_costIf_18 : decode cX9_costIf 18 = .ok (.iload_n 1, 1) := by decide +kernel
theorem dX9_costIf_19 : decode cX9_costIf 19 = .ok (.iconst (-1), 1) := by decide +kernel
theorem dX9_costIf_20 : decode cX9_costIf 20 = .ok (.ixor, 1) := by decide +kernel
theorem dX9_costIf_21 : decode cX9_costIf 21 = .ok (.invokevirtual 147, 3) := by decide +kernel
theorem dX9_costIf_24 : decode cX9_costIf 24 = .ok (.aload_n 0, 1) := by decide +kernel
theorem dX9_costIf_25 : decode cX9_costIf 25 = .ok (.getfield 73, 3) := by decide +kernel
theorem dX9_costIf_28 : decode cX9_costIf 28 = .ok (.iload_n 3, 1) := by decide +kernel
theorem dX9_costIf_29 : decode cX9_costIf 29 = .ok (.iconst 0, 1) := by decide +kernel
theorem dX9_costIf_30 : decode cX9_costIf 30 = .ok (.sipush 9999, 3) := by decide +kernel
theorem dX9_costIf_33 : decode cX9_costIf 33 = .ok (.invokevirtual 303, 3) := by decide +kernel
theorem dX9_costIf_36 : decode cX9_costIf 36 = .ok (.aload_n 0, 1) := by decide +kernel
theorem dX9_costIf_37 : decode cX9_costIf 37 = .ok (.getfield 73, 3) := by decide +kernel
theorem dX9_costIf_40 : decode cX9_costIf 40 = .ok (.iload 4, 2) := by decide +kernel
theorem dX9_costIf_42 : decode cX9_costIf 42 = .ok (.iload 5, 2) := by decide +kernel
theorem dX9_costIf_44 : decode cX9_costIf 44 = .ok (.invokevirtual 307, 3) := by decide +kernel
theorem dX9_costIf_47 : decode cX9_costIf 47 = .ok (.aload_n 0, 1) := by decide +kernel
theorem dX9_costIf_48 : decode cX9_costIf 48 = .ok (.getfield 73, 3) := by decide +kernel
theorem dX9_costIf_51 : decode cX9_costIf 51 = .ok (.iload_n 2, 1) := by decide +kernel
theorem dX9_costIf_52 : decode cX9_costIf 52 = .ok (.ldc 160, 2) := by decide +kernel
theorem dX9_costIf_54 : decode cX9_costIf 54 = .ok (.invokevirtual 161, 3) := by decide +kernel
theorem dX9_costIf_57 : decode cX9_costIf 57 = .ok (.ireturn, 1) := by decide +kernel
theorem dX9_count_0 : decode cX9_count 0 = .ok (.iload_n 1, 1) := by decide +kernel
theorem dX9_count_1 : decode cX9_count 1 = .ok (.tableswitch 135 0 9 #[55, 63, 71, 79, 87, 95, 103, 111, 119, 127], 55) := by decide +kernel
theorem dX9_count_56 : decode cX9_count 56 = .ok (.aload_n 0, 1) := by decide +kernel
theorem dX9_count_57 : decode cX9_count 57 = .ok (.getfield 26, 3) := by decide +kernel
theorem dX9_count_60 : decode cX9_count 60 = .ok (.getfield 209, 3) := by decide +kernel
theorem dX9_count_63 : decode cX9_count 63 = .ok (.ireturn, 1) := by decide +kernel
theorem dX9_count_64 : decode cX9_count 64 = .ok (.aload_n 0, 1) := by decide +kernel
theorem dX9_count_65 : decode cX9_count 65 = .ok (.getfield 26, 3) := by decide +kernel
theorem dX9_count_68 : decode cX9_count 68 = .ok (.getfield 212, 3) := by decide +kernel
theorem dX9_count_71 : decode cX9_count 71 = .ok (.ireturn, 1) := by decide +kernel
theorem dX9_count_72 : decode cX9_count 72 = .ok (.aload_n 0, 1) := by decide +kernel
theorem dX9_count_73 : decode cX9_count 73 = .ok (.getfield 19, 3) := by decide +kernel
theorem dX9_count_76 : decode cX9_count 76 = .ok (.getfield 85, 3) := by decide +kernel
theorem dX9_count_79 : decode cX9_count 79 = .ok (.ireturn, 1) := by decide +kernel
theorem dX9_count_80 : decode cX9_count 80 = .ok (.aload_n 0, 1) := by decide +kernel
theorem dX9_count_81 : decode cX9_count 81 = .ok (.getfield 19, 3) := by decide +kernel
theorem dX9_count_84 : decode cX9_count 84 = .ok (.getfield 92, 3) := by decide +kernel
theorem dX9_count_87 : decode cX9_count 87 = .ok (.ireturn, 1) := by decide +kernel
theorem dX9_count_88 : decode cX9_count 88 = .ok (.aload_n 0, 1) := by decide +kernel
theorem dX9_count_89 : decode cX9_count 89 = .ok (.getfield 26, 3) := by decide +kernel
theorem dX9_count_92 : decode cX9_count 92 = .ok (.invokevirtual 215, 3) := by decide +kernel
theorem dX9_count_95 : decode cX9_count 95 = .ok (.ireturn, 1) := by decide +kernel
theorem dX9_count_96 : decode cX9_count 96 = .ok (.aload_n 0, 1) := by decide +kernel
theorem dX9_count_97 : decode cX9_count 97 = .ok (.getfield 36, 3) := by decide +kernel
theorem dX9_count_100 : decode cX9_count 100 = .ok (.getfield 218, 3) := by decide +kernel
theorem dX9_count_103 : decode cX9_count 103 = .ok (.ireturn, 1) := by decide +kernel
theorem dX9_count_104 : decode cX9_count 104 = .ok (.aload_n 0, 1) := by decide +kernel
theorem dX9_count_105 : decode cX9_count 105 = .ok (.getfield 10, 3) := by decide +kernel
theorem dX9_count_108 : decode cX9_count 108 = .ok (.getfield 112, 3) := by decide +kernel
theorem dX9_count_111 : decode cX9_count 111 = .ok (.ireturn, 1) := by decide +kernel
theorem dX9_count_112 : decode cX9_count 112 = .ok (.aload_n 0, 1) := by decide +kernel
theorem dX9_count_113 : decode cX9_count 113 = .ok (.getfield 26, 3) := by decide +kernel
theorem dX9_count_116 : decode cX9_count 116 = .ok (.getfield 151, 3) := by decide +kernel
theorem dX9_count_119 : decode cX9_count 119 = .ok (.ireturn, 1) := by decide +kernel
theorem dX9_count_120 : decode cX9_count 120 = .ok (.aload_n 0, 1) := by decide +kernel
theorem dX9_count_121 : decode cX9_count 121 = .ok (.getfield 19, 3) := by decide +kernel
theorem dX9_count_124 : decode cX9_count 124 = .ok (.getfield 101, 3) := by decide +kernel
theorem dX9_count_127 : decode cX9_count 127 = .ok (.ireturn, 1) := by decide +kernel
theorem dX9_count_128 : decode cX9_count 128 = .ok (.aload_n 0, 1) := by decide +kernel
theorem dX9_count_129 : decode cX9_count 129 = .ok (.getfield 26, 3) := by decide +kernel
theorem dX9_count_132 : decode cX9_count 132 = .ok (.invokevirtual 138, 3) := by decide +kernel
theorem dX9_count_135 : decode cX9_count 135 = .ok (.ireturn, 1) := by decide +kernel
theorem dX9_count_136 : decode cX9_count 136 = .ok (.iconst (-1), 1) := by decide +kernel
theorem dX9_count_137 : decode cX9_count 137 = .ok (.ireturn, 1) := by decide +kernel
theorem dX9_days_0 : decode cX9_days 0 = .ok (.iload_n 1, 1) := by decide +kernel
theorem dX9_days_1 : decode cX9_days 1 = .ok (.invokestatic 154, 3) := by decide +kernel
theorem dX9_days_4 : decode cX9_days 4 = .ok (.ifCond .ne 5, 3) := by decide +kernel
theorem dX9_days_7 : decode cX9_days 7 = .ok (.iconst (-1), 1) := by decide +kernel
theorem dX9_days_8 : decode cX9_days 8 = .ok (.ireturn, 1) := by decide +kernel
theorem dX9_days_9 : decode cX9_days 9 = .ok (.aload_n 0, 1) := by decide +kernel
theorem dX9_days_10 : decode cX9_days 10 = .ok (.getfield 73, 3) := by decide +kernel
theorem dX9_days_13 : decode cX9_days 13 = .ok (.aload_n 0, 1) := by decide +kernel
theorem dX9_days_14 : decode cX9_days 14 = .ok (.getfield 26, 3) := by decide +kernel
theorem dX9_days_17 : decode cX9_days 17 = .ok (.invokevirtual 157, 3) := by decide +kernel
theorem dX9_days_20 : decode cX9_days 20 = .ok (.aload_n 0, 1) := by decide +kernel
theorem dX9_days_21 : decode cX9_days 21 = .ok (.getfield 73, 3) := by decide +kernel
theorem dX9_days_24 : decode cX9_days 24 = .ok (.iload_n 1, 1) := by decide +kernel
theorem dX9_days_25 : decode cX9_days 25 = .ok (.ldc 160, 2) := by decide +kernel
theorem dX9_days_27 : decode cX9_days 27 = .ok (.invokevirtual 161, 3) := by decide +kernel
theorem dX9_days_30 : decode cX9_days 30 = .ok (.istore_n 2, 1) := by decide +kernel
theorem dX9_days_31 : decode cX9_days 31 = .ok (.aload_n 0, 1) := by decide +kernel
theorem dX9_days_32 : decode cX9_days 32 = .ok (.getfield 26, 3) := by decide +kernel
theorem dX9_days_35 : decode cX9_days 35 = .ok (.aload_n 0, 1) := by decide +kernel
theorem dX9_days_36 : decode cX9_days 36 = .ok (.getfield 73, 3) := by decide +kernel
theorem dX9_days_39 : decode cX9_days 39 = .ok (.getfield 165, 3) := by decide +kernel
theorem dX9_days_42 : decode cX9_days 42 = .ok (.invokevirtual 168, 3) := by decide +kernel
theorem dX9_days_45 : decode cX9_days 45 = .ok (.iload_n 2, 1) := by decide +kernel
theorem dX9_days_46 : decode cX9_days 46 = .ok (.ireturn, 1) := by decide +kernel
theorem dX9_doers_0 : decode cX9_doers 0 = .ok (.aload_n 0, 1) := by decide +kernel
theorem dX9_doers_1 : decode cX9_doers 1 = .ok (.getfield 10, 3) := by decide +kernel
theorem dX9_doers_4 : decode cX9_doers 4 = .ok (.iload_n 1, 1) := by decide +kernel
theorem dX9_doers_5 : decode cX9_doers 5 = .ok (.iconst 1, 1) := by decide +kernel
theorem dX9_doers_6 : decode cX9_doers 6 = .ok (.bipush 120, 2) := by decide +kernel
theorem dX9_doers_8 : decode cX9_doers 8 = .ok (.invokevirtual 115, 3) := by decide +kernel
theorem dX9_doers_11 : decode cX9_doers 11 = .ok (.ifCond .ne 5, 3) := by decide +kernel
theorem dX9_doers_14 : decode cX9_doers 14 = .ok (.iconst (-1), 1) := by decide +kernel
theorem dX9_doers_15 : decode cX9_doers 15 = .ok (.ireturn, 1) := by decide +kernel
theorem dX9_feed_0 : decode cX9_feed 0 = .ok (.aload_n 0, 1) := by decide +kernel
theorem dX9_feed_1 : decode cX9_feed 1 = .ok (.getfield 10, 3) := by decide +kernel
theorem dX9_feed_4 : decode cX9_feed 4 = .ok (.bipush 20, 2) := by decide +kernel
theorem dX9_feed_6 : decode cX9_feed 6 = .ok (.invokevirtual 104, 3) := by decide +kernel
theorem dX9_feed_9 : decode cX9_feed 9 = .ok (.ifCond .ne 5, 3) := by decide +kernel
theorem dX9_feed_14 : decode cX9_feed 14 = .ok (.aload_n 0, 1) := by decide +kernel
theorem dX9_feed_15 : decode cX9_feed 15 = .ok (.getfield 10, 3) := by decide +kernel
theorem dX9_feed_18 : decode cX9_feed 18 = .ok (.iload_n 1, 1) := by decide +kernel
theorem dX9_feed_19 : decode cX9_feed 19 = .ok (.invokevirtual 108, 3) := by decide +kernel
theorem dX9_feed_22 : decode cX9_feed 22 = .ok (.aload_n 0, 1) := by decide +kernel
theorem dX9_feed_23 : decode cX9_feed 23 = .ok (.getfield 10, 3) := by decide +kernel
theorem dX9_feed_26 : decode cX9_feed 26 = .ok (.iload_n 2, 1) := by decide +kernel
theorem dX9_feed_27 : decode cX9_feed 27 = .ok (.invokevirtual 108, 3) := by decide +kernel
theorem dX9_feed_30 : decode cX9_feed 30 = .ok (.aload_n 0, 1) := by decide +kernel
theorem dX9_feed_31 : decode cX9_feed 31 = .ok (.getfield 10, 3) := by decide +kernel
theorem dX9_feed_34 : decode cX9_feed 34 = .ok (.iload_n 3, 1) := by decide +kernel
theorem dX9_feed_35 : decode cX9_feed 35 = .ok (.invokevirtual 108, 3) := by decide +kernel
theorem dX9_feed_38 : decode cX9_feed 38 = .ok (.aload_n 0, 1) := by decide +kernel
theorem dX9_feed_39 : decode cX9_feed 39 = .ok (.getfield 10, 3) := by decide +kernel
theorem dX9_feed_42 : decode cX9_feed 42 = .ok (.iload 4, 2) := by decide +kernel
theorem dX9_feed_44 : decode cX9_feed 44 = .ok (.invokevirtual 108, 3) := by decide +kernel
theorem dX9_feed_47 : decode cX9_feed 47 = .ok (.aload_n 0, 1) := by decide +kernel
theorem dX9_feed_48 : decode cX9_feed 48 = .ok (.getfield 10, 3) := by decide +kernel
theorem dX9_feed_51 : decode cX9_feed 51 = .ok (.iload 5, 2) := by decide +kernel
theorem dX9_feed_53 : decode cX9_feed 53 = .ok (.invokevirtual 108, 3) := by decide +kernel
theorem dX9_feed_56 : decode cX9_feed 56 = .ok (.aload_n 0, 1) := by decide +kernel
theorem dX9_feed_57 : decode cX9_feed 57 = .ok (.getfield 10, 3) := by decide +kernel
theorem dX9_feed_60 : decode cX9_feed 60 = .ok (.getfield 112, 3) := by decide +kernel
theorem dX9_feed_63 : decode cX9_feed 63 = .ok (.ireturn, 1) := by decide +kernel
theorem dX9_firstDoer_0 : decode cX9_firstDoer 0 = .ok (.aload_n 0, 1) := by decide +kernel
theorem dX9_firstDoer_1 : decode cX9_firstDoer 1 = .ok (.getfield 19, 3) := by decide +kernel
theorem dX9_firstDoer_4 : decode cX9_firstDoer 4 = .ok (.iload_n 1, 1) := by decide +kernel
theorem dX9_firstDoer_5 : decode cX9_firstDoer 5 = .ok (.invokevirtual 170, 3) := by decide +kernel
theorem dX9_firstDoer_8 : decode cX9_firstDoer 8 = .ok (.ifCond .eq 19, 3) := by decide +kernel
theorem dX9_firstDoer_27 : decode cX9_firstDoer 27 = .ok (.iconst (-1), 1) := by decide +kernel
theorem dX9_firstDoer_28 : decode cX9_firstDoer 28 = .ok (.ireturn, 1) := by decide +kernel
theorem dX9_firstOther_0 : decode cX9_firstOther 0 = .ok (.iconst 0, 1) := by decide +kernel
theorem dX9_firstOther_1 : decode cX9_firstOther 1 = .ok (.istore_n 3, 1) := by decide +kernel
theorem dX9_firstOther_2 : decode cX9_firstOther 2 = .ok (.iload_n 3, 1) := by decide +kernel
theorem dX9_firstOther_3 : decode cX9_firstOther 3 = .ok (.iload_n 2, 1) := by decide +kernel
theorem dX9_firstOther_4 : decode cX9_firstOther 4 = .ok (.if_icmp .ge 34, 3) := by decide +kernel
theorem dX9_firstOther_38 : decode cX9_firstOther 38 = .ok (.iconst (-1), 1) := by decide +kernel
theorem dX9_firstOther_39 : decode cX9_firstOther 39 = .ok (.ireturn, 1) := by decide +kernel
theorem dX9_halfDone_0 : decode cX9_halfDone 0 = .ok (.aload_n 0, 1) := by decide +kernel
theorem dX9_halfDone_1 : decode cX9_halfDone 1 = .ok (.iload_n 1, 1) := by decide +kernel
theorem dX9_halfDone_2 : decode cX9_halfDone 2 = .ok (.invokevirtual 228, 3) := by decide +kernel
theorem dX9_halfDone_5 : decode cX9_halfDone 5 = .ok (.ifCond .eq 13, 3) := by decide +kernel
theorem dX9_halfDone_18 : decode cX9_halfDone 18 = .ok (.ldc 231, 2) := by decide +kernel
theorem dX9_halfDone_20 : decode cX9_halfDone 20 = .ok (.ireturn, 1) := by decide +kernel
theorem dX9_hired_0 : decode cX9_hired 0 = .ok (.iload_n 2, 1) := by decide +kernel
theorem dX9_hired_1 : decode cX9_hired 1 = .ok (.invokestatic 142, 3) := by decide +kernel
theorem dX9_hired_4 : decode cX9_hired 4 = .ok (.istore 5, 2) := by decide +kernel
theorem dX9_hired_6 : decode cX9_hired 6 = .ok (.aload_n 0, 1) := by decide +kernel
theorem dX9_hired_7 : decode cX9_hired 7 = .ok (.iload_n 2, 1) := by decide +kernel
theorem dX9_hired_8 : decode cX9_hired 8 = .ok (.invokevirtual 221, 3) := by decide +kernel
theorem dX9_hired_11 : decode cX9_hired 11 = .ok (.ifCond .eq 33, 3) := by decide +kernel
theorem dX9_hired_14 : decode cX9_hired 14 = .ok (.iload 5, 2) := by decide +kernel
theorem dX9_hired_16 : decode cX9_hired 16 = .ok (.iconst 1, 1) := by decide +kernel
theorem dX9_hired_17 : decode cX9_hired 17 = .ok (.iconst 3, 1) := by decide +kernel
theorem dX9_hired_18 : decode cX9_hired 18 = .ok (.invokestatic 81, 3) := by decide +kernel
theorem dX9_hired_21 : decode cX9_hired 21 = .ok (.ifCond .eq 23, 3) := by decide +kernel
theorem dX9_hired_44 : decode cX9_hired 44 = .ok (.iconst 0, 1) := by decide +kernel
theorem dX9_hired_45 : decode cX9_hired 45 = .ok (.istore 6, 2) := by decide +kernel
theorem dX9_hired_47 : decode cX9_hired 47 = .ok (.iload_n 1, 1) := by decide +kernel
theorem dX9_hired_48 : decode cX9_hired 48 = .ok (.iconst 1, 1) := by decide +kernel
theorem dX9_hired_49 : decode cX9_hired 49 = .ok (.bipush 9, 2) := by decide +kernel
theorem dX9_hired_51 : decode cX9_hired 51 = .ok (.invokestatic 81, 3) := by decide +kernel
theorem dX9_hired_54 : decode cX9_hired 54 = .ok (.ifCond .eq 15, 3) := by decide +kernel
theorem dX9_hired_57 : decode cX9_hired 57 = .ok (.iload 6, 2) := by decide +kernel
theorem dX9_hired_59 : decode cX9_hired 59 = .ok (.ifCond .eq 10, 3) := by decide +kernel
theorem dX9_hired_69 : decode cX9_hired 69 = .ok (.iconst (-1), 1) := by decide +kernel
theorem dX9_hired_70 : decode cX9_hired 70 = .ok (.ireturn, 1) := by decide +kernel
theorem dX9_holds_0 : decode cX9_holds 0 = .ok (.iload_n 1, 1) := by decide +kernel
theorem dX9_holds_1 : decode cX9_holds 1 = .ok (.iconst 1, 1) := by decide +kernel
theorem dX9_holds_2 : decode cX9_holds 2 = .ok (.bipush 20, 2) := by decide +kernel
theorem dX9_holds_4 : decode cX9_holds 4 = .ok (.invokestatic 81, 3) := by decide +kernel
theorem dX9_holds_7 : decode cX9_holds 7 = .ok (.ifCond .eq 23, 3) := by decide +kernel
theorem dX9_holds_10 : decode cX9_holds 10 = .ok (.iload_n 2, 1) := by decide +kernel
theorem dX9_holds_11 : decode cX9_holds 11 = .ok (.iconst 0, 1) := by decide +kernel
theorem dX9_holds_12 : decode cX9_holds 12 = .ok (.ldc_w 274, 3) := by decide +kernel
theorem dX9_holds_15 : decode cX9_holds 15 = .ok (.invokestatic 81, 3) := by decide +kernel
theorem dX9_holds_18 : decode cX9_holds 18 = .ok (.ifCond .eq 12, 3) := by decide +kernel
theorem dX9_holds_21 : decode cX9_holds 21 = .ok (.iload_n 3, 1) := by decide +kernel
theorem dX9_holds_22 : decode cX9_holds 22 = .ok (.iconst 0, 1) := by decide +kernel
theorem dX9_holds_23 : decode cX9_holds 23 = .ok (.iconst 1, 1) := by decide +kernel
theorem dX9_holds_24 : decode cX9_holds 24 = .ok (.invokestatic 81, 3) := by decide +kernel
theorem dX9_holds_27 : decode cX9_holds 27 = .ok (.ifCond .ne 5, 3) := by decide +kernel
theorem dX9_holds_30 : decode cX9_holds 30 = .ok (.iconst (-1), 1) := by decide +kernel
theorem dX9_holds_31 : decode cX9_holds 31 = .ok (.ireturn, 1) := by decide +kernel
theorem dX9_holds_32 : decode cX9_holds 32 = .ok (.aload_n 0, 1) := by decide +kernel
theorem dX9_holds_33 : decode cX9_holds 33 = .ok (.iconst 0, 1) := by decide +kernel
theorem dX9_holds_34 : decode cX9_holds 34 = .ok (.iload_n 1, 1) := by decide +kernel
theorem dX9_holds_35 : decode cX9_holds 35 = .ok (.ldc 160, 2) := by decide +kernel
theorem dX9_holds_37 : decode cX9_holds 37 = .ok (.invokevirtual 266, 3) := by decide +kernel
theorem dX9_holds_40 : decode cX9_holds 40 = .ok (.iload_n 2, 1) := by decide +kernel
theorem dX9_holds_41 : decode cX9_holds 41 = .ok (.iadd, 1) := by decide +kernel
theorem dX9_holds_42 : decode cX9_holds 42 = .ok (.istore 4, 2) := by decide +kernel
theorem dX9_holds_44 : decode cX9_holds 44 = .ok (.iconst 0, 1) := by decide +kernel
theorem dX9_holds_45 : decode cX9_holds 45 = .ok (.istore 5, 2) := by decide +kernel
theorem dX9_holds_47 : decode cX9_holds 47 = .ok (.iload 5, 2) := by decide +kernel
theorem dX9_holds_49 : decode cX9_holds 49 = .ok (.bipush 10, 2) := by decide +kernel
theorem dX9_holds_51 : decode cX9_holds 51 = .ok (.if_icmp .gt 83, 3) := by decide +kernel
theorem dX9_holds_54 : decode cX9_holds 54 = .ok (.iconst 0, 1) := by decide +kernel
theorem dX9_holds_55 : decode cX9_holds 55 = .ok (.istore 6, 2) := by decide +kernel
theorem dX9_holds_57 : decode cX9_holds 57 = .ok (.iload 6, 2) := by decide +kernel
theorem dX9_holds_59 : decode cX9_holds 59 = .ok (.sipush 1023, 3) := by decide +kernel
theorem dX9_holds_62 : decode cX9_holds 62 = .ok (.if_icmp .gt 66, 3) := by decide +kernel
theorem dX9_holds_65 : decode cX9_holds 65 = .ok (.iload 6, 2) := by decide +kernel
theorem dX9_holds_67 : decode cX9_holds 67 = .ok (.invokestatic 142, 3) := by decide +kernel
theorem dX9_holds_70 : decode cX9_holds 70 = .ok (.iload 5, 2) := by decide +kernel
theorem dX9_holds_72 : decode cX9_holds 72 = .ok (.if_icmp .ne 16, 3) := by decide +kernel
theorem dX9_holds_75 : decode cX9_holds 75 = .ok (.aload_n 0, 1) := by decide +kernel
theorem dX9_holds_76 : decode cX9_holds 76 = .ok (.iload 6, 2) := by decide +kernel
theorem dX9_holds_78 : decode cX9_holds 78 = .ok (.invokevirtual 221, 3) := by decide +kernel
theorem dX9_holds_81 : decode cX9_holds 81 = .ok (.ifCond .eq 7, 3) := by decide +kernel
theorem dX9_holds_84 : decode cX9_holds 84 = .ok (.iconst 1, 1) := by decide +kernel
theorem dX9_holds_85 : decode cX9_holds 85 = .ok (.goto 4, 3) := by decide +kernel
theorem dX9_holds_88 : decode cX9_holds 88 = .ok (.iconst 0, 1) := by decide +kernel
theorem dX9_holds_89 : decode cX9_holds 89 = .ok (.istore 7, 2) := by decide +kernel
theorem dX9_holds_91 : decode cX9_holds 91 = .ok (.iload 7, 2) := by decide +kernel
theorem dX9_holds_93 : decode cX9_holds 93 = .ok (.ifCond .eq 29, 3) := by decide +kernel
theorem dX9_holds_96 : decode cX9_holds 96 = .ok (.aload_n 0, 1) := by decide +kernel
theorem dX9_holds_97 : decode cX9_holds 97 = .ok (.iload 6, 2) := by decide +kernel
theorem dX9_holds_99 : decode cX9_holds 99 = .ok (.iload_n 1, 1) := by decide +kernel
theorem dX9_holds_100 : decode cX9_holds 100 = .ok (.iload 4, 2) := by decide +kernel
theorem dX9_holds_102 : decode cX9_holds 102 = .ok (.invokevirtual 266, 3) := by decide +kernel
theorem dX9_holds_105 : decode cX9_holds 105 = .ok (.iload 4, 2) := by decide +kernel
theorem dX9_holds_107 : decode cX9_holds 107 = .ok (.if_icmp .lt 15, 3) := by decide +kernel
theorem dX9_holds_110 : decode cX9_holds 110 = .ok (.iload_n 3, 1) := by decide +kernel
theorem dX9_holds_111 : decode cX9_holds 111 = .ok (.ifCond .ne 8, 3) := by decide +kernel
theorem dX9_holds_114 : decode cX9_holds 114 = .ok (.iload 5, 2) := by decide +kernel
theorem dX9_holds_116 : decode cX9_holds 116 = .ok (.goto 5, 3) := by decide +kernel
theorem dX9_holds_119 : decode cX9_holds 119 = .ok (.iload 6, 2) := by decide +kernel
theorem dX9_holds_121 : decode cX9_holds 121 = .ok (.ireturn, 1) := by decide +kernel
theorem dX9_holds_122 : decode cX9_holds 122 = .ok (.iinc 6 1, 3) := by decide +kernel
theorem dX9_holds_125 : decode cX9_holds 125 = .ok (.goto (-68), 3) := by decide +kernel
theorem dX9_holds_128 : decode cX9_holds 128 = .ok (.iinc 5 1, 3) := by decide +kernel
theorem dX9_holds_131 : decode cX9_holds 131 = .ok (.goto (-84), 3) := by decide +kernel
theorem dX9_holds_134 : decode cX9_holds 134 = .ok (.bipush (-2), 2) := by decide +kernel
theorem dX9_holds_136 : decode cX9_holds 136 = .ok (.ireturn, 1) := by decide +kernel
theorem dX9_home_0 : decode cX9_home 0 = .ok (.aload_n 0, 1) := by decide +kernel
theorem dX9_home_1 : decode cX9_home 1 = .ok (.getfield 26, 3) := by decide +kernel
theorem dX9_home_4 : decode cX9_home 4 = .ok (.invokevirtual 138, 3) := by decide +kernel
theorem dX9_home_7 : decode cX9_home 7 = .ok (.invokestatic 142, 3) := by decide +kernel
theorem dX9_home_10 : decode cX9_home 10 = .ok (.istore_n 1, 1) := by decide +kernel
theorem dX9_home_11 : decode cX9_home 11 = .ok (.aload_n 0, 1) := by decide +kernel
theorem dX9_home_12 : decode cX9_home 12 = .ok (.getfield 26, 3) := by decide +kernel
theorem dX9_home_15 : decode cX9_home 15 = .ok (.sipush 1023, 3) := by decide +kernel
theorem dX9_home_18 : decode cX9_home 18 = .ok (.invokevirtual 147, 3) := by decide +kernel
theorem dX9_home_21 : decode cX9_home 21 = .ok (.iload_n 1, 1) := by decide +kernel
theorem dX9_home_22 : decode cX9_home 22 = .ok (.ireturn, 1) := by decide +kernel
theorem dX9_init_0 : decode cX9_init 0 = .ok (.aload_n 0, 1) := by decide +kernel
theorem dX9_init_1 : decode cX9_init 1 = .ok (.invokespecial 1, 3) := by decide +kernel
theorem dX9_init_4 : decode cX9_init 4 = .ok (.aload_n 0, 1) := by decide +kernel
theorem dX9_init_5 : decode cX9_init 5 = .ok (.new 7, 3) := by decide +kernel
theorem dX9_init_8 : decode cX9_init 8 = .ok (.dup, 1) := by decide +kernel
theorem dX9_init_9 : decode cX9_init 9 = .ok (.invokespecial 9, 3) := by decide +kernel
theorem dX9_init_12 : decode cX9_init 12 = .ok (.putfield 10, 3) := by decide +kernel
theorem dX9_init_15 : decode cX9_init 15 = .ok (.aload_n 0, 1) := by decide +kernel
theorem dX9_init_16 : decode cX9_init 16 = .ok (.new 16, 3) := by decide +kernel
theorem dX9_init_19 : decode cX9_init 19 = .ok (.dup, 1) := by decide +kernel
theorem dX9_init_20 : decode cX9_init 20 = .ok (.invokespecial 18, 3) := by decide +kernel
theorem dX9_init_23 : decode cX9_init 23 = .ok (.putfield 19, 3) := by decide +kernel
theorem dX9_init_26 : decode cX9_init 26 = .ok (.aload_n 0, 1) := by decide +kernel
theorem dX9_init_27 : decode cX9_init 27 = .ok (.new 23, 3) := by decide +kernel
theorem dX9_init_30 : decode cX9_init 30 = .ok (.dup, 1) := by decide +kernel
theorem dX9_init_31 : decode cX9_init 31 = .ok (.invokespecial 25, 3) := by decide +kernel
theorem dX9_init_34 : decode cX9_init 34 = .ok (.putfield 26, 3) := by decide +kernel
theorem dX9_init_37 : decode cX9_init 37 = .ok (.aload_n 0, 1) := by decide +kernel
theorem dX9_init_38 : decode cX9_init 38 = .ok (.new 23, 3) := by decide +kernel
theorem dX9_init_41 : decode cX9_init 41 = .ok (.dup, 1) := by decide +kernel
theorem dX9_init_42 : decode cX9_init 42 = .ok (.invokespecial 25, 3) := by decide +kernel
theorem dX9_init_45 : decode cX9_init 45 = .ok (.putfield 30, 3) := by decide +kernel
theorem dX9_init_48 : decode cX9_init 48 = .ok (.aload_n 0, 1) := by decide +kernel
theorem dX9_init_49 : decode cX9_init 49 = .ok (.new 33, 3) := by decide +kernel
theorem dX9_init_52 : decode cX9_init 52 = .ok (.dup, 1) := by decide +kernel
