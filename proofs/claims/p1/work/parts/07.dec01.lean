theorem dX8_run_23 : decode cX8_run 23 = .ok (.aload_n 0, 1) := by decide +kernel
theorem dX8_run_24 : decode cX8_run 24 = .ok (.invokevirtual 74, 3) := by decide +kernel
theorem dX8_run_27 : decode cX8_run 27 = .ok (.pop, 1) := by decide +kernel
theorem dX8_run_28 : decode cX8_run 28 = .ok (.iinc 3 1, 3) := by decide +kernel
theorem dX8_run_31 : decode cX8_run 31 = .ok (.goto (-29), 3) := by decide +kernel
theorem dX8_run_34 : decode cX8_run 34 = .ok (.aload_n 0, 1) := by decide +kernel
theorem dX8_run_35 : decode cX8_run 35 = .ok (.getfield 12, 3) := by decide +kernel
theorem dX8_run_38 : decode cX8_run 38 = .ok (.getfield 53, 3) := by decide +kernel
theorem dX8_run_41 : decode cX8_run 41 = .ok (.aload_n 0, 1) := by decide +kernel
theorem dX8_run_42 : decode cX8_run 42 = .ok (.getfield 56, 3) := by decide +kernel
theorem dX8_run_45 : decode cX8_run 45 = .ok (.isub, 1) := by decide +kernel
theorem dX8_run_46 : decode cX8_run 46 = .ok (.ireturn, 1) := by decide +kernel
theorem dX8_setFront_0 : decode cX8_setFront 0 = .ok (.aload_n 0, 1) := by decide +kernel
theorem dX8_setFront_1 : decode cX8_setFront 1 = .ok (.iload_n 1, 1) := by decide +kernel
theorem dX8_setFront_2 : decode cX8_setFront 2 = .ok (.putfield 50, 3) := by decide +kernel
theorem dX8_setFront_5 : decode cX8_setFront 5 = .ok (.aload_n 0, 1) := by decide +kernel
theorem dX8_setFront_6 : decode cX8_setFront 6 = .ok (.iload_n 2, 1) := by decide +kernel
theorem dX8_setFront_7 : decode cX8_setFront 7 = .ok (.putfield 71, 3) := by decide +kernel
theorem dX8_setFront_10 : decode cX8_setFront 10 = .ok (.return_, 1) := by decide +kernel
theorem dX8_setIdle_0 : decode cX8_setIdle 0 = .ok (.aload_n 0, 1) := by decide +kernel
theorem dX8_setIdle_1 : decode cX8_setIdle 1 = .ok (.iload_n 1, 1) := by decide +kernel
theorem dX8_setIdle_2 : decode cX8_setIdle 2 = .ok (.putfield 46, 3) := by decide +kernel
theorem dX8_setIdle_5 : decode cX8_setIdle 5 = .ok (.aload_n 0, 1) := by decide +kernel
theorem dX8_setIdle_6 : decode cX8_setIdle 6 = .ok (.iload_n 2, 1) := by decide +kernel
theorem dX8_setIdle_7 : decode cX8_setIdle 7 = .ok (.putfield 65, 3) := by decide +kernel
theorem dX8_setIdle_10 : decode cX8_setIdle 10 = .ok (.aload_n 0, 1) := by decide +kernel
theorem dX8_setIdle_11 : decode cX8_setIdle 11 = .ok (.iload_n 3, 1) := by decide +kernel
theorem dX8_setIdle_12 : decode cX8_setIdle 12 = .ok (.putfield 68, 3) := by decide +kernel
theorem dX8_setIdle_15 : decode cX8_setIdle 15 = .ok (.return_, 1) := by decide +kernel
theorem dX8_staysClear_0 : decode cX8_staysClear 0 = .ok (.iconst 1, 1) := by decide +kernel
theorem dX8_staysClear_1 : decode cX8_staysClear 1 = .ok (.istore_n 2, 1) := by decide +kernel
theorem dX8_staysClear_2 : decode cX8_staysClear 2 = .ok (.iconst 0, 1) := by decide +kernel
theorem dX8_staysClear_3 : decode cX8_staysClear 3 = .ok (.istore_n 3, 1) := by decide +kernel
theorem dX8_staysClear_4 : decode cX8_staysClear 4 = .ok (.iload_n 3, 1) := by decide +kernel
theorem dX8_staysClear_5 : decode cX8_staysClear 5 = .ok (.iload_n 1, 1) := by decide +kernel
theorem dX8_staysClear_6 : decode cX8_staysClear 6 = .ok (.if_icmp .ge 26, 3) := by decide +kernel
theorem dX8_staysClear_9 : decode cX8_staysClear 9 = .ok (.iload_n 2, 1) := by decide +kernel
theorem dX8_staysClear_10 : decode cX8_staysClear 10 = .ok (.ifCond .eq 22, 3) := by decide +kernel
theorem dX8_staysClear_13 : decode cX8_staysClear 13 = .ok (.aload_n 0, 1) := by decide +kernel
theorem dX8_staysClear_14 : decode cX8_staysClear 14 = .ok (.invokevirtual 74, 3) := by decide +kernel
theorem dX8_staysClear_17 : decode cX8_staysClear 17 = .ok (.ifCond .ne 7, 3) := by decide +kernel
theorem dX8_staysClear_20 : decode cX8_staysClear 20 = .ok (.iconst 1, 1) := by decide +kernel
theorem dX8_staysClear_21 : decode cX8_staysClear 21 = .ok (.goto 4, 3) := by decide +kernel
theorem dX8_staysClear_25 : decode cX8_staysClear 25 = .ok (.istore_n 2, 1) := by decide +kernel
theorem dX8_staysClear_26 : decode cX8_staysClear 26 = .ok (.iinc 3 1, 3) := by decide +kernel
theorem dX8_staysClear_29 : decode cX8_staysClear 29 = .ok (.goto (-25), 3) := by decide +kernel
theorem dX8_staysClear_32 : decode cX8_staysClear 32 = .ok (.iload_n 2, 1) := by decide +kernel
theorem dX8_staysClear_33 : decode cX8_staysClear 33 = .ok (.ireturn, 1) := by decide +kernel
theorem dX9_against_0 : decode cX9_against 0 = .ok (.aload_n 0, 1) := by decide +kernel
theorem dX9_against_1 : decode cX9_against 1 = .ok (.getfield 19, 3) := by decide +kernel
theorem dX9_against_4 : decode cX9_against 4 = .ok (.iload_n 1, 1) := by decide +kernel
theorem dX9_against_5 : decode cX9_against 5 = .ok (.invokevirtual 173, 3) := by decide +kernel
theorem dX9_against_8 : decode cX9_against 8 = .ok (.ifCond .eq 23, 3) := by decide +kernel
theorem dX9_against_31 : decode cX9_against 31 = .ok (.iconst 0, 1) := by decide +kernel
theorem dX9_against_32 : decode cX9_against 32 = .ok (.istore 6, 2) := by decide +kernel
theorem dX9_against_34 : decode cX9_against 34 = .ok (.iload 6, 2) := by decide +kernel
theorem dX9_against_36 : decode cX9_against 36 = .ok (.ifCond .eq 33, 3) := by decide +kernel
theorem dX9_against_69 : decode cX9_against 69 = .ok (.ldc 231, 2) := by decide +kernel
theorem dX9_against_71 : decode cX9_against 71 = .ok (.ireturn, 1) := by decide +kernel
theorem dX9_allIsDoneIfStay_0 : decode cX9_allIsDoneIfStay 0 = .ok (.aload_n 0, 1) := by decide +kernel
theorem dX9_allIsDoneIfStay_1 : decode cX9_allIsDoneIfStay 1 = .ok (.getfield 73, 3) := by decide +kernel
theorem dX9_allIsDoneIfStay_4 : decode cX9_allIsDoneIfStay 4 = .ok (.aload_n 0, 1) := by decide +kernel
theorem dX9_allIsDoneIfStay_5 : decode cX9_allIsDoneIfStay 5 = .ok (.getfield 26, 3) := by decide +kernel
theorem dX9_allIsDoneIfStay_8 : decode cX9_allIsDoneIfStay 8 = .ok (.invokevirtual 157, 3) := by decide +kernel
theorem dX9_allIsDoneIfStay_11 : decode cX9_allIsDoneIfStay 11 = .ok (.aload_n 0, 1) := by decide +kernel
theorem dX9_allIsDoneIfStay_12 : decode cX9_allIsDoneIfStay 12 = .ok (.getfield 73, 3) := by decide +kernel
theorem dX9_allIsDoneIfStay_15 : decode cX9_allIsDoneIfStay 15 = .ok (.getfield 165, 3) := by decide +kernel
theorem dX9_allIsDoneIfStay_18 : decode cX9_allIsDoneIfStay 18 = .ok (.iload_n 1, 1) := by decide +kernel
theorem dX9_allIsDoneIfStay_19 : decode cX9_allIsDoneIfStay 19 = .ok (.invokevirtual 147, 3) := by decide +kernel
theorem dX9_allIsDoneIfStay_22 : decode cX9_allIsDoneIfStay 22 = .ok (.aload_n 0, 1) := by decide +kernel
theorem dX9_allIsDoneIfStay_23 : decode cX9_allIsDoneIfStay 23 = .ok (.getfield 73, 3) := by decide +kernel
theorem dX9_allIsDoneIfStay_26 : decode cX9_allIsDoneIfStay 26 = .ok (.iload_n 2, 1) := by decide +kernel
theorem dX9_allIsDoneIfStay_27 : decode cX9_allIsDoneIfStay 27 = .ok (.invokevirtual 323, 3) := by decide +kernel
theorem dX9_allIsDoneIfStay_30 : decode cX9_allIsDoneIfStay 30 = .ok (.ireturn, 1) := by decide +kernel
theorem dX9_areTold_0 : decode cX9_areTold 0 = .ok (.iload_n 1, 1) := by decide +kernel
theorem dX9_areTold_1 : decode cX9_areTold 1 = .ok (.aload_n 0, 1) := by decide +kernel
theorem dX9_areTold_2 : decode cX9_areTold 2 = .ok (.getfield 19, 3) := by decide +kernel
theorem dX9_areTold_5 : decode cX9_areTold 5 = .ok (.getfield 85, 3) := by decide +kernel
theorem dX9_areTold_8 : decode cX9_areTold 8 = .ok (.iconst (-1), 1) := by decide +kernel
theorem dX9_areTold_9 : decode cX9_areTold 9 = .ok (.ixor, 1) := by decide +kernel
theorem dX9_areTold_10 : decode cX9_areTold 10 = .ok (.iand, 1) := by decide +kernel
theorem dX9_areTold_11 : decode cX9_areTold 11 = .ok (.ifCond .ne 7, 3) := by decide +kernel
theorem dX9_areTold_14 : decode cX9_areTold 14 = .ok (.iconst 1, 1) := by decide +kernel
theorem dX9_areTold_15 : decode cX9_areTold 15 = .ok (.goto 4, 3) := by decide +kernel
theorem dX9_areTold_18 : decode cX9_areTold 18 = .ok (.iconst 0, 1) := by decide +kernel
theorem dX9_areTold_19 : decode cX9_areTold 19 = .ok (.ireturn, 1) := by decide +kernel
theorem dX9_byTurns_0 : decode cX9_byTurns 0 = .ok (.iload_n 1, 1) := by decide +kernel
theorem dX9_byTurns_1 : decode cX9_byTurns 1 = .ok (.invokestatic 142, 3) := by decide +kernel
theorem dX9_byTurns_4 : decode cX9_byTurns 4 = .ok (.istore 4, 2) := by decide +kernel
theorem dX9_byTurns_6 : decode cX9_byTurns 6 = .ok (.aload_n 0, 1) := by decide +kernel
theorem dX9_byTurns_7 : decode cX9_byTurns 7 = .ok (.iload_n 1, 1) := by decide +kernel
theorem dX9_byTurns_8 : decode cX9_byTurns 8 = .ok (.invokevirtual 221, 3) := by decide +kernel
theorem dX9_byTurns_11 : decode cX9_byTurns 11 = .ok (.ifCond .eq 35, 3) := by decide +kernel
theorem dX9_byTurns_14 : decode cX9_byTurns 14 = .ok (.iload 4, 2) := by decide +kernel
theorem dX9_byTurns_16 : decode cX9_byTurns 16 = .ok (.iconst 2, 1) := by decide +kernel
theorem dX9_byTurns_17 : decode cX9_byTurns 17 = .ok (.iconst 4, 1) := by decide +kernel
theorem dX9_byTurns_18 : decode cX9_byTurns 18 = .ok (.invokestatic 81, 3) := by decide +kernel
theorem dX9_byTurns_21 : decode cX9_byTurns 21 = .ok (.ifCond .eq 25, 3) := by decide +kernel
theorem dX9_byTurns_46 : decode cX9_byTurns 46 = .ok (.iconst 0, 1) := by decide +kernel
theorem dX9_byTurns_47 : decode cX9_byTurns 47 = .ok (.istore 5, 2) := by decide +kernel
theorem dX9_byTurns_49 : decode cX9_byTurns 49 = .ok (.iload 5, 2) := by decide +kernel
theorem dX9_byTurns_51 : decode cX9_byTurns 51 = .ok (.ifCond .eq 13, 3) := by decide +kernel
theorem dX9_byTurns_64 : decode cX9_byTurns 64 = .ok (.iconst (-1), 1) := by decide +kernel
theorem dX9_byTurns_65 : decode cX9_byTurns 65 = .ok (.ireturn, 1) := by decide +kernel
theorem dX9_canLeave_0 : decode cX9_canLeave 0 = .ok (.aload_n 0, 1) := by decide +kernel
theorem dX9_canLeave_1 : decode cX9_canLeave 1 = .ok (.getfield 19, 3) := by decide +kernel
theorem dX9_canLeave_4 : decode cX9_canLeave 4 = .ok (.iload_n 1, 1) := by decide +kernel
theorem dX9_canLeave_5 : decode cX9_canLeave 5 = .ok (.invokevirtual 173, 3) := by decide +kernel
theorem dX9_canLeave_8 : decode cX9_canLeave 8 = .ok (.ifCond .eq 18, 3) := by decide +kernel
theorem dX9_canLeave_26 : decode cX9_canLeave 26 = .ok (.iconst 0, 1) := by decide +kernel
theorem dX9_canLeave_27 : decode cX9_canLeave 27 = .ok (.ireturn, 1) := by decide +kernel
theorem dX9_chore_0 : decode cX9_chore 0 = .ok (.iload_n 1, 1) := by decide +kernel
theorem dX9_chore_1 : decode cX9_chore 1 = .ok (.iconst 0, 1) := by decide +kernel
theorem dX9_chore_2 : decode cX9_chore 2 = .ok (.bipush 11, 2) := by decide +kernel
theorem dX9_chore_4 : decode cX9_chore 4 = .ok (.invokestatic 81, 3) := by decide +kernel
theorem dX9_chore_7 : decode cX9_chore 7 = .ok (.ifCond .eq 13, 3) := by decide +kernel
theorem dX9_chore_10 : decode cX9_chore 10 = .ok (.iload_n 2, 1) := by decide +kernel
theorem dX9_chore_11 : decode cX9_chore 11 = .ok (.iconst 0, 1) := by decide +kernel
theorem dX9_chore_12 : decode cX9_chore 12 = .ok (.bipush 20, 2) := by decide +kernel
theorem dX9_chore_14 : decode cX9_chore 14 = .ok (.invokestatic 81, 3) := by decide +kernel
theorem dX9_chore_17 : decode cX9_chore 17 = .ok (.ifCond .ne 5, 3) := by decide +kernel
theorem dX9_chore_20 : decode cX9_chore 20 = .ok (.iconst 0, 1) := by decide +kernel
theorem dX9_chore_21 : decode cX9_chore 21 = .ok (.ireturn, 1) := by decide +kernel
theorem dX9_chore_22 : decode cX9_chore 22 = .ok (.aload_n 0, 1) := by decide +kernel
theorem dX9_chore_23 : decode cX9_chore 23 = .ok (.getfield 19, 3) := by decide +kernel
theorem dX9_chore_26 : decode cX9_chore 26 = .ok (.dup, 1) := by decide +kernel
theorem dX9_chore_27 : decode cX9_chore 27 = .ok (.getfield 92, 3) := by decide +kernel
theorem dX9_chore_30 : decode cX9_chore 30 = .ok (.iconst 1, 1) := by decide +kernel
theorem dX9_chore_31 : decode cX9_chore 31 = .ok (.iload_n 1, 1) := by decide +kernel
theorem dX9_chore_32 : decode cX9_chore 32 = .ok (.ishl, 1) := by decide +kernel
theorem dX9_chore_33 : decode cX9_chore 33 = .ok (.ior, 1) := by decide +kernel
theorem dX9_chore_34 : decode cX9_chore 34 = .ok (.putfield 92, 3) := by decide +kernel
theorem dX9_chore_37 : decode cX9_chore 37 = .ok (.aload_n 0, 1) := by decide +kernel
theorem dX9_chore_38 : decode cX9_chore 38 = .ok (.getfield 19, 3) := by decide +kernel
theorem dX9_chore_41 : decode cX9_chore 41 = .ok (.getfield 95, 3) := by decide +kernel
theorem dX9_chore_44 : decode cX9_chore 44 = .ok (.iload_n 1, 1) := by decide +kernel
theorem dX9_chore_45 : decode cX9_chore 45 = .ok (.iload_n 2, 1) := by decide +kernel
theorem dX9_chore_46 : decode cX9_chore 46 = .ok (.iastore, 1) := by decide +kernel
theorem dX9_chore_47 : decode cX9_chore 47 = .ok (.aload_n 0, 1) := by decide +kernel
theorem dX9_chore_48 : decode cX9_chore 48 = .ok (.getfield 26, 3) := by decide +kernel
theorem dX9_chore_51 : decode cX9_chore 51 = .ok (.getfield 98, 3) := by decide +kernel
theorem dX9_chore_54 : decode cX9_chore 54 = .ok (.iload_n 1, 1) := by decide +kernel
theorem dX9_chore_55 : decode cX9_chore 55 = .ok (.iconst 0, 1) := by decide +kernel
theorem dX9_chore_56 : decode cX9_chore 56 = .ok (.iastore, 1) := by decide +kernel
theorem dX9_chore_57 : decode cX9_chore 57 = .ok (.iconst 1, 1) := by decide +kernel
theorem dX9_chore_58 : decode cX9_chore 58 = .ok (.ireturn, 1) := by decide +kernel
theorem dX9_choreIs_0 : decode cX9_choreIs 0 = .ok (.aload_n 0, 1) := by decide +kernel
theorem dX9_choreIs_1 : decode cX9_choreIs 1 = .ok (.getfield 19, 3) := by decide +kernel
theorem dX9_choreIs_4 : decode cX9_choreIs 4 = .ok (.iload_n 1, 1) := by decide +kernel
theorem dX9_choreIs_5 : decode cX9_choreIs 5 = .ok (.invokevirtual 170, 3) := by decide +kernel
theorem dX9_choreIs_8 : decode cX9_choreIs 8 = .ok (.ifCond .ne 5, 3) := by decide +kernel
theorem dX9_choreIs_11 : decode cX9_choreIs 11 = .ok (.iconst (-1), 1) := by decide +kernel
theorem dX9_choreIs_12 : decode cX9_choreIs 12 = .ok (.ireturn, 1) := by decide +kernel
theorem dX9_costIf_0 : decode cX9_costIf 0 = .ok (.aload_n 0, 1) := by decide +kernel
theorem dX9_costIf_1 : decode cX9_costIf 1 = .ok (.getfield 73, 3) := by decide +kernel
theorem dX9_costIf_4 : decode cX9_costIf 4 = .ok (.aload_n 0, 1) := by decide +kernel
theorem dX9_costIf_5 : decode cX9_costIf 5 = .ok (.getfield 26, 3) := by decide +kernel
theorem dX9_costIf_8 : decode cX9_costIf 8 = .ok (.invokevirtual 157, 3) := by decide +kernel
theorem dX9_costIf_11 : decode cX9_costIf 11 = .ok (.aload_n 0, 1) := by decide +kernel
theorem dX9_costIf_12 : decode cX9_costIf 12 = .ok (.getfield 73, 3) := by decide +kernel
theorem dX9_costIf_15 : decode cX9_costIf 15 = .ok (.getfield 165, 3) := by decide +kernel
theorem dX9_costIf_18 : decode cX9_costIf 18 = .ok (.iload_n 1, 1) := by decide +kernel
theorem dX9_costIf_19 : decode cX9_costIf 19 = .ok (.iconst (-1), 1) := by decide +kernel
theorem dX9_costIf_20 : decode cX9_costIf 20 = .ok (.ixor, 1) := by decide +kernel
theorem dX9_costIf_21 : decode cX9_costIf 21 = .ok (.invokevirtual 147, 3) := by decide +kernel
theorem dX9_costIf_24 : decode cX9_costIf 24 = .ok (.aload_n 0, 1) := by decide +kernel
theorem dX9_costIf_25 : decode cX9_costIf 25 = .ok (.getfield 73, 3) := by decide +kernel
theorem dX9_costIf_28 : decode cX9_costIf 28 = .ok (.iload_n 3, 1) := by decide +kernel
theorem dX9_costIf_29 : decode cX9_costIf 29 = .ok (.iconst 0, 1) := by decide +kernel
theorem dX9_costIf_30 : decode cX9_costIf 30 = .ok (.sipush 9999, 3) := by decide +kernel
theorem dX9_costIf_33 : decode cX9_costIf 33 = .ok (.invokevirtual 303, 3) := by decide +kernel
theorem dX9_costIf_36 : decode cX9_costIf 36 = .ok (.aload_n 0, 1) := by decide +kernel
theorem dX9_costIf_37 : decode cX9_costIf 37 = .ok (.getfield 73, 3) := by decide +kernel
theorem dX9_costIf_40 : decode cX9_costIf 40 = .ok (.iload 4, 2) := by decide +kernel
theorem dX9_costIf_42 : decode cX9_costIf 42 = .ok (.iload 5, 2) := by decide +kernel
theorem dX9_costIf_44 : decode cX9_costIf 44 = .ok (.invokevirtual 307, 3) := by decide +kernel
theorem dX9_costIf_47 : decode cX9_costIf 47 = .ok (.aload_n 0, 1) := by decide +kernel
theorem dX9_costIf_48 : decode cX9_costIf 48 = .ok (.getfield 73, 3) := by decide +kernel
theorem dX9_costIf_51 : decode cX9_costIf 51 = .ok (.iload_n 2, 1) := by decide +kernel
theorem dX9_costIf_52 : decode cX9_costIf 52 = .ok (.ldc 160, 2) := by decide +kernel
theorem dX9_costIf_54 : decode cX9_costIf 54 = .ok (.invokevirtual 161, 3) := by decide +kernel
theorem dX9_costIf_57 : decode cX9_costIf 57 = .ok (.ireturn, 1) := by decide +kernel
theorem dX9_count_0 : decode cX9_count 0 = .ok (.iload_n 1, 1) := by decide +kernel
theorem dX9_count_1 : decode cX9_count 1 = .ok (.tableswitch 135 0 9 #[55, 63, 71, 79, 87, 95, 103, 111, 119, 127], 55) := by decide +kernel
theorem dX9_count_56 : decode cX9_count 56 = .ok (.aload_n 0, 1) := by decide +kernel
theorem dX9_count_57 : decode cX9_count 57 = .ok (.getfield 26, 3) := by decide +kernel
theorem dX9_count_60 : decode cX9_count 60 = .ok (.getfield 209, 3) := by decide +kernel
theorem dX9_count_63 : decode cX9_count 63 = .ok (.ireturn, 1) := by decide +kernel
theorem dX9_count_64 : decode cX9_count 64 = .ok (.aload_n 0, 1) := by decide +kernel
theorem dX9_count_65 : decode cX9_count 65 = .ok (.getfield 26, 3) := by decide +kernel
theorem dX9_count_68 : decode cX9_count 68 = .ok (.getfield 212, 3) := by decide +kernel
theorem dX9_count_71 : decode cX9_count 71 = .ok (.ireturn, 1) := by decide +kernel
theorem dX9_count_72 : decode cX9_count 72 = .ok (.aload_n 0, 1) := by decide +kernel
theorem dX9_count_73 : decode cX9_count 73 = .ok (.getfield 19, 3) := by decide +kernel
theorem dX9_count_76 : decode cX9_count 76 = .ok (.getfield 85, 3) := by decide +kernel
theorem dX9_count_79 : decode cX9_count 79 = .ok (.ireturn, 1) := by decide +kernel
theorem dX9_count_80 : decode cX9_count 80 = .ok (.aload_n 0, 1) := by decide +kernel
theorem dX9_count_81 : decode cX9_count 81 = .ok (.getfield 19, 3) := by decide +kernel
theorem dX9_count_84 : decode cX9_count 84 = .ok (.getfield 92, 3) := by decide +kernel
theorem dX9_count_87 : decode cX9_count 87 = .ok (.ireturn, 1) := by decide +kernel
theorem dX9_count_88 : decode cX9_count 88 = .ok (.aload_n 0, 1) := by decide +kernel
theorem dX9_count_89 : decode cX9_count 89 = .ok (.getfield 26, 3) := by decide +kernel
theorem dX9_count_92 : decode cX9_count 92 = .ok (.invokevirtual 215, 3) := by decide +kernel
theorem dX9_count_95 : decode cX9_count 95 = .ok (.ireturn, 1) := by decide +kernel
theorem dX9_count_96 : decode cX9_count 96 = .ok (.aload_n 0, 1) := by decide +kernel
theorem dX9_count_97 : decode cX9_count 97 = .ok (.getfield 36, 3) := by decide +kernel
theorem dX9_count_100 : decode cX9_count 100 = .ok (.getfield 218, 3) := by decide +kernel
theorem dX9_count_103 : decode cX9_count 103 = .ok (.ireturn, 1) := by decide +kernel
theorem dX9_count_104 : decode cX9_count 104 = .ok (.aload_n 0, 1) := by decide +kernel
theorem dX9_count_105 : decode cX9_count 105 = .ok (.getfield 10, 3) := by decide +kernel
theorem dX9_count_108 : decode cX9_count 108 = .ok (.getfield 112, 3) := by decide +kernel
theorem dX9_count_111 : decode cX9_count 111 = .ok (.ireturn, 1) := by decide +kernel
theorem dX9_count_112 : decode cX9_count 112 = .ok (.aload_n 0, 1) := by decide +kernel
theorem dX9_count_113 : decode cX9_count 113 = .ok (.getfield 26, 3) := by decide +kernel
theorem dX9_count_116 : decode cX9_count 116 = .ok (.getfield 151, 3) := by decide +kernel
theorem dX9_count_119 : decode cX9_count 119 = .ok (.ireturn, 1) := by decide +kernel
theorem dX9_count_120 : decode cX9_count 120 = .ok (.aload_n 0, 1) := by decide +kernel
theorem dX9_count_121 : decode cX9_count 121 = .ok (.getfield 19, 3) := by decide +kernel
theorem dX9_count_124 : decode cX9_count 124 = .ok (.getfield 101, 3) := by decide +kernel
theorem dX9_count_127 : decode cX9_count 127 = .ok (.ireturn, 1) := by decide +kernel
theorem dX9_count_128 : decode cX9_count 128 = .ok (.aload_n 0, 1) := by decide +kernel
theorem dX9_count_129 : decode cX9_count 129 = .ok (.getfield 26, 3) := by decide +kernel
theorem dX9_count_132 : decode cX9_count 132 = .ok (.invokevirtual 138, 3) := by decide +kernel
theorem dX9_count_135 : decode cX9_count 135 = .ok (.ireturn, 1) := by decide +kernel
theorem dX9_count_136 : decode cX9_count 136 = .ok (.iconst (-1), 1) := by decide +kernel
theorem dX9_count_137 : decode cX9_count 137 = .ok (.ireturn, 1) := by decide +kernel
theorem dX9_doers_0 : decode cX9_doers 0 = .ok (.aload_n 0, 1) := by decide +kernel
theorem dX9_doers_1 : decode cX9_doers 1 = .ok (.getfield 10, 3) := by decide +kernel
theorem dX9_doers_4 : decode cX9_doers 4 = .ok (.iload_n 1, 1) := by decide +kernel
theorem dX9_doers_5 : decode cX9_doers 5 = .ok (.iconst 1, 1) := by decide +kernel
theorem dX9_doers_6 : decode cX9_doers 6 = .ok (.bipush 120, 2) := by decide +kernel
theorem dX9_doers_8 : decode cX9_doers 8 = .ok (.invokevirtual 115, 3) := by decide +kernel
theorem dX9_doers_11 : decode cX9_doers 11 = .ok (.ifCond .ne 5, 3) := by decide +kernel
theorem dX9_doers_14 : decode cX9_doers 14 = .ok (.iconst (-1), 1) := by decide +kernel
theorem dX9_doers_15 : decode cX9_doers 15 = .ok (.ireturn, 1) := by decide +kernel
theorem dX9_feed_0 : decode cX9_feed 0 = .ok (.aload_n 0, 1) := by decide +kernel
theorem dX9_feed_1 : decode cX9_feed 1 = .ok (.getfield 10, 3) := by decide +kernel
theorem dX9_feed_4 : decode cX9_feed 4 = .ok (.bipush 20, 2) := by decide +kernel
theorem dX9_feed_6 : decode cX9_feed 6 = .ok (.invokevirtual 104, 3) := by decide +kernel
theorem dX9_feed_9 : decode cX9_feed 9 = .ok (.ifCond .ne 5, 3) := by decide +kernel
theorem dX9_feed_14 : decode cX9_feed 14 = .ok (.aload_n 0, 1) := by decide +kernel
theorem dX9_feed_15 : decode cX9_feed 15 = .ok (.getfield 10, 3) := by decide +kernel
theorem dX9_feed_18 : decode cX9_feed 18 = .ok (.iload_n 1, 1) := by decide +kernel
theorem dX9_feed_19 : decode cX9_feed 19 = .ok (.invokevirtual 108, 3) := by decide +kernel
theorem dX9_feed_22 : decode cX9_feed 22 = .ok (.aload_n 0, 1) := by decide +kernel
theorem dX9_feed_23 : decode cX9_feed 23 = .ok (.getfield 10, 3) := by decide +kernel
theorem dX9_feed_26 : decode cX9_feed 26 = .ok (.iload_n 2, 1) := by decide +kernel
theorem dX9_feed_27 : decode cX9_feed 27 = .ok (.invokevirtual 108, 3) := by decide +kernel
theorem dX9_feed_30 : decode cX9_feed 30 = .ok (.aload_n 0, 1) := by decide +kernel
theorem dX9_feed_31 : decode cX9_feed 31 = .ok (.getfield 10, 3) := by decide +kernel
theorem dX9_feed_34 : decode cX9_feed 34 = .ok (.iload_n 3, 1) := by decide +kernel
theorem dX9_feed_35 : decode cX9_feed 35 = .ok (.invokevirtual 108, 3) := by decide +kernel
theorem dX9_feed_38 : decode cX9_feed 38 = .ok (.aload_n 0, 1) := by decide +kernel
theorem dX9_feed_39 : decode cX9_feed 39 = .ok (.getfield 10, 3) := by decide +kernel
theorem dX9_feed_42 : decode cX9_feed 42 = .ok (.iload 4, 2) := by decide +kernel
theorem dX9_feed_44 : decode cX9_feed 44 = .ok (.invokevirtual 108, 3) := by decide +kernel
theorem dX9_feed_47 : decode cX9_feed 47 = .ok (.aload_n 0, 1) := by decide +kernel
theorem dX9_feed_48 : decode cX9_feed 48 = .ok (.getfield 10, 3) := by decide +kernel
theorem dX9_feed_51 : decode cX9_feed 51 = .ok (.iload 5, 2) := by decide +kernel
theorem dX9_feed_53 : decode cX9_feed 53 = .ok (.invokevirtual 108, 3) := by decide +kernel
theorem dX9_feed_56 : decode cX9_feed 56 = .ok (.aload_n 0, 1) := by decide +kernel
theorem dX9_feed_57 : decode cX9_feed 57 = .ok (.getfield 10, 3) := by decide +kernel
theorem dX9_feed_60 : decode cX9_feed 60 = .ok (.getfield 112, 3) := by decide +kernel
theorem dX9_feed_63 : decode cX9_feed 63 = .ok (.ireturn, 1) := by decide +kernel
theorem dX9_firstDoer_0 : decode cX9_firstDoer 0 = .ok (.aload_n 0, 1) := by decide +kernel
theorem dX9_firstDoer_1 : decode cX9_firstDoer 1 = .ok (.getfield 19, 3) := by decide +kernel
theorem dX9_firstDoer_4 : decode cX9_firstDoer 4 = .ok (.iload_n 1, 1) := by decide +kernel
theorem dX9_firstDoer_5 : decode cX9_firstDoer 5 = .ok (.invokevirtual 170, 3) := by decide +kernel
theorem dX9_firstDoer_8 : decode cX9_firstDoer 8 = .ok (.ifCond .eq 19, 3) := by decide +kernel
theorem dX9_firstDoer_27 : decode cX9_firstDoer 27 = .ok (.iconst (-1), 1) := by decide +kernel
theorem dX9_firstDoer_28 : decode cX9_firstDoer 28 = .ok (.ireturn, 1) := by decide +kernel
theorem dX9_firstOther_0 : decode cX9_firstOther 0 = .ok (.iconst 0, 1) := by decide +kernel
theorem dX9_firstOther_1 : decode cX9_firstOther 1 = .ok (.istore_n 3, 1) := by decide +kernel
theorem dX9_firstOther_2 : decode cX9_firstOther 2 = .ok (.iload_n 3, 1) := by decide +kernel
theorem dX9_firstOther_3 : decode cX9_firstOther 3 = .ok (.iload_n 2, 1) := by decide +kernel
theorem dX9_firstOther_4 : decode cX9_firstOther 4 = .ok (.if_icmp .ge 34, 3) := by decide +kernel
theorem dX9_firstOther_38 : decode cX9_firstOther 38 = .ok (.iconst (-1), 1) := by decide +kernel
theorem dX9_firstOther_39 : decode cX9_firstOther 39 = .ok (.ireturn, 1) := by decide +kernel
theorem dX9_halfDone_0 : decode cX9_halfDone 0 = .ok (.aload_n 0, 1) := by decide +kernel
theorem dX9_halfDone_1 : decode cX9_halfDone 1 = .ok (.iload_n 1, 1) := by decide +kernel
theorem dX9_halfDone_2 : decode cX9_halfDone 2 = .ok (.invokevirtual 228, 3) := by decide +kernel
theorem dX9_halfDone_5 : decode cX9_halfDone 5 = .ok (.ifCond .eq 13, 3) := by decide +kernel
theorem dX9_halfDone_18 : decode cX9_halfDone 18 = .ok (.ldc 231, 2) := by decide +kernel
theorem dX9_halfDone_20 : decode cX9_halfDone 20 = .ok (.ireturn, 1) := by decide +kernel
theorem dX9_hired_0 : decode cX9_hired 0 = .ok (.iload_n 2, 1) := by decide +kernel
theorem dX9_hired_1 : decode cX9_hired 1 = .ok (.invokestatic 142, 3) := by decide +kernel
theorem dX9_hired_4 : decode cX9_hired 4 = .ok (.istore 5, 2) := by decide +kernel
theorem dX9_hired_6 : decode cX9_hired 6 = .ok (.aload_n 0, 1) := by decide +kernel
theorem dX9_hired_7 : decode cX9_hired 7 = .ok (.iload_n 2, 1) := by decide +kernel
theorem dX9_hired_8 : decode cX9_hired 8 = .ok (.invokevirtual 221, 3) := by decide +kernel
theorem dX9_hired_11 : decode cX9_hired 11 = .ok (.ifCond .eq 33, 3) := by decide +kernel
theorem dX9_hired_14 : decode cX9_hired 14 = .ok (.iload 5, 2) := by decide +kernel
theorem dX9_hired_16 : decode cX9_hired 16 = .ok (.iconst 1, 1) := by decide +kernel
theorem dX9_hired_17 : decode cX9_hired 17 = .ok (.iconst 3, 1) := by decide +kernel
theorem dX9_hired_18 : decode cX9_hired 18 = .ok (.invokestatic 81, 3) := by decide +kernel
theorem dX9_hired_21 : decode cX9_hired 21 = .ok (.ifCond .eq 23, 3) := by decide +kernel
theorem dX9_hired_44 : decode cX9_hired 44 = .ok (.iconst 0, 1) := by decide +kernel
theorem dX9_hired_45 : decode cX9_hired 45 = .ok (.istore 6, 2) := by decide +kernel
theorem dX9_hired_47 : decode cX9_hired 47 = .ok (.iload_n 1, 1) := by decide +kernel
theorem dX9_hired_48 : decode cX9_hired 48 = .ok (.iconst 1, 1) := by decide +kernel
theorem dX9_hired_49 : decode cX9_hired 49 = .ok (.bipush 9, 2) := by decide +kernel
theorem dX9_hired_51 : decode cX9_hired 51 = .ok (.invokestatic 81, 3) := by decide +kernel
theorem dX9_hired_54 : decode cX9_hired 54 = .ok (.ifCond .eq 15, 3) := by decide +kernel
theorem dX9_hired_57 : decode cX9_hired 57 = .ok (.iload 6, 2) := by decide +kernel
theorem dX9_hired_59 : decode cX9_hired 59 = .ok (.ifCond .eq 10, 3) := by decide +kernel
theorem dX9_hired_69 : decode cX9_hired 69 = .ok (.iconst (-1), 1) := by decide +kernel
theorem dX9_hired_70 : decode cX9_hired 70 = .ok (.ireturn, 1) := by decide +kernel
theorem dX9_isDayCount_0 : decode cX9_isDayCount 0 = .ok (.iload_n 0, 1) := by decide +kernel
theorem dX9_isDayCount_1 : decode cX9_isDayCount 1 = .ok (.iconst 1, 1) := by decide +kernel
theorem dX9_isDayCount_2 : decode cX9_isDayCount 2 = .ok (.if_icmp .lt 13, 3) := by decide +kernel
theorem dX9_isDayCount_5 : decode cX9_isDayCount 5 = .ok (.iload_n 0, 1) := by decide +kernel
theorem dX9_isDayCount_6 : decode cX9_isDayCount 6 = .ok (.bipush 60, 2) := by decide +kernel
theorem dX9_isDayCount_8 : decode cX9_isDayCount 8 = .ok (.if_icmp .gt 7, 3) := by decide +kernel
theorem dX9_isDayCount_11 : decode cX9_isDayCount 11 = .ok (.iconst 1, 1) := by decide +kernel
theorem dX9_isDayCount_12 : decode cX9_isDayCount 12 = .ok (.goto 4, 3) := by decide +kernel
theorem dX9_isDayCount_15 : decode cX9_isDayCount 15 = .ok (.iconst 0, 1) := by decide +kernel
theorem dX9_isDayCount_16 : decode cX9_isDayCount 16 = .ok (.ireturn, 1) := by decide +kernel
theorem dX9_isIn_0 : decode cX9_isIn 0 = .ok (.iload_n 1, 1) := by decide +kernel
theorem dX9_isIn_1 : decode cX9_isIn 1 = .ok (.ifCond .lt 22, 3) := by decide +kernel
theorem dX9_isIn_4 : decode cX9_isIn 4 = .ok (.iload_n 1, 1) := by decide +kernel
theorem dX9_isIn_5 : decode cX9_isIn 5 = .ok (.bipush 31, 2) := by decide +kernel
theorem dX9_isIn_7 : decode cX9_isIn 7 = .ok (.if_icmp .ge 16, 3) := by decide +kernel
theorem dX9_isIn_10 : decode cX9_isIn 10 = .ok (.iload_n 0, 1) := by decide +kernel
theorem dX9_isIn_11 : decode cX9_isIn 11 = .ok (.iload_n 1, 1) := by decide +kernel
theorem dX9_isIn_12 : decode cX9_isIn 12 = .ok (.ishr, 1) := by decide +kernel
theorem dX9_isIn_13 : decode cX9_isIn 13 = .ok (.iconst 1, 1) := by decide +kernel
theorem dX9_isIn_14 : decode cX9_isIn 14 = .ok (.iand, 1) := by decide +kernel
theorem dX9_isIn_15 : decode cX9_isIn 15 = .ok (.iconst 1, 1) := by decide +kernel
theorem dX9_isIn_16 : decode cX9_isIn 16 = .ok (.if_icmp .ne 7, 3) := by decide +kernel
theorem dX9_isIn_19 : decode cX9_isIn 19 = .ok (.iconst 1, 1) := by decide +kernel
theorem dX9_isIn_20 : decode cX9_isIn 20 = .ok (.goto 4, 3) := by decide +kernel
theorem dX9_isIn_23 : decode cX9_isIn 23 = .ok (.iconst 0, 1) := by decide +kernel
theorem dX9_isIn_24 : decode cX9_isIn 24 = .ok (.ireturn, 1) := by decide +kernel
theorem dX9_law_0 : decode cX9_law 0 = .ok (.aload_n 0, 1) := by decide +kernel
theorem dX9_law_1 : decode cX9_law 1 = .ok (.getfield 10, 3) := by decide +kernel
theorem dX9_law_4 : decode cX9_law 4 = .ok (.iload_n 1, 1) := by decide +kernel
theorem dX9_law_5 : decode cX9_law 5 = .ok (.iconst 1, 1) := by decide +kernel
theorem dX9_law_6 : decode cX9_law 6 = .ok (.sipush 240, 3) := by decide +kernel
theorem dX9_law_9 : decode cX9_law 9 = .ok (.invokevirtual 115, 3) := by decide +kernel
theorem dX9_law_12 : decode cX9_law 12 = .ok (.ifCond .ne 5, 3) := by decide +kernel
theorem dX9_law_15 : decode cX9_law 15 = .ok (.iconst (-1), 1) := by decide +kernel
theorem dX9_law_16 : decode cX9_law 16 = .ok (.ireturn, 1) := by decide +kernel
theorem dX9_leaves_0 : decode cX9_leaves 0 = .ok (.aload_n 0, 1) := by decide +kernel
theorem dX9_leaves_1 : decode cX9_leaves 1 = .ok (.getfield 10, 3) := by decide +kernel
theorem dX9_leaves_4 : decode cX9_leaves 4 = .ok (.iload_n 1, 1) := by decide +kernel
theorem dX9_leaves_5 : decode cX9_leaves 5 = .ok (.iconst 1, 1) := by decide +kernel
theorem dX9_leaves_6 : decode cX9_leaves 6 = .ok (.bipush 120, 2) := by decide +kernel
theorem dX9_leaves_8 : decode cX9_leaves 8 = .ok (.invokevirtual 115, 3) := by decide +kernel
theorem dX9_leaves_11 : decode cX9_leaves 11 = .ok (.ifCond .ne 5, 3) := by decide +kernel
theorem dX9_leaves_14 : decode cX9_leaves 14 = .ok (.iconst (-1), 1) := by decide +kernel
theorem dX9_leaves_15 : decode cX9_leaves 15 = .ok (.ireturn, 1) := by decide +kernel
theorem dX9_missed_0 : decode cX9_missed 0 = .ok (.iload_n 2, 1) := by decide +kernel
theorem dX9_missed_1 : decode cX9_missed 1 = .ok (.invokestatic 154, 3) := by decide +kernel
theorem dX9_missed_4 : decode cX9_missed 4 = .ok (.ifCond .eq 11, 3) := by decide +kernel
theorem dX9_missed_7 : decode cX9_missed 7 = .ok (.aload_n 0, 1) := by decide +kernel
theorem dX9_missed_8 : decode cX9_missed 8 = .ok (.iload_n 1, 1) := by decide +kernel
theorem dX9_missed_9 : decode cX9_missed 9 = .ok (.invokevirtual 228, 3) := by decide +kernel
theorem dX9_missed_12 : decode cX9_missed 12 = .ok (.ifCond .ne 6, 3) := by decide +kernel
theorem dX9_missed_15 : decode cX9_missed 15 = .ok (.ldc 231, 2) := by decide +kernel
theorem dX9_missed_17 : decode cX9_missed 17 = .ok (.ireturn, 1) := by decide +kernel
theorem dX9_person_0 : decode cX9_person 0 = .ok (.iload_n 1, 1) := by decide +kernel
theorem dX9_person_1 : decode cX9_person 1 = .ok (.iconst 0, 1) := by decide +kernel
theorem dX9_person_2 : decode cX9_person 2 = .ok (.bipush 9, 2) := by decide +kernel
theorem dX9_person_4 : decode cX9_person 4 = .ok (.invokestatic 81, 3) := by decide +kernel
theorem dX9_person_7 : decode cX9_person 7 = .ok (.ifCond .eq 13, 3) := by decide +kernel
theorem dX9_person_10 : decode cX9_person 10 = .ok (.iload_n 2, 1) := by decide +kernel
theorem dX9_person_11 : decode cX9_person 11 = .ok (.iconst 0, 1) := by decide +kernel
theorem dX9_person_12 : decode cX9_person 12 = .ok (.bipush 20, 2) := by decide +kernel
theorem dX9_person_14 : decode cX9_person 14 = .ok (.invokestatic 81, 3) := by decide +kernel
theorem dX9_person_17 : decode cX9_person 17 = .ok (.ifCond .ne 5, 3) := by decide +kernel
theorem dX9_person_20 : decode cX9_person 20 = .ok (.iconst 0, 1) := by decide +kernel
theorem dX9_person_21 : decode cX9_person 21 = .ok (.ireturn, 1) := by decide +kernel
theorem dX9_person_22 : decode cX9_person 22 = .ok (.aload_n 0, 1) := by decide +kernel
theorem dX9_person_23 : decode cX9_person 23 = .ok (.getfield 19, 3) := by decide +kernel
theorem dX9_person_26 : decode cX9_person 26 = .ok (.dup, 1) := by decide +kernel
theorem dX9_person_27 : decode cX9_person 27 = .ok (.getfield 85, 3) := by decide +kernel
theorem dX9_person_30 : decode cX9_person 30 = .ok (.iconst 1, 1) := by decide +kernel
theorem dX9_person_31 : decode cX9_person 31 = .ok (.iload_n 1, 1) := by decide +kernel
theorem dX9_person_32 : decode cX9_person 32 = .ok (.ishl, 1) := by decide +kernel
theorem dX9_person_33 : decode cX9_person 33 = .ok (.ior, 1) := by decide +kernel
theorem dX9_person_34 : decode cX9_person 34 = .ok (.putfield 85, 3) := by decide +kernel
theorem dX9_person_37 : decode cX9_person 37 = .ok (.aload_n 0, 1) := by decide +kernel
theorem dX9_person_38 : decode cX9_person 38 = .ok (.getfield 19, 3) := by decide +kernel
theorem dX9_person_41 : decode cX9_person 41 = .ok (.getfield 89, 3) := by decide +kernel
theorem dX9_person_44 : decode cX9_person 44 = .ok (.iload_n 1, 1) := by decide +kernel
theorem dX9_person_45 : decode cX9_person 45 = .ok (.iload_n 2, 1) := by decide +kernel
theorem dX9_person_46 : decode cX9_person 46 = .ok (.iastore, 1) := by decide +kernel
theorem dX9_person_47 : decode cX9_person 47 = .ok (.iconst 1, 1) := by decide +kernel
theorem dX9_person_48 : decode cX9_person 48 = .ok (.ireturn, 1) := by decide +kernel
theorem dX9_personIs_0 : decode cX9_personIs 0 = .ok (.aload_n 0, 1) := by decide +kernel
theorem dX9_personIs_1 : decode cX9_personIs 1 = .ok (.getfield 19, 3) := by decide +kernel
theorem dX9_personIs_4 : decode cX9_personIs 4 = .ok (.iload_n 1, 1) := by decide +kernel
theorem dX9_personIs_5 : decode cX9_personIs 5 = .ok (.invokevirtual 173, 3) := by decide +kernel
theorem dX9_personIs_8 : decode cX9_personIs 8 = .ok (.ifCond .ne 5, 3) := by decide +kernel
theorem dX9_personIs_11 : decode cX9_personIs 11 = .ok (.iconst (-1), 1) := by decide +kernel
theorem dX9_personIs_12 : decode cX9_personIs 12 = .ok (.ireturn, 1) := by decide +kernel
theorem dX9_rain_0 : decode cX9_rain 0 = .ok (.iload_n 1, 1) := by decide +kernel
theorem dX9_rain_1 : decode cX9_rain 1 = .ok (.iconst 0, 1) := by decide +kernel
theorem dX9_rain_2 : decode cX9_rain 2 = .ok (.bipush 10, 2) := by decide +kernel
theorem dX9_rain_4 : decode cX9_rain 4 = .ok (.invokestatic 81, 3) := by decide +kernel
theorem dX9_rain_7 : decode cX9_rain 7 = .ok (.ifCond .ne 5, 3) := by decide +kernel
theorem dX9_rain_10 : decode cX9_rain 10 = .ok (.iconst 0, 1) := by decide +kernel
theorem dX9_rain_11 : decode cX9_rain 11 = .ok (.ireturn, 1) := by decide +kernel
theorem dX9_rain_12 : decode cX9_rain 12 = .ok (.aload_n 0, 1) := by decide +kernel
theorem dX9_rain_13 : decode cX9_rain 13 = .ok (.getfield 19, 3) := by decide +kernel
theorem dX9_rain_16 : decode cX9_rain 16 = .ok (.iload_n 1, 1) := by decide +kernel
theorem dX9_rain_17 : decode cX9_rain 17 = .ok (.putfield 101, 3) := by decide +kernel
theorem dX9_rain_20 : decode cX9_rain 20 = .ok (.iconst 1, 1) := by decide +kernel
theorem dX9_rain_21 : decode cX9_rain 21 = .ok (.ireturn, 1) := by decide +kernel
theorem dX9_runAway_0 : decode cX9_runAway 0 = .ok (.aload_n 0, 1) := by decide +kernel
theorem dX9_runAway_1 : decode cX9_runAway 1 = .ok (.getfield 73, 3) := by decide +kernel
theorem dX9_runAway_4 : decode cX9_runAway 4 = .ok (.aload_n 0, 1) := by decide +kernel
theorem dX9_runAway_5 : decode cX9_runAway 5 = .ok (.getfield 26, 3) := by decide +kernel
theorem dX9_runAway_8 : decode cX9_runAway 8 = .ok (.invokevirtual 157, 3) := by decide +kernel
theorem dX9_runAway_11 : decode cX9_runAway 11 = .ok (.aload_n 0, 1) := by decide +kernel
theorem dX9_runAway_12 : decode cX9_runAway 12 = .ok (.getfield 73, 3) := by decide +kernel
theorem dX9_runAway_15 : decode cX9_runAway 15 = .ok (.getfield 165, 3) := by decide +kernel
theorem dX9_runAway_18 : decode cX9_runAway 18 = .ok (.sipush 1023, 3) := by decide +kernel
theorem dX9_runAway_21 : decode cX9_runAway 21 = .ok (.invokevirtual 147, 3) := by decide +kernel
theorem dX9_runAway_24 : decode cX9_runAway 24 = .ok (.iconst 0, 1) := by decide +kernel
theorem dX9_runAway_25 : decode cX9_runAway 25 = .ok (.istore 4, 2) := by decide +kernel
theorem dX9_runAway_27 : decode cX9_runAway 27 = .ok (.iload 4, 2) := by decide +kernel
theorem dX9_runAway_29 : decode cX9_runAway 29 = .ok (.bipush 10, 2) := by decide +kernel
theorem dX9_runAway_31 : decode cX9_runAway 31 = .ok (.if_icmp .ge 40, 3) := by decide +kernel
theorem dX9_runAway_34 : decode cX9_runAway 34 = .ok (.iload_n 1, 1) := by decide +kernel
theorem dX9_runAway_35 : decode cX9_runAway 35 = .ok (.iload 4, 2) := by decide +kernel
theorem dX9_runAway_37 : decode cX9_runAway 37 = .ok (.invokestatic 232, 3) := by decide +kernel
theorem dX9_runAway_40 : decode cX9_runAway 40 = .ok (.ifCond .eq 25, 3) := by decide +kernel
theorem dX9_runAway_65 : decode cX9_runAway 65 = .ok (.iinc 4 1, 3) := by decide +kernel
theorem dX9_runAway_68 : decode cX9_runAway 68 = .ok (.goto (-41), 3) := by decide +kernel
theorem dX9_runAway_71 : decode cX9_runAway 71 = .ok (.aload_n 0, 1) := by decide +kernel
theorem dX9_runAway_72 : decode cX9_runAway 72 = .ok (.getfield 73, 3) := by decide +kernel
theorem dX9_runAway_75 : decode cX9_runAway 75 = .ok (.iload_n 2, 1) := by decide +kernel
theorem dX9_runAway_76 : decode cX9_runAway 76 = .ok (.iload_n 3, 1) := by decide +kernel
theorem dX9_runAway_77 : decode cX9_runAway 77 = .ok (.invokevirtual 161, 3) := by decide +kernel
theorem dX9_runAway_80 : decode cX9_runAway 80 = .ok (.ireturn, 1) := by decide +kernel
theorem dX9_seed_0 : decode cX9_seed 0 = .ok (.iload_n 1, 1) := by decide +kernel
theorem dX9_seed_1 : decode cX9_seed 1 = .ok (.iconst 0, 1) := by decide +kernel
theorem dX9_seed_2 : decode cX9_seed 2 = .ok (.ldc 150, 2) := by decide +kernel
theorem dX9_seed_4 : decode cX9_seed 4 = .ok (.invokestatic 81, 3) := by decide +kernel
theorem dX9_seed_7 : decode cX9_seed 7 = .ok (.ifCond .ne 5, 3) := by decide +kernel
theorem dX9_seed_10 : decode cX9_seed 10 = .ok (.iconst 0, 1) := by decide +kernel
theorem dX9_seed_11 : decode cX9_seed 11 = .ok (.ireturn, 1) := by decide +kernel
theorem dX9_seed_12 : decode cX9_seed 12 = .ok (.aload_n 0, 1) := by decide +kernel
theorem dX9_seed_13 : decode cX9_seed 13 = .ok (.getfield 26, 3) := by decide +kernel
theorem dX9_seed_16 : decode cX9_seed 16 = .ok (.iload_n 1, 1) := by decide +kernel
theorem dX9_seed_17 : decode cX9_seed 17 = .ok (.putfield 151, 3) := by decide +kernel
theorem dX9_seed_20 : decode cX9_seed 20 = .ok (.iconst 1, 1) := by decide +kernel
theorem dX9_seed_21 : decode cX9_seed 21 = .ok (.ireturn, 1) := by decide +kernel
theorem dX9_share_0 : decode cX9_share 0 = .ok (.iload_n 1, 1) := by decide +kernel
theorem dX9_share_1 : decode cX9_share 1 = .ok (.invokestatic 142, 3) := by decide +kernel
theorem dX9_share_4 : decode cX9_share 4 = .ok (.istore 5, 2) := by decide +kernel
theorem dX9_share_6 : decode cX9_share 6 = .ok (.aload_n 0, 1) := by decide +kernel
theorem dX9_share_7 : decode cX9_share 7 = .ok (.iload_n 1, 1) := by decide +kernel
theorem dX9_share_8 : decode cX9_share 8 = .ok (.invokevirtual 221, 3) := by decide +kernel
theorem dX9_share_11 : decode cX9_share 11 = .ok (.ifCond .eq 31, 3) := by decide +kernel
theorem dX9_share_14 : decode cX9_share 14 = .ok (.iload_n 1, 1) := by decide +kernel
theorem dX9_share_15 : decode cX9_share 15 = .ok (.aload_n 0, 1) := by decide +kernel
theorem dX9_share_16 : decode cX9_share 16 = .ok (.getfield 26, 3) := by decide +kernel
theorem dX9_share_19 : decode cX9_share 19 = .ok (.invokevirtual 138, 3) := by decide +kernel
theorem dX9_share_22 : decode cX9_share 22 = .ok (.iconst (-1), 1) := by decide +kernel
theorem dX9_share_23 : decode cX9_share 23 = .ok (.ixor, 1) := by decide +kernel
theorem dX9_share_24 : decode cX9_share 24 = .ok (.iand, 1) := by decide +kernel
theorem dX9_share_25 : decode cX9_share 25 = .ok (.ifCond .ne 17, 3) := by decide +kernel
theorem dX9_share_28 : decode cX9_share 28 = .ok (.iload 5, 2) := by decide +kernel
theorem dX9_share_30 : decode cX9_share 30 = .ok (.iconst 1, 1) := by decide +kernel
theorem dX9_share_31 : decode cX9_share 31 = .ok (.iconst 5, 1) := by decide +kernel
theorem dX9_share_32 : decode cX9_share 32 = .ok (.invokestatic 81, 3) := by decide +kernel
theorem dX9_share_35 : decode cX9_share 35 = .ok (.ifCond .eq 7, 3) := by decide +kernel
theorem dX9_share_42 : decode cX9_share 42 = .ok (.iconst 0, 1) := by decide +kernel
theorem dX9_share_43 : decode cX9_share 43 = .ok (.istore 6, 2) := by decide +kernel
theorem dX9_share_45 : decode cX9_share 45 = .ok (.iload_n 3, 1) := by decide +kernel
theorem dX9_share_46 : decode cX9_share 46 = .ok (.invokestatic 154, 3) := by decide +kernel
theorem dX9_share_49 : decode cX9_share 49 = .ok (.ifCond .eq 18, 3) := by decide +kernel
theorem dX9_share_52 : decode cX9_share 52 = .ok (.iload 6, 2) := by decide +kernel
theorem dX9_share_54 : decode cX9_share 54 = .ok (.ifCond .eq 13, 3) := by decide +kernel
theorem dX9_share_67 : decode cX9_share 67 = .ok (.ldc 231, 2) := by decide +kernel
theorem dX9_share_69 : decode cX9_share 69 = .ok (.ireturn, 1) := by decide +kernel
theorem dX9_spoilt_0 : decode cX9_spoilt 0 = .ok (.iload_n 2, 1) := by decide +kernel
theorem dX9_spoilt_1 : decode cX9_spoilt 1 = .ok (.bipush 10, 2) := by decide +kernel
theorem dX9_spoilt_3 : decode cX9_spoilt 3 = .ok (.if_icmp .eq 19, 3) := by decide +kernel
theorem dX9_spoilt_6 : decode cX9_spoilt 6 = .ok (.aload_n 0, 1) := by decide +kernel
theorem dX9_spoilt_7 : decode cX9_spoilt 7 = .ok (.getfield 19, 3) := by decide +kernel
theorem dX9_spoilt_10 : decode cX9_spoilt 10 = .ok (.iload_n 2, 1) := by decide +kernel
theorem dX9_spoilt_11 : decode cX9_spoilt 11 = .ok (.invokevirtual 173, 3) := by decide +kernel
theorem dX9_spoilt_14 : decode cX9_spoilt 14 = .ok (.ifCond .eq 12, 3) := by decide +kernel
theorem dX9_spoilt_22 : decode cX9_spoilt 22 = .ok (.iconst 1, 1) := by decide +kernel
theorem dX9_spoilt_23 : decode cX9_spoilt 23 = .ok (.goto 4, 3) := by decide +kernel
theorem dX9_spoilt_26 : decode cX9_spoilt 26 = .ok (.iconst 0, 1) := by decide +kernel
theorem dX9_spoilt_27 : decode cX9_spoilt 27 = .ok (.istore 4, 2) := by decide +kernel
theorem dX9_spoilt_29 : decode cX9_spoilt 29 = .ok (.iload_n 3, 1) := by decide +kernel
theorem dX9_spoilt_30 : decode cX9_spoilt 30 = .ok (.invokestatic 154, 3) := by decide +kernel
theorem dX9_spoilt_33 : decode cX9_spoilt 33 = .ok (.ifCond .eq 16, 3) := by decide +kernel
theorem dX9_spoilt_36 : decode cX9_spoilt 36 = .ok (.aload_n 0, 1) := by decide +kernel
theorem dX9_spoilt_37 : decode cX9_spoilt 37 = .ok (.iload_n 1, 1) := by decide +kernel
theorem dX9_spoilt_38 : decode cX9_spoilt 38 = .ok (.invokevirtual 228, 3) := by decide +kernel
theorem dX9_spoilt_41 : decode cX9_spoilt 41 = .ok (.ifCond .eq 8, 3) := by decide +kernel
theorem dX9_spoilt_49 : decode cX9_spoilt 49 = .ok (.ldc 231, 2) := by decide +kernel
theorem dX9_spoilt_51 : decode cX9_spoilt 51 = .ok (.ireturn, 1) := by decide +kernel
theorem dX9_standIn_0 : decode cX9_standIn 0 = .ok (.aload_n 0, 1) := by decide +kernel
