theorem dX9_missedOnLeave_28 : decode cX9_missedOnLeave 28 = .ok (.iconst 1, 1) := by decide +kernel
theorem dX9_missedOnLeave_29 : decode cX9_missedOnLeave 29 = .ok (.iload_n 1, 1) := by decide +kernel
theorem dX9_missedOnLeave_30 : decode cX9_missedOnLeave 30 = .ok (.ishl, 1) := by decide +kernel
theorem dX9_missedOnLeave_31 : decode cX9_missedOnLeave 31 = .ok (.iconst (-1), 1) := by decide +kernel
theorem dX9_missedOnLeave_32 : decode cX9_missedOnLeave 32 = .ok (.ixor, 1) := by decide +kernel
theorem dX9_missedOnLeave_33 : decode cX9_missedOnLeave 33 = .ok (.invokevirtual 147, 3) := by decide +kernel
theorem dX9_missedOnLeave_36 : decode cX9_missedOnLeave 36 = .ok (.aload_n 0, 1) := by decide +kernel
theorem dX9_missedOnLeave_37 : decode cX9_missedOnLeave 37 = .ok (.getfield 73, 3) := by decide +kernel
theorem dX9_missedOnLeave_40 : decode cX9_missedOnLeave 40 = .ok (.iload_n 1, 1) := by decide +kernel
theorem dX9_missedOnLeave_41 : decode cX9_missedOnLeave 41 = .ok (.iload_n 3, 1) := by decide +kernel
theorem dX9_missedOnLeave_42 : decode cX9_missedOnLeave 42 = .ok (.iload_n 2, 1) := by decide +kernel
theorem dX9_missedOnLeave_43 : decode cX9_missedOnLeave 43 = .ok (.isub, 1) := by decide +kernel
theorem dX9_missedOnLeave_44 : decode cX9_missedOnLeave 44 = .ok (.iload_n 3, 1) := by decide +kernel
theorem dX9_missedOnLeave_45 : decode cX9_missedOnLeave 45 = .ok (.iconst 1, 1) := by decide +kernel
theorem dX9_missedOnLeave_46 : decode cX9_missedOnLeave 46 = .ok (.isub, 1) := by decide +kernel
theorem dX9_missedOnLeave_47 : decode cX9_missedOnLeave 47 = .ok (.invokevirtual 303, 3) := by decide +kernel
theorem dX9_missedOnLeave_50 : decode cX9_missedOnLeave 50 = .ok (.aload_n 0, 1) := by decide +kernel
theorem dX9_missedOnLeave_51 : decode cX9_missedOnLeave 51 = .ok (.getfield 73, 3) := by decide +kernel
theorem dX9_missedOnLeave_54 : decode cX9_missedOnLeave 54 = .ok (.iload_n 3, 1) := by decide +kernel
theorem dX9_missedOnLeave_55 : decode cX9_missedOnLeave 55 = .ok (.aload_n 0, 1) := by decide +kernel
theorem dX9_missedOnLeave_56 : decode cX9_missedOnLeave 56 = .ok (.getfield 26, 3) := by decide +kernel
theorem dX9_missedOnLeave_59 : decode cX9_missedOnLeave 59 = .ok (.getfield 209, 3) := by decide +kernel
theorem dX9_missedOnLeave_62 : decode cX9_missedOnLeave 62 = .ok (.isub, 1) := by decide +kernel
theorem dX9_missedOnLeave_63 : decode cX9_missedOnLeave 63 = .ok (.ldc 160, 2) := by decide +kernel
theorem dX9_missedOnLeave_65 : decode cX9_missedOnLeave 65 = .ok (.invokevirtual 161, 3) := by decide +kernel
theorem dX9_missedOnLeave_68 : decode cX9_missedOnLeave 68 = .ok (.istore 4, 2) := by decide +kernel
theorem dX9_missedOnLeave_70 : decode cX9_missedOnLeave 70 = .ok (.aload_n 0, 1) := by decide +kernel
theorem dX9_missedOnLeave_71 : decode cX9_missedOnLeave 71 = .ok (.getfield 73, 3) := by decide +kernel
theorem dX9_missedOnLeave_74 : decode cX9_missedOnLeave 74 = .ok (.aload_n 0, 1) := by decide +kernel
theorem dX9_missedOnLeave_75 : decode cX9_missedOnLeave 75 = .ok (.getfield 26, 3) := by decide +kernel
theorem dX9_missedOnLeave_78 : decode cX9_missedOnLeave 78 = .ok (.getfield 194, 3) := by decide +kernel
theorem dX9_missedOnLeave_81 : decode cX9_missedOnLeave 81 = .ok (.iload_n 1, 1) := by decide +kernel
theorem dX9_missedOnLeave_82 : decode cX9_missedOnLeave 82 = .ok (.iaload, 1) := by decide +kernel
theorem dX9_missedOnLeave_83 : decode cX9_missedOnLeave 83 = .ok (.iload_n 3, 1) := by decide +kernel
theorem dX9_missedOnLeave_84 : decode cX9_missedOnLeave 84 = .ok (.isub, 1) := by decide +kernel
theorem dX9_missedOnLeave_85 : decode cX9_missedOnLeave 85 = .ok (.iconst 1, 1) := by decide +kernel
theorem dX9_missedOnLeave_86 : decode cX9_missedOnLeave 86 = .ok (.iadd, 1) := by decide +kernel
theorem dX9_missedOnLeave_87 : decode cX9_missedOnLeave 87 = .ok (.ldc 160, 2) := by decide +kernel
theorem dX9_missedOnLeave_89 : decode cX9_missedOnLeave 89 = .ok (.invokevirtual 161, 3) := by decide +kernel
theorem dX9_missedOnLeave_92 : decode cX9_missedOnLeave 92 = .ok (.iload 4, 2) := by decide +kernel
theorem dX9_missedOnLeave_94 : decode cX9_missedOnLeave 94 = .ok (.isub, 1) := by decide +kernel
theorem dX9_missedOnLeave_95 : decode cX9_missedOnLeave 95 = .ok (.ireturn, 1) := by decide +kernel
theorem dX9_runAway_0 : decode cX9_runAway 0 = .ok (.aload_n 0, 1) := by decide +kernel
theorem dX9_runAway_1 : decode cX9_runAway 1 = .ok (.getfield 73, 3) := by decide +kernel
theorem dX9_runAway_4 : decode cX9_runAway 4 = .ok (.aload_n 0, 1) := by decide +kernel
theorem dX9_runAway_5 : decode cX9_runAway 5 = .ok (.getfield 26, 3) := by decide +kernel
theorem dX9_runAway_8 : decode cX9_runAway 8 = .ok (.invokevirtual 157, 3) := by decide +kernel
theorem dX9_runAway_11 : decode cX9_runAway 11 = .ok (.aload_n 0, 1) := by decide +kernel
theorem dX9_runAway_12 : decode cX9_runAway 12 = .ok (.getfield 73, 3) := by decide +kernel
theorem dX9_runAway_15 : decode cX9_runAway 15 = .ok (.getfield 165, 3) := by decide +kernel
theorem dX9_runAway_18 : decode cX9_runAway 18 = .ok (.sipush 1023, 3) := by decide +kernel
theorem dX9_runAway_21 : decode cX9_runAway 21 = .ok (.invokevirtual 147, 3) := by decide +kernel
theorem dX9_runAway_24 : decode cX9_runAway 24 = .ok (.iconst 0, 1) := by decide +kernel
theorem dX9_runAway_25 : decode cX9_runAway 25 = .ok (.istore 4, 2) := by decide +kernel
theorem dX9_runAway_27 : decode cX9_runAway 27 = .ok (.iload 4, 2) := by decide +kernel
theorem dX9_runAway_29 : decode cX9_runAway 29 = .ok (.bipush 10, 2) := by decide +kernel
theorem dX9_runAway_31 : decode cX9_runAway 31 = .ok (.if_icmp .ge 40, 3) := by decide +kernel
theorem dX9_runAway_34 : decode cX9_runAway 34 = .ok (.iload_n 1, 1) := by decide +kernel
theorem dX9_runAway_35 : decode cX9_runAway 35 = .ok (.iload 4, 2) := by decide +kernel
theorem dX9_runAway_37 : decode cX9_runAway 37 = .ok (.invokestatic 232, 3) := by decide +kernel
theorem dX9_runAway_40 : decode cX9_runAway 40 = .ok (.ifCond .eq 25, 3) := by decide +kernel
theorem dX9_runAway_43 : decode cX9_runAway 43 = .ok (.aload_n 0, 1) := by decide +kernel
theorem dX9_runAway_44 : decode cX9_runAway 44 = .ok (.getfield 73, 3) := by decide +kernel
theorem dX9_runAway_47 : decode cX9_runAway 47 = .ok (.getfield 165, 3) := by decide +kernel
theorem dX9_runAway_50 : decode cX9_runAway 50 = .ok (.iload 4, 2) := by decide +kernel
theorem dX9_runAway_52 : decode cX9_runAway 52 = .ok (.aload_n 0, 1) := by decide +kernel
theorem dX9_runAway_53 : decode cX9_runAway 53 = .ok (.getfield 26, 3) := by decide +kernel
theorem dX9_runAway_56 : decode cX9_runAway 56 = .ok (.getfield 209, 3) := by decide +kernel
theorem dX9_runAway_59 : decode cX9_runAway 59 = .ok (.sipush 9999, 3) := by decide +kernel
theorem dX9_runAway_62 : decode cX9_runAway 62 = .ok (.invokevirtual 311, 3) := by decide +kernel
theorem dX9_runAway_65 : decode cX9_runAway 65 = .ok (.iinc 4 1, 3) := by decide +kernel
theorem dX9_runAway_68 : decode cX9_runAway 68 = .ok (.goto (-41), 3) := by decide +kernel
theorem dX9_runAway_71 : decode cX9_runAway 71 = .ok (.aload_n 0, 1) := by decide +kernel
theorem dX9_runAway_72 : decode cX9_runAway 72 = .ok (.getfield 73, 3) := by decide +kernel
theorem dX9_runAway_75 : decode cX9_runAway 75 = .ok (.iload_n 2, 1) := by decide +kernel
theorem dX9_runAway_76 : decode cX9_runAway 76 = .ok (.iload_n 3, 1) := by decide +kernel
theorem dX9_runAway_77 : decode cX9_runAway 77 = .ok (.invokevirtual 161, 3) := by decide +kernel
theorem dX9_runAway_80 : decode cX9_runAway 80 = .ok (.ireturn, 1) := by decide +kernel
