theorem dX10_trial_33 : decode cX10_trial 33 = .ok (.istore_n 2, 1) := by decide +kernel
theorem dX10_trial_34 : decode cX10_trial 34 = .ok (.aload_n 0, 1) := by decide +kernel
theorem dX10_trial_35 : decode cX10_trial 35 = .ok (.getfield 13, 3) := by decide +kernel
theorem dX10_trial_38 : decode cX10_trial 38 = .ok (.aload_n 0, 1) := by decide +kernel
theorem dX10_trial_39 : decode cX10_trial 39 = .ok (.getfield 7, 3) := by decide +kernel
theorem dX10_trial_42 : decode cX10_trial 42 = .ok (.bipush 15, 2) := by decide +kernel
theorem dX10_trial_44 : decode cX10_trial 44 = .ok (.invokestatic 359, 3) := by decide +kernel
theorem dX10_trial_47 : decode cX10_trial 47 = .ok (.iload_n 2, 1) := by decide +kernel
theorem dX10_trial_48 : decode cX10_trial 48 = .ok (.ireturn, 1) := by decide +kernel
theorem dX10_unitsOf_0 : decode cX10_unitsOf 0 = .ok (.aload_n 0, 1) := by decide +kernel
theorem dX10_unitsOf_1 : decode cX10_unitsOf 1 = .ok (.iload_n 1, 1) := by decide +kernel
theorem dX10_unitsOf_2 : decode cX10_unitsOf 2 = .ok (.invokevirtual 307, 3) := by decide +kernel
theorem dX10_unitsOf_5 : decode cX10_unitsOf 5 = .ok (.ifCond .eq 43, 3) := by decide +kernel
theorem dX10_unitsOf_8 : decode cX10_unitsOf 8 = .ok (.aload_n 0, 1) := by decide +kernel
theorem dX10_unitsOf_9 : decode cX10_unitsOf 9 = .ok (.iload_n 1, 1) := by decide +kernel
theorem dX10_unitsOf_10 : decode cX10_unitsOf 10 = .ok (.aload_n 0, 1) := by decide +kernel
theorem dX10_unitsOf_11 : decode cX10_unitsOf 11 = .ok (.getfield 7, 3) := by decide +kernel
theorem dX10_unitsOf_14 : decode cX10_unitsOf 14 = .ok (.bipush 13, 2) := by decide +kernel
theorem dX10_unitsOf_16 : decode cX10_unitsOf 16 = .ok (.iaload, 1) := by decide +kernel
theorem dX10_unitsOf_17 : decode cX10_unitsOf 17 = .ok (.invokevirtual 310, 3) := by decide +kernel
theorem dX10_unitsOf_20 : decode cX10_unitsOf 20 = .ok (.ifCond .ne 28, 3) := by decide +kernel
theorem dX10_unitsOf_23 : decode cX10_unitsOf 23 = .ok (.aload_n 0, 1) := by decide +kernel
theorem dX10_unitsOf_24 : decode cX10_unitsOf 24 = .ok (.getfield 7, 3) := by decide +kernel
theorem dX10_unitsOf_27 : decode cX10_unitsOf 27 = .ok (.bipush 13, 2) := by decide +kernel
theorem dX10_unitsOf_29 : decode cX10_unitsOf 29 = .ok (.iaload, 1) := by decide +kernel
theorem dX10_unitsOf_30 : decode cX10_unitsOf 30 = .ok (.aload_n 0, 1) := by decide +kernel
theorem dX10_unitsOf_31 : decode cX10_unitsOf 31 = .ok (.getfield 107, 3) := by decide +kernel
theorem dX10_unitsOf_34 : decode cX10_unitsOf 34 = .ok (.iload_n 1, 1) := by decide +kernel
theorem dX10_unitsOf_35 : decode cX10_unitsOf 35 = .ok (.iaload, 1) := by decide +kernel
theorem dX10_unitsOf_36 : decode cX10_unitsOf 36 = .ok (.aload_n 0, 1) := by decide +kernel
theorem dX10_unitsOf_37 : decode cX10_unitsOf 37 = .ok (.getfield 110, 3) := by decide +kernel
theorem dX10_unitsOf_40 : decode cX10_unitsOf 40 = .ok (.iload_n 1, 1) := by decide +kernel
theorem dX10_unitsOf_41 : decode cX10_unitsOf 41 = .ok (.iaload, 1) := by decide +kernel
theorem dX10_unitsOf_42 : decode cX10_unitsOf 42 = .ok (.invokestatic 157, 3) := by decide +kernel
theorem dX10_unitsOf_45 : decode cX10_unitsOf 45 = .ok (.ifCond .eq 5, 3) := by decide +kernel
theorem dX10_unitsOf_48 : decode cX10_unitsOf 48 = .ok (.iconst 0, 1) := by decide +kernel
theorem dX10_unitsOf_49 : decode cX10_unitsOf 49 = .ok (.ireturn, 1) := by decide +kernel
theorem dX10_unitsOf_50 : decode cX10_unitsOf 50 = .ok (.aload_n 0, 1) := by decide +kernel
theorem dX10_unitsOf_51 : decode cX10_unitsOf 51 = .ok (.getfield 83, 3) := by decide +kernel
theorem dX10_unitsOf_54 : decode cX10_unitsOf 54 = .ok (.iconst 0, 1) := by decide +kernel
theorem dX10_unitsOf_55 : decode cX10_unitsOf 55 = .ok (.iconst 0, 1) := by decide +kernel
theorem dX10_unitsOf_56 : decode cX10_unitsOf 56 = .ok (.iastore, 1) := by decide +kernel
theorem dX10_unitsOf_57 : decode cX10_unitsOf 57 = .ok (.aload_n 0, 1) := by decide +kernel
theorem dX10_unitsOf_58 : decode cX10_unitsOf 58 = .ok (.getfield 83, 3) := by decide +kernel
theorem dX10_unitsOf_61 : decode cX10_unitsOf 61 = .ok (.iconst 1, 1) := by decide +kernel
theorem dX10_unitsOf_62 : decode cX10_unitsOf 62 = .ok (.iload_n 1, 1) := by decide +kernel
theorem dX10_unitsOf_63 : decode cX10_unitsOf 63 = .ok (.iastore, 1) := by decide +kernel
theorem dX10_unitsOf_64 : decode cX10_unitsOf 64 = .ok (.aload_n 0, 1) := by decide +kernel
theorem dX10_unitsOf_65 : decode cX10_unitsOf 65 = .ok (.getfield 83, 3) := by decide +kernel
theorem dX10_unitsOf_68 : decode cX10_unitsOf 68 = .ok (.iconst 2, 1) := by decide +kernel
theorem dX10_unitsOf_69 : decode cX10_unitsOf 69 = .ok (.aload_n 0, 1) := by decide +kernel
theorem dX10_unitsOf_70 : decode cX10_unitsOf 70 = .ok (.getfield 25, 3) := by decide +kernel
theorem dX10_unitsOf_73 : decode cX10_unitsOf 73 = .ok (.iload_n 1, 1) := by decide +kernel
theorem dX10_unitsOf_74 : decode cX10_unitsOf 74 = .ok (.iaload, 1) := by decide +kernel
theorem dX10_unitsOf_75 : decode cX10_unitsOf 75 = .ok (.aload_n 0, 1) := by decide +kernel
theorem dX10_unitsOf_76 : decode cX10_unitsOf 76 = .ok (.getfield 113, 3) := by decide +kernel
theorem dX10_unitsOf_79 : decode cX10_unitsOf 79 = .ok (.iload_n 1, 1) := by decide +kernel
theorem dX10_unitsOf_80 : decode cX10_unitsOf 80 = .ok (.iaload, 1) := by decide +kernel
theorem dX10_unitsOf_81 : decode cX10_unitsOf 81 = .ok (.iadd, 1) := by decide +kernel
theorem dX10_unitsOf_82 : decode cX10_unitsOf 82 = .ok (.iastore, 1) := by decide +kernel
theorem dX10_unitsOf_83 : decode cX10_unitsOf 83 = .ok (.aload_n 0, 1) := by decide +kernel
theorem dX10_unitsOf_84 : decode cX10_unitsOf 84 = .ok (.getfield 83, 3) := by decide +kernel
theorem dX10_unitsOf_87 : decode cX10_unitsOf 87 = .ok (.bipush 7, 2) := by decide +kernel
theorem dX10_unitsOf_89 : decode cX10_unitsOf 89 = .ok (.iconst 0, 1) := by decide +kernel
theorem dX10_unitsOf_90 : decode cX10_unitsOf 90 = .ok (.iastore, 1) := by decide +kernel
theorem dX10_unitsOf_91 : decode cX10_unitsOf 91 = .ok (.aload_n 0, 1) := by decide +kernel
theorem dX10_unitsOf_92 : decode cX10_unitsOf 92 = .ok (.bipush 99, 2) := by decide +kernel
theorem dX10_unitsOf_94 : decode cX10_unitsOf 94 = .ok (.aload_n 0, 1) := by decide +kernel
theorem dX10_unitsOf_95 : decode cX10_unitsOf 95 = .ok (.getfield 25, 3) := by decide +kernel
theorem dX10_unitsOf_98 : decode cX10_unitsOf 98 = .ok (.iload_n 1, 1) := by decide +kernel
theorem dX10_unitsOf_99 : decode cX10_unitsOf 99 = .ok (.iaload, 1) := by decide +kernel
theorem dX10_unitsOf_100 : decode cX10_unitsOf 100 = .ok (.aload_n 0, 1) := by decide +kernel
theorem dX10_unitsOf_101 : decode cX10_unitsOf 101 = .ok (.getfield 113, 3) := by decide +kernel
theorem dX10_unitsOf_104 : decode cX10_unitsOf 104 = .ok (.iload_n 1, 1) := by decide +kernel
theorem dX10_unitsOf_105 : decode cX10_unitsOf 105 = .ok (.iaload, 1) := by decide +kernel
theorem dX10_unitsOf_106 : decode cX10_unitsOf 106 = .ok (.iadd, 1) := by decide +kernel
theorem dX10_unitsOf_107 : decode cX10_unitsOf 107 = .ok (.invokevirtual 316, 3) := by decide +kernel
theorem dX10_unitsOf_110 : decode cX10_unitsOf 110 = .ok (.ireturn, 1) := by decide +kernel
