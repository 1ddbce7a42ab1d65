theorem dX1_addStep_0 : decode cX1_addStep 0 = .ok (.aload_n 0, 1) := by decide +kernel
theorem dX1_addStep_1 : decode cX1_addStep 1 = .ok (.getfield 39, 3) := by decide +kernel
theorem dX1_addStep_4 : decode cX1_addStep 4 = .ok (.sipush 240, 3) := by decide +kernel
theorem dX1_addStep_7 : decode cX1_addStep 7 = .ok (.if_icmp .ge 27, 3) := by decide +kernel
theorem dX1_addStep_10 : decode cX1_addStep 10 = .ok (.aload_n 0, 1) := by decide +kernel
theorem dX1_addStep_11 : decode cX1_addStep 11 = .ok (.getfield 11, 3) := by decide +kernel
theorem dX1_addStep_14 : decode cX1_addStep 14 = .ok (.aload_n 0, 1) := by decide +kernel
theorem dX1_addStep_15 : decode cX1_addStep 15 = .ok (.getfield 39, 3) := by decide +kernel
theorem dX1_addStep_18 : decode cX1_addStep 18 = .ok (.iload_n 2, 1) := by decide +kernel
theorem dX1_addStep_19 : decode cX1_addStep 19 = .ok (.iconst 4, 1) := by decide +kernel
theorem dX1_addStep_20 : decode cX1_addStep 20 = .ok (.ishl, 1) := by decide +kernel
theorem dX1_addStep_21 : decode cX1_addStep 21 = .ok (.iload_n 1, 1) := by decide +kernel
theorem dX1_addStep_22 : decode cX1_addStep 22 = .ok (.ior, 1) := by decide +kernel
theorem dX1_addStep_23 : decode cX1_addStep 23 = .ok (.iastore, 1) := by decide +kernel
theorem dX1_addStep_24 : decode cX1_addStep 24 = .ok (.aload_n 0, 1) := by decide +kernel
theorem dX1_addStep_25 : decode cX1_addStep 25 = .ok (.dup, 1) := by decide +kernel
theorem dX1_addStep_26 : decode cX1_addStep 26 = .ok (.getfield 39, 3) := by decide +kernel
theorem dX1_addStep_29 : decode cX1_addStep 29 = .ok (.iconst 1, 1) := by decide +kernel
theorem dX1_addStep_30 : decode cX1_addStep 30 = .ok (.iadd, 1) := by decide +kernel
theorem dX1_addStep_31 : decode cX1_addStep 31 = .ok (.putfield 39, 3) := by decide +kernel
theorem dX1_addStep_34 : decode cX1_addStep 34 = .ok (.return_, 1) := by decide +kernel
theorem dX1_beginClause_0 : decode cX1_beginClause 0 = .ok (.aload_n 0, 1) := by decide +kernel
theorem dX1_beginClause_1 : decode cX1_beginClause 1 = .ok (.getfield 43, 3) := by decide +kernel
theorem dX1_beginClause_4 : decode cX1_beginClause 4 = .ok (.bipush 16, 2) := by decide +kernel
theorem dX1_beginClause_6 : decode cX1_beginClause 6 = .ok (.if_icmp .ge 26, 3) := by decide +kernel
theorem dX1_beginClause_9 : decode cX1_beginClause 9 = .ok (.aload_n 0, 1) := by decide +kernel
theorem dX1_beginClause_10 : decode cX1_beginClause 10 = .ok (.getfield 15, 3) := by decide +kernel
theorem dX1_beginClause_13 : decode cX1_beginClause 13 = .ok (.aload_n 0, 1) := by decide +kernel
theorem dX1_beginClause_14 : decode cX1_beginClause 14 = .ok (.getfield 43, 3) := by decide +kernel
theorem dX1_beginClause_17 : decode cX1_beginClause 17 = .ok (.iload_n 1, 1) := by decide +kernel
theorem dX1_beginClause_18 : decode cX1_beginClause 18 = .ok (.iastore, 1) := by decide +kernel
theorem dX1_beginClause_19 : decode cX1_beginClause 19 = .ok (.aload_n 0, 1) := by decide +kernel
theorem dX1_beginClause_20 : decode cX1_beginClause 20 = .ok (.getfield 18, 3) := by decide +kernel
theorem dX1_beginClause_23 : decode cX1_beginClause 23 = .ok (.aload_n 0, 1) := by decide +kernel
theorem dX1_beginClause_24 : decode cX1_beginClause 24 = .ok (.getfield 43, 3) := by decide +kernel
theorem dX1_beginClause_27 : decode cX1_beginClause 27 = .ok (.aload_n 0, 1) := by decide +kernel
theorem dX1_beginClause_28 : decode cX1_beginClause 28 = .ok (.getfield 39, 3) := by decide +kernel
theorem dX1_beginClause_31 : decode cX1_beginClause 31 = .ok (.iastore, 1) := by decide +kernel
theorem dX1_beginClause_32 : decode cX1_beginClause 32 = .ok (.return_, 1) := by decide +kernel
theorem dX1_beginCondition_0 : decode cX1_beginCondition 0 = .ok (.aload_n 0, 1) := by decide +kernel
theorem dX1_beginCondition_1 : decode cX1_beginCondition 1 = .ok (.getfield 43, 3) := by decide +kernel
theorem dX1_beginCondition_4 : decode cX1_beginCondition 4 = .ok (.bipush 16, 2) := by decide +kernel
theorem dX1_beginCondition_6 : decode cX1_beginCondition 6 = .ok (.if_icmp .ge 16, 3) := by decide +kernel
theorem dX1_beginCondition_9 : decode cX1_beginCondition 9 = .ok (.aload_n 0, 1) := by decide +kernel
theorem dX1_beginCondition_10 : decode cX1_beginCondition 10 = .ok (.getfield 21, 3) := by decide +kernel
theorem dX1_beginCondition_13 : decode cX1_beginCondition 13 = .ok (.aload_n 0, 1) := by decide +kernel
theorem dX1_beginCondition_14 : decode cX1_beginCondition 14 = .ok (.getfield 43, 3) := by decide +kernel
theorem dX1_beginCondition_17 : decode cX1_beginCondition 17 = .ok (.aload_n 0, 1) := by decide +kernel
theorem dX1_beginCondition_18 : decode cX1_beginCondition 18 = .ok (.getfield 39, 3) := by decide +kernel
theorem dX1_beginCondition_21 : decode cX1_beginCondition 21 = .ok (.iastore, 1) := by decide +kernel
theorem dX1_beginCondition_22 : decode cX1_beginCondition 22 = .ok (.return_, 1) := by decide +kernel
theorem dX1_copy_0 : decode cX1_copy 0 = .ok (.aload_n 1, 1) := by decide +kernel
theorem dX1_copy_1 : decode cX1_copy 1 = .ok (.getfield 11, 3) := by decide +kernel
theorem dX1_copy_4 : decode cX1_copy 4 = .ok (.iconst 0, 1) := by decide +kernel
theorem dX1_copy_5 : decode cX1_copy 5 = .ok (.aload_n 0, 1) := by decide +kernel
theorem dX1_copy_6 : decode cX1_copy 6 = .ok (.getfield 11, 3) := by decide +kernel
theorem dX1_copy_9 : decode cX1_copy 9 = .ok (.iconst 0, 1) := by decide +kernel
theorem dX1_copy_10 : decode cX1_copy 10 = .ok (.sipush 240, 3) := by decide +kernel
theorem dX1_copy_13 : decode cX1_copy 13 = .ok (.invokestatic 33, 3) := by decide +kernel
theorem dX1_copy_16 : decode cX1_copy 16 = .ok (.aload_n 1, 1) := by decide +kernel
theorem dX1_copy_17 : decode cX1_copy 17 = .ok (.getfield 15, 3) := by decide +kernel
theorem dX1_copy_20 : decode cX1_copy 20 = .ok (.iconst 0, 1) := by decide +kernel
theorem dX1_copy_21 : decode cX1_copy 21 = .ok (.aload_n 0, 1) := by decide +kernel
theorem dX1_copy_22 : decode cX1_copy 22 = .ok (.getfield 15, 3) := by decide +kernel
theorem dX1_copy_25 : decode cX1_copy 25 = .ok (.iconst 0, 1) := by decide +kernel
theorem dX1_copy_26 : decode cX1_copy 26 = .ok (.bipush 16, 2) := by decide +kernel
theorem dX1_copy_28 : decode cX1_copy 28 = .ok (.invokestatic 33, 3) := by decide +kernel
theorem dX1_copy_31 : decode cX1_copy 31 = .ok (.aload_n 1, 1) := by decide +kernel
theorem dX1_copy_32 : decode cX1_copy 32 = .ok (.getfield 18, 3) := by decide +kernel
theorem dX1_copy_35 : decode cX1_copy 35 = .ok (.iconst 0, 1) := by decide +kernel
theorem dX1_copy_36 : decode cX1_copy 36 = .ok (.aload_n 0, 1) := by decide +kernel
theorem dX1_copy_37 : decode cX1_copy 37 = .ok (.getfield 18, 3) := by decide +kernel
theorem dX1_copy_40 : decode cX1_copy 40 = .ok (.iconst 0, 1) := by decide +kernel
theorem dX1_copy_41 : decode cX1_copy 41 = .ok (.bipush 16, 2) := by decide +kernel
theorem dX1_copy_43 : decode cX1_copy 43 = .ok (.invokestatic 33, 3) := by decide +kernel
theorem dX1_copy_46 : decode cX1_copy 46 = .ok (.aload_n 1, 1) := by decide +kernel
theorem dX1_copy_47 : decode cX1_copy 47 = .ok (.getfield 21, 3) := by decide +kernel
theorem dX1_copy_50 : decode cX1_copy 50 = .ok (.iconst 0, 1) := by decide +kernel
theorem dX1_copy_51 : decode cX1_copy 51 = .ok (.aload_n 0, 1) := by decide +kernel
theorem dX1_copy_52 : decode cX1_copy 52 = .ok (.getfield 21, 3) := by decide +kernel
theorem dX1_copy_55 : decode cX1_copy 55 = .ok (.iconst 0, 1) := by decide +kernel
theorem dX1_copy_56 : decode cX1_copy 56 = .ok (.bipush 16, 2) := by decide +kernel
theorem dX1_copy_58 : decode cX1_copy 58 = .ok (.invokestatic 33, 3) := by decide +kernel
theorem dX1_copy_61 : decode cX1_copy 61 = .ok (.aload_n 1, 1) := by decide +kernel
theorem dX1_copy_62 : decode cX1_copy 62 = .ok (.getfield 24, 3) := by decide +kernel
theorem dX1_copy_65 : decode cX1_copy 65 = .ok (.iconst 0, 1) := by decide +kernel
theorem dX1_copy_66 : decode cX1_copy 66 = .ok (.aload_n 0, 1) := by decide +kernel
theorem dX1_copy_67 : decode cX1_copy 67 = .ok (.getfield 24, 3) := by decide +kernel
theorem dX1_copy_70 : decode cX1_copy 70 = .ok (.iconst 0, 1) := by decide +kernel
theorem dX1_copy_71 : decode cX1_copy 71 = .ok (.bipush 16, 2) := by decide +kernel
theorem dX1_copy_73 : decode cX1_copy 73 = .ok (.invokestatic 33, 3) := by decide +kernel
theorem dX1_copy_76 : decode cX1_copy 76 = .ok (.aload_n 0, 1) := by decide +kernel
theorem dX1_copy_77 : decode cX1_copy 77 = .ok (.aload_n 1, 1) := by decide +kernel
theorem dX1_copy_78 : decode cX1_copy 78 = .ok (.getfield 39, 3) := by decide +kernel
theorem dX1_copy_81 : decode cX1_copy 81 = .ok (.putfield 39, 3) := by decide +kernel
theorem dX1_copy_84 : decode cX1_copy 84 = .ok (.aload_n 0, 1) := by decide +kernel
theorem dX1_copy_85 : decode cX1_copy 85 = .ok (.aload_n 1, 1) := by decide +kernel
theorem dX1_copy_86 : decode cX1_copy 86 = .ok (.getfield 43, 3) := by decide +kernel
theorem dX1_copy_89 : decode cX1_copy 89 = .ok (.putfield 43, 3) := by decide +kernel
theorem dX1_copy_92 : decode cX1_copy 92 = .ok (.return_, 1) := by decide +kernel
theorem dX1_endClause_0 : decode cX1_endClause 0 = .ok (.aload_n 0, 1) := by decide +kernel
theorem dX1_endClause_1 : decode cX1_endClause 1 = .ok (.getfield 43, 3) := by decide +kernel
theorem dX1_endClause_4 : decode cX1_endClause 4 = .ok (.bipush 16, 2) := by decide +kernel
theorem dX1_endClause_6 : decode cX1_endClause 6 = .ok (.if_icmp .ge 26, 3) := by decide +kernel
theorem dX1_endClause_9 : decode cX1_endClause 9 = .ok (.aload_n 0, 1) := by decide +kernel
theorem dX1_endClause_10 : decode cX1_endClause 10 = .ok (.getfield 24, 3) := by decide +kernel
theorem dX1_endClause_13 : decode cX1_endClause 13 = .ok (.aload_n 0, 1) := by decide +kernel
theorem dX1_endClause_14 : decode cX1_endClause 14 = .ok (.getfield 43, 3) := by decide +kernel
theorem dX1_endClause_17 : decode cX1_endClause 17 = .ok (.aload_n 0, 1) := by decide +kernel
theorem dX1_endClause_18 : decode cX1_endClause 18 = .ok (.getfield 39, 3) := by decide +kernel
theorem dX1_endClause_21 : decode cX1_endClause 21 = .ok (.iastore, 1) := by decide +kernel
theorem dX1_endClause_22 : decode cX1_endClause 22 = .ok (.aload_n 0, 1) := by decide +kernel
theorem dX1_endClause_23 : decode cX1_endClause 23 = .ok (.dup, 1) := by decide +kernel
theorem dX1_endClause_24 : decode cX1_endClause 24 = .ok (.getfield 43, 3) := by decide +kernel
theorem dX1_endClause_27 : decode cX1_endClause 27 = .ok (.iconst 1, 1) := by decide +kernel
theorem dX1_endClause_28 : decode cX1_endClause 28 = .ok (.iadd, 1) := by decide +kernel
theorem dX1_endClause_29 : decode cX1_endClause 29 = .ok (.putfield 43, 3) := by decide +kernel
theorem dX1_endClause_32 : decode cX1_endClause 32 = .ok (.return_, 1) := by decide +kernel
theorem dX1_landSkip_0 : decode cX1_landSkip 0 = .ok (.iload_n 1, 1) := by decide +kernel
theorem dX1_landSkip_1 : decode cX1_landSkip 1 = .ok (.ifCond .lt 33, 3) := by decide +kernel
theorem dX1_landSkip_4 : decode cX1_landSkip 4 = .ok (.iload_n 1, 1) := by decide +kernel
theorem dX1_landSkip_5 : decode cX1_landSkip 5 = .ok (.aload_n 0, 1) := by decide +kernel
theorem dX1_landSkip_6 : decode cX1_landSkip 6 = .ok (.getfield 39, 3) := by decide +kernel
theorem dX1_landSkip_9 : decode cX1_landSkip 9 = .ok (.if_icmp .ge 25, 3) := by decide +kernel
theorem dX1_landSkip_12 : decode cX1_landSkip 12 = .ok (.aload_n 0, 1) := by decide +kernel
theorem dX1_landSkip_13 : decode cX1_landSkip 13 = .ok (.getfield 11, 3) := by decide +kernel
theorem dX1_landSkip_16 : decode cX1_landSkip 16 = .ok (.iload_n 1, 1) := by decide +kernel
theorem dX1_landSkip_17 : decode cX1_landSkip 17 = .ok (.aload_n 0, 1) := by decide +kernel
theorem dX1_landSkip_18 : decode cX1_landSkip 18 = .ok (.getfield 39, 3) := by decide +kernel
theorem dX1_landSkip_21 : decode cX1_landSkip 21 = .ok (.iconst 4, 1) := by decide +kernel
theorem dX1_landSkip_22 : decode cX1_landSkip 22 = .ok (.ishl, 1) := by decide +kernel
theorem dX1_landSkip_23 : decode cX1_landSkip 23 = .ok (.aload_n 0, 1) := by decide +kernel
theorem dX1_landSkip_24 : decode cX1_landSkip 24 = .ok (.getfield 11, 3) := by decide +kernel
theorem dX1_landSkip_27 : decode cX1_landSkip 27 = .ok (.iload_n 1, 1) := by decide +kernel
theorem dX1_landSkip_28 : decode cX1_landSkip 28 = .ok (.iaload, 1) := by decide +kernel
theorem dX1_landSkip_29 : decode cX1_landSkip 29 = .ok (.bipush 15, 2) := by decide +kernel
theorem dX1_landSkip_31 : decode cX1_landSkip 31 = .ok (.iand, 1) := by decide +kernel
theorem dX1_landSkip_32 : decode cX1_landSkip 32 = .ok (.ior, 1) := by decide +kernel
theorem dX1_landSkip_33 : decode cX1_landSkip 33 = .ok (.iastore, 1) := by decide +kernel
theorem dX1_landSkip_34 : decode cX1_landSkip 34 = .ok (.return_, 1) := by decide +kernel
