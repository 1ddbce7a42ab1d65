theorem dX9_init_53 : decode cX9_init 53 = .ok (.invokespecial 35, 3) := by decide +kernel
theorem dX9_init_56 : decode cX9_init 56 = .ok (.putfield 36, 3) := by decide +kernel
theorem dX9_init_59 : decode cX9_init 59 = .ok (.new 40, 3) := by decide +kernel
theorem dX9_init_62 : decode cX9_init 62 = .ok (.dup, 1) := by decide +kernel
theorem dX9_init_63 : decode cX9_init 63 = .ok (.aload_n 0, 1) := by decide +kernel
theorem dX9_init_64 : decode cX9_init 64 = .ok (.getfield 10, 3) := by decide +kernel
theorem dX9_init_67 : decode cX9_init 67 = .ok (.invokespecial 42, 3) := by decide +kernel
theorem dX9_init_70 : decode cX9_init 70 = .ok (.astore_n 1, 1) := by decide +kernel
theorem dX9_init_71 : decode cX9_init 71 = .ok (.aload_n 0, 1) := by decide +kernel
theorem dX9_init_72 : decode cX9_init 72 = .ok (.new 45, 3) := by decide +kernel
theorem dX9_init_75 : decode cX9_init 75 = .ok (.dup, 1) := by decide +kernel
theorem dX9_init_76 : decode cX9_init 76 = .ok (.aload_n 1, 1) := by decide +kernel
theorem dX9_init_77 : decode cX9_init 77 = .ok (.invokespecial 47, 3) := by decide +kernel
theorem dX9_init_80 : decode cX9_init 80 = .ok (.putfield 50, 3) := by decide +kernel
theorem dX9_init_83 : decode cX9_init 83 = .ok (.aload_n 0, 1) := by decide +kernel
theorem dX9_init_84 : decode cX9_init 84 = .ok (.new 54, 3) := by decide +kernel
theorem dX9_init_87 : decode cX9_init 87 = .ok (.dup, 1) := by decide +kernel
theorem dX9_init_88 : decode cX9_init 88 = .ok (.aload_n 1, 1) := by decide +kernel
theorem dX9_init_89 : decode cX9_init 89 = .ok (.invokespecial 56, 3) := by decide +kernel
theorem dX9_init_92 : decode cX9_init 92 = .ok (.putfield 57, 3) := by decide +kernel
theorem dX9_init_95 : decode cX9_init 95 = .ok (.aload_n 0, 1) := by decide +kernel
theorem dX9_init_96 : decode cX9_init 96 = .ok (.new 61, 3) := by decide +kernel
theorem dX9_init_99 : decode cX9_init 99 = .ok (.dup, 1) := by decide +kernel
theorem dX9_init_100 : decode cX9_init 100 = .ok (.aload_n 1, 1) := by decide +kernel
theorem dX9_init_101 : decode cX9_init 101 = .ok (.invokespecial 63, 3) := by decide +kernel
theorem dX9_init_104 : decode cX9_init 104 = .ok (.putfield 64, 3) := by decide +kernel
theorem dX9_init_107 : decode cX9_init 107 = .ok (.aload_n 0, 1) := by decide +kernel
theorem dX9_init_108 : decode cX9_init 108 = .ok (.new 68, 3) := by decide +kernel
theorem dX9_init_111 : decode cX9_init 111 = .ok (.dup, 1) := by decide +kernel
theorem dX9_init_112 : decode cX9_init 112 = .ok (.aload_n 0, 1) := by decide +kernel
theorem dX9_init_113 : decode cX9_init 113 = .ok (.getfield 19, 3) := by decide +kernel
theorem dX9_init_116 : decode cX9_init 116 = .ok (.aload_n 0, 1) := by decide +kernel
theorem dX9_init_117 : decode cX9_init 117 = .ok (.getfield 36, 3) := by decide +kernel
theorem dX9_init_120 : decode cX9_init 120 = .ok (.invokespecial 70, 3) := by decide +kernel
theorem dX9_init_123 : decode cX9_init 123 = .ok (.putfield 73, 3) := by decide +kernel
theorem dX9_init_126 : decode cX9_init 126 = .ok (.aload_n 0, 1) := by decide +kernel
theorem dX9_init_127 : decode cX9_init 127 = .ok (.bipush 32, 2) := by decide +kernel
theorem dX9_init_129 : decode cX9_init 129 = .ok (.newarray .int, 2) := by decide +kernel
theorem dX9_init_131 : decode cX9_init 131 = .ok (.putfield 77, 3) := by decide +kernel
theorem dX9_init_134 : decode cX9_init 134 = .ok (.return_, 1) := by decide +kernel
theorem dX9_isDayCount_0 : decode cX9_isDayCount 0 = .ok (.iload_n 0, 1) := by decide +kernel
theorem dX9_isDayCount_1 : decode cX9_isDayCount 1 = .ok (.iconst 1, 1) := by decide +kernel
theorem dX9_isDayCount_2 : decode cX9_isDayCount 2 = .ok (.if_icmp .lt 13, 3) := by decide +kernel
theorem dX9_isDayCount_5 : decode cX9_isDayCount 5 = .ok (.iload_n 0, 1) := by decide +kernel
theorem dX9_isDayCount_6 : decode cX9_isDayCount 6 = .ok (.bipush 60, 2) := by decide +kernel
theorem dX9_isDayCount_8 : decode cX9_isDayCount 8 = .ok (.if_icmp .gt 7, 3) := by decide +kernel
theorem dX9_isDayCount_11 : decode cX9_isDayCount 11 = .ok (.iconst 1, 1) := by decide +kernel
theorem dX9_isDayCount_12 : decode cX9_isDayCount 12 = .ok (.goto 4, 3) := by decide +kernel
theorem dX9_isDayCount_15 : decode cX9_isDayCount 15 = .ok (.iconst 0, 1) := by decide +kernel
theorem dX9_isDayCount_16 : decode cX9_isDayCount 16 = .ok (.ireturn, 1) := by decide +kernel
theorem dX9_isIn_0 : decode cX9_isIn 0 = .ok (.iload_n 1, 1) := by decide +kernel
theorem dX9_isIn_1 : decode cX9_isIn 1 = .ok (.ifCond .lt 22, 3) := by decide +kernel
theorem dX9_isIn_4 : decode cX9_isIn 4 = .ok (.iload_n 1, 1) := by decide +kernel
theorem dX9_isIn_5 : decode cX9_isIn 5 = .ok (.bipush 31, 2) := by decide +kernel
theorem dX9_isIn_7 : decode cX9_isIn 7 = .ok (.if_icmp .ge 16, 3) := by decide +kernel
theorem dX9_isIn_10 : decode cX9_isIn 10 = .ok (.iload_n 0, 1) := by decide +kernel
theorem dX9_isIn_11 : decode cX9_isIn 11 = .ok (.iload_n 1, 1) := by decide +kernel
theorem dX9_isIn_12 : decode cX9_isIn 12 = .ok (.ishr, 1) := by decide +kernel
theorem dX9_isIn_13 : decode cX9_isIn 13 = .ok (.iconst 1, 1) := by decide +kernel
theorem dX9_isIn_14 : decode cX9_isIn 14 = .ok (.iand, 1) := by decide +kernel
theorem dX9_isIn_15 : decode cX9_isIn 15 = .ok (.iconst 1, 1) := by decide +kernel
theorem dX9_isIn_16 : decode cX9_isIn 16 = .ok (.if_icmp .ne 7, 3) := by decide +kernel
theorem dX9_isIn_19 : decode cX9_isIn 19 = .ok (.iconst 1, 1) := by decide +kernel
theorem dX9_isIn_20 : decode cX9_isIn 20 = .ok (.goto 4, 3) := by decide +kernel
theorem dX9_isIn_23 : decode cX9_isIn 23 = .ok (.iconst 0, 1) := by decide +kernel
theorem dX9_isIn_24 : decode cX9_isIn 24 = .ok (.ireturn, 1) := by decide +kernel
theorem dX9_keep_0 : decode cX9_keep 0 = .ok (.aload_n 0, 1) := by decide +kernel
theorem dX9_keep_1 : decode cX9_keep 1 = .ok (.getfield 30, 3) := by decide +kernel
theorem dX9_keep_4 : decode cX9_keep 4 = .ok (.aload_n 0, 1) := by decide +kernel
theorem dX9_keep_5 : decode cX9_keep 5 = .ok (.getfield 26, 3) := by decide +kernel
theorem dX9_keep_8 : decode cX9_keep 8 = .ok (.invokevirtual 168, 3) := by decide +kernel
theorem dX9_keep_11 : decode cX9_keep 11 = .ok (.aload_n 0, 1) := by decide +kernel
theorem dX9_keep_12 : decode cX9_keep 12 = .ok (.iconst 1, 1) := by decide +kernel
theorem dX9_keep_13 : decode cX9_keep 13 = .ok (.putfield 296, 3) := by decide +kernel
theorem dX9_keep_16 : decode cX9_keep 16 = .ok (.aload_n 0, 1) := by decide +kernel
theorem dX9_keep_17 : decode cX9_keep 17 = .ok (.getfield 26, 3) := by decide +kernel
theorem dX9_keep_20 : decode cX9_keep 20 = .ok (.getfield 209, 3) := by decide +kernel
theorem dX9_keep_23 : decode cX9_keep 23 = .ok (.ireturn, 1) := by decide +kernel
theorem dX9_law_0 : decode cX9_law 0 = .ok (.aload_n 0, 1) := by decide +kernel
theorem dX9_law_1 : decode cX9_law 1 = .ok (.getfield 10, 3) := by decide +kernel
theorem dX9_law_4 : decode cX9_law 4 = .ok (.iload_n 1, 1) := by decide +kernel
theorem dX9_law_5 : decode cX9_law 5 = .ok (.iconst 1, 1) := by decide +kernel
theorem dX9_law_6 : decode cX9_law 6 = .ok (.sipush 240, 3) := by decide +kernel
theorem dX9_law_9 : decode cX9_law 9 = .ok (.invokevirtual 115, 3) := by decide +kernel
theorem dX9_law_12 : decode cX9_law 12 = .ok (.ifCond .ne 5, 3) := by decide +kernel
theorem dX9_law_15 : decode cX9_law 15 = .ok (.iconst (-1), 1) := by decide +kernel
theorem dX9_law_16 : decode cX9_law 16 = .ok (.ireturn, 1) := by decide +kernel
theorem dX9_leaves_0 : decode cX9_leaves 0 = .ok (.aload_n 0, 1) := by decide +kernel
theorem dX9_leaves_1 : decode cX9_leaves 1 = .ok (.getfield 10, 3) := by decide +kernel
theorem dX9_leaves_4 : decode cX9_leaves 4 = .ok (.iload_n 1, 1) := by decide +kernel
theorem dX9_leaves_5 : decode cX9_leaves 5 = .ok (.iconst 1, 1) := by decide +kernel
theorem dX9_leaves_6 : decode cX9_leaves 6 = .ok (.bipush 120, 2) := by decide +kernel
theorem dX9_leaves_8 : decode cX9_leaves 8 = .ok (.invokevirtual 115, 3) := by decide +kernel
theorem dX9_leaves_11 : decode cX9_leaves 11 = .ok (.ifCond .ne 5, 3) := by decide +kernel
theorem dX9_leaves_14 : decode cX9_leaves 14 = .ok (.iconst (-1), 1) := by decide +kernel
theorem dX9_leaves_15 : decode cX9_leaves 15 = .ok (.ireturn, 1) := by decide +kernel
theorem dX9_mayor_0 : decode cX9_mayor 0 = .ok (.iload_n 2, 1) := by decide +kernel
theorem dX9_mayor_1 : decode cX9_mayor 1 = .ok (.iconst 0, 1) := by decide +kernel
theorem dX9_mayor_2 : decode cX9_mayor 2 = .ok (.iconst 1, 1) := by decide +kernel
theorem dX9_mayor_3 : decode cX9_mayor 3 = .ok (.invokestatic 81, 3) := by decide +kernel
theorem dX9_mayor_6 : decode cX9_mayor 6 = .ok (.ifCond .ne 17, 3) := by decide +kernel
theorem dX9_mayor_9 : decode cX9_mayor 9 = .ok (.aload_n 0, 1) := by decide +kernel
theorem dX9_mayor_10 : decode cX9_mayor 10 = .ok (.getfield 19, 3) := by decide +kernel
theorem dX9_mayor_13 : decode cX9_mayor 13 = .ok (.iload_n 2, 1) := by decide +kernel
theorem dX9_mayor_14 : decode cX9_mayor 14 = .ok (.bipush 10, 2) := by decide +kernel
theorem dX9_mayor_16 : decode cX9_mayor 16 = .ok (.isub, 1) := by decide +kernel
theorem dX9_mayor_17 : decode cX9_mayor 17 = .ok (.invokevirtual 173, 3) := by decide +kernel
theorem dX9_mayor_20 : decode cX9_mayor 20 = .ok (.ifCond .eq 7, 3) := by decide +kernel
theorem dX9_mayor_23 : decode cX9_mayor 23 = .ok (.iconst 1, 1) := by decide +kernel
theorem dX9_mayor_24 : decode cX9_mayor 24 = .ok (.goto 4, 3) := by decide +kernel
theorem dX9_mayor_27 : decode cX9_mayor 27 = .ok (.iconst 0, 1) := by decide +kernel
theorem dX9_mayor_28 : decode cX9_mayor 28 = .ok (.istore_n 3, 1) := by decide +kernel
theorem dX9_mayor_29 : decode cX9_mayor 29 = .ok (.iload_n 1, 1) := by decide +kernel
theorem dX9_mayor_30 : decode cX9_mayor 30 = .ok (.invokestatic 154, 3) := by decide +kernel
theorem dX9_mayor_33 : decode cX9_mayor 33 = .ok (.ifCond .eq 7, 3) := by decide +kernel
theorem dX9_mayor_36 : decode cX9_mayor 36 = .ok (.iload_n 3, 1) := by decide +kernel
theorem dX9_mayor_37 : decode cX9_mayor 37 = .ok (.ifCond .ne 6, 3) := by decide +kernel
theorem dX9_mayor_40 : decode cX9_mayor 40 = .ok (.ldc 231, 2) := by decide +kernel
theorem dX9_mayor_42 : decode cX9_mayor 42 = .ok (.ireturn, 1) := by decide +kernel
theorem dX9_mayor_43 : decode cX9_mayor 43 = .ok (.aload_n 0, 1) := by decide +kernel
theorem dX9_mayor_44 : decode cX9_mayor 44 = .ok (.iconst 0, 1) := by decide +kernel
theorem dX9_mayor_45 : decode cX9_mayor 45 = .ok (.iload_n 1, 1) := by decide +kernel
theorem dX9_mayor_46 : decode cX9_mayor 46 = .ok (.ldc 160, 2) := by decide +kernel
theorem dX9_mayor_48 : decode cX9_mayor 48 = .ok (.invokevirtual 266, 3) := by decide +kernel
theorem dX9_mayor_51 : decode cX9_mayor 51 = .ok (.istore 4, 2) := by decide +kernel
theorem dX9_mayor_53 : decode cX9_mayor 53 = .ok (.iload_n 2, 1) := by decide +kernel
theorem dX9_mayor_54 : decode cX9_mayor 54 = .ok (.bipush 10, 2) := by decide +kernel
theorem dX9_mayor_56 : decode cX9_mayor 56 = .ok (.if_icmp .lt 20, 3) := by decide +kernel
theorem dX9_mayor_76 : decode cX9_mayor 76 = .ok (.ldc 160, 2) := by decide +kernel
theorem dX9_mayor_78 : decode cX9_mayor 78 = .ok (.istore 5, 2) := by decide +kernel
theorem dX9_mayor_80 : decode cX9_mayor 80 = .ok (.bipush (-2), 2) := by decide +kernel
theorem dX9_mayor_82 : decode cX9_mayor 82 = .ok (.istore 6, 2) := by decide +kernel
theorem dX9_mayor_84 : decode cX9_mayor 84 = .ok (.iconst 0, 1) := by decide +kernel
theorem dX9_mayor_85 : decode cX9_mayor 85 = .ok (.istore 7, 2) := by decide +kernel
theorem dX9_mayor_87 : decode cX9_mayor 87 = .ok (.iload 7, 2) := by decide +kernel
theorem dX9_mayor_89 : decode cX9_mayor 89 = .ok (.bipush 10, 2) := by decide +kernel
theorem dX9_mayor_91 : decode cX9_mayor 91 = .ok (.if_icmp .ge 49, 3) := by decide +kernel
theorem dX9_mayor_94 : decode cX9_mayor 94 = .ok (.aload_n 0, 1) := by decide +kernel
theorem dX9_mayor_95 : decode cX9_mayor 95 = .ok (.getfield 19, 3) := by decide +kernel
theorem dX9_mayor_98 : decode cX9_mayor 98 = .ok (.iload 7, 2) := by decide +kernel
theorem dX9_mayor_100 : decode cX9_mayor 100 = .ok (.invokevirtual 173, 3) := by decide +kernel
theorem dX9_mayor_103 : decode cX9_mayor 103 = .ok (.ifCond .eq 31, 3) := by decide +kernel
theorem dX9_mayor_134 : decode cX9_mayor 134 = .ok (.iinc 7 1, 3) := by decide +kernel
theorem dX9_mayor_137 : decode cX9_mayor 137 = .ok (.goto (-50), 3) := by decide +kernel
theorem dX9_mayor_140 : decode cX9_mayor 140 = .ok (.iload_n 2, 1) := by decide +kernel
theorem dX9_mayor_141 : decode cX9_mayor 141 = .ok (.ifCond .eq 10, 3) := by decide +kernel
theorem dX9_mayor_144 : decode cX9_mayor 144 = .ok (.iload 6, 2) := by decide +kernel
theorem dX9_mayor_146 : decode cX9_mayor 146 = .ok (.bipush (-2), 2) := by decide +kernel
theorem dX9_mayor_148 : decode cX9_mayor 148 = .ok (.if_icmp .ne 8, 3) := by decide +kernel
theorem dX9_mayor_151 : decode cX9_mayor 151 = .ok (.iload 6, 2) := by decide +kernel
theorem dX9_mayor_153 : decode cX9_mayor 153 = .ok (.goto 8, 3) := by decide +kernel
theorem dX9_mayor_161 : decode cX9_mayor 161 = .ok (.ireturn, 1) := by decide +kernel
theorem dX9_missed_0 : decode cX9_missed 0 = .ok (.iload_n 2, 1) := by decide +kernel
theorem dX9_missed_1 : decode cX9_missed 1 = .ok (.invokestatic 154, 3) := by decide +kernel
theorem dX9_missed_4 : decode cX9_missed 4 = .ok (.ifCond .eq 11, 3) := by decide +kernel
theorem dX9_missed_7 : decode cX9_missed 7 = .ok (.aload_n 0, 1) := by decide +kernel
theorem dX9_missed_8 : decode cX9_missed 8 = .ok (.iload_n 1, 1) := by decide +kernel
theorem dX9_missed_9 : decode cX9_missed 9 = .ok (.invokevirtual 228, 3) := by decide +kernel
theorem dX9_missed_12 : decode cX9_missed 12 = .ok (.ifCond .ne 6, 3) := by decide +kernel
theorem dX9_missed_15 : decode cX9_missed 15 = .ok (.ldc 231, 2) := by decide +kernel
theorem dX9_missed_17 : decode cX9_missed 17 = .ok (.ireturn, 1) := by decide +kernel
theorem dX9_mustStay_0 : decode cX9_mustStay 0 = .ok (.iload_n 1, 1) := by decide +kernel
theorem dX9_mustStay_1 : decode cX9_mustStay 1 = .ok (.iconst 1, 1) := by decide +kernel
theorem dX9_mustStay_2 : decode cX9_mustStay 2 = .ok (.bipush 20, 2) := by decide +kernel
theorem dX9_mustStay_4 : decode cX9_mustStay 4 = .ok (.invokestatic 81, 3) := by decide +kernel
theorem dX9_mustStay_7 : decode cX9_mustStay 7 = .ok (.ifCond .eq 12, 3) := by decide +kernel
theorem dX9_mustStay_10 : decode cX9_mustStay 10 = .ok (.iload_n 2, 1) := by decide +kernel
theorem dX9_mustStay_11 : decode cX9_mustStay 11 = .ok (.iconst 0, 1) := by decide +kernel
theorem dX9_mustStay_12 : decode cX9_mustStay 12 = .ok (.iconst 1, 1) := by decide +kernel
theorem dX9_mustStay_13 : decode cX9_mustStay 13 = .ok (.invokestatic 81, 3) := by decide +kernel
theorem dX9_mustStay_16 : decode cX9_mustStay 16 = .ok (.ifCond .ne 5, 3) := by decide +kernel
theorem dX9_mustStay_19 : decode cX9_mustStay 19 = .ok (.iconst (-1), 1) := by decide +kernel
theorem dX9_mustStay_20 : decode cX9_mustStay 20 = .ok (.ireturn, 1) := by decide +kernel
theorem dX9_mustStay_21 : decode cX9_mustStay 21 = .ok (.aload_n 0, 1) := by decide +kernel
theorem dX9_mustStay_22 : decode cX9_mustStay 22 = .ok (.getfield 26, 3) := by decide +kernel
theorem dX9_mustStay_25 : decode cX9_mustStay 25 = .ok (.invokevirtual 138, 3) := by decide +kernel
theorem dX9_mustStay_28 : decode cX9_mustStay 28 = .ok (.istore_n 3, 1) := by decide +kernel
theorem dX9_mustStay_29 : decode cX9_mustStay 29 = .ok (.iconst 0, 1) := by decide +kernel
theorem dX9_mustStay_30 : decode cX9_mustStay 30 = .ok (.istore 4, 2) := by decide +kernel
theorem dX9_mustStay_32 : decode cX9_mustStay 32 = .ok (.iload 4, 2) := by decide +kernel
theorem dX9_mustStay_34 : decode cX9_mustStay 34 = .ok (.bipush 10, 2) := by decide +kernel
theorem dX9_mustStay_36 : decode cX9_mustStay 36 = .ok (.if_icmp .gt 79, 3) := by decide +kernel
theorem dX9_mustStay_39 : decode cX9_mustStay 39 = .ok (.iconst 0, 1) := by decide +kernel
theorem dX9_mustStay_40 : decode cX9_mustStay 40 = .ok (.istore 5, 2) := by decide +kernel
theorem dX9_mustStay_42 : decode cX9_mustStay 42 = .ok (.iload 5, 2) := by decide +kernel
theorem dX9_mustStay_44 : decode cX9_mustStay 44 = .ok (.sipush 1023, 3) := by decide +kernel
theorem dX9_mustStay_47 : decode cX9_mustStay 47 = .ok (.if_icmp .gt 62, 3) := by decide +kernel
theorem dX9_mustStay_50 : decode cX9_mustStay 50 = .ok (.iload 5, 2) := by decide +kernel
theorem dX9_mustStay_52 : decode cX9_mustStay 52 = .ok (.invokestatic 142, 3) := by decide +kernel
theorem dX9_mustStay_55 : decode cX9_mustStay 55 = .ok (.iload 4, 2) := by decide +kernel
theorem dX9_mustStay_57 : decode cX9_mustStay 57 = .ok (.if_icmp .ne 16, 3) := by decide +kernel
theorem dX9_mustStay_60 : decode cX9_mustStay 60 = .ok (.iload 5, 2) := by decide +kernel
theorem dX9_mustStay_62 : decode cX9_mustStay 62 = .ok (.iload_n 3, 1) := by decide +kernel
theorem dX9_mustStay_63 : decode cX9_mustStay 63 = .ok (.iconst (-1), 1) := by decide +kernel
theorem dX9_mustStay_64 : decode cX9_mustStay 64 = .ok (.ixor, 1) := by decide +kernel
theorem dX9_mustStay_65 : decode cX9_mustStay 65 = .ok (.iand, 1) := by decide +kernel
theorem dX9_mustStay_66 : decode cX9_mustStay 66 = .ok (.ifCond .ne 7, 3) := by decide +kernel
theorem dX9_mustStay_69 : decode cX9_mustStay 69 = .ok (.iconst 1, 1) := by decide +kernel
theorem dX9_mustStay_70 : decode cX9_mustStay 70 = .ok (.goto 4, 3) := by decide +kernel
theorem dX9_mustStay_74 : decode cX9_mustStay 74 = .ok (.istore 6, 2) := by decide +kernel
theorem dX9_mustStay_76 : decode cX9_mustStay 76 = .ok (.iload 6, 2) := by decide +kernel
theorem dX9_mustStay_78 : decode cX9_mustStay 78 = .ok (.ifCond .eq 25, 3) := by decide +kernel
theorem dX9_mustStay_81 : decode cX9_mustStay 81 = .ok (.aload_n 0, 1) := by decide +kernel
theorem dX9_mustStay_82 : decode cX9_mustStay 82 = .ok (.iload 5, 2) := by decide +kernel
theorem dX9_mustStay_84 : decode cX9_mustStay 84 = .ok (.iload_n 1, 1) := by decide +kernel
theorem dX9_mustStay_85 : decode cX9_mustStay 85 = .ok (.invokevirtual 281, 3) := by decide +kernel
theorem dX9_mustStay_88 : decode cX9_mustStay 88 = .ok (.ifCond .eq 15, 3) := by decide +kernel
theorem dX9_mustStay_91 : decode cX9_mustStay 91 = .ok (.iload_n 2, 1) := by decide +kernel
theorem dX9_mustStay_92 : decode cX9_mustStay 92 = .ok (.ifCond .ne 8, 3) := by decide +kernel
theorem dX9_mustStay_95 : decode cX9_mustStay 95 = .ok (.iload 4, 2) := by decide +kernel
theorem dX9_mustStay_97 : decode cX9_mustStay 97 = .ok (.goto 5, 3) := by decide +kernel
theorem dX9_mustStay_100 : decode cX9_mustStay 100 = .ok (.iload 5, 2) := by decide +kernel
theorem dX9_mustStay_102 : decode cX9_mustStay 102 = .ok (.ireturn, 1) := by decide +kernel
theorem dX9_person_0 : decode cX9_person 0 = .ok (.iload_n 1, 1) := by decide +kernel
theorem dX9_person_1 : decode cX9_person 1 = .ok (.iconst 0, 1) := by decide +kernel
theorem dX9_person_2 : decode cX9_person 2 = .ok (.bipush 9, 2) := by decide +kernel
theorem dX9_person_4 : decode cX9_person 4 = .ok (.invokestatic 81, 3) := by decide +kernel
theorem dX9_person_7 : decode cX9_person 7 = .ok (.ifCond .eq 13, 3) := by decide +kernel
theorem dX9_person_10 : decode cX9_person 10 = .ok (.iload_n 2, 1) := by decide +kernel
theorem dX9_person_11 : decode cX9_person 11 = .ok (.iconst 0, 1) := by decide +kernel
theorem dX9_person_12 : decode cX9_person 12 = .ok (.bipush 20, 2) := by decide +kernel
theorem dX9_person_14 : decode cX9_person 14 = .ok (.invokestatic 81, 3) := by decide +kernel
theorem dX9_person_17 : decode cX9_person 17 = .ok (.ifCond .ne 5, 3) := by decide +kernel
theorem dX9_person_20 : decode cX9_person 20 = .ok (.iconst 0, 1) := by decide +kernel
theorem dX9_person_21 : decode cX9_person 21 = .ok (.ireturn, 1) := by decide +kernel
theorem dX9_person_22 : decode cX9_person 22 = .ok (.aload_n 0, 1) := by decide +kernel
theorem dX9_person_23 : decode cX9_person 23 = .ok (.getfield 19, 3) := by decide +kernel
theorem dX9_person_26 : decode cX9_person 26 = .ok (.dup, 1) := by decide +kernel
theorem dX9_person_27 : decode cX9_person 27 = .ok (.getfield 85, 3) := by decide +kernel
theorem dX9_person_30 : decode cX9_person 30 = .ok (.iconst 1, 1) := by decide +kernel
theorem dX9_person_31 : decode cX9_person 31 = .ok (.iload_n 1, 1) := by decide +kernel
theorem dX9_person_32 : decode cX9_person 32 = .ok (.ishl, 1) := by decide +kernel
theorem dX9_person_33 : decode cX9_person 33 = .ok (.ior, 1) := by decide +kernel
theorem dX9_person_34 : decode cX9_person 34 = .ok (.putfield 85, 3) := by decide +kernel
theorem dX9_person_37 : decode cX9_person 37 = .ok (.aload_n 0, 1) := by decide +kernel
theorem dX9_person_38 : decode cX9_person 38 = .ok (.getfield 19, 3) := by decide +kernel
theorem dX9_person_41 : decode cX9_person 41 = .ok (.getfield 89, 3) := by decide +kernel
theorem dX9_person_44 : decode cX9_person 44 = .ok (.iload_n 1, 1) := by decide +kernel
theorem dX9_person_45 : decode cX9_person 45 = .ok (.iload_n 2, 1) := by decide +kernel
theorem dX9_person_46 : decode cX9_person 46 = .ok (.iastore, 1) := by decide +kernel
theorem dX9_person_47 : decode cX9_person 47 = .ok (.iconst 1, 1) := by decide +kernel
theorem dX9_person_48 : decode cX9_person 48 = .ok (.ireturn, 1) := by decide +kernel
theorem dX9_personIs_0 : decode cX9_personIs 0 = .ok (.aload_n 0, 1) := by decide +kernel
theorem dX9_personIs_1 : decode cX9_personIs 1 = .ok (.getfield 19, 3) := by decide +kernel
theorem dX9_personIs_4 : decode cX9_personIs 4 = .ok (.iload_n 1, 1) := by decide +kernel
theorem dX9_personIs_5 : decode cX9_personIs 5 = .ok (.invokevirtual 173, 3) := by decide +kernel
theorem dX9_personIs_8 : decode cX9_personIs 8 = .ok (.ifCond .ne 5, 3) := by decide +kernel
theorem dX9_personIs_11 : decode cX9_personIs 11 = .ok (.iconst (-1), 1) := by decide +kernel
theorem dX9_personIs_12 : decode cX9_personIs 12 = .ok (.ireturn, 1) := by decide +kernel
theorem dX9_rain_0 : decode cX9_rain 0 = .ok (.iload_n 1, 1) := by decide +kernel
theorem dX9_rain_1 : decode cX9_rain 1 = .ok (.iconst 0, 1) := by decide +kernel
theorem dX9_rain_2 : decode cX9_rain 2 = .ok (.bipush 10, 2) := by decide +kernel
theorem dX9_rain_4 : decode cX9_rain 4 = .ok (.invokestatic 81, 3) := by decide +kernel
theorem dX9_rain_7 : decode cX9_rain 7 = .ok (.ifCond .ne 5, 3) := by decide +kernel
theorem dX9_rain_10 : decode cX9_rain 10 = .ok (.iconst 0, 1) := by decide +kernel
theorem dX9_rain_11 : decode cX9_rain 11 = .ok (.ireturn, 1) := by decide +kernel
theorem dX9_rain_12 : decode cX9_rain 12 = .ok (.aload_n 0, 1) := by decide +kernel
theorem dX9_rain_13 : decode cX9_rain 13 = .ok (.getfield 19, 3) := by decide +kernel
theorem dX9_rain_16 : decode cX9_rain 16 = .ok (.iload_n 1, 1) := by decide +kernel
theorem dX9_rain_17 : decode cX9_rain 17 = .ok (.putfield 101, 3) := by decide +kernel
theorem dX9_rain_20 : decode cX9_rain 20 = .ok (.iconst 1, 1) := by decide +kernel
theorem dX9_rain_21 : decode cX9_rain 21 = .ok (.ireturn, 1) := by decide +kernel
theorem dX9_runAway_0 : decode cX9_runAway 0 = .ok (.aload_n 0, 1) := by decide +kernel
theorem dX9_runAway_1 : decode cX9_runAway 1 = .ok (.getfield 73, 3) := by decide +kernel
theorem dX9_runAway_4 : decode cX9_runAway 4 = .ok (.aload_n 0, 1) := by decide +kernel
theorem dX9_runAway_5 : decode cX9_runAway 5 = .ok (.getfield 26, 3) := by decide +kernel
theorem dX9_runAway_8 : decode cX9_runAway 8 = .ok (.invokevirtual 157, 3) := by decide +kernel
theorem dX9_runAway_11 : decode cX9_runAway 11 = .ok (.aload_n 0, 1) := by decide +kernel
theorem dX9_runAway_12 : decode cX9_runAway 12 = .ok (.getfield 73, 3) := by decide +kernel
theorem dX9_runAway_15 : decode cX9_runAway 15 = .ok (.getfield 165, 3) := by decide +kernel
theorem dX9_runAway_18 : decode cX9_runAway 18 = .ok (.sipush 1023, 3) := by decide +kernel
theorem dX9_runAway_21 : decode cX9_runAway 21 = .ok (.invokevirtual 147, 3) := by decide +kernel
theorem dX9_runAway_24 : decode cX9_runAway 24 = .ok (.iconst 0, 1) := by decide +kernel
theorem dX9_runAway_25 : decode cX9_runAway 25 = .ok (.istore 4, 2) := by decide +kernel
theorem dX9_runAway_27 : decode cX9_runAway 27 = .ok (.iload 4, 2) := by decide +kernel
theorem dX9_runAway_29 : decode cX9_runAway 29 = .ok (.bipush 10, 2) := by decide +kernel
theorem dX9_runAway_31 : decode cX9_runAway 31 = .ok (.if_icmp .ge 40, 3) := by decide +kernel
theorem dX9_runAway_34 : decode cX9_runAway 34 = .ok (.iload_n 1, 1) := by decide +kernel
theorem dX9_runAway_35 : decode cX9_runAway 35 = .ok (.iload 4, 2) := by decide +kernel
theorem dX9_runAway_37 : decode cX9_runAway 37 = .ok (.invokestatic 232, 3) := by decide +kernel
theorem dX9_runAway_40 : decode cX9_runAway 40 = .ok (.ifCond .eq 25, 3) := by decide +kernel
theorem dX9_runAway_65 : decode cX9_runAway 65 = .ok (.iinc 4 1, 3) := by decide +kernel
theorem dX9_runAway_68 : decode cX9_runAway 68 = .ok (.goto (-41), 3) := by decide +kernel
theorem dX9_runAway_71 : decode cX9_runAway 71 = .ok (.aload_n 0, 1) := by decide +kernel
theorem dX9_runAway_72 : decode cX9_runAway 72 = .ok (.getfield 73, 3) := by decide +kernel
theorem dX9_runAway_75 : decode cX9_runAway 75 = .ok (.iload_n 2, 1) := by decide +kernel
theorem dX9_runAway_76 : decode cX9_runAway 76 = .ok (.iload_n 3, 1) := by decide +kernel
theorem dX9_runAway_77 : decode cX9_runAway 77 = .ok (.invokevirtual 161, 3) := by decide +kernel
theorem dX9_runAway_80 : decode cX9_runAway 80 = .ok (.ireturn, 1) := by decide +kernel
theorem dX9_seed_0 : decode cX9_seed 0 = .ok (.iload_n 1, 1) := by decide +kernel
theorem dX9_seed_1 : decode cX9_seed 1 = .ok (.iconst 0, 1) := by decide +kernel
theorem dX9_seed_2 : decode cX9_seed 2 = .ok (.ldc 150, 2) := by decide +kernel
theorem dX9_seed_4 : decode cX9_seed 4 = .ok (.invokestatic 81, 3) := by decide +kernel
theorem dX9_seed_7 : decode cX9_seed 7 = .ok (.ifCond .ne 5, 3) := by decide +kernel
theorem dX9_seed_10 : decode cX9_seed 10 = .ok (.iconst 0, 1) := by decide +kernel
theorem dX9_seed_11 : decode cX9_seed 11 = .ok (.ireturn, 1) := by decide +kernel
theorem dX9_seed_12 : decode cX9_seed 12 = .ok (.aload_n 0, 1) := by decide +kernel
theorem dX9_seed_13 : decode cX9_seed 13 = .ok (.getfield 26, 3) := by decide +kernel
theorem dX9_seed_16 : decode cX9_seed 16 = .ok (.iload_n 1, 1) := by decide +kernel
theorem dX9_seed_17 : decode cX9_seed 17 = .ok (.putfield 151, 3) := by decide +kernel
theorem dX9_seed_20 : decode cX9_seed 20 = .ok (.iconst 1, 1) := by decide +kernel
theorem dX9_seed_21 : decode cX9_seed 21 = .ok (.ireturn, 1) := by decide +kernel
theorem dX9_share_0 : decode cX9_share 0 = .ok (.iload_n 1, 1) := by decide +kernel
theorem dX9_share_1 : decode cX9_share 1 = .ok (.invokestatic 142, 3) := by decide +kernel
theorem dX9_share_4 : decode cX9_share 4 = .ok (.istore 5, 2) := by decide +kernel
theorem dX9_share_6 : decode cX9_share 6 = .ok (.aload_n 0, 1) := by decide +kernel
theorem dX9_share_7 : decode cX9_share 7 = .ok (.iload_n 1, 1) := by decide +kernel
theorem dX9_share_8 : decode cX9_share 8 = .ok (.invokevirtual 221, 3) := by decide +kernel
theorem dX9_share_11 : decode cX9_share 11 = .ok (.ifCond .eq 31, 3) := by decide +kernel
theorem dX9_share_14 : decode cX9_share 14 = .ok (.iload_n 1, 1) := by decide +kernel
theorem dX9_share_15 : decode cX9_share 15 = .ok (.aload_n 0, 1) := by decide +kernel
theorem dX9_share_16 : decode cX9_share 16 = .ok (.getfield 26, 3) := by decide +kernel
theorem dX9_share_19 : decode cX9_share 19 = .ok (.invokevirtual 138, 3) := by decide +kernel
theorem dX9_share_22 : decode cX9_share 22 = .ok (.iconst (-1), 1) := by decide +kernel
theorem dX9_share_23 : decode cX9_share 23 = .ok (.ixor, 1) := by decide +kernel
theorem dX9_share_24 : decode cX9_share 24 = .ok (.iand, 1) := by decide +kernel
theorem dX9_share_25 : decode cX9_share 25 = .ok (.ifCond .ne 17, 3) := by decide +kernel
theorem dX9_share_28 : decode cX9_share 28 = .ok (.iload 5, 2) := by decide +kernel
theorem dX9_share_30 : decode cX9_share 30 = .ok (.iconst 1, 1) := by decide +kernel
theorem dX9_share_31 : decode cX9_share 31 = .ok (.iconst 5, 1) := by decide +kernel
theorem dX9_share_32 : decode cX9_share 32 = .ok (.invokestatic 81, 3) := by decide +kernel
theorem dX9_share_35 : decode cX9_share 35 = .ok (.ifCond .eq 7, 3) := by decide +kernel
theorem dX9_share_42 : decode cX9_share 42 = .ok (.iconst 0, 1) := by decide +kernel
theorem dX9_share_43 : decode cX9_share 43 = .ok (.istore 6, 2) := by decide +kernel
theorem dX9_share_45 : decode cX9_share 45 = .ok (.iload_n 3, 1) := by decide +kernel
theorem dX9_share_46 : decode cX9_share 46 = .ok (.invokestatic 154, 3) := by decide +kernel
theorem dX9_share_49 : decode cX9_share 49 = .ok (.ifCond .eq 18, 3) := by decide +kernel
theorem dX9_share_52 : decode cX9_share 52 = .ok (.iload 6, 2) := by decide +kernel
theorem dX9_share_54 : decode cX9_share 54 = .ok (.ifCond .eq 13, 3) := by decide +kernel
theorem dX9_share_67 : decode cX9_share 67 = .ok (.ldc 231, 2) := by decide +kernel
theorem dX9_share_69 : decode cX9_share 69 = .ok (.ireturn, 1) := by decide +kernel
theorem dX9_spoilt_0 : decode cX9_spoilt 0 = .ok (.iload_n 2, 1) := by decide +kernel
theorem dX9_spoilt_1 : decode cX9_spoilt 1 = .ok (.bipush 10, 2) := by decide +kernel
theorem dX9_spoilt_3 : decode cX9_spoilt 3 = .ok (.if_icmp .eq 19, 3) := by decide +kernel
theorem dX9_spoilt_6 : decode cX9_spoilt 6 = .ok (.aload_n 0, 1) := by decide +kernel
theorem dX9_spoilt_7 : decode cX9_spoilt 7 = .ok (.getfield 19, 3) := by decide +kernel
theorem dX9_spoilt_10 : decode cX9_spoilt 10 = .ok (.iload_n 2, 1) := by decide +kernel
theorem dX9_spoilt_11 : decode cX9_spoilt 11 = .ok (.invokevirtual 173, 3) := by decide +kernel
theorem dX9_spoilt_14 : decode cX9_spoilt 14 = .ok (.ifCond .eq 12, 3) := by decide +kernel
theorem dX9_spoilt_22 : decode cX9_spoilt 22 = .ok (.iconst 1, 1) := by decide +kernel
theorem dX9_spoilt_23 : decode cX9_spoilt 23 = .ok (.goto 4, 3) := by decide +kernel
theorem dX9_spoilt_26 : decode cX9_spoilt 26 = .ok (.iconst 0, 1) := by decide +kernel
theorem dX9_spoilt_27 : decode cX9_spoilt 27 = .ok (.istore 4, 2) := by decide +kernel
theorem dX9_spoilt_29 : decode cX9_spoilt 29 = .ok (.iload_n 3, 1) := by decide +kernel
theorem dX9_spoilt_30 : decode cX9_spoilt 30 = .ok (.invokestatic 154, 3) := by decide +kernel
theorem dX9_spoilt_33 : decode cX9_spoilt 33 = .ok (.ifCond .eq 16, 3) := by decide +kernel
theorem dX9_spoilt_36 : decode cX9_spoilt 36 = .ok (.aload_n 0, 1) := by decide +kernel
theorem dX9_spoilt_37 : decode cX9_spoilt 37 = .ok (.iload_n 1, 1) := by decide +kernel
theorem dX9_spoilt_38 : decode cX9_spoilt 38 = .ok (.invokevirtual 228, 3) := by decide +kernel
theorem dX9_spoilt_41 : decode cX9_spoilt 41 = .ok (.ifCond .eq 8, 3) := by decide +kernel
theorem dX9_spoilt_49 : decode cX9_spoilt 49 = .ok (.ldc 231, 2) := by decide +kernel
theorem dX9_spoilt_51 : decode cX9_spoilt 51 = .ok (.ireturn, 1) := by decide +kernel
theorem dX9_standIn_0 : decode cX9_standIn 0 = .ok (.aload_n 0, 1) := by decide +kernel
theorem dX9_standIn_1 : decode cX9_standIn 1 = .ok (.iload_n 1, 1) := by decide +kernel
theorem dX9_standIn_2 : decode cX9_standIn 2 = .ok (.invokevirtual 228, 3) := by decide +kernel
theorem dX9_standIn_5 : decode cX9_standIn 5 = .ok (.ifCond .eq 23, 3) := by decide +kernel
theorem dX9_standIn_28 : decode cX9_standIn 28 = .ok (.iconst 0, 1) := by decide +kernel
theorem dX9_standIn_29 : decode cX9_standIn 29 = .ok (.istore 5, 2) := by decide +kernel
theorem dX9_standIn_31 : decode cX9_standIn 31 = .ok (.aload_n 0, 1) := by decide +kernel
theorem dX9_standIn_32 : decode cX9_standIn 32 = .ok (.getfield 19, 3) := by decide +kernel
theorem dX9_standIn_35 : decode cX9_standIn 35 = .ok (.iload_n 3, 1) := by decide +kernel
theorem dX9_standIn_36 : decode cX9_standIn 36 = .ok (.invokevirtual 170, 3) := by decide +kernel
theorem dX9_standIn_39 : decode cX9_standIn 39 = .ok (.ifCond .ne 19, 3) := by decide +kernel
theorem dX9_standIn_42 : decode cX9_standIn 42 = .ok (.iload_n 3, 1) := by decide +kernel
theorem dX9_standIn_43 : decode cX9_standIn 43 = .ok (.bipush 12, 2) := by decide +kernel
theorem dX9_standIn_45 : decode cX9_standIn 45 = .ok (.if_icmp .ne 17, 3) := by decide +kernel
theorem dX9_standIn_48 : decode cX9_standIn 48 = .ok (.aload_n 0, 1) := by decide +kernel
theorem dX9_standIn_49 : decode cX9_standIn 49 = .ok (.getfield 19, 3) := by decide +kernel
theorem dX9_standIn_52 : decode cX9_standIn 52 = .ok (.getfield 92, 3) := by decide +kernel
theorem dX9_standIn_55 : decode cX9_standIn 55 = .ok (.ifCond .eq 7, 3) := by decide +kernel
theorem dX9_standIn_62 : decode cX9_standIn 62 = .ok (.iconst 0, 1) := by decide +kernel
theorem dX9_standIn_63 : decode cX9_standIn 63 = .ok (.istore 6, 2) := by decide +kernel
theorem dX9_standIn_65 : decode cX9_standIn 65 = .ok (.iload 4, 2) := by decide +kernel
theorem dX9_standIn_67 : decode cX9_standIn 67 = .ok (.invokestatic 154, 3) := by decide +kernel
theorem dX9_standIn_70 : decode cX9_standIn 70 = .ok (.ifCond .eq 13, 3) := by decide +kernel
theorem dX9_standIn_73 : decode cX9_standIn 73 = .ok (.iload 5, 2) := by decide +kernel
theorem dX9_standIn_75 : decode cX9_standIn 75 = .ok (.ifCond .eq 8, 3) := by decide +kernel
theorem dX9_standIn_83 : decode cX9_standIn 83 = .ok (.ldc 231, 2) := by decide +kernel
theorem dX9_standIn_85 : decode cX9_standIn 85 = .ok (.ireturn, 1) := by decide +kernel
theorem dX9_stopped_0 : decode cX9_stopped 0 = .ok (.aload_n 0, 1) := by decide +kernel
theorem dX9_stopped_1 : decode cX9_stopped 1 = .ok (.getfield 10, 3) := by decide +kernel
theorem dX9_stopped_4 : decode cX9_stopped 4 = .ok (.iload_n 1, 1) := by decide +kernel
theorem dX9_stopped_5 : decode cX9_stopped 5 = .ok (.iconst 1, 1) := by decide +kernel
theorem dX9_stopped_6 : decode cX9_stopped 6 = .ok (.bipush 12, 2) := by decide +kernel
theorem dX9_stopped_8 : decode cX9_stopped 8 = .ok (.invokevirtual 115, 3) := by decide +kernel
theorem dX9_stopped_11 : decode cX9_stopped 11 = .ok (.ifCond .ne 5, 3) := by decide +kernel
theorem dX9_stopped_14 : decode cX9_stopped 14 = .ok (.iconst (-1), 1) := by decide +kernel
theorem dX9_stopped_15 : decode cX9_stopped 15 = .ok (.ireturn, 1) := by decide +kernel
theorem dX9_together_0 : decode cX9_together 0 = .ok (.iload_n 3, 1) := by decide +kernel
theorem dX9_together_1 : decode cX9_together 1 = .ok (.invokestatic 154, 3) := by decide +kernel
theorem dX9_together_4 : decode cX9_together 4 = .ok (.ifCond .eq 24, 3) := by decide +kernel
theorem dX9_together_7 : decode cX9_together 7 = .ok (.aload_n 0, 1) := by decide +kernel
theorem dX9_together_8 : decode cX9_together 8 = .ok (.iload_n 1, 1) := by decide +kernel
theorem dX9_together_9 : decode cX9_together 9 = .ok (.invokevirtual 228, 3) := by decide +kernel
theorem dX9_together_12 : decode cX9_together 12 = .ok (.ifCond .eq 16, 3) := by decide +kernel
theorem dX9_together_28 : decode cX9_together 28 = .ok (.ldc 231, 2) := by decide +kernel
theorem dX9_together_30 : decode cX9_together 30 = .ok (.ireturn, 1) := by decide +kernel
theorem dX9_tried_0 : decode cX9_tried 0 = .ok (.iload_n 2, 1) := by decide +kernel
theorem dX9_tried_1 : decode cX9_tried 1 = .ok (.iconst 0, 1) := by decide +kernel
theorem dX9_tried_2 : decode cX9_tried 2 = .ok (.iconst 4, 1) := by decide +kernel
theorem dX9_tried_3 : decode cX9_tried 3 = .ok (.invokestatic 81, 3) := by decide +kernel
theorem dX9_tried_6 : decode cX9_tried 6 = .ok (.ifCond .ne 31, 3) := by decide +kernel
theorem dX9_tried_9 : decode cX9_tried 9 = .ok (.aload_n 0, 1) := by decide +kernel
theorem dX9_tried_10 : decode cX9_tried 10 = .ok (.getfield 19, 3) := by decide +kernel
theorem dX9_tried_13 : decode cX9_tried 13 = .ok (.iload_n 2, 1) := by decide +kernel
theorem dX9_tried_14 : decode cX9_tried 14 = .ok (.bipush 10, 2) := by decide +kernel
theorem dX9_tried_16 : decode cX9_tried 16 = .ok (.isub, 1) := by decide +kernel
theorem dX9_tried_17 : decode cX9_tried 17 = .ok (.invokevirtual 170, 3) := by decide +kernel
theorem dX9_tried_20 : decode cX9_tried 20 = .ok (.ifCond .ne 17, 3) := by decide +kernel
theorem dX9_tried_23 : decode cX9_tried 23 = .ok (.aload_n 0, 1) := by decide +kernel
theorem dX9_tried_24 : decode cX9_tried 24 = .ok (.getfield 19, 3) := by decide +kernel
theorem dX9_tried_27 : decode cX9_tried 27 = .ok (.iload_n 2, 1) := by decide +kernel
theorem dX9_tried_28 : decode cX9_tried 28 = .ok (.bipush 30, 2) := by decide +kernel
theorem dX9_tried_30 : decode cX9_tried 30 = .ok (.isub, 1) := by decide +kernel
theorem dX9_tried_31 : decode cX9_tried 31 = .ok (.invokevirtual 173, 3) := by decide +kernel
theorem dX9_tried_34 : decode cX9_tried 34 = .ok (.ifCond .eq 7, 3) := by decide +kernel
theorem dX9_tried_37 : decode cX9_tried 37 = .ok (.iconst 1, 1) := by decide +kernel
theorem dX9_tried_38 : decode cX9_tried 38 = .ok (.goto 4, 3) := by decide +kernel
theorem dX9_tried_41 : decode cX9_tried 41 = .ok (.iconst 0, 1) := by decide +kernel
theorem dX9_tried_42 : decode cX9_tried 42 = .ok (.istore_n 3, 1) := by decide +kernel
theorem dX9_tried_43 : decode cX9_tried 43 = .ok (.iload_n 1, 1) := by decide +kernel
theorem dX9_tried_44 : decode cX9_tried 44 = .ok (.invokestatic 154, 3) := by decide +kernel
theorem dX9_tried_47 : decode cX9_tried 47 = .ok (.ifCond .eq 7, 3) := by decide +kernel
theorem dX9_tried_50 : decode cX9_tried 50 = .ok (.iload_n 3, 1) := by decide +kernel
theorem dX9_tried_51 : decode cX9_tried 51 = .ok (.ifCond .ne 5, 3) := by decide +kernel
theorem dX9_tried_54 : decode cX9_tried 54 = .ok (.iconst (-1), 1) := by decide +kernel
theorem dX9_tried_55 : decode cX9_tried 55 = .ok (.ireturn, 1) := by decide +kernel
theorem dX9_tried_56 : decode cX9_tried 56 = .ok (.aload_n 0, 1) := by decide +kernel
theorem dX9_tried_57 : decode cX9_tried 57 = .ok (.getfield 73, 3) := by decide +kernel
theorem dX9_tried_60 : decode cX9_tried 60 = .ok (.aload_n 0, 1) := by decide +kernel
theorem dX9_tried_61 : decode cX9_tried 61 = .ok (.getfield 26, 3) := by decide +kernel
theorem dX9_tried_64 : decode cX9_tried 64 = .ok (.invokevirtual 157, 3) := by decide +kernel
theorem dX9_tried_67 : decode cX9_tried 67 = .ok (.aload_n 0, 1) := by decide +kernel
theorem dX9_tried_68 : decode cX9_tried 68 = .ok (.getfield 73, 3) := by decide +kernel
theorem dX9_tried_71 : decode cX9_tried 71 = .ok (.iload_n 1, 1) := by decide +kernel
theorem dX9_tried_72 : decode cX9_tried 72 = .ok (.ldc 160, 2) := by decide +kernel
theorem dX9_tried_74 : decode cX9_tried 74 = .ok (.invokevirtual 161, 3) := by decide +kernel
theorem dX9_tried_77 : decode cX9_tried 77 = .ok (.istore 4, 2) := by decide +kernel
theorem dX9_tried_79 : decode cX9_tried 79 = .ok (.iload_n 2, 1) := by decide +kernel
theorem dX9_tried_80 : decode cX9_tried 80 = .ok (.tableswitch 74 0 4 #[36, 39, 47, 58, 66], 36) := by decide +kernel
theorem dX9_tried_116 : decode cX9_tried 116 = .ok (.iload 4, 2) := by decide +kernel
theorem dX9_tried_118 : decode cX9_tried 118 = .ok (.ireturn, 1) := by decide +kernel
theorem dX9_tried_119 : decode cX9_tried 119 = .ok (.aload_n 0, 1) := by decide +kernel
theorem dX9_tried_120 : decode cX9_tried 120 = .ok (.getfield 73, 3) := by decide +kernel
theorem dX9_tried_123 : decode cX9_tried 123 = .ok (.getfield 176, 3) := by decide +kernel
theorem dX9_tried_126 : decode cX9_tried 126 = .ok (.ireturn, 1) := by decide +kernel
theorem dX9_tried_127 : decode cX9_tried 127 = .ok (.aload_n 0, 1) := by decide +kernel
theorem dX9_tried_128 : decode cX9_tried 128 = .ok (.getfield 73, 3) := by decide +kernel
theorem dX9_tried_131 : decode cX9_tried 131 = .ok (.getfield 165, 3) := by decide +kernel
theorem dX9_tried_134 : decode cX9_tried 134 = .ok (.invokevirtual 179, 3) := by decide +kernel
theorem dX9_tried_137 : decode cX9_tried 137 = .ok (.ireturn, 1) := by decide +kernel
theorem dX9_tried_138 : decode cX9_tried 138 = .ok (.aload_n 0, 1) := by decide +kernel
theorem dX9_tried_139 : decode cX9_tried 139 = .ok (.getfield 73, 3) := by decide +kernel
theorem dX9_tried_142 : decode cX9_tried 142 = .ok (.invokevirtual 182, 3) := by decide +kernel
theorem dX9_tried_145 : decode cX9_tried 145 = .ok (.ireturn, 1) := by decide +kernel
theorem dX9_tried_146 : decode cX9_tried 146 = .ok (.aload_n 0, 1) := by decide +kernel
theorem dX9_tried_147 : decode cX9_tried 147 = .ok (.getfield 73, 3) := by decide +kernel
theorem dX9_tried_150 : decode cX9_tried 150 = .ok (.getfield 185, 3) := by decide +kernel
theorem dX9_tried_153 : decode cX9_tried 153 = .ok (.ireturn, 1) := by decide +kernel
theorem dX9_undo_0 : decode cX9_undo 0 = .ok (.aload_n 0, 1) := by decide +kernel
theorem dX9_undo_1 : decode cX9_undo 1 = .ok (.getfield 296, 3) := by decide +kernel
theorem dX9_undo_4 : decode cX9_undo 4 = .ok (.ifCond .eq 14, 3) := by decide +kernel
theorem dX9_undo_18 : decode cX9_undo 18 = .ok (.aload_n 0, 1) := by decide +kernel
theorem dX9_undo_19 : decode cX9_undo 19 = .ok (.getfield 296, 3) := by decide +kernel
theorem dX9_undo_22 : decode cX9_undo 22 = .ok (.ireturn, 1) := by decide +kernel
theorem dX9_when_0 : decode cX9_when 0 = .ok (.aload_n 0, 1) := by decide +kernel
theorem dX9_when_1 : decode cX9_when 1 = .ok (.getfield 19, 3) := by decide +kernel
theorem dX9_when_4 : decode cX9_when 4 = .ok (.iload_n 1, 1) := by decide +kernel
theorem dX9_when_5 : decode cX9_when 5 = .ok (.invokevirtual 173, 3) := by decide +kernel
theorem dX9_when_8 : decode cX9_when 8 = .ok (.ifCond .eq 33, 3) := by decide +kernel
theorem dX9_when_41 : decode cX9_when 41 = .ok (.ldc 231, 2) := by decide +kernel
theorem dX9_when_43 : decode cX9_when 43 = .ok (.ireturn, 1) := by decide +kernel
theorem dX9_within_0 : decode cX9_within 0 = .ok (.iload_n 0, 1) := by decide +kernel
theorem dX9_within_1 : decode cX9_within 1 = .ok (.iload_n 1, 1) := by decide +kernel
theorem dX9_within_2 : decode cX9_within 2 = .ok (.if_icmp .lt 12, 3) := by decide +kernel
theorem dX9_within_5 : decode cX9_within 5 = .ok (.iload_n 0, 1) := by decide +kernel
theorem dX9_within_6 : decode cX9_within 6 = .ok (.iload_n 2, 1) := by decide +kernel
theorem dX9_within_7 : decode cX9_within 7 = .ok (.if_icmp .gt 7, 3) := by decide +kernel
theorem dX9_within_10 : decode cX9_within 10 = .ok (.iconst 1, 1) := by decide +kernel
theorem dX9_within_11 : decode cX9_within 11 = .ok (.goto 4, 3) := by decide +kernel
theorem dX9_within_14 : decode cX9_within 14 = .ok (.iconst 0, 1) := by decide +kernel
theorem dX9_within_15 : decode cX9_within 15 = .ok (.ireturn, 1) := by decide +kernel
