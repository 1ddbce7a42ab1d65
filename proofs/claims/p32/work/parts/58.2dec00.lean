theorem dX2_read_0 : decode cX2_read 0 = .ok (.aload_n 0, 1) := by decide +kernel
theorem dX2_read_1 : decode cX2_read 1 = .ok (.getfield 18, 3) := by decide +kernel
theorem dX2_read_4 : decode cX2_read 4 = .ok (.iload_n 1, 1) := by decide +kernel
theorem dX2_read_5 : decode cX2_read 5 = .ok (.invokevirtual 22, 3) := by decide +kernel
theorem dX2_read_8 : decode cX2_read 8 = .ok (.aload_n 0, 1) := by decide +kernel
theorem dX2_read_9 : decode cX2_read 9 = .ok (.getfield 12, 3) := by decide +kernel
theorem dX2_read_12 : decode cX2_read 12 = .ok (.invokevirtual 28, 3) := by decide +kernel
theorem dX2_read_15 : decode cX2_read 15 = .ok (.aload_n 0, 1) := by decide +kernel
theorem dX2_read_16 : decode cX2_read 16 = .ok (.invokevirtual 31, 3) := by decide +kernel
theorem dX2_read_19 : decode cX2_read 19 = .ok (.iconst 0, 1) := by decide +kernel
theorem dX2_read_20 : decode cX2_read 20 = .ok (.istore_n 2, 1) := by decide +kernel
theorem dX2_read_21 : decode cX2_read 21 = .ok (.iload_n 2, 1) := by decide +kernel
theorem dX2_read_22 : decode cX2_read 22 = .ok (.iload_n 1, 1) := by decide +kernel
theorem dX2_read_23 : decode cX2_read 23 = .ok (.if_icmp .ge 32, 3) := by decide +kernel
theorem dX2_read_26 : decode cX2_read 26 = .ok (.aload_n 0, 1) := by decide +kernel
theorem dX2_read_27 : decode cX2_read 27 = .ok (.getfield 18, 3) := by decide +kernel
theorem dX2_read_30 : decode cX2_read 30 = .ok (.invokevirtual 34, 3) := by decide +kernel
theorem dX2_read_33 : decode cX2_read 33 = .ok (.ifCond .eq 22, 3) := by decide +kernel
theorem dX2_read_36 : decode cX2_read 36 = .ok (.aload_n 0, 1) := by decide +kernel
theorem dX2_read_37 : decode cX2_read 37 = .ok (.getfield 18, 3) := by decide +kernel
theorem dX2_read_40 : decode cX2_read 40 = .ok (.bipush 59, 2) := by decide +kernel
theorem dX2_read_42 : decode cX2_read 42 = .ok (.invokevirtual 38, 3) := by decide +kernel
theorem dX2_read_45 : decode cX2_read 45 = .ok (.aload_n 0, 1) := by decide +kernel
theorem dX2_read_46 : decode cX2_read 46 = .ok (.invokevirtual 31, 3) := by decide +kernel
theorem dX2_read_49 : decode cX2_read 49 = .ok (.iinc 2 1, 3) := by decide +kernel
theorem dX2_read_52 : decode cX2_read 52 = .ok (.goto (-31), 3) := by decide +kernel
theorem dX2_read_55 : decode cX2_read 55 = .ok (.aload_n 0, 1) := by decide +kernel
theorem dX2_read_56 : decode cX2_read 56 = .ok (.getfield 18, 3) := by decide +kernel
theorem dX2_read_59 : decode cX2_read 59 = .ok (.invokevirtual 41, 3) := by decide +kernel
theorem dX2_read_62 : decode cX2_read 62 = .ok (.ifCond .eq 13, 3) := by decide +kernel
theorem dX2_read_65 : decode cX2_read 65 = .ok (.aload_n 0, 1) := by decide +kernel
theorem dX2_read_66 : decode cX2_read 66 = .ok (.getfield 12, 3) := by decide +kernel
theorem dX2_read_69 : decode cX2_read 69 = .ok (.getfield 44, 3) := by decide +kernel
theorem dX2_read_72 : decode cX2_read 72 = .ok (.goto 10, 3) := by decide +kernel
theorem dX2_read_75 : decode cX2_read 75 = .ok (.aload_n 0, 1) := by decide +kernel
theorem dX2_read_76 : decode cX2_read 76 = .ok (.getfield 18, 3) := by decide +kernel
theorem dX2_read_79 : decode cX2_read 79 = .ok (.getfield 48, 3) := by decide +kernel
theorem dX2_read_82 : decode cX2_read 82 = .ok (.ireturn, 1) := by decide +kernel
theorem dX2_readClause_0 : decode cX2_readClause 0 = .ok (.aload_n 0, 1) := by decide +kernel
theorem dX2_readClause_1 : decode cX2_readClause 1 = .ok (.ldc 51, 2) := by decide +kernel
theorem dX2_readClause_3 : decode cX2_readClause 3 = .ok (.invokevirtual 53, 3) := by decide +kernel
theorem dX2_readClause_6 : decode cX2_readClause 6 = .ok (.istore_n 1, 1) := by decide +kernel
theorem dX2_readClause_7 : decode cX2_readClause 7 = .ok (.iload_n 1, 1) := by decide +kernel
theorem dX2_readClause_8 : decode cX2_readClause 8 = .ok (.ifCond .ge 21, 3) := by decide +kernel
theorem dX2_readClause_11 : decode cX2_readClause 11 = .ok (.aload_n 0, 1) := by decide +kernel
theorem dX2_readClause_12 : decode cX2_readClause 12 = .ok (.getfield 18, 3) := by decide +kernel
theorem dX2_readClause_15 : decode cX2_readClause 15 = .ok (.iconst 1, 1) := by decide +kernel
theorem dX2_readClause_16 : decode cX2_readClause 16 = .ok (.aload_n 0, 1) := by decide +kernel
theorem dX2_readClause_17 : decode cX2_readClause 17 = .ok (.getfield 18, 3) := by decide +kernel
theorem dX2_readClause_20 : decode cX2_readClause 20 = .ok (.getfield 57, 3) := by decide +kernel
theorem dX2_readClause_23 : decode cX2_readClause 23 = .ok (.invokevirtual 60, 3) := by decide +kernel
theorem dX2_readClause_26 : decode cX2_readClause 26 = .ok (.goto 101, 3) := by decide +kernel
theorem dX2_readClause_29 : decode cX2_readClause 29 = .ok (.aload_n 0, 1) := by decide +kernel
theorem dX2_readClause_30 : decode cX2_readClause 30 = .ok (.getfield 12, 3) := by decide +kernel
theorem dX2_readClause_33 : decode cX2_readClause 33 = .ok (.getfield 44, 3) := by decide +kernel
theorem dX2_readClause_36 : decode cX2_readClause 36 = .ok (.bipush 16, 2) := by decide +kernel
theorem dX2_readClause_38 : decode cX2_readClause 38 = .ok (.if_icmp .ne 21, 3) := by decide +kernel
theorem dX2_readClause_41 : decode cX2_readClause 41 = .ok (.aload_n 0, 1) := by decide +kernel
theorem dX2_readClause_42 : decode cX2_readClause 42 = .ok (.getfield 18, 3) := by decide +kernel
theorem dX2_readClause_45 : decode cX2_readClause 45 = .ok (.iconst 4, 1) := by decide +kernel
theorem dX2_readClause_46 : decode cX2_readClause 46 = .ok (.aload_n 0, 1) := by decide +kernel
theorem dX2_readClause_47 : decode cX2_readClause 47 = .ok (.getfield 18, 3) := by decide +kernel
theorem dX2_readClause_50 : decode cX2_readClause 50 = .ok (.getfield 57, 3) := by decide +kernel
theorem dX2_readClause_53 : decode cX2_readClause 53 = .ok (.invokevirtual 60, 3) := by decide +kernel
theorem dX2_readClause_56 : decode cX2_readClause 56 = .ok (.goto 71, 3) := by decide +kernel
theorem dX2_readClause_59 : decode cX2_readClause 59 = .ok (.aload_n 0, 1) := by decide +kernel
theorem dX2_readClause_60 : decode cX2_readClause 60 = .ok (.getfield 18, 3) := by decide +kernel
theorem dX2_readClause_63 : decode cX2_readClause 63 = .ok (.dup, 1) := by decide +kernel
theorem dX2_readClause_64 : decode cX2_readClause 64 = .ok (.getfield 57, 3) := by decide +kernel
theorem dX2_readClause_67 : decode cX2_readClause 67 = .ok (.iconst 1, 1) := by decide +kernel
theorem dX2_readClause_68 : decode cX2_readClause 68 = .ok (.iadd, 1) := by decide +kernel
theorem dX2_readClause_69 : decode cX2_readClause 69 = .ok (.putfield 57, 3) := by decide +kernel
theorem dX2_readClause_72 : decode cX2_readClause 72 = .ok (.aload_n 0, 1) := by decide +kernel
theorem dX2_readClause_73 : decode cX2_readClause 73 = .ok (.getfield 12, 3) := by decide +kernel
theorem dX2_readClause_76 : decode cX2_readClause 76 = .ok (.iload_n 1, 1) := by decide +kernel
theorem dX2_readClause_77 : decode cX2_readClause 77 = .ok (.invokevirtual 64, 3) := by decide +kernel
theorem dX2_readClause_80 : decode cX2_readClause 80 = .ok (.iload_n 1, 1) := by decide +kernel
theorem dX2_readClause_81 : decode cX2_readClause 81 = .ok (.iconst 3, 1) := by decide +kernel
theorem dX2_readClause_82 : decode cX2_readClause 82 = .ok (.if_icmp .eq 8, 3) := by decide +kernel
theorem dX2_readClause_85 : decode cX2_readClause 85 = .ok (.aload_n 0, 1) := by decide +kernel
theorem dX2_readClause_86 : decode cX2_readClause 86 = .ok (.iconst 0, 1) := by decide +kernel
theorem dX2_readClause_87 : decode cX2_readClause 87 = .ok (.invokevirtual 67, 3) := by decide +kernel
theorem dX2_readClause_90 : decode cX2_readClause 90 = .ok (.aload_n 0, 1) := by decide +kernel
theorem dX2_readClause_91 : decode cX2_readClause 91 = .ok (.getfield 12, 3) := by decide +kernel
theorem dX2_readClause_94 : decode cX2_readClause 94 = .ok (.invokevirtual 70, 3) := by decide +kernel
theorem dX2_readClause_97 : decode cX2_readClause 97 = .ok (.aload_n 0, 1) := by decide +kernel
theorem dX2_readClause_98 : decode cX2_readClause 98 = .ok (.getfield 18, 3) := by decide +kernel
theorem dX2_readClause_101 : decode cX2_readClause 101 = .ok (.bipush 40, 2) := by decide +kernel
theorem dX2_readClause_103 : decode cX2_readClause 103 = .ok (.invokevirtual 38, 3) := by decide +kernel
theorem dX2_readClause_106 : decode cX2_readClause 106 = .ok (.aload_n 0, 1) := by decide +kernel
theorem dX2_readClause_107 : decode cX2_readClause 107 = .ok (.iconst 1, 1) := by decide +kernel
theorem dX2_readClause_108 : decode cX2_readClause 108 = .ok (.invokevirtual 73, 3) := by decide +kernel
theorem dX2_readClause_111 : decode cX2_readClause 111 = .ok (.aload_n 0, 1) := by decide +kernel
theorem dX2_readClause_112 : decode cX2_readClause 112 = .ok (.getfield 18, 3) := by decide +kernel
theorem dX2_readClause_115 : decode cX2_readClause 115 = .ok (.bipush 41, 2) := by decide +kernel
theorem dX2_readClause_117 : decode cX2_readClause 117 = .ok (.invokevirtual 38, 3) := by decide +kernel
theorem dX2_readClause_120 : decode cX2_readClause 120 = .ok (.aload_n 0, 1) := by decide +kernel
theorem dX2_readClause_121 : decode cX2_readClause 121 = .ok (.getfield 12, 3) := by decide +kernel
theorem dX2_readClause_124 : decode cX2_readClause 124 = .ok (.invokevirtual 76, 3) := by decide +kernel
theorem dX2_readClause_127 : decode cX2_readClause 127 = .ok (.return_, 1) := by decide +kernel
theorem dX9_law_0 : decode cX9_law 0 = .ok (.aload_n 0, 1) := by decide +kernel
theorem dX9_law_1 : decode cX9_law 1 = .ok (.getfield 10, 3) := by decide +kernel
theorem dX9_law_4 : decode cX9_law 4 = .ok (.iload_n 1, 1) := by decide +kernel
theorem dX9_law_5 : decode cX9_law 5 = .ok (.iconst 1, 1) := by decide +kernel
theorem dX9_law_6 : decode cX9_law 6 = .ok (.sipush 240, 3) := by decide +kernel
theorem dX9_law_9 : decode cX9_law 9 = .ok (.invokevirtual 115, 3) := by decide +kernel
theorem dX9_law_12 : decode cX9_law 12 = .ok (.ifCond .ne 5, 3) := by decide +kernel
theorem dX9_law_15 : decode cX9_law 15 = .ok (.iconst (-1), 1) := by decide +kernel
theorem dX9_law_16 : decode cX9_law 16 = .ok (.ireturn, 1) := by decide +kernel
theorem dX9_law_17 : decode cX9_law 17 = .ok (.aload_n 0, 1) := by decide +kernel
theorem dX9_law_18 : decode cX9_law 18 = .ok (.getfield 50, 3) := by decide +kernel
theorem dX9_law_21 : decode cX9_law 21 = .ok (.iload_n 1, 1) := by decide +kernel
theorem dX9_law_22 : decode cX9_law 22 = .ok (.invokevirtual 118, 3) := by decide +kernel
theorem dX9_law_25 : decode cX9_law 25 = .ok (.istore_n 2, 1) := by decide +kernel
theorem dX9_law_26 : decode cX9_law 26 = .ok (.iload_n 2, 1) := by decide +kernel
theorem dX9_law_27 : decode cX9_law 27 = .ok (.ifCond .le 17, 3) := by decide +kernel
theorem dX9_law_30 : decode cX9_law 30 = .ok (.aload_n 0, 1) := by decide +kernel
theorem dX9_law_31 : decode cX9_law 31 = .ok (.getfield 36, 3) := by decide +kernel
theorem dX9_law_34 : decode cX9_law 34 = .ok (.aload_n 0, 1) := by decide +kernel
theorem dX9_law_35 : decode cX9_law 35 = .ok (.getfield 50, 3) := by decide +kernel
theorem dX9_law_38 : decode cX9_law 38 = .ok (.getfield 122, 3) := by decide +kernel
theorem dX9_law_41 : decode cX9_law 41 = .ok (.invokevirtual 125, 3) := by decide +kernel
theorem dX9_law_44 : decode cX9_law 44 = .ok (.aload_n 0, 1) := by decide +kernel
theorem dX9_law_45 : decode cX9_law 45 = .ok (.getfield 10, 3) := by decide +kernel
theorem dX9_law_48 : decode cX9_law 48 = .ok (.iconst 0, 1) := by decide +kernel
theorem dX9_law_49 : decode cX9_law 49 = .ok (.putfield 112, 3) := by decide +kernel
theorem dX9_law_52 : decode cX9_law 52 = .ok (.iload_n 2, 1) := by decide +kernel
theorem dX9_law_53 : decode cX9_law 53 = .ok (.ireturn, 1) := by decide +kernel
