theorem dX0_giveTo_0 : decode cX0_giveTo 0 = .ok (.iconst 0, 1) := by decide +kernel
theorem dX0_giveTo_1 : decode cX0_giveTo 1 = .ok (.istore_n 2, 1) := by decide +kernel
theorem dX0_giveTo_2 : decode cX0_giveTo 2 = .ok (.iload_n 2, 1) := by decide +kernel
theorem dX0_giveTo_3 : decode cX0_giveTo 3 = .ok (.bipush 12, 2) := by decide +kernel
theorem dX0_giveTo_5 : decode cX0_giveTo 5 = .ok (.if_icmp .ge 51, 3) := by decide +kernel
theorem dX0_giveTo_8 : decode cX0_giveTo 8 = .ok (.aload_n 0, 1) := by decide +kernel
theorem dX0_giveTo_9 : decode cX0_giveTo 9 = .ok (.getfield 15, 3) := by decide +kernel
theorem dX0_giveTo_12 : decode cX0_giveTo 12 = .ok (.iload_n 2, 1) := by decide +kernel
theorem dX0_giveTo_13 : decode cX0_giveTo 13 = .ok (.iaload, 1) := by decide +kernel
theorem dX0_giveTo_14 : decode cX0_giveTo 14 = .ok (.ifCond .le 36, 3) := by decide +kernel
theorem dX0_giveTo_17 : decode cX0_giveTo 17 = .ok (.aload_n 0, 1) := by decide +kernel
theorem dX0_giveTo_18 : decode cX0_giveTo 18 = .ok (.getfield 9, 3) := by decide +kernel
theorem dX0_giveTo_21 : decode cX0_giveTo 21 = .ok (.iload_n 2, 1) := by decide +kernel
theorem dX0_giveTo_22 : decode cX0_giveTo 22 = .ok (.bipush 10, 2) := by decide +kernel
theorem dX0_giveTo_24 : decode cX0_giveTo 24 = .ok (.imul, 1) := by decide +kernel
theorem dX0_giveTo_25 : decode cX0_giveTo 25 = .ok (.aload_n 1, 1) := by decide +kernel
theorem dX0_giveTo_26 : decode cX0_giveTo 26 = .ok (.getfield 54, 3) := by decide +kernel
theorem dX0_giveTo_29 : decode cX0_giveTo 29 = .ok (.iload_n 2, 1) := by decide +kernel
theorem dX0_giveTo_30 : decode cX0_giveTo 30 = .ok (.bipush 10, 2) := by decide +kernel
theorem dX0_giveTo_32 : decode cX0_giveTo 32 = .ok (.imul, 1) := by decide +kernel
theorem dX0_giveTo_33 : decode cX0_giveTo 33 = .ok (.bipush 10, 2) := by decide +kernel
theorem dX0_giveTo_35 : decode cX0_giveTo 35 = .ok (.invokestatic 57, 3) := by decide +kernel
theorem dX0_giveTo_38 : decode cX0_giveTo 38 = .ok (.aload_n 1, 1) := by decide +kernel
theorem dX0_giveTo_39 : decode cX0_giveTo 39 = .ok (.getfield 63, 3) := by decide +kernel
theorem dX0_giveTo_42 : decode cX0_giveTo 42 = .ok (.iload_n 2, 1) := by decide +kernel
theorem dX0_giveTo_43 : decode cX0_giveTo 43 = .ok (.aload_n 0, 1) := by decide +kernel
theorem dX0_giveTo_44 : decode cX0_giveTo 44 = .ok (.getfield 15, 3) := by decide +kernel
theorem dX0_giveTo_47 : decode cX0_giveTo 47 = .ok (.iload_n 2, 1) := by decide +kernel
theorem dX0_giveTo_48 : decode cX0_giveTo 48 = .ok (.iaload, 1) := by decide +kernel
theorem dX0_giveTo_49 : decode cX0_giveTo 49 = .ok (.iastore, 1) := by decide +kernel
theorem dX0_giveTo_50 : decode cX0_giveTo 50 = .ok (.iinc 2 1, 3) := by decide +kernel
theorem dX0_giveTo_53 : decode cX0_giveTo 53 = .ok (.goto (-51), 3) := by decide +kernel
theorem dX0_giveTo_56 : decode cX0_giveTo 56 = .ok (.return_, 1) := by decide +kernel
theorem dX0_read_0 : decode cX0_read 0 = .ok (.aload_n 0, 1) := by decide +kernel
theorem dX0_read_1 : decode cX0_read 1 = .ok (.getfield 18, 3) := by decide +kernel
theorem dX0_read_4 : decode cX0_read 4 = .ok (.iload_n 1, 1) := by decide +kernel
theorem dX0_read_5 : decode cX0_read 5 = .ok (.invokevirtual 22, 3) := by decide +kernel
theorem dX0_read_8 : decode cX0_read 8 = .ok (.aload_n 0, 1) := by decide +kernel
theorem dX0_read_9 : decode cX0_read 9 = .ok (.getfield 15, 3) := by decide +kernel
theorem dX0_read_12 : decode cX0_read 12 = .ok (.iconst 0, 1) := by decide +kernel
theorem dX0_read_13 : decode cX0_read 13 = .ok (.invokestatic 28, 3) := by decide +kernel
theorem dX0_read_16 : decode cX0_read 16 = .ok (.aload_n 0, 1) := by decide +kernel
theorem dX0_read_17 : decode cX0_read 17 = .ok (.iconst 0, 1) := by decide +kernel
theorem dX0_read_18 : decode cX0_read 18 = .ok (.putfield 34, 3) := by decide +kernel
theorem dX0_read_21 : decode cX0_read 21 = .ok (.aload_n 0, 1) := by decide +kernel
theorem dX0_read_22 : decode cX0_read 22 = .ok (.invokevirtual 38, 3) := by decide +kernel
theorem dX0_read_25 : decode cX0_read 25 = .ok (.iconst 0, 1) := by decide +kernel
theorem dX0_read_26 : decode cX0_read 26 = .ok (.istore_n 2, 1) := by decide +kernel
theorem dX0_read_27 : decode cX0_read 27 = .ok (.iload_n 2, 1) := by decide +kernel
theorem dX0_read_28 : decode cX0_read 28 = .ok (.iload_n 1, 1) := by decide +kernel
theorem dX0_read_29 : decode cX0_read 29 = .ok (.if_icmp .ge 32, 3) := by decide +kernel
theorem dX0_read_32 : decode cX0_read 32 = .ok (.aload_n 0, 1) := by decide +kernel
theorem dX0_read_33 : decode cX0_read 33 = .ok (.getfield 18, 3) := by decide +kernel
theorem dX0_read_36 : decode cX0_read 36 = .ok (.invokevirtual 41, 3) := by decide +kernel
theorem dX0_read_39 : decode cX0_read 39 = .ok (.ifCond .eq 22, 3) := by decide +kernel
theorem dX0_read_42 : decode cX0_read 42 = .ok (.aload_n 0, 1) := by decide +kernel
theorem dX0_read_43 : decode cX0_read 43 = .ok (.getfield 18, 3) := by decide +kernel
theorem dX0_read_46 : decode cX0_read 46 = .ok (.bipush 59, 2) := by decide +kernel
theorem dX0_read_48 : decode cX0_read 48 = .ok (.invokevirtual 45, 3) := by decide +kernel
theorem dX0_read_51 : decode cX0_read 51 = .ok (.aload_n 0, 1) := by decide +kernel
theorem dX0_read_52 : decode cX0_read 52 = .ok (.invokevirtual 38, 3) := by decide +kernel
theorem dX0_read_55 : decode cX0_read 55 = .ok (.iinc 2 1, 3) := by decide +kernel
theorem dX0_read_58 : decode cX0_read 58 = .ok (.goto (-31), 3) := by decide +kernel
theorem dX0_read_61 : decode cX0_read 61 = .ok (.aload_n 0, 1) := by decide +kernel
theorem dX0_read_62 : decode cX0_read 62 = .ok (.getfield 18, 3) := by decide +kernel
theorem dX0_read_65 : decode cX0_read 65 = .ok (.invokevirtual 48, 3) := by decide +kernel
theorem dX0_read_68 : decode cX0_read 68 = .ok (.ifCond .eq 10, 3) := by decide +kernel
theorem dX0_read_71 : decode cX0_read 71 = .ok (.aload_n 0, 1) := by decide +kernel
theorem dX0_read_72 : decode cX0_read 72 = .ok (.getfield 34, 3) := by decide +kernel
theorem dX0_read_75 : decode cX0_read 75 = .ok (.goto 10, 3) := by decide +kernel
theorem dX0_read_78 : decode cX0_read 78 = .ok (.aload_n 0, 1) := by decide +kernel
theorem dX0_read_79 : decode cX0_read 79 = .ok (.getfield 18, 3) := by decide +kernel
theorem dX0_read_82 : decode cX0_read 82 = .ok (.getfield 51, 3) := by decide +kernel
theorem dX0_read_85 : decode cX0_read 85 = .ok (.ireturn, 1) := by decide +kernel
theorem dX0_readLine_0 : decode cX0_readLine 0 = .ok (.aload_n 0, 1) := by decide +kernel
theorem dX0_readLine_1 : decode cX0_readLine 1 = .ok (.getfield 18, 3) := by decide +kernel
theorem dX0_readLine_4 : decode cX0_readLine 4 = .ok (.invokevirtual 64, 3) := by decide +kernel
theorem dX0_readLine_7 : decode cX0_readLine 7 = .ok (.ifCond .ne 21, 3) := by decide +kernel
theorem dX0_readLine_10 : decode cX0_readLine 10 = .ok (.aload_n 0, 1) := by decide +kernel
theorem dX0_readLine_11 : decode cX0_readLine 11 = .ok (.getfield 18, 3) := by decide +kernel
theorem dX0_readLine_14 : decode cX0_readLine 14 = .ok (.iconst 1, 1) := by decide +kernel
theorem dX0_readLine_15 : decode cX0_readLine 15 = .ok (.aload_n 0, 1) := by decide +kernel
theorem dX0_readLine_16 : decode cX0_readLine 16 = .ok (.getfield 18, 3) := by decide +kernel
theorem dX0_readLine_19 : decode cX0_readLine 19 = .ok (.getfield 67, 3) := by decide +kernel
theorem dX0_readLine_22 : decode cX0_readLine 22 = .ok (.invokevirtual 70, 3) := by decide +kernel
theorem dX0_readLine_25 : decode cX0_readLine 25 = .ok (.goto 90, 3) := by decide +kernel
theorem dX0_readLine_28 : decode cX0_readLine 28 = .ok (.aload_n 0, 1) := by decide +kernel
theorem dX0_readLine_29 : decode cX0_readLine 29 = .ok (.getfield 34, 3) := by decide +kernel
theorem dX0_readLine_32 : decode cX0_readLine 32 = .ok (.bipush 12, 2) := by decide +kernel
theorem dX0_readLine_34 : decode cX0_readLine 34 = .ok (.if_icmp .ne 21, 3) := by decide +kernel
theorem dX0_readLine_37 : decode cX0_readLine 37 = .ok (.aload_n 0, 1) := by decide +kernel
theorem dX0_readLine_38 : decode cX0_readLine 38 = .ok (.getfield 18, 3) := by decide +kernel
theorem dX0_readLine_41 : decode cX0_readLine 41 = .ok (.iconst 4, 1) := by decide +kernel
theorem dX0_readLine_42 : decode cX0_readLine 42 = .ok (.aload_n 0, 1) := by decide +kernel
theorem dX0_readLine_43 : decode cX0_readLine 43 = .ok (.getfield 18, 3) := by decide +kernel
theorem dX0_readLine_46 : decode cX0_readLine 46 = .ok (.getfield 67, 3) := by decide +kernel
theorem dX0_readLine_49 : decode cX0_readLine 49 = .ok (.invokevirtual 70, 3) := by decide +kernel
theorem dX0_readLine_52 : decode cX0_readLine 52 = .ok (.goto 63, 3) := by decide +kernel
theorem dX0_readLine_55 : decode cX0_readLine 55 = .ok (.aload_n 0, 1) := by decide +kernel
theorem dX0_readLine_56 : decode cX0_readLine 56 = .ok (.getfield 18, 3) := by decide +kernel
theorem dX0_readLine_59 : decode cX0_readLine 59 = .ok (.getfield 67, 3) := by decide +kernel
theorem dX0_readLine_62 : decode cX0_readLine 62 = .ok (.istore_n 1, 1) := by decide +kernel
theorem dX0_readLine_63 : decode cX0_readLine 63 = .ok (.aload_n 0, 1) := by decide +kernel
theorem dX0_readLine_64 : decode cX0_readLine 64 = .ok (.getfield 18, 3) := by decide +kernel
theorem dX0_readLine_67 : decode cX0_readLine 67 = .ok (.iconst 2, 1) := by decide +kernel
theorem dX0_readLine_68 : decode cX0_readLine 68 = .ok (.iconst 0, 1) := by decide +kernel
theorem dX0_readLine_69 : decode cX0_readLine 69 = .ok (.invokevirtual 74, 3) := by decide +kernel
theorem dX0_readLine_72 : decode cX0_readLine 72 = .ok (.istore_n 2, 1) := by decide +kernel
theorem dX0_readLine_73 : decode cX0_readLine 73 = .ok (.iload_n 2, 1) := by decide +kernel
theorem dX0_readLine_74 : decode cX0_readLine 74 = .ok (.bipush 12, 2) := by decide +kernel
theorem dX0_readLine_76 : decode cX0_readLine 76 = .ok (.if_icmp .lt 15, 3) := by decide +kernel
theorem dX0_readLine_79 : decode cX0_readLine 79 = .ok (.aload_n 0, 1) := by decide +kernel
theorem dX0_readLine_80 : decode cX0_readLine 80 = .ok (.getfield 18, 3) := by decide +kernel
theorem dX0_readLine_83 : decode cX0_readLine 83 = .ok (.iconst 3, 1) := by decide +kernel
theorem dX0_readLine_84 : decode cX0_readLine 84 = .ok (.iload_n 1, 1) := by decide +kernel
theorem dX0_readLine_85 : decode cX0_readLine 85 = .ok (.invokevirtual 70, 3) := by decide +kernel
theorem dX0_readLine_88 : decode cX0_readLine 88 = .ok (.goto 27, 3) := by decide +kernel
theorem dX0_readLine_91 : decode cX0_readLine 91 = .ok (.aload_n 0, 1) := by decide +kernel
theorem dX0_readLine_92 : decode cX0_readLine 92 = .ok (.getfield 18, 3) := by decide +kernel
theorem dX0_readLine_95 : decode cX0_readLine 95 = .ok (.bipush 58, 2) := by decide +kernel
theorem dX0_readLine_97 : decode cX0_readLine 97 = .ok (.invokevirtual 45, 3) := by decide +kernel
theorem dX0_readLine_100 : decode cX0_readLine 100 = .ok (.aload_n 0, 1) := by decide +kernel
theorem dX0_readLine_101 : decode cX0_readLine 101 = .ok (.iload_n 2, 1) := by decide +kernel
theorem dX0_readLine_102 : decode cX0_readLine 102 = .ok (.invokevirtual 78, 3) := by decide +kernel
theorem dX0_readLine_105 : decode cX0_readLine 105 = .ok (.aload_n 0, 1) := by decide +kernel
theorem dX0_readLine_106 : decode cX0_readLine 106 = .ok (.dup, 1) := by decide +kernel
theorem dX0_readLine_107 : decode cX0_readLine 107 = .ok (.getfield 34, 3) := by decide +kernel
theorem dX0_readLine_110 : decode cX0_readLine 110 = .ok (.iconst 1, 1) := by decide +kernel
theorem dX0_readLine_111 : decode cX0_readLine 111 = .ok (.iadd, 1) := by decide +kernel
theorem dX0_readLine_112 : decode cX0_readLine 112 = .ok (.putfield 34, 3) := by decide +kernel
theorem dX0_readLine_115 : decode cX0_readLine 115 = .ok (.return_, 1) := by decide +kernel
theorem dX0_readRow_0 : decode cX0_readRow 0 = .ok (.iconst 0, 1) := by decide +kernel
theorem dX0_readRow_1 : decode cX0_readRow 1 = .ok (.istore_n 2, 1) := by decide +kernel
theorem dX0_readRow_2 : decode cX0_readRow 2 = .ok (.iconst 0, 1) := by decide +kernel
theorem dX0_readRow_3 : decode cX0_readRow 3 = .ok (.istore_n 3, 1) := by decide +kernel
theorem dX0_readRow_4 : decode cX0_readRow 4 = .ok (.iconst 0, 1) := by decide +kernel
theorem dX0_readRow_5 : decode cX0_readRow 5 = .ok (.istore 4, 2) := by decide +kernel
theorem dX0_readRow_7 : decode cX0_readRow 7 = .ok (.iload 4, 2) := by decide +kernel
theorem dX0_readRow_9 : decode cX0_readRow 9 = .ok (.bipush 10, 2) := by decide +kernel
theorem dX0_readRow_11 : decode cX0_readRow 11 = .ok (.if_icmp .gt 99, 3) := by decide +kernel
theorem dX0_readRow_14 : decode cX0_readRow 14 = .ok (.aload_n 0, 1) := by decide +kernel
theorem dX0_readRow_15 : decode cX0_readRow 15 = .ok (.getfield 18, 3) := by decide +kernel
theorem dX0_readRow_18 : decode cX0_readRow 18 = .ok (.invokevirtual 81, 3) := by decide +kernel
theorem dX0_readRow_21 : decode cX0_readRow 21 = .ok (.iconst (-1), 1) := by decide +kernel
theorem dX0_readRow_22 : decode cX0_readRow 22 = .ok (.if_icmp .eq 88, 3) := by decide +kernel
theorem dX0_readRow_25 : decode cX0_readRow 25 = .ok (.aload_n 0, 1) := by decide +kernel
theorem dX0_readRow_26 : decode cX0_readRow 26 = .ok (.getfield 18, 3) := by decide +kernel
theorem dX0_readRow_29 : decode cX0_readRow 29 = .ok (.invokevirtual 81, 3) := by decide +kernel
theorem dX0_readRow_32 : decode cX0_readRow 32 = .ok (.istore 5, 2) := by decide +kernel
theorem dX0_readRow_34 : decode cX0_readRow 34 = .ok (.iload_n 2, 1) := by decide +kernel
theorem dX0_readRow_35 : decode cX0_readRow 35 = .ok (.iload 5, 2) := by decide +kernel
theorem dX0_readRow_37 : decode cX0_readRow 37 = .ok (.invokestatic 85, 3) := by decide +kernel
theorem dX0_readRow_40 : decode cX0_readRow 40 = .ok (.ifCond .ne 9, 3) := by decide +kernel
theorem dX0_readRow_43 : decode cX0_readRow 43 = .ok (.iload_n 3, 1) := by decide +kernel
theorem dX0_readRow_44 : decode cX0_readRow 44 = .ok (.bipush 10, 2) := by decide +kernel
theorem dX0_readRow_46 : decode cX0_readRow 46 = .ok (.if_icmp .lt 22, 3) := by decide +kernel
theorem dX0_readRow_49 : decode cX0_readRow 49 = .ok (.aload_n 0, 1) := by decide +kernel
theorem dX0_readRow_50 : decode cX0_readRow 50 = .ok (.getfield 18, 3) := by decide +kernel
theorem dX0_readRow_53 : decode cX0_readRow 53 = .ok (.bipush 6, 2) := by decide +kernel
theorem dX0_readRow_55 : decode cX0_readRow 55 = .ok (.aload_n 0, 1) := by decide +kernel
theorem dX0_readRow_56 : decode cX0_readRow 56 = .ok (.getfield 18, 3) := by decide +kernel
theorem dX0_readRow_59 : decode cX0_readRow 59 = .ok (.getfield 67, 3) := by decide +kernel
theorem dX0_readRow_62 : decode cX0_readRow 62 = .ok (.invokevirtual 70, 3) := by decide +kernel
theorem dX0_readRow_65 : decode cX0_readRow 65 = .ok (.goto 39, 3) := by decide +kernel
theorem dX0_readRow_68 : decode cX0_readRow 68 = .ok (.iload_n 2, 1) := by decide +kernel
theorem dX0_readRow_69 : decode cX0_readRow 69 = .ok (.iconst 1, 1) := by decide +kernel
theorem dX0_readRow_70 : decode cX0_readRow 70 = .ok (.iload 5, 2) := by decide +kernel
theorem dX0_readRow_72 : decode cX0_readRow 72 = .ok (.ishl, 1) := by decide +kernel
theorem dX0_readRow_73 : decode cX0_readRow 73 = .ok (.ior, 1) := by decide +kernel
theorem dX0_readRow_74 : decode cX0_readRow 74 = .ok (.istore_n 2, 1) := by decide +kernel
theorem dX0_readRow_75 : decode cX0_readRow 75 = .ok (.aload_n 0, 1) := by decide +kernel
theorem dX0_readRow_76 : decode cX0_readRow 76 = .ok (.getfield 9, 3) := by decide +kernel
theorem dX0_readRow_79 : decode cX0_readRow 79 = .ok (.iload_n 1, 1) := by decide +kernel
theorem dX0_readRow_80 : decode cX0_readRow 80 = .ok (.bipush 10, 2) := by decide +kernel
theorem dX0_readRow_82 : decode cX0_readRow 82 = .ok (.imul, 1) := by decide +kernel
theorem dX0_readRow_83 : decode cX0_readRow 83 = .ok (.iload_n 3, 1) := by decide +kernel
theorem dX0_readRow_84 : decode cX0_readRow 84 = .ok (.iadd, 1) := by decide +kernel
theorem dX0_readRow_85 : decode cX0_readRow 85 = .ok (.iload 5, 2) := by decide +kernel
theorem dX0_readRow_87 : decode cX0_readRow 87 = .ok (.iastore, 1) := by decide +kernel
theorem dX0_readRow_88 : decode cX0_readRow 88 = .ok (.iinc 3 1, 3) := by decide +kernel
theorem dX0_readRow_91 : decode cX0_readRow 91 = .ok (.aload_n 0, 1) := by decide +kernel
theorem dX0_readRow_92 : decode cX0_readRow 92 = .ok (.getfield 18, 3) := by decide +kernel
theorem dX0_readRow_95 : decode cX0_readRow 95 = .ok (.dup, 1) := by decide +kernel
theorem dX0_readRow_96 : decode cX0_readRow 96 = .ok (.getfield 67, 3) := by decide +kernel
theorem dX0_readRow_99 : decode cX0_readRow 99 = .ok (.iconst 1, 1) := by decide +kernel
theorem dX0_readRow_100 : decode cX0_readRow 100 = .ok (.iadd, 1) := by decide +kernel
theorem dX0_readRow_101 : decode cX0_readRow 101 = .ok (.putfield 67, 3) := by decide +kernel
theorem dX0_readRow_104 : decode cX0_readRow 104 = .ok (.iinc 4 1, 3) := by decide +kernel
theorem dX0_readRow_107 : decode cX0_readRow 107 = .ok (.goto (-100), 3) := by decide +kernel
theorem dX0_readRow_110 : decode cX0_readRow 110 = .ok (.iload_n 3, 1) := by decide +kernel
theorem dX0_readRow_111 : decode cX0_readRow 111 = .ok (.ifCond .ne 18, 3) := by decide +kernel
theorem dX0_readRow_114 : decode cX0_readRow 114 = .ok (.aload_n 0, 1) := by decide +kernel
theorem dX0_readRow_115 : decode cX0_readRow 115 = .ok (.getfield 18, 3) := by decide +kernel
theorem dX0_readRow_118 : decode cX0_readRow 118 = .ok (.iconst 1, 1) := by decide +kernel
theorem dX0_readRow_119 : decode cX0_readRow 119 = .ok (.aload_n 0, 1) := by decide +kernel
theorem dX0_readRow_120 : decode cX0_readRow 120 = .ok (.getfield 18, 3) := by decide +kernel
theorem dX0_readRow_123 : decode cX0_readRow 123 = .ok (.getfield 67, 3) := by decide +kernel
theorem dX0_readRow_126 : decode cX0_readRow 126 = .ok (.invokevirtual 70, 3) := by decide +kernel
theorem dX0_readRow_129 : decode cX0_readRow 129 = .ok (.aload_n 0, 1) := by decide +kernel
theorem dX0_readRow_130 : decode cX0_readRow 130 = .ok (.getfield 15, 3) := by decide +kernel
theorem dX0_readRow_133 : decode cX0_readRow 133 = .ok (.iload_n 1, 1) := by decide +kernel
theorem dX0_readRow_134 : decode cX0_readRow 134 = .ok (.iload_n 3, 1) := by decide +kernel
theorem dX0_readRow_135 : decode cX0_readRow 135 = .ok (.iastore, 1) := by decide +kernel
theorem dX0_readRow_136 : decode cX0_readRow 136 = .ok (.return_, 1) := by decide +kernel
theorem dX3_giveTo_0 : decode cX3_giveTo 0 = .ok (.aload_n 1, 1) := by decide +kernel
theorem dX3_giveTo_1 : decode cX3_giveTo 1 = .ok (.sipush 1023, 3) := by decide +kernel
theorem dX3_giveTo_4 : decode cX3_giveTo 4 = .ok (.invokevirtual 51, 3) := by decide +kernel
theorem dX3_giveTo_7 : decode cX3_giveTo 7 = .ok (.iconst 0, 1) := by decide +kernel
theorem dX3_giveTo_8 : decode cX3_giveTo 8 = .ok (.istore_n 2, 1) := by decide +kernel
theorem dX3_giveTo_9 : decode cX3_giveTo 9 = .ok (.iload_n 2, 1) := by decide +kernel
theorem dX3_giveTo_10 : decode cX3_giveTo 10 = .ok (.bipush 10, 2) := by decide +kernel
theorem dX3_giveTo_12 : decode cX3_giveTo 12 = .ok (.if_icmp .ge 37, 3) := by decide +kernel
theorem dX3_giveTo_15 : decode cX3_giveTo 15 = .ok (.aload_n 0, 1) := by decide +kernel
theorem dX3_giveTo_16 : decode cX3_giveTo 16 = .ok (.getfield 28, 3) := by decide +kernel
theorem dX3_giveTo_19 : decode cX3_giveTo 19 = .ok (.iload_n 2, 1) := by decide +kernel
theorem dX3_giveTo_20 : decode cX3_giveTo 20 = .ok (.invokestatic 56, 3) := by decide +kernel
theorem dX3_giveTo_23 : decode cX3_giveTo 23 = .ok (.ifCond .eq 20, 3) := by decide +kernel
theorem dX3_giveTo_26 : decode cX3_giveTo 26 = .ok (.aload_n 1, 1) := by decide +kernel
theorem dX3_giveTo_27 : decode cX3_giveTo 27 = .ok (.iload_n 2, 1) := by decide +kernel
theorem dX3_giveTo_28 : decode cX3_giveTo 28 = .ok (.aload_n 0, 1) := by decide +kernel
theorem dX3_giveTo_29 : decode cX3_giveTo 29 = .ok (.getfield 9, 3) := by decide +kernel
theorem dX3_giveTo_32 : decode cX3_giveTo 32 = .ok (.iload_n 2, 1) := by decide +kernel
theorem dX3_giveTo_33 : decode cX3_giveTo 33 = .ok (.iaload, 1) := by decide +kernel
theorem dX3_giveTo_34 : decode cX3_giveTo 34 = .ok (.aload_n 0, 1) := by decide +kernel
theorem dX3_giveTo_35 : decode cX3_giveTo 35 = .ok (.getfield 15, 3) := by decide +kernel
theorem dX3_giveTo_38 : decode cX3_giveTo 38 = .ok (.iload_n 2, 1) := by decide +kernel
theorem dX3_giveTo_39 : decode cX3_giveTo 39 = .ok (.iaload, 1) := by decide +kernel
theorem dX3_giveTo_40 : decode cX3_giveTo 40 = .ok (.invokevirtual 60, 3) := by decide +kernel
theorem dX3_giveTo_43 : decode cX3_giveTo 43 = .ok (.iinc 2 1, 3) := by decide +kernel
theorem dX3_giveTo_46 : decode cX3_giveTo 46 = .ok (.goto (-37), 3) := by decide +kernel
theorem dX3_giveTo_49 : decode cX3_giveTo 49 = .ok (.return_, 1) := by decide +kernel
theorem dX3_read_0 : decode cX3_read 0 = .ok (.aload_n 0, 1) := by decide +kernel
theorem dX3_read_1 : decode cX3_read 1 = .ok (.getfield 18, 3) := by decide +kernel
theorem dX3_read_4 : decode cX3_read 4 = .ok (.iload_n 1, 1) := by decide +kernel
theorem dX3_read_5 : decode cX3_read 5 = .ok (.invokevirtual 22, 3) := by decide +kernel
theorem dX3_read_8 : decode cX3_read 8 = .ok (.aload_n 0, 1) := by decide +kernel
theorem dX3_read_9 : decode cX3_read 9 = .ok (.iconst 0, 1) := by decide +kernel
theorem dX3_read_10 : decode cX3_read 10 = .ok (.putfield 28, 3) := by decide +kernel
theorem dX3_read_13 : decode cX3_read 13 = .ok (.aload_n 0, 1) := by decide +kernel
theorem dX3_read_14 : decode cX3_read 14 = .ok (.iconst 0, 1) := by decide +kernel
theorem dX3_read_15 : decode cX3_read 15 = .ok (.putfield 32, 3) := by decide +kernel
theorem dX3_read_18 : decode cX3_read 18 = .ok (.aload_n 0, 1) := by decide +kernel
theorem dX3_read_19 : decode cX3_read 19 = .ok (.invokevirtual 35, 3) := by decide +kernel
theorem dX3_read_22 : decode cX3_read 22 = .ok (.iconst 0, 1) := by decide +kernel
theorem dX3_read_23 : decode cX3_read 23 = .ok (.istore_n 2, 1) := by decide +kernel
theorem dX3_read_24 : decode cX3_read 24 = .ok (.iload_n 2, 1) := by decide +kernel
theorem dX3_read_25 : decode cX3_read 25 = .ok (.iload_n 1, 1) := by decide +kernel
theorem dX3_read_26 : decode cX3_read 26 = .ok (.if_icmp .ge 32, 3) := by decide +kernel
theorem dX3_read_29 : decode cX3_read 29 = .ok (.aload_n 0, 1) := by decide +kernel
theorem dX3_read_30 : decode cX3_read 30 = .ok (.getfield 18, 3) := by decide +kernel
theorem dX3_read_33 : decode cX3_read 33 = .ok (.invokevirtual 38, 3) := by decide +kernel
theorem dX3_read_36 : decode cX3_read 36 = .ok (.ifCond .eq 22, 3) := by decide +kernel
theorem dX3_read_39 : decode cX3_read 39 = .ok (.aload_n 0, 1) := by decide +kernel
theorem dX3_read_40 : decode cX3_read 40 = .ok (.getfield 18, 3) := by decide +kernel
theorem dX3_read_43 : decode cX3_read 43 = .ok (.bipush 44, 2) := by decide +kernel
theorem dX3_read_45 : decode cX3_read 45 = .ok (.invokevirtual 42, 3) := by decide +kernel
theorem dX3_read_48 : decode cX3_read 48 = .ok (.aload_n 0, 1) := by decide +kernel
theorem dX3_read_49 : decode cX3_read 49 = .ok (.invokevirtual 35, 3) := by decide +kernel
theorem dX3_read_52 : decode cX3_read 52 = .ok (.iinc 2 1, 3) := by decide +kernel
theorem dX3_read_55 : decode cX3_read 55 = .ok (.goto (-31), 3) := by decide +kernel
theorem dX3_read_58 : decode cX3_read 58 = .ok (.aload_n 0, 1) := by decide +kernel
theorem dX3_read_59 : decode cX3_read 59 = .ok (.getfield 18, 3) := by decide +kernel
theorem dX3_read_62 : decode cX3_read 62 = .ok (.invokevirtual 45, 3) := by decide +kernel
theorem dX3_read_65 : decode cX3_read 65 = .ok (.ifCond .eq 10, 3) := by decide +kernel
theorem dX3_read_68 : decode cX3_read 68 = .ok (.aload_n 0, 1) := by decide +kernel
theorem dX3_read_69 : decode cX3_read 69 = .ok (.getfield 32, 3) := by decide +kernel
theorem dX3_read_72 : decode cX3_read 72 = .ok (.goto 10, 3) := by decide +kernel
theorem dX3_read_75 : decode cX3_read 75 = .ok (.aload_n 0, 1) := by decide +kernel
theorem dX3_read_76 : decode cX3_read 76 = .ok (.getfield 18, 3) := by decide +kernel
theorem dX3_read_79 : decode cX3_read 79 = .ok (.getfield 48, 3) := by decide +kernel
theorem dX3_read_82 : decode cX3_read 82 = .ok (.ireturn, 1) := by decide +kernel
theorem dX3_readDays_0 : decode cX3_readDays 0 = .ok (.aload_n 0, 1) := by decide +kernel
theorem dX3_readDays_1 : decode cX3_readDays 1 = .ok (.getfield 9, 3) := by decide +kernel
theorem dX3_readDays_4 : decode cX3_readDays 4 = .ok (.iload_n 1, 1) := by decide +kernel
theorem dX3_readDays_5 : decode cX3_readDays 5 = .ok (.aload_n 0, 1) := by decide +kernel
theorem dX3_readDays_6 : decode cX3_readDays 6 = .ok (.getfield 18, 3) := by decide +kernel
theorem dX3_readDays_9 : decode cX3_readDays 9 = .ok (.iconst 3, 1) := by decide +kernel
theorem dX3_readDays_10 : decode cX3_readDays 10 = .ok (.iconst 1, 1) := by decide +kernel
theorem dX3_readDays_11 : decode cX3_readDays 11 = .ok (.invokevirtual 78, 3) := by decide +kernel
theorem dX3_readDays_14 : decode cX3_readDays 14 = .ok (.iastore, 1) := by decide +kernel
theorem dX3_readDays_15 : decode cX3_readDays 15 = .ok (.aload_n 0, 1) := by decide +kernel
theorem dX3_readDays_16 : decode cX3_readDays 16 = .ok (.getfield 18, 3) := by decide +kernel
theorem dX3_readDays_19 : decode cX3_readDays 19 = .ok (.bipush 45, 2) := by decide +kernel
theorem dX3_readDays_21 : decode cX3_readDays 21 = .ok (.invokevirtual 42, 3) := by decide +kernel
theorem dX3_readDays_24 : decode cX3_readDays 24 = .ok (.aload_n 0, 1) := by decide +kernel
theorem dX3_readDays_25 : decode cX3_readDays 25 = .ok (.getfield 18, 3) := by decide +kernel
theorem dX3_readDays_28 : decode cX3_readDays 28 = .ok (.getfield 68, 3) := by decide +kernel
theorem dX3_readDays_31 : decode cX3_readDays 31 = .ok (.istore_n 2, 1) := by decide +kernel
theorem dX3_readDays_32 : decode cX3_readDays 32 = .ok (.aload_n 0, 1) := by decide +kernel
theorem dX3_readDays_33 : decode cX3_readDays 33 = .ok (.getfield 15, 3) := by decide +kernel
theorem dX3_readDays_36 : decode cX3_readDays 36 = .ok (.iload_n 1, 1) := by decide +kernel
theorem dX3_readDays_37 : decode cX3_readDays 37 = .ok (.aload_n 0, 1) := by decide +kernel
theorem dX3_readDays_38 : decode cX3_readDays 38 = .ok (.getfield 18, 3) := by decide +kernel
theorem dX3_readDays_41 : decode cX3_readDays 41 = .ok (.iconst 3, 1) := by decide +kernel
theorem dX3_readDays_42 : decode cX3_readDays 42 = .ok (.iconst 1, 1) := by decide +kernel
theorem dX3_readDays_43 : decode cX3_readDays 43 = .ok (.invokevirtual 78, 3) := by decide +kernel
theorem dX3_readDays_46 : decode cX3_readDays 46 = .ok (.iastore, 1) := by decide +kernel
theorem dX3_readDays_47 : decode cX3_readDays 47 = .ok (.aload_n 0, 1) := by decide +kernel
theorem dX3_readDays_48 : decode cX3_readDays 48 = .ok (.getfield 15, 3) := by decide +kernel
theorem dX3_readDays_51 : decode cX3_readDays 51 = .ok (.iload_n 1, 1) := by decide +kernel
theorem dX3_readDays_52 : decode cX3_readDays 52 = .ok (.iaload, 1) := by decide +kernel
theorem dX3_readDays_53 : decode cX3_readDays 53 = .ok (.aload_n 0, 1) := by decide +kernel
theorem dX3_readDays_54 : decode cX3_readDays 54 = .ok (.getfield 9, 3) := by decide +kernel
theorem dX3_readDays_57 : decode cX3_readDays 57 = .ok (.iload_n 1, 1) := by decide +kernel
theorem dX3_readDays_58 : decode cX3_readDays 58 = .ok (.iaload, 1) := by decide +kernel
theorem dX3_readDays_59 : decode cX3_readDays 59 = .ok (.if_icmp .ge 13, 3) := by decide +kernel
theorem dX3_readDays_62 : decode cX3_readDays 62 = .ok (.aload_n 0, 1) := by decide +kernel
theorem dX3_readDays_63 : decode cX3_readDays 63 = .ok (.getfield 18, 3) := by decide +kernel
theorem dX3_readDays_66 : decode cX3_readDays 66 = .ok (.bipush 7, 2) := by decide +kernel
theorem dX3_readDays_68 : decode cX3_readDays 68 = .ok (.iload_n 2, 1) := by decide +kernel
theorem dX3_readDays_69 : decode cX3_readDays 69 = .ok (.invokevirtual 71, 3) := by decide +kernel
theorem dX3_readDays_72 : decode cX3_readDays 72 = .ok (.return_, 1) := by decide +kernel
theorem dX3_readLine_0 : decode cX3_readLine 0 = .ok (.aload_n 0, 1) := by decide +kernel
theorem dX3_readLine_1 : decode cX3_readLine 1 = .ok (.getfield 18, 3) := by decide +kernel
theorem dX3_readLine_4 : decode cX3_readLine 4 = .ok (.invokevirtual 64, 3) := by decide +kernel
theorem dX3_readLine_7 : decode cX3_readLine 7 = .ok (.istore_n 1, 1) := by decide +kernel
theorem dX3_readLine_8 : decode cX3_readLine 8 = .ok (.iload_n 1, 1) := by decide +kernel
theorem dX3_readLine_9 : decode cX3_readLine 9 = .ok (.iconst (-1), 1) := by decide +kernel
theorem dX3_readLine_10 : decode cX3_readLine 10 = .ok (.if_icmp .ne 21, 3) := by decide +kernel
theorem dX3_readLine_13 : decode cX3_readLine 13 = .ok (.aload_n 0, 1) := by decide +kernel
theorem dX3_readLine_14 : decode cX3_readLine 14 = .ok (.getfield 18, 3) := by decide +kernel
theorem dX3_readLine_17 : decode cX3_readLine 17 = .ok (.iconst 1, 1) := by decide +kernel
theorem dX3_readLine_18 : decode cX3_readLine 18 = .ok (.aload_n 0, 1) := by decide +kernel
theorem dX3_readLine_19 : decode cX3_readLine 19 = .ok (.getfield 18, 3) := by decide +kernel
theorem dX3_readLine_22 : decode cX3_readLine 22 = .ok (.getfield 68, 3) := by decide +kernel
theorem dX3_readLine_25 : decode cX3_readLine 25 = .ok (.invokevirtual 71, 3) := by decide +kernel
theorem dX3_readLine_28 : decode cX3_readLine 28 = .ok (.goto 100, 3) := by decide +kernel
theorem dX3_readLine_31 : decode cX3_readLine 31 = .ok (.aload_n 0, 1) := by decide +kernel
theorem dX3_readLine_32 : decode cX3_readLine 32 = .ok (.getfield 32, 3) := by decide +kernel
theorem dX3_readLine_35 : decode cX3_readLine 35 = .ok (.bipush 10, 2) := by decide +kernel
theorem dX3_readLine_37 : decode cX3_readLine 37 = .ok (.if_icmp .ne 21, 3) := by decide +kernel
theorem dX3_readLine_40 : decode cX3_readLine 40 = .ok (.aload_n 0, 1) := by decide +kernel
theorem dX3_readLine_41 : decode cX3_readLine 41 = .ok (.getfield 18, 3) := by decide +kernel
theorem dX3_readLine_44 : decode cX3_readLine 44 = .ok (.iconst 4, 1) := by decide +kernel
theorem dX3_readLine_45 : decode cX3_readLine 45 = .ok (.aload_n 0, 1) := by decide +kernel
theorem dX3_readLine_46 : decode cX3_readLine 46 = .ok (.getfield 18, 3) := by decide +kernel
theorem dX3_readLine_49 : decode cX3_readLine 49 = .ok (.getfield 68, 3) := by decide +kernel
theorem dX3_readLine_52 : decode cX3_readLine 52 = .ok (.invokevirtual 71, 3) := by decide +kernel
theorem dX3_readLine_55 : decode cX3_readLine 55 = .ok (.goto 73, 3) := by decide +kernel
theorem dX3_readLine_58 : decode cX3_readLine 58 = .ok (.aload_n 0, 1) := by decide +kernel
theorem dX3_readLine_59 : decode cX3_readLine 59 = .ok (.getfield 28, 3) := by decide +kernel
theorem dX3_readLine_62 : decode cX3_readLine 62 = .ok (.iload_n 1, 1) := by decide +kernel
theorem dX3_readLine_63 : decode cX3_readLine 63 = .ok (.invokestatic 56, 3) := by decide +kernel
theorem dX3_readLine_66 : decode cX3_readLine 66 = .ok (.ifCond .eq 22, 3) := by decide +kernel
theorem dX3_readLine_69 : decode cX3_readLine 69 = .ok (.aload_n 0, 1) := by decide +kernel
theorem dX3_readLine_70 : decode cX3_readLine 70 = .ok (.getfield 18, 3) := by decide +kernel
theorem dX3_readLine_73 : decode cX3_readLine 73 = .ok (.bipush 6, 2) := by decide +kernel
theorem dX3_readLine_75 : decode cX3_readLine 75 = .ok (.aload_n 0, 1) := by decide +kernel
theorem dX3_readLine_76 : decode cX3_readLine 76 = .ok (.getfield 18, 3) := by decide +kernel
theorem dX3_readLine_79 : decode cX3_readLine 79 = .ok (.getfield 68, 3) := by decide +kernel
theorem dX3_readLine_82 : decode cX3_readLine 82 = .ok (.invokevirtual 71, 3) := by decide +kernel
theorem dX3_readLine_85 : decode cX3_readLine 85 = .ok (.goto 43, 3) := by decide +kernel
theorem dX3_readLine_88 : decode cX3_readLine 88 = .ok (.aload_n 0, 1) := by decide +kernel
theorem dX3_readLine_89 : decode cX3_readLine 89 = .ok (.getfield 18, 3) := by decide +kernel
theorem dX3_readLine_92 : decode cX3_readLine 92 = .ok (.dup, 1) := by decide +kernel
theorem dX3_readLine_93 : decode cX3_readLine 93 = .ok (.getfield 68, 3) := by decide +kernel
theorem dX3_readLine_96 : decode cX3_readLine 96 = .ok (.iconst 1, 1) := by decide +kernel
theorem dX3_readLine_97 : decode cX3_readLine 97 = .ok (.iadd, 1) := by decide +kernel
theorem dX3_readLine_98 : decode cX3_readLine 98 = .ok (.putfield 68, 3) := by decide +kernel
theorem dX3_readLine_101 : decode cX3_readLine 101 = .ok (.aload_n 0, 1) := by decide +kernel
theorem dX3_readLine_102 : decode cX3_readLine 102 = .ok (.dup, 1) := by decide +kernel
theorem dX3_readLine_103 : decode cX3_readLine 103 = .ok (.getfield 28, 3) := by decide +kernel
theorem dX3_readLine_106 : decode cX3_readLine 106 = .ok (.iconst 1, 1) := by decide +kernel
theorem dX3_readLine_107 : decode cX3_readLine 107 = .ok (.iload_n 1, 1) := by decide +kernel
theorem dX3_readLine_108 : decode cX3_readLine 108 = .ok (.ishl, 1) := by decide +kernel
theorem dX3_readLine_109 : decode cX3_readLine 109 = .ok (.ior, 1) := by decide +kernel
theorem dX3_readLine_110 : decode cX3_readLine 110 = .ok (.putfield 28, 3) := by decide +kernel
theorem dX3_readLine_113 : decode cX3_readLine 113 = .ok (.aload_n 0, 1) := by decide +kernel
theorem dX3_readLine_114 : decode cX3_readLine 114 = .ok (.dup, 1) := by decide +kernel
theorem dX3_readLine_115 : decode cX3_readLine 115 = .ok (.getfield 32, 3) := by decide +kernel
theorem dX3_readLine_118 : decode cX3_readLine 118 = .ok (.iconst 1, 1) := by decide +kernel
theorem dX3_readLine_119 : decode cX3_readLine 119 = .ok (.iadd, 1) := by decide +kernel
theorem dX3_readLine_120 : decode cX3_readLine 120 = .ok (.putfield 32, 3) := by decide +kernel
theorem dX3_readLine_123 : decode cX3_readLine 123 = .ok (.aload_n 0, 1) := by decide +kernel
theorem dX3_readLine_124 : decode cX3_readLine 124 = .ok (.iload_n 1, 1) := by decide +kernel
theorem dX3_readLine_125 : decode cX3_readLine 125 = .ok (.invokevirtual 75, 3) := by decide +kernel
theorem dX3_readLine_128 : decode cX3_readLine 128 = .ok (.return_, 1) := by decide +kernel
