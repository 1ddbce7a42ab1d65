theorem dX9_byTurns_0 : decode cX9_byTurns 0 = .ok (.iload_n 1, 1) := by decide +kernel
theorem dX9_byTurns_1 : decode cX9_byTurns 1 = .ok (.invokestatic 142, 3) := by decide +kernel
theorem dX9_byTurns_4 : decode cX9_byTurns 4 = .ok (.istore 4, 2) := by decide +kernel
theorem dX9_byTurns_6 : decode cX9_byTurns 6 = .ok (.aload_n 0, 1) := by decide +kernel
theorem dX9_byTurns_7 : decode cX9_byTurns 7 = .ok (.iload_n 1, 1) := by decide +kernel
theorem dX9_byTurns_8 : decode cX9_byTurns 8 = .ok (.invokevirtual 221, 3) := by decide +kernel
theorem dX9_byTurns_11 : decode cX9_byTurns 11 = .ok (.ifCond .eq 35, 3) := by decide +kernel
theorem dX9_byTurns_14 : decode cX9_byTurns 14 = .ok (.iload 4, 2) := by decide +kernel
theorem dX9_byTurns_16 : decode cX9_byTurns 16 = .ok (.iconst 2, 1) := by decide +kernel
theorem dX9_byTurns_17 : decode cX9_byTurns 17 = .ok (.iconst 4, 1) := by decide +kernel
theorem dX9_byTurns_18 : decode cX9_byTurns 18 = .ok (.invokestatic 81, 3) := by decide +kernel
theorem dX9_byTurns_21 : decode cX9_byTurns 21 = .ok (.ifCond .eq 25, 3) := by decide +kernel
theorem dX9_byTurns_24 : decode cX9_byTurns 24 = .ok (.iload_n 3, 1) := by decide +kernel
theorem dX9_byTurns_25 : decode cX9_byTurns 25 = .ok (.bipush 10, 2) := by decide +kernel
theorem dX9_byTurns_27 : decode cX9_byTurns 27 = .ok (.if_icmp .eq 15, 3) := by decide +kernel
theorem dX9_byTurns_30 : decode cX9_byTurns 30 = .ok (.iload_n 3, 1) := by decide +kernel
theorem dX9_byTurns_31 : decode cX9_byTurns 31 = .ok (.iconst 0, 1) := by decide +kernel
theorem dX9_byTurns_32 : decode cX9_byTurns 32 = .ok (.iload 4, 2) := by decide +kernel
theorem dX9_byTurns_34 : decode cX9_byTurns 34 = .ok (.iconst 1, 1) := by decide +kernel
theorem dX9_byTurns_35 : decode cX9_byTurns 35 = .ok (.isub, 1) := by decide +kernel
theorem dX9_byTurns_36 : decode cX9_byTurns 36 = .ok (.invokestatic 81, 3) := by decide +kernel
theorem dX9_byTurns_39 : decode cX9_byTurns 39 = .ok (.ifCond .eq 7, 3) := by decide +kernel
theorem dX9_byTurns_42 : decode cX9_byTurns 42 = .ok (.iconst 1, 1) := by decide +kernel
theorem dX9_byTurns_43 : decode cX9_byTurns 43 = .ok (.goto 4, 3) := by decide +kernel
theorem dX9_byTurns_46 : decode cX9_byTurns 46 = .ok (.iconst 0, 1) := by decide +kernel
theorem dX9_byTurns_47 : decode cX9_byTurns 47 = .ok (.istore 5, 2) := by decide +kernel
theorem dX9_byTurns_49 : decode cX9_byTurns 49 = .ok (.iload 5, 2) := by decide +kernel
theorem dX9_byTurns_51 : decode cX9_byTurns 51 = .ok (.ifCond .eq 13, 3) := by decide +kernel
theorem dX9_byTurns_54 : decode cX9_byTurns 54 = .ok (.iload_n 2, 1) := by decide +kernel
theorem dX9_byTurns_55 : decode cX9_byTurns 55 = .ok (.iconst 1, 1) := by decide +kernel
theorem dX9_byTurns_56 : decode cX9_byTurns 56 = .ok (.bipush 10, 2) := by decide +kernel
theorem dX9_byTurns_58 : decode cX9_byTurns 58 = .ok (.invokestatic 81, 3) := by decide +kernel
theorem dX9_byTurns_61 : decode cX9_byTurns 61 = .ok (.ifCond .ne 5, 3) := by decide +kernel
theorem dX9_byTurns_64 : decode cX9_byTurns 64 = .ok (.iconst (-1), 1) := by decide +kernel
theorem dX9_byTurns_65 : decode cX9_byTurns 65 = .ok (.ireturn, 1) := by decide +kernel
theorem dX9_byTurns_66 : decode cX9_byTurns 66 = .ok (.ldc 160, 2) := by decide +kernel
theorem dX9_byTurns_68 : decode cX9_byTurns 68 = .ok (.istore 6, 2) := by decide +kernel
theorem dX9_byTurns_70 : decode cX9_byTurns 70 = .ok (.iconst 0, 1) := by decide +kernel
theorem dX9_byTurns_71 : decode cX9_byTurns 71 = .ok (.istore 7, 2) := by decide +kernel
theorem dX9_byTurns_73 : decode cX9_byTurns 73 = .ok (.iconst 0, 1) := by decide +kernel
theorem dX9_byTurns_74 : decode cX9_byTurns 74 = .ok (.istore 8, 2) := by decide +kernel
theorem dX9_byTurns_76 : decode cX9_byTurns 76 = .ok (.iload 8, 2) := by decide +kernel
theorem dX9_byTurns_78 : decode cX9_byTurns 78 = .ok (.iconst 1, 1) := by decide +kernel
theorem dX9_byTurns_79 : decode cX9_byTurns 79 = .ok (.iconst 2, 1) := by decide +kernel
theorem dX9_byTurns_80 : decode cX9_byTurns 80 = .ok (.iload 4, 2) := by decide +kernel
theorem dX9_byTurns_82 : decode cX9_byTurns 82 = .ok (.imul, 1) := by decide +kernel
theorem dX9_byTurns_83 : decode cX9_byTurns 83 = .ok (.ishl, 1) := by decide +kernel
theorem dX9_byTurns_84 : decode cX9_byTurns 84 = .ok (.if_icmp .ge 46, 3) := by decide +kernel
theorem dX9_byTurns_87 : decode cX9_byTurns 87 = .ok (.iload 8, 2) := by decide +kernel
theorem dX9_byTurns_89 : decode cX9_byTurns 89 = .ok (.iload 4, 2) := by decide +kernel
theorem dX9_byTurns_91 : decode cX9_byTurns 91 = .ok (.invokestatic 287, 3) := by decide +kernel
theorem dX9_byTurns_94 : decode cX9_byTurns 94 = .ok (.ifCond .eq 30, 3) := by decide +kernel
theorem dX9_byTurns_97 : decode cX9_byTurns 97 = .ok (.aload_n 0, 1) := by decide +kernel
theorem dX9_byTurns_98 : decode cX9_byTurns 98 = .ok (.iload_n 1, 1) := by decide +kernel
theorem dX9_byTurns_99 : decode cX9_byTurns 99 = .ok (.iload 8, 2) := by decide +kernel
theorem dX9_byTurns_101 : decode cX9_byTurns 101 = .ok (.iload_n 2, 1) := by decide +kernel
theorem dX9_byTurns_102 : decode cX9_byTurns 102 = .ok (.iload 6, 2) := by decide +kernel
theorem dX9_byTurns_104 : decode cX9_byTurns 104 = .ok (.invokevirtual 290, 3) := by decide +kernel
theorem dX9_byTurns_107 : decode cX9_byTurns 107 = .ok (.istore 9, 2) := by decide +kernel
theorem dX9_byTurns_109 : decode cX9_byTurns 109 = .ok (.iload 9, 2) := by decide +kernel
theorem dX9_byTurns_111 : decode cX9_byTurns 111 = .ok (.iload 6, 2) := by decide +kernel
theorem dX9_byTurns_113 : decode cX9_byTurns 113 = .ok (.if_icmp .ge 11, 3) := by decide +kernel
theorem dX9_byTurns_116 : decode cX9_byTurns 116 = .ok (.iload 9, 2) := by decide +kernel
theorem dX9_byTurns_118 : decode cX9_byTurns 118 = .ok (.istore 6, 2) := by decide +kernel
theorem dX9_byTurns_120 : decode cX9_byTurns 120 = .ok (.iload 8, 2) := by decide +kernel
theorem dX9_byTurns_122 : decode cX9_byTurns 122 = .ok (.istore 7, 2) := by decide +kernel
theorem dX9_byTurns_124 : decode cX9_byTurns 124 = .ok (.iinc 8 1, 3) := by decide +kernel
theorem dX9_byTurns_127 : decode cX9_byTurns 127 = .ok (.goto (-51), 3) := by decide +kernel
theorem dX9_byTurns_130 : decode cX9_byTurns 130 = .ok (.iload_n 3, 1) := by decide +kernel
theorem dX9_byTurns_131 : decode cX9_byTurns 131 = .ok (.bipush 10, 2) := by decide +kernel
theorem dX9_byTurns_133 : decode cX9_byTurns 133 = .ok (.if_icmp .ne 8, 3) := by decide +kernel
theorem dX9_byTurns_136 : decode cX9_byTurns 136 = .ok (.iload 6, 2) := by decide +kernel
theorem dX9_byTurns_138 : decode cX9_byTurns 138 = .ok (.goto 15, 3) := by decide +kernel
theorem dX9_byTurns_141 : decode cX9_byTurns 141 = .ok (.iload_n 1, 1) := by decide +kernel
theorem dX9_byTurns_142 : decode cX9_byTurns 142 = .ok (.iload 7, 2) := by decide +kernel
theorem dX9_byTurns_144 : decode cX9_byTurns 144 = .ok (.iload_n 3, 1) := by decide +kernel
theorem dX9_byTurns_145 : decode cX9_byTurns 145 = .ok (.iload 4, 2) := by decide +kernel
theorem dX9_byTurns_147 : decode cX9_byTurns 147 = .ok (.invokestatic 293, 3) := by decide +kernel
theorem dX9_byTurns_150 : decode cX9_byTurns 150 = .ok (.invokestatic 242, 3) := by decide +kernel
theorem dX9_byTurns_153 : decode cX9_byTurns 153 = .ok (.ireturn, 1) := by decide +kernel
theorem dX9_firstDoer_0 : decode cX9_firstDoer 0 = .ok (.aload_n 0, 1) := by decide +kernel
theorem dX9_firstDoer_1 : decode cX9_firstDoer 1 = .ok (.getfield 19, 3) := by decide +kernel
theorem dX9_firstDoer_4 : decode cX9_firstDoer 4 = .ok (.iload_n 1, 1) := by decide +kernel
theorem dX9_firstDoer_5 : decode cX9_firstDoer 5 = .ok (.invokevirtual 170, 3) := by decide +kernel
theorem dX9_firstDoer_8 : decode cX9_firstDoer 8 = .ok (.ifCond .eq 19, 3) := by decide +kernel
theorem dX9_firstDoer_11 : decode cX9_firstDoer 11 = .ok (.iload_n 2, 1) := by decide +kernel
theorem dX9_firstDoer_12 : decode cX9_firstDoer 12 = .ok (.invokestatic 154, 3) := by decide +kernel
theorem dX9_firstDoer_15 : decode cX9_firstDoer 15 = .ok (.ifCond .eq 12, 3) := by decide +kernel
theorem dX9_firstDoer_18 : decode cX9_firstDoer 18 = .ok (.iload_n 3, 1) := by decide +kernel
theorem dX9_firstDoer_19 : decode cX9_firstDoer 19 = .ok (.iconst 0, 1) := by decide +kernel
theorem dX9_firstDoer_20 : decode cX9_firstDoer 20 = .ok (.iconst 1, 1) := by decide +kernel
theorem dX9_firstDoer_21 : decode cX9_firstDoer 21 = .ok (.invokestatic 81, 3) := by decide +kernel
theorem dX9_firstDoer_24 : decode cX9_firstDoer 24 = .ok (.ifCond .ne 5, 3) := by decide +kernel
theorem dX9_firstDoer_27 : decode cX9_firstDoer 27 = .ok (.iconst (-1), 1) := by decide +kernel
theorem dX9_firstDoer_28 : decode cX9_firstDoer 28 = .ok (.ireturn, 1) := by decide +kernel
theorem dX9_firstDoer_29 : decode cX9_firstDoer 29 = .ok (.aload_n 0, 1) := by decide +kernel
theorem dX9_firstDoer_30 : decode cX9_firstDoer 30 = .ok (.getfield 26, 3) := by decide +kernel
theorem dX9_firstDoer_33 : decode cX9_firstDoer 33 = .ok (.invokevirtual 138, 3) := by decide +kernel
theorem dX9_firstDoer_36 : decode cX9_firstDoer 36 = .ok (.istore 4, 2) := by decide +kernel
theorem dX9_firstDoer_38 : decode cX9_firstDoer 38 = .ok (.aload_n 0, 1) := by decide +kernel
theorem dX9_firstDoer_39 : decode cX9_firstDoer 39 = .ok (.iload 4, 2) := by decide +kernel
theorem dX9_firstDoer_41 : decode cX9_firstDoer 41 = .ok (.iload_n 2, 1) := by decide +kernel
theorem dX9_firstDoer_42 : decode cX9_firstDoer 42 = .ok (.iconst (-1), 1) := by decide +kernel
theorem dX9_firstDoer_43 : decode cX9_firstDoer 43 = .ok (.iconst (-1), 1) := by decide +kernel
theorem dX9_firstDoer_44 : decode cX9_firstDoer 44 = .ok (.iconst (-1), 1) := by decide +kernel
theorem dX9_firstDoer_45 : decode cX9_firstDoer 45 = .ok (.invokevirtual 224, 3) := by decide +kernel
theorem dX9_firstDoer_48 : decode cX9_firstDoer 48 = .ok (.istore 5, 2) := by decide +kernel
theorem dX9_firstDoer_50 : decode cX9_firstDoer 50 = .ok (.bipush (-2), 2) := by decide +kernel
theorem dX9_firstDoer_52 : decode cX9_firstDoer 52 = .ok (.istore 6, 2) := by decide +kernel
theorem dX9_firstDoer_54 : decode cX9_firstDoer 54 = .ok (.iconst 0, 1) := by decide +kernel
theorem dX9_firstDoer_55 : decode cX9_firstDoer 55 = .ok (.istore 7, 2) := by decide +kernel
theorem dX9_firstDoer_57 : decode cX9_firstDoer 57 = .ok (.iload 7, 2) := by decide +kernel
theorem dX9_firstDoer_59 : decode cX9_firstDoer 59 = .ok (.bipush 10, 2) := by decide +kernel
theorem dX9_firstDoer_61 : decode cX9_firstDoer 61 = .ok (.if_icmp .ge 49, 3) := by decide +kernel
theorem dX9_firstDoer_64 : decode cX9_firstDoer 64 = .ok (.aload_n 0, 1) := by decide +kernel
theorem dX9_firstDoer_65 : decode cX9_firstDoer 65 = .ok (.getfield 19, 3) := by decide +kernel
theorem dX9_firstDoer_68 : decode cX9_firstDoer 68 = .ok (.iload 7, 2) := by decide +kernel
theorem dX9_firstDoer_70 : decode cX9_firstDoer 70 = .ok (.invokevirtual 173, 3) := by decide +kernel
theorem dX9_firstDoer_73 : decode cX9_firstDoer 73 = .ok (.ifCond .eq 31, 3) := by decide +kernel
theorem dX9_firstDoer_76 : decode cX9_firstDoer 76 = .ok (.aload_n 0, 1) := by decide +kernel
theorem dX9_firstDoer_77 : decode cX9_firstDoer 77 = .ok (.iload 4, 2) := by decide +kernel
theorem dX9_firstDoer_79 : decode cX9_firstDoer 79 = .ok (.iload_n 2, 1) := by decide +kernel
theorem dX9_firstDoer_80 : decode cX9_firstDoer 80 = .ok (.iconst (-1), 1) := by decide +kernel
theorem dX9_firstDoer_81 : decode cX9_firstDoer 81 = .ok (.iload_n 1, 1) := by decide +kernel
theorem dX9_firstDoer_82 : decode cX9_firstDoer 82 = .ok (.iload 7, 2) := by decide +kernel
theorem dX9_firstDoer_84 : decode cX9_firstDoer 84 = .ok (.invokevirtual 224, 3) := by decide +kernel
theorem dX9_firstDoer_87 : decode cX9_firstDoer 87 = .ok (.istore 8, 2) := by decide +kernel
theorem dX9_firstDoer_89 : decode cX9_firstDoer 89 = .ok (.iload 8, 2) := by decide +kernel
theorem dX9_firstDoer_91 : decode cX9_firstDoer 91 = .ok (.iload 5, 2) := by decide +kernel
theorem dX9_firstDoer_93 : decode cX9_firstDoer 93 = .ok (.if_icmp .ge 11, 3) := by decide +kernel
theorem dX9_firstDoer_96 : decode cX9_firstDoer 96 = .ok (.iload 8, 2) := by decide +kernel
theorem dX9_firstDoer_98 : decode cX9_firstDoer 98 = .ok (.istore 5, 2) := by decide +kernel
theorem dX9_firstDoer_100 : decode cX9_firstDoer 100 = .ok (.iload 7, 2) := by decide +kernel
theorem dX9_firstDoer_102 : decode cX9_firstDoer 102 = .ok (.istore 6, 2) := by decide +kernel
theorem dX9_firstDoer_104 : decode cX9_firstDoer 104 = .ok (.iinc 7 1, 3) := by decide +kernel
theorem dX9_firstDoer_107 : decode cX9_firstDoer 107 = .ok (.goto (-50), 3) := by decide +kernel
theorem dX9_firstDoer_110 : decode cX9_firstDoer 110 = .ok (.iload_n 3, 1) := by decide +kernel
theorem dX9_firstDoer_111 : decode cX9_firstDoer 111 = .ok (.ifCond .ne 8, 3) := by decide +kernel
theorem dX9_firstDoer_114 : decode cX9_firstDoer 114 = .ok (.iload 6, 2) := by decide +kernel
theorem dX9_firstDoer_116 : decode cX9_firstDoer 116 = .ok (.goto 5, 3) := by decide +kernel
theorem dX9_firstDoer_119 : decode cX9_firstDoer 119 = .ok (.iload 5, 2) := by decide +kernel
theorem dX9_firstDoer_121 : decode cX9_firstDoer 121 = .ok (.ireturn, 1) := by decide +kernel
theorem dX9_halfDone_0 : decode cX9_halfDone 0 = .ok (.aload_n 0, 1) := by decide +kernel
theorem dX9_halfDone_1 : decode cX9_halfDone 1 = .ok (.iload_n 1, 1) := by decide +kernel
theorem dX9_halfDone_2 : decode cX9_halfDone 2 = .ok (.invokevirtual 228, 3) := by decide +kernel
theorem dX9_halfDone_5 : decode cX9_halfDone 5 = .ok (.ifCond .eq 13, 3) := by decide +kernel
theorem dX9_halfDone_8 : decode cX9_halfDone 8 = .ok (.iload_n 2, 1) := by decide +kernel
theorem dX9_halfDone_9 : decode cX9_halfDone 9 = .ok (.iconst 1, 1) := by decide +kernel
theorem dX9_halfDone_10 : decode cX9_halfDone 10 = .ok (.bipush 20, 2) := by decide +kernel
theorem dX9_halfDone_12 : decode cX9_halfDone 12 = .ok (.invokestatic 81, 3) := by decide +kernel
theorem dX9_halfDone_15 : decode cX9_halfDone 15 = .ok (.ifCond .ne 6, 3) := by decide +kernel
theorem dX9_halfDone_18 : decode cX9_halfDone 18 = .ok (.ldc 231, 2) := by decide +kernel
theorem dX9_halfDone_20 : decode cX9_halfDone 20 = .ok (.ireturn, 1) := by decide +kernel
theorem dX9_halfDone_21 : decode cX9_halfDone 21 = .ok (.aload_n 0, 1) := by decide +kernel
theorem dX9_halfDone_22 : decode cX9_halfDone 22 = .ok (.getfield 26, 3) := by decide +kernel
theorem dX9_halfDone_25 : decode cX9_halfDone 25 = .ok (.getfield 191, 3) := by decide +kernel
theorem dX9_halfDone_28 : decode cX9_halfDone 28 = .ok (.iload_n 1, 1) := by decide +kernel
theorem dX9_halfDone_29 : decode cX9_halfDone 29 = .ok (.iaload, 1) := by decide +kernel
theorem dX9_halfDone_30 : decode cX9_halfDone 30 = .ok (.aload_n 0, 1) := by decide +kernel
theorem dX9_halfDone_31 : decode cX9_halfDone 31 = .ok (.getfield 26, 3) := by decide +kernel
theorem dX9_halfDone_34 : decode cX9_halfDone 34 = .ok (.getfield 209, 3) := by decide +kernel
theorem dX9_halfDone_37 : decode cX9_halfDone 37 = .ok (.iload_n 2, 1) := by decide +kernel
theorem dX9_halfDone_38 : decode cX9_halfDone 38 = .ok (.iadd, 1) := by decide +kernel
theorem dX9_halfDone_39 : decode cX9_halfDone 39 = .ok (.if_icmp .ge 6, 3) := by decide +kernel
theorem dX9_halfDone_42 : decode cX9_halfDone 42 = .ok (.bipush (-2), 2) := by decide +kernel
theorem dX9_halfDone_44 : decode cX9_halfDone 44 = .ok (.ireturn, 1) := by decide +kernel
theorem dX9_halfDone_45 : decode cX9_halfDone 45 = .ok (.aload_n 0, 1) := by decide +kernel
theorem dX9_halfDone_46 : decode cX9_halfDone 46 = .ok (.getfield 26, 3) := by decide +kernel
theorem dX9_halfDone_49 : decode cX9_halfDone 49 = .ok (.getfield 194, 3) := by decide +kernel
theorem dX9_halfDone_52 : decode cX9_halfDone 52 = .ok (.iload_n 1, 1) := by decide +kernel
theorem dX9_halfDone_53 : decode cX9_halfDone 53 = .ok (.iaload, 1) := by decide +kernel
theorem dX9_halfDone_54 : decode cX9_halfDone 54 = .ok (.aload_n 0, 1) := by decide +kernel
theorem dX9_halfDone_55 : decode cX9_halfDone 55 = .ok (.getfield 26, 3) := by decide +kernel
theorem dX9_halfDone_58 : decode cX9_halfDone 58 = .ok (.getfield 209, 3) := by decide +kernel
theorem dX9_halfDone_61 : decode cX9_halfDone 61 = .ok (.bipush 60, 2) := by decide +kernel
theorem dX9_halfDone_63 : decode cX9_halfDone 63 = .ok (.iadd, 1) := by decide +kernel
theorem dX9_halfDone_64 : decode cX9_halfDone 64 = .ok (.if_icmp .lt 6, 3) := by decide +kernel
theorem dX9_halfDone_67 : decode cX9_halfDone 67 = .ok (.bipush (-3), 2) := by decide +kernel
theorem dX9_halfDone_69 : decode cX9_halfDone 69 = .ok (.ireturn, 1) := by decide +kernel
theorem dX9_halfDone_70 : decode cX9_halfDone 70 = .ok (.aload_n 0, 1) := by decide +kernel
theorem dX9_halfDone_71 : decode cX9_halfDone 71 = .ok (.iload_n 1, 1) := by decide +kernel
theorem dX9_halfDone_72 : decode cX9_halfDone 72 = .ok (.iload_n 2, 1) := by decide +kernel
theorem dX9_halfDone_73 : decode cX9_halfDone 73 = .ok (.invokevirtual 284, 3) := by decide +kernel
theorem dX9_halfDone_76 : decode cX9_halfDone 76 = .ok (.aload_n 0, 1) := by decide +kernel
theorem dX9_halfDone_77 : decode cX9_halfDone 77 = .ok (.iload_n 1, 1) := by decide +kernel
theorem dX9_halfDone_78 : decode cX9_halfDone 78 = .ok (.iconst 0, 1) := by decide +kernel
theorem dX9_halfDone_79 : decode cX9_halfDone 79 = .ok (.invokevirtual 284, 3) := by decide +kernel
theorem dX9_halfDone_82 : decode cX9_halfDone 82 = .ok (.isub, 1) := by decide +kernel
theorem dX9_halfDone_83 : decode cX9_halfDone 83 = .ok (.ireturn, 1) := by decide +kernel
theorem dX9_hired_0 : decode cX9_hired 0 = .ok (.iload_n 2, 1) := by decide +kernel
theorem dX9_hired_1 : decode cX9_hired 1 = .ok (.invokestatic 142, 3) := by decide +kernel
theorem dX9_hired_4 : decode cX9_hired 4 = .ok (.istore 5, 2) := by decide +kernel
theorem dX9_hired_6 : decode cX9_hired 6 = .ok (.aload_n 0, 1) := by decide +kernel
theorem dX9_hired_7 : decode cX9_hired 7 = .ok (.iload_n 2, 1) := by decide +kernel
theorem dX9_hired_8 : decode cX9_hired 8 = .ok (.invokevirtual 221, 3) := by decide +kernel
theorem dX9_hired_11 : decode cX9_hired 11 = .ok (.ifCond .eq 33, 3) := by decide +kernel
theorem dX9_hired_14 : decode cX9_hired 14 = .ok (.iload 5, 2) := by decide +kernel
theorem dX9_hired_16 : decode cX9_hired 16 = .ok (.iconst 1, 1) := by decide +kernel
theorem dX9_hired_17 : decode cX9_hired 17 = .ok (.iconst 3, 1) := by decide +kernel
theorem dX9_hired_18 : decode cX9_hired 18 = .ok (.invokestatic 81, 3) := by decide +kernel
theorem dX9_hired_21 : decode cX9_hired 21 = .ok (.ifCond .eq 23, 3) := by decide +kernel
theorem dX9_hired_24 : decode cX9_hired 24 = .ok (.iload 4, 2) := by decide +kernel
theorem dX9_hired_26 : decode cX9_hired 26 = .ok (.bipush 10, 2) := by decide +kernel
theorem dX9_hired_28 : decode cX9_hired 28 = .ok (.if_icmp .eq 12, 3) := by decide +kernel
theorem dX9_hired_31 : decode cX9_hired 31 = .ok (.iload_n 2, 1) := by decide +kernel
theorem dX9_hired_32 : decode cX9_hired 32 = .ok (.iload 4, 2) := by decide +kernel
theorem dX9_hired_34 : decode cX9_hired 34 = .ok (.invokestatic 232, 3) := by decide +kernel
theorem dX9_hired_37 : decode cX9_hired 37 = .ok (.ifCond .eq 7, 3) := by decide +kernel
theorem dX9_hired_40 : decode cX9_hired 40 = .ok (.iconst 1, 1) := by decide +kernel
theorem dX9_hired_41 : decode cX9_hired 41 = .ok (.goto 4, 3) := by decide +kernel
theorem dX9_hired_44 : decode cX9_hired 44 = .ok (.iconst 0, 1) := by decide +kernel
theorem dX9_hired_45 : decode cX9_hired 45 = .ok (.istore 6, 2) := by decide +kernel
theorem dX9_hired_47 : decode cX9_hired 47 = .ok (.iload_n 1, 1) := by decide +kernel
theorem dX9_hired_48 : decode cX9_hired 48 = .ok (.iconst 1, 1) := by decide +kernel
theorem dX9_hired_49 : decode cX9_hired 49 = .ok (.bipush 9, 2) := by decide +kernel
theorem dX9_hired_51 : decode cX9_hired 51 = .ok (.invokestatic 81, 3) := by decide +kernel
theorem dX9_hired_54 : decode cX9_hired 54 = .ok (.ifCond .eq 15, 3) := by decide +kernel
theorem dX9_hired_57 : decode cX9_hired 57 = .ok (.iload 6, 2) := by decide +kernel
theorem dX9_hired_59 : decode cX9_hired 59 = .ok (.ifCond .eq 10, 3) := by decide +kernel
theorem dX9_hired_62 : decode cX9_hired 62 = .ok (.iload_n 3, 1) := by decide +kernel
theorem dX9_hired_63 : decode cX9_hired 63 = .ok (.invokestatic 154, 3) := by decide +kernel
theorem dX9_hired_66 : decode cX9_hired 66 = .ok (.ifCond .ne 5, 3) := by decide +kernel
theorem dX9_hired_69 : decode cX9_hired 69 = .ok (.iconst (-1), 1) := by decide +kernel
theorem dX9_hired_70 : decode cX9_hired 70 = .ok (.ireturn, 1) := by decide +kernel
theorem dX9_hired_71 : decode cX9_hired 71 = .ok (.iload 5, 2) := by decide +kernel
theorem dX9_hired_73 : decode cX9_hired 73 = .ok (.iconst 1, 1) := by decide +kernel
theorem dX9_hired_74 : decode cX9_hired 74 = .ok (.if_icmp .ne 8, 3) := by decide +kernel
theorem dX9_hired_77 : decode cX9_hired 77 = .ok (.bipush 10, 2) := by decide +kernel
theorem dX9_hired_79 : decode cX9_hired 79 = .ok (.goto 17, 3) := by decide +kernel
theorem dX9_hired_82 : decode cX9_hired 82 = .ok (.iload 5, 2) := by decide +kernel
theorem dX9_hired_84 : decode cX9_hired 84 = .ok (.iconst 2, 1) := by decide +kernel
theorem dX9_hired_85 : decode cX9_hired 85 = .ok (.if_icmp .ne 8, 3) := by decide +kernel
theorem dX9_hired_88 : decode cX9_hired 88 = .ok (.bipush 100, 2) := by decide +kernel
theorem dX9_hired_90 : decode cX9_hired 90 = .ok (.goto 6, 3) := by decide +kernel
theorem dX9_hired_93 : decode cX9_hired 93 = .ok (.sipush 1000, 3) := by decide +kernel
theorem dX9_hired_96 : decode cX9_hired 96 = .ok (.istore 7, 2) := by decide +kernel
theorem dX9_hired_98 : decode cX9_hired 98 = .ok (.ldc 160, 2) := by decide +kernel
theorem dX9_hired_100 : decode cX9_hired 100 = .ok (.istore 8, 2) := by decide +kernel
theorem dX9_hired_102 : decode cX9_hired 102 = .ok (.iconst 0, 1) := by decide +kernel
theorem dX9_hired_103 : decode cX9_hired 103 = .ok (.istore 9, 2) := by decide +kernel
theorem dX9_hired_105 : decode cX9_hired 105 = .ok (.iconst 0, 1) := by decide +kernel
theorem dX9_hired_106 : decode cX9_hired 106 = .ok (.istore 10, 2) := by decide +kernel
theorem dX9_hired_108 : decode cX9_hired 108 = .ok (.iload 10, 2) := by decide +kernel
theorem dX9_hired_110 : decode cX9_hired 110 = .ok (.iload 7, 2) := by decide +kernel
theorem dX9_hired_112 : decode cX9_hired 112 = .ok (.if_icmp .ge 60, 3) := by decide +kernel
theorem dX9_hired_115 : decode cX9_hired 115 = .ok (.iload 10, 2) := by decide +kernel
theorem dX9_hired_117 : decode cX9_hired 117 = .ok (.bipush 100, 2) := by decide +kernel
theorem dX9_hired_119 : decode cX9_hired 119 = .ok (.idiv, 1) := by decide +kernel
theorem dX9_hired_120 : decode cX9_hired 120 = .ok (.iload 10, 2) := by decide +kernel
theorem dX9_hired_122 : decode cX9_hired 122 = .ok (.bipush 10, 2) := by decide +kernel
theorem dX9_hired_124 : decode cX9_hired 124 = .ok (.idiv, 1) := by decide +kernel
theorem dX9_hired_125 : decode cX9_hired 125 = .ok (.bipush 10, 2) := by decide +kernel
theorem dX9_hired_127 : decode cX9_hired 127 = .ok (.irem, 1) := by decide +kernel
theorem dX9_hired_128 : decode cX9_hired 128 = .ok (.iadd, 1) := by decide +kernel
theorem dX9_hired_129 : decode cX9_hired 129 = .ok (.iload 10, 2) := by decide +kernel
theorem dX9_hired_131 : decode cX9_hired 131 = .ok (.bipush 10, 2) := by decide +kernel
theorem dX9_hired_133 : decode cX9_hired 133 = .ok (.irem, 1) := by decide +kernel
theorem dX9_hired_134 : decode cX9_hired 134 = .ok (.iadd, 1) := by decide +kernel
theorem dX9_hired_135 : decode cX9_hired 135 = .ok (.iload_n 1, 1) := by decide +kernel
theorem dX9_hired_136 : decode cX9_hired 136 = .ok (.if_icmp .ne 30, 3) := by decide +kernel
theorem dX9_hired_139 : decode cX9_hired 139 = .ok (.aload_n 0, 1) := by decide +kernel
theorem dX9_hired_140 : decode cX9_hired 140 = .ok (.iload_n 2, 1) := by decide +kernel
theorem dX9_hired_141 : decode cX9_hired 141 = .ok (.iload 10, 2) := by decide +kernel
theorem dX9_hired_143 : decode cX9_hired 143 = .ok (.iload_n 3, 1) := by decide +kernel
theorem dX9_hired_144 : decode cX9_hired 144 = .ok (.iload 8, 2) := by decide +kernel
theorem dX9_hired_146 : decode cX9_hired 146 = .ok (.invokevirtual 275, 3) := by decide +kernel
theorem dX9_hired_149 : decode cX9_hired 149 = .ok (.istore 11, 2) := by decide +kernel
theorem dX9_hired_151 : decode cX9_hired 151 = .ok (.iload 11, 2) := by decide +kernel
theorem dX9_hired_153 : decode cX9_hired 153 = .ok (.iload 8, 2) := by decide +kernel
theorem dX9_hired_155 : decode cX9_hired 155 = .ok (.if_icmp .ge 11, 3) := by decide +kernel
theorem dX9_hired_158 : decode cX9_hired 158 = .ok (.iload 11, 2) := by decide +kernel
theorem dX9_hired_160 : decode cX9_hired 160 = .ok (.istore 8, 2) := by decide +kernel
theorem dX9_hired_162 : decode cX9_hired 162 = .ok (.iload 10, 2) := by decide +kernel
theorem dX9_hired_164 : decode cX9_hired 164 = .ok (.istore 9, 2) := by decide +kernel
theorem dX9_hired_166 : decode cX9_hired 166 = .ok (.iinc 10 1, 3) := by decide +kernel
theorem dX9_hired_169 : decode cX9_hired 169 = .ok (.goto (-61), 3) := by decide +kernel
theorem dX9_hired_172 : decode cX9_hired 172 = .ok (.iload 4, 2) := by decide +kernel
theorem dX9_hired_174 : decode cX9_hired 174 = .ok (.bipush 10, 2) := by decide +kernel
theorem dX9_hired_176 : decode cX9_hired 176 = .ok (.if_icmp .ne 8, 3) := by decide +kernel
theorem dX9_hired_179 : decode cX9_hired 179 = .ok (.iload 8, 2) := by decide +kernel
theorem dX9_hired_181 : decode cX9_hired 181 = .ok (.goto 11, 3) := by decide +kernel
theorem dX9_hired_184 : decode cX9_hired 184 = .ok (.iload_n 2, 1) := by decide +kernel
theorem dX9_hired_185 : decode cX9_hired 185 = .ok (.iload 9, 2) := by decide +kernel
theorem dX9_hired_187 : decode cX9_hired 187 = .ok (.iload 4, 2) := by decide +kernel
theorem dX9_hired_189 : decode cX9_hired 189 = .ok (.invokestatic 278, 3) := by decide +kernel
theorem dX9_hired_192 : decode cX9_hired 192 = .ok (.ireturn, 1) := by decide +kernel
theorem dX9_holds_0 : decode cX9_holds 0 = .ok (.iload_n 1, 1) := by decide +kernel
theorem dX9_holds_1 : decode cX9_holds 1 = .ok (.iconst 1, 1) := by decide +kernel
theorem dX9_holds_2 : decode cX9_holds 2 = .ok (.bipush 20, 2) := by decide +kernel
theorem dX9_holds_4 : decode cX9_holds 4 = .ok (.invokestatic 81, 3) := by decide +kernel
theorem dX9_holds_7 : decode cX9_holds 7 = .ok (.ifCond .eq 23, 3) := by decide +kernel
theorem dX9_holds_10 : decode cX9_holds 10 = .ok (.iload_n 2, 1) := by decide +kernel
theorem dX9_holds_11 : decode cX9_holds 11 = .ok (.iconst 0, 1) := by decide +kernel
theorem dX9_holds_12 : decode cX9_holds 12 = .ok (.ldc_w 274, 3) := by decide +kernel
theorem dX9_holds_15 : decode cX9_holds 15 = .ok (.invokestatic 81, 3) := by decide +kernel
theorem dX9_holds_18 : decode cX9_holds 18 = .ok (.ifCond .eq 12, 3) := by decide +kernel
theorem dX9_holds_21 : decode cX9_holds 21 = .ok (.iload_n 3, 1) := by decide +kernel
theorem dX9_holds_22 : decode cX9_holds 22 = .ok (.iconst 0, 1) := by decide +kernel
theorem dX9_holds_23 : decode cX9_holds 23 = .ok (.iconst 1, 1) := by decide +kernel
theorem dX9_holds_24 : decode cX9_holds 24 = .ok (.invokestatic 81, 3) := by decide +kernel
theorem dX9_holds_27 : decode cX9_holds 27 = .ok (.ifCond .ne 5, 3) := by decide +kernel
theorem dX9_holds_30 : decode cX9_holds 30 = .ok (.iconst (-1), 1) := by decide +kernel
theorem dX9_holds_31 : decode cX9_holds 31 = .ok (.ireturn, 1) := by decide +kernel
theorem dX9_holds_32 : decode cX9_holds 32 = .ok (.aload_n 0, 1) := by decide +kernel
theorem dX9_holds_33 : decode cX9_holds 33 = .ok (.iconst 0, 1) := by decide +kernel
theorem dX9_holds_34 : decode cX9_holds 34 = .ok (.iload_n 1, 1) := by decide +kernel
theorem dX9_holds_35 : decode cX9_holds 35 = .ok (.ldc 160, 2) := by decide +kernel
theorem dX9_holds_37 : decode cX9_holds 37 = .ok (.invokevirtual 266, 3) := by decide +kernel
theorem dX9_holds_40 : decode cX9_holds 40 = .ok (.iload_n 2, 1) := by decide +kernel
theorem dX9_holds_41 : decode cX9_holds 41 = .ok (.iadd, 1) := by decide +kernel
theorem dX9_holds_42 : decode cX9_holds 42 = .ok (.istore 4, 2) := by decide +kernel
theorem dX9_holds_44 : decode cX9_holds 44 = .ok (.iconst 0, 1) := by decide +kernel
theorem dX9_holds_45 : decode cX9_holds 45 = .ok (.istore 5, 2) := by decide +kernel
theorem dX9_holds_47 : decode cX9_holds 47 = .ok (.iload 5, 2) := by decide +kernel
theorem dX9_holds_49 : decode cX9_holds 49 = .ok (.bipush 10, 2) := by decide +kernel
theorem dX9_holds_51 : decode cX9_holds 51 = .ok (.if_icmp .gt 83, 3) := by decide +kernel
theorem dX9_holds_54 : decode cX9_holds 54 = .ok (.iconst 0, 1) := by decide +kernel
theorem dX9_holds_55 : decode cX9_holds 55 = .ok (.istore 6, 2) := by decide +kernel
theorem dX9_holds_57 : decode cX9_holds 57 = .ok (.iload 6, 2) := by decide +kernel
theorem dX9_holds_59 : decode cX9_holds 59 = .ok (.sipush 1023, 3) := by decide +kernel
theorem dX9_holds_62 : decode cX9_holds 62 = .ok (.if_icmp .gt 66, 3) := by decide +kernel
theorem dX9_holds_65 : decode cX9_holds 65 = .ok (.iload 6, 2) := by decide +kernel
theorem dX9_holds_67 : decode cX9_holds 67 = .ok (.invokestatic 142, 3) := by decide +kernel
theorem dX9_holds_70 : decode cX9_holds 70 = .ok (.iload 5, 2) := by decide +kernel
theorem dX9_holds_72 : decode cX9_holds 72 = .ok (.if_icmp .ne 16, 3) := by decide +kernel
theorem dX9_holds_75 : decode cX9_holds 75 = .ok (.aload_n 0, 1) := by decide +kernel
theorem dX9_holds_76 : decode cX9_holds 76 = .ok (.iload 6, 2) := by decide +kernel
theorem dX9_holds_78 : decode cX9_holds 78 = .ok (.invokevirtual 221, 3) := by decide +kernel
theorem dX9_holds_81 : decode cX9_holds 81 = .ok (.ifCond .eq 7, 3) := by decide +kernel
theorem dX9_holds_84 : decode cX9_holds 84 = .ok (.iconst 1, 1) := by decide +kernel
theorem dX9_holds_85 : decode cX9_holds 85 = .ok (.goto 4, 3) := by decide +kernel
theorem dX9_holds_88 : decode cX9_holds 88 = .ok (.iconst 0, 1) := by decide +kernel
theorem dX9_holds_89 : decode cX9_holds 89 = .ok (.istore 7, 2) := by decide +kernel
theorem dX9_holds_91 : decode cX9_holds 91 = .ok (.iload 7, 2) := by decide +kernel
theorem dX9_holds_93 : decode cX9_holds 93 = .ok (.ifCond .eq 29, 3) := by decide +kernel
theorem dX9_holds_96 : decode cX9_holds 96 = .ok (.aload_n 0, 1) := by decide +kernel
theorem dX9_holds_97 : decode cX9_holds 97 = .ok (.iload 6, 2) := by decide +kernel
theorem dX9_holds_99 : decode cX9_holds 99 = .ok (.iload_n 1, 1) := by decide +kernel
theorem dX9_holds_100 : decode cX9_holds 100 = .ok (.iload 4, 2) := by decide +kernel
theorem dX9_holds_102 : decode cX9_holds 102 = .ok (.invokevirtual 266, 3) := by decide +kernel
theorem dX9_holds_105 : decode cX9_holds 105 = .ok (.iload 4, 2) := by decide +kernel
theorem dX9_holds_107 : decode cX9_holds 107 = .ok (.if_icmp .lt 15, 3) := by decide +kernel
theorem dX9_holds_110 : decode cX9_holds 110 = .ok (.iload_n 3, 1) := by decide +kernel
theorem dX9_holds_111 : decode cX9_holds 111 = .ok (.ifCond .ne 8, 3) := by decide +kernel
theorem dX9_holds_114 : decode cX9_holds 114 = .ok (.iload 5, 2) := by decide +kernel
theorem dX9_holds_116 : decode cX9_holds 116 = .ok (.goto 5, 3) := by decide +kernel
theorem dX9_holds_119 : decode cX9_holds 119 = .ok (.iload 6, 2) := by decide +kernel
theorem dX9_holds_121 : decode cX9_holds 121 = .ok (.ireturn, 1) := by decide +kernel
theorem dX9_holds_122 : decode cX9_holds 122 = .ok (.iinc 6 1, 3) := by decide +kernel
theorem dX9_holds_125 : decode cX9_holds 125 = .ok (.goto (-68), 3) := by decide +kernel
theorem dX9_holds_128 : decode cX9_holds 128 = .ok (.iinc 5 1, 3) := by decide +kernel
theorem dX9_holds_131 : decode cX9_holds 131 = .ok (.goto (-84), 3) := by decide +kernel
theorem dX9_holds_134 : decode cX9_holds 134 = .ok (.bipush (-2), 2) := by decide +kernel
theorem dX9_holds_136 : decode cX9_holds 136 = .ok (.ireturn, 1) := by decide +kernel
theorem dX9_mayor_0 : decode cX9_mayor 0 = .ok (.iload_n 2, 1) := by decide +kernel
theorem dX9_mayor_1 : decode cX9_mayor 1 = .ok (.iconst 0, 1) := by decide +kernel
theorem dX9_mayor_2 : decode cX9_mayor 2 = .ok (.iconst 1, 1) := by decide +kernel
theorem dX9_mayor_3 : decode cX9_mayor 3 = .ok (.invokestatic 81, 3) := by decide +kernel
theorem dX9_mayor_6 : decode cX9_mayor 6 = .ok (.ifCond .ne 17, 3) := by decide +kernel
theorem dX9_mayor_9 : decode cX9_mayor 9 = .ok (.aload_n 0, 1) := by decide +kernel
theorem dX9_mayor_10 : decode cX9_mayor 10 = .ok (.getfield 19, 3) := by decide +kernel
theorem dX9_mayor_13 : decode cX9_mayor 13 = .ok (.iload_n 2, 1) := by decide +kernel
theorem dX9_mayor_14 : decode cX9_mayor 14 = .ok (.bipush 10, 2) := by decide +kernel
theorem dX9_mayor_16 : decode cX9_mayor 16 = .ok (.isub, 1) := by decide +kernel
theorem dX9_mayor_17 : decode cX9_mayor 17 = .ok (.invokevirtual 173, 3) := by decide +kernel
theorem dX9_mayor_20 : decode cX9_mayor 20 = .ok (.ifCond .eq 7, 3) := by decide +kernel
theorem dX9_mayor_23 : decode cX9_mayor 23 = .ok (.iconst 1, 1) := by decide +kernel
theorem dX9_mayor_24 : decode cX9_mayor 24 = .ok (.goto 4, 3) := by decide +kernel
theorem dX9_mayor_27 : decode cX9_mayor 27 = .ok (.iconst 0, 1) := by decide +kernel
theorem dX9_mayor_28 : decode cX9_mayor 28 = .ok (.istore_n 3, 1) := by decide +kernel
theorem dX9_mayor_29 : decode cX9_mayor 29 = .ok (.iload_n 1, 1) := by decide +kernel
theorem dX9_mayor_30 : decode cX9_mayor 30 = .ok (.invokestatic 154, 3) := by decide +kernel
theorem dX9_mayor_33 : decode cX9_mayor 33 = .ok (.ifCond .eq 7, 3) := by decide +kernel
theorem dX9_mayor_36 : decode cX9_mayor 36 = .ok (.iload_n 3, 1) := by decide +kernel
theorem dX9_mayor_37 : decode cX9_mayor 37 = .ok (.ifCond .ne 6, 3) := by decide +kernel
theorem dX9_mayor_40 : decode cX9_mayor 40 = .ok (.ldc 231, 2) := by decide +kernel
theorem dX9_mayor_42 : decode cX9_mayor 42 = .ok (.ireturn, 1) := by decide +kernel
theorem dX9_mayor_43 : decode cX9_mayor 43 = .ok (.aload_n 0, 1) := by decide +kernel
theorem dX9_mayor_44 : decode cX9_mayor 44 = .ok (.iconst 0, 1) := by decide +kernel
theorem dX9_mayor_45 : decode cX9_mayor 45 = .ok (.iload_n 1, 1) := by decide +kernel
theorem dX9_mayor_46 : decode cX9_mayor 46 = .ok (.ldc 160, 2) := by decide +kernel
theorem dX9_mayor_48 : decode cX9_mayor 48 = .ok (.invokevirtual 266, 3) := by decide +kernel
theorem dX9_mayor_51 : decode cX9_mayor 51 = .ok (.istore 4, 2) := by decide +kernel
theorem dX9_mayor_53 : decode cX9_mayor 53 = .ok (.iload_n 2, 1) := by decide +kernel
theorem dX9_mayor_54 : decode cX9_mayor 54 = .ok (.bipush 10, 2) := by decide +kernel
theorem dX9_mayor_56 : decode cX9_mayor 56 = .ok (.if_icmp .lt 20, 3) := by decide +kernel
theorem dX9_mayor_59 : decode cX9_mayor 59 = .ok (.aload_n 0, 1) := by decide +kernel
theorem dX9_mayor_60 : decode cX9_mayor 60 = .ok (.iconst 1, 1) := by decide +kernel
theorem dX9_mayor_61 : decode cX9_mayor 61 = .ok (.iload_n 2, 1) := by decide +kernel
theorem dX9_mayor_62 : decode cX9_mayor 62 = .ok (.bipush 10, 2) := by decide +kernel
theorem dX9_mayor_64 : decode cX9_mayor 64 = .ok (.isub, 1) := by decide +kernel
theorem dX9_mayor_65 : decode cX9_mayor 65 = .ok (.ishl, 1) := by decide +kernel
theorem dX9_mayor_66 : decode cX9_mayor 66 = .ok (.iload_n 1, 1) := by decide +kernel
theorem dX9_mayor_67 : decode cX9_mayor 67 = .ok (.ldc 160, 2) := by decide +kernel
theorem dX9_mayor_69 : decode cX9_mayor 69 = .ok (.invokevirtual 266, 3) := by decide +kernel
theorem dX9_mayor_72 : decode cX9_mayor 72 = .ok (.iload 4, 2) := by decide +kernel
theorem dX9_mayor_74 : decode cX9_mayor 74 = .ok (.isub, 1) := by decide +kernel
theorem dX9_mayor_75 : decode cX9_mayor 75 = .ok (.ireturn, 1) := by decide +kernel
theorem dX9_mayor_76 : decode cX9_mayor 76 = .ok (.ldc 160, 2) := by decide +kernel
theorem dX9_mayor_78 : decode cX9_mayor 78 = .ok (.istore 5, 2) := by decide +kernel
