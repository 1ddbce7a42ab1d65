theorem dX10_byLaw_0 : decode cX10_byLaw 0 = .ok (.iconst 0, 1) := by decide +kernel
theorem dX10_byLaw_1 : decode cX10_byLaw 1 = .ok (.istore_n 3, 1) := by decide +kernel
theorem dX10_byLaw_2 : decode cX10_byLaw 2 = .ok (.iload_n 3, 1) := by decide +kernel
theorem dX10_byLaw_3 : decode cX10_byLaw 3 = .ok (.aload_n 0, 1) := by decide +kernel
theorem dX10_byLaw_4 : decode cX10_byLaw 4 = .ok (.getfield 265, 3) := by decide +kernel
theorem dX10_byLaw_7 : decode cX10_byLaw 7 = .ok (.if_icmp .ge 84, 3) := by decide +kernel
theorem dX10_byLaw_10 : decode cX10_byLaw 10 = .ok (.aload_n 0, 1) := by decide +kernel
theorem dX10_byLaw_11 : decode cX10_byLaw 11 = .ok (.getfield 68, 3) := by decide +kernel
theorem dX10_byLaw_14 : decode cX10_byLaw 14 = .ok (.iload_n 3, 1) := by decide +kernel
theorem dX10_byLaw_15 : decode cX10_byLaw 15 = .ok (.iaload, 1) := by decide +kernel
theorem dX10_byLaw_16 : decode cX10_byLaw 16 = .ok (.iload_n 1, 1) := by decide +kernel
theorem dX10_byLaw_17 : decode cX10_byLaw 17 = .ok (.if_icmp .ne 68, 3) := by decide +kernel
theorem dX10_byLaw_20 : decode cX10_byLaw 20 = .ok (.aload_n 0, 1) := by decide +kernel
theorem dX10_byLaw_21 : decode cX10_byLaw 21 = .ok (.aload_n 0, 1) := by decide +kernel
theorem dX10_byLaw_22 : decode cX10_byLaw 22 = .ok (.getfield 74, 3) := by decide +kernel
theorem dX10_byLaw_25 : decode cX10_byLaw 25 = .ok (.iload_n 3, 1) := by decide +kernel
theorem dX10_byLaw_26 : decode cX10_byLaw 26 = .ok (.iaload, 1) := by decide +kernel
theorem dX10_byLaw_27 : decode cX10_byLaw 27 = .ok (.aload_n 0, 1) := by decide +kernel
theorem dX10_byLaw_28 : decode cX10_byLaw 28 = .ok (.getfield 77, 3) := by decide +kernel
theorem dX10_byLaw_31 : decode cX10_byLaw 31 = .ok (.iload_n 3, 1) := by decide +kernel
theorem dX10_byLaw_32 : decode cX10_byLaw 32 = .ok (.iaload, 1) := by decide +kernel
theorem dX10_byLaw_33 : decode cX10_byLaw 33 = .ok (.invokevirtual 272, 3) := by decide +kernel
theorem dX10_byLaw_36 : decode cX10_byLaw 36 = .ok (.iconst 1, 1) := by decide +kernel
theorem dX10_byLaw_37 : decode cX10_byLaw 37 = .ok (.if_icmp .eq 6, 3) := by decide +kernel
theorem dX10_byLaw_40 : decode cX10_byLaw 40 = .ok (.goto 45, 3) := by decide +kernel
theorem dX10_byLaw_43 : decode cX10_byLaw 43 = .ok (.aload_n 0, 1) := by decide +kernel
theorem dX10_byLaw_44 : decode cX10_byLaw 44 = .ok (.aload_n 0, 1) := by decide +kernel
theorem dX10_byLaw_45 : decode cX10_byLaw 45 = .ok (.getfield 71, 3) := by decide +kernel
theorem dX10_byLaw_48 : decode cX10_byLaw 48 = .ok (.iload_n 3, 1) := by decide +kernel
theorem dX10_byLaw_49 : decode cX10_byLaw 49 = .ok (.iaload, 1) := by decide +kernel
theorem dX10_byLaw_50 : decode cX10_byLaw 50 = .ok (.aload_n 0, 1) := by decide +kernel
theorem dX10_byLaw_51 : decode cX10_byLaw 51 = .ok (.getfield 74, 3) := by decide +kernel
theorem dX10_byLaw_54 : decode cX10_byLaw 54 = .ok (.iload_n 3, 1) := by decide +kernel
theorem dX10_byLaw_55 : decode cX10_byLaw 55 = .ok (.iaload, 1) := by decide +kernel
theorem dX10_byLaw_56 : decode cX10_byLaw 56 = .ok (.invokevirtual 272, 3) := by decide +kernel
theorem dX10_byLaw_59 : decode cX10_byLaw 59 = .ok (.istore 4, 2) := by decide +kernel
theorem dX10_byLaw_61 : decode cX10_byLaw 61 = .ok (.iload 4, 2) := by decide +kernel
theorem dX10_byLaw_63 : decode cX10_byLaw 63 = .ok (.ifCond .ge 7, 3) := by decide +kernel
theorem dX10_byLaw_66 : decode cX10_byLaw 66 = .ok (.iconst 0, 1) := by decide +kernel
theorem dX10_byLaw_67 : decode cX10_byLaw 67 = .ok (.goto 17, 3) := by decide +kernel
theorem dX10_byLaw_70 : decode cX10_byLaw 70 = .ok (.iload 4, 2) := by decide +kernel
theorem dX10_byLaw_72 : decode cX10_byLaw 72 = .ok (.bipush 99, 2) := by decide +kernel
theorem dX10_byLaw_74 : decode cX10_byLaw 74 = .ok (.if_icmp .le 8, 3) := by decide +kernel
theorem dX10_byLaw_77 : decode cX10_byLaw 77 = .ok (.bipush 99, 2) := by decide +kernel
theorem dX10_byLaw_79 : decode cX10_byLaw 79 = .ok (.goto 5, 3) := by decide +kernel
theorem dX10_byLaw_82 : decode cX10_byLaw 82 = .ok (.iload 4, 2) := by decide +kernel
theorem dX10_byLaw_84 : decode cX10_byLaw 84 = .ok (.ireturn, 1) := by decide +kernel
theorem dX10_byLaw_85 : decode cX10_byLaw 85 = .ok (.iinc 3 1, 3) := by decide +kernel
theorem dX10_byLaw_88 : decode cX10_byLaw 88 = .ok (.goto (-86), 3) := by decide +kernel
theorem dX10_byLaw_91 : decode cX10_byLaw 91 = .ok (.iload_n 2, 1) := by decide +kernel
theorem dX10_byLaw_92 : decode cX10_byLaw 92 = .ok (.ireturn, 1) := by decide +kernel
theorem dX10_choreGoes_0 : decode cX10_choreGoes 0 = .ok (.aload_n 0, 1) := by decide +kernel
theorem dX10_choreGoes_1 : decode cX10_choreGoes 1 = .ok (.getfield 83, 3) := by decide +kernel
theorem dX10_choreGoes_4 : decode cX10_choreGoes 4 = .ok (.iconst 0, 1) := by decide +kernel
theorem dX10_choreGoes_5 : decode cX10_choreGoes 5 = .ok (.iload_n 1, 1) := by decide +kernel
theorem dX10_choreGoes_6 : decode cX10_choreGoes 6 = .ok (.iastore, 1) := by decide +kernel
theorem dX10_choreGoes_7 : decode cX10_choreGoes 7 = .ok (.aload_n 0, 1) := by decide +kernel
theorem dX10_choreGoes_8 : decode cX10_choreGoes 8 = .ok (.getfield 83, 3) := by decide +kernel
theorem dX10_choreGoes_11 : decode cX10_choreGoes 11 = .ok (.iconst 1, 1) := by decide +kernel
theorem dX10_choreGoes_12 : decode cX10_choreGoes 12 = .ok (.iconst 0, 1) := by decide +kernel
theorem dX10_choreGoes_13 : decode cX10_choreGoes 13 = .ok (.iastore, 1) := by decide +kernel
theorem dX10_choreGoes_14 : decode cX10_choreGoes 14 = .ok (.aload_n 0, 1) := by decide +kernel
theorem dX10_choreGoes_15 : decode cX10_choreGoes 15 = .ok (.getfield 83, 3) := by decide +kernel
theorem dX10_choreGoes_18 : decode cX10_choreGoes 18 = .ok (.iconst 2, 1) := by decide +kernel
theorem dX10_choreGoes_19 : decode cX10_choreGoes 19 = .ok (.aload_n 0, 1) := by decide +kernel
theorem dX10_choreGoes_20 : decode cX10_choreGoes 20 = .ok (.getfield 34, 3) := by decide +kernel
theorem dX10_choreGoes_23 : decode cX10_choreGoes 23 = .ok (.iload_n 1, 1) := by decide +kernel
theorem dX10_choreGoes_24 : decode cX10_choreGoes 24 = .ok (.iaload, 1) := by decide +kernel
theorem dX10_choreGoes_25 : decode cX10_choreGoes 25 = .ok (.iastore, 1) := by decide +kernel
theorem dX10_choreGoes_26 : decode cX10_choreGoes 26 = .ok (.aload_n 0, 1) := by decide +kernel
theorem dX10_choreGoes_27 : decode cX10_choreGoes 27 = .ok (.getfield 83, 3) := by decide +kernel
theorem dX10_choreGoes_30 : decode cX10_choreGoes 30 = .ok (.bipush 7, 2) := by decide +kernel
theorem dX10_choreGoes_32 : decode cX10_choreGoes 32 = .ok (.aload_n 0, 1) := by decide +kernel
theorem dX10_choreGoes_33 : decode cX10_choreGoes 33 = .ok (.getfield 7, 3) := by decide +kernel
theorem dX10_choreGoes_36 : decode cX10_choreGoes 36 = .ok (.iload_n 1, 1) := by decide +kernel
theorem dX10_choreGoes_37 : decode cX10_choreGoes 37 = .ok (.iaload, 1) := by decide +kernel
theorem dX10_choreGoes_38 : decode cX10_choreGoes 38 = .ok (.iastore, 1) := by decide +kernel
theorem dX10_choreGoes_39 : decode cX10_choreGoes 39 = .ok (.aload_n 0, 1) := by decide +kernel
theorem dX10_choreGoes_40 : decode cX10_choreGoes 40 = .ok (.bipush 110, 2) := by decide +kernel
theorem dX10_choreGoes_42 : decode cX10_choreGoes 42 = .ok (.aload_n 0, 1) := by decide +kernel
theorem dX10_choreGoes_43 : decode cX10_choreGoes 43 = .ok (.getfield 34, 3) := by decide +kernel
theorem dX10_choreGoes_46 : decode cX10_choreGoes 46 = .ok (.iload_n 1, 1) := by decide +kernel
theorem dX10_choreGoes_47 : decode cX10_choreGoes 47 = .ok (.iaload, 1) := by decide +kernel
theorem dX10_choreGoes_48 : decode cX10_choreGoes 48 = .ok (.invokevirtual 316, 3) := by decide +kernel
theorem dX10_choreGoes_51 : decode cX10_choreGoes 51 = .ok (.istore_n 2, 1) := by decide +kernel
theorem dX10_choreGoes_52 : decode cX10_choreGoes 52 = .ok (.aload_n 0, 1) := by decide +kernel
theorem dX10_choreGoes_53 : decode cX10_choreGoes 53 = .ok (.bipush 107, 2) := by decide +kernel
theorem dX10_choreGoes_55 : decode cX10_choreGoes 55 = .ok (.invokevirtual 325, 3) := by decide +kernel
theorem dX10_choreGoes_58 : decode cX10_choreGoes 58 = .ok (.ifCond .eq 12, 3) := by decide +kernel
theorem dX10_choreGoes_61 : decode cX10_choreGoes 61 = .ok (.iload_n 2, 1) := by decide +kernel
theorem dX10_choreGoes_62 : decode cX10_choreGoes 62 = .ok (.aload_n 0, 1) := by decide +kernel
theorem dX10_choreGoes_63 : decode cX10_choreGoes 63 = .ok (.getfield 7, 3) := by decide +kernel
theorem dX10_choreGoes_66 : decode cX10_choreGoes 66 = .ok (.iload_n 1, 1) := by decide +kernel
theorem dX10_choreGoes_67 : decode cX10_choreGoes 67 = .ok (.iaload, 1) := by decide +kernel
theorem dX10_choreGoes_68 : decode cX10_choreGoes 68 = .ok (.iadd, 1) := by decide +kernel
theorem dX10_choreGoes_69 : decode cX10_choreGoes 69 = .ok (.istore_n 2, 1) := by decide +kernel
theorem dX10_choreGoes_70 : decode cX10_choreGoes 70 = .ok (.bipush 99, 2) := by decide +kernel
theorem dX10_choreGoes_72 : decode cX10_choreGoes 72 = .ok (.iload_n 2, 1) := by decide +kernel
theorem dX10_choreGoes_73 : decode cX10_choreGoes 73 = .ok (.invokestatic 319, 3) := by decide +kernel
theorem dX10_choreGoes_76 : decode cX10_choreGoes 76 = .ok (.istore_n 2, 1) := by decide +kernel
theorem dX10_choreGoes_77 : decode cX10_choreGoes 77 = .ok (.aload_n 0, 1) := by decide +kernel
theorem dX10_choreGoes_78 : decode cX10_choreGoes 78 = .ok (.getfield 116, 3) := by decide +kernel
theorem dX10_choreGoes_81 : decode cX10_choreGoes 81 = .ok (.iload_n 1, 1) := by decide +kernel
theorem dX10_choreGoes_82 : decode cX10_choreGoes 82 = .ok (.iaload, 1) := by decide +kernel
theorem dX10_choreGoes_83 : decode cX10_choreGoes 83 = .ok (.iconst (-1), 1) := by decide +kernel
theorem dX10_choreGoes_84 : decode cX10_choreGoes 84 = .ok (.if_icmp .eq 15, 3) := by decide +kernel
theorem dX10_choreGoes_87 : decode cX10_choreGoes 87 = .ok (.aload_n 0, 1) := by decide +kernel
theorem dX10_choreGoes_88 : decode cX10_choreGoes 88 = .ok (.aload_n 0, 1) := by decide +kernel
theorem dX10_choreGoes_89 : decode cX10_choreGoes 89 = .ok (.getfield 116, 3) := by decide +kernel
theorem dX10_choreGoes_92 : decode cX10_choreGoes 92 = .ok (.iload_n 1, 1) := by decide +kernel
theorem dX10_choreGoes_93 : decode cX10_choreGoes 93 = .ok (.iaload, 1) := by decide +kernel
theorem dX10_choreGoes_94 : decode cX10_choreGoes 94 = .ok (.iload_n 2, 1) := by decide +kernel
theorem dX10_choreGoes_95 : decode cX10_choreGoes 95 = .ok (.invokevirtual 328, 3) := by decide +kernel
theorem dX10_choreGoes_98 : decode cX10_choreGoes 98 = .ok (.istore_n 2, 1) := by decide +kernel
theorem dX10_choreGoes_99 : decode cX10_choreGoes 99 = .ok (.iconst 0, 1) := by decide +kernel
theorem dX10_choreGoes_100 : decode cX10_choreGoes 100 = .ok (.istore_n 3, 1) := by decide +kernel
theorem dX10_choreGoes_101 : decode cX10_choreGoes 101 = .ok (.iload_n 3, 1) := by decide +kernel
theorem dX10_choreGoes_102 : decode cX10_choreGoes 102 = .ok (.aload_n 0, 1) := by decide +kernel
theorem dX10_choreGoes_103 : decode cX10_choreGoes 103 = .ok (.getfield 37, 3) := by decide +kernel
theorem dX10_choreGoes_106 : decode cX10_choreGoes 106 = .ok (.iload_n 1, 1) := by decide +kernel
theorem dX10_choreGoes_107 : decode cX10_choreGoes 107 = .ok (.iaload, 1) := by decide +kernel
theorem dX10_choreGoes_108 : decode cX10_choreGoes 108 = .ok (.if_icmp .ge 26, 3) := by decide +kernel
theorem dX10_choreGoes_111 : decode cX10_choreGoes 111 = .ok (.aload_n 0, 1) := by decide +kernel
theorem dX10_choreGoes_112 : decode cX10_choreGoes 112 = .ok (.aload_n 0, 1) := by decide +kernel
theorem dX10_choreGoes_113 : decode cX10_choreGoes 113 = .ok (.getfield 40, 3) := by decide +kernel
theorem dX10_choreGoes_116 : decode cX10_choreGoes 116 = .ok (.bipush 10, 2) := by decide +kernel
theorem dX10_choreGoes_118 : decode cX10_choreGoes 118 = .ok (.iload_n 1, 1) := by decide +kernel
theorem dX10_choreGoes_119 : decode cX10_choreGoes 119 = .ok (.imul, 1) := by decide +kernel
theorem dX10_choreGoes_120 : decode cX10_choreGoes 120 = .ok (.iload_n 3, 1) := by decide +kernel
theorem dX10_choreGoes_121 : decode cX10_choreGoes 121 = .ok (.iadd, 1) := by decide +kernel
theorem dX10_choreGoes_122 : decode cX10_choreGoes 122 = .ok (.iaload, 1) := by decide +kernel
theorem dX10_choreGoes_123 : decode cX10_choreGoes 123 = .ok (.iload_n 2, 1) := by decide +kernel
theorem dX10_choreGoes_124 : decode cX10_choreGoes 124 = .ok (.invokevirtual 328, 3) := by decide +kernel
theorem dX10_choreGoes_127 : decode cX10_choreGoes 127 = .ok (.istore_n 2, 1) := by decide +kernel
theorem dX10_choreGoes_128 : decode cX10_choreGoes 128 = .ok (.iinc 3 1, 3) := by decide +kernel
theorem dX10_choreGoes_131 : decode cX10_choreGoes 131 = .ok (.goto (-30), 3) := by decide +kernel
theorem dX10_choreGoes_134 : decode cX10_choreGoes 134 = .ok (.aload_n 0, 1) := by decide +kernel
theorem dX10_choreGoes_135 : decode cX10_choreGoes 135 = .ok (.getfield 7, 3) := by decide +kernel
theorem dX10_choreGoes_138 : decode cX10_choreGoes 138 = .ok (.iload_n 1, 1) := by decide +kernel
theorem dX10_choreGoes_139 : decode cX10_choreGoes 139 = .ok (.iload_n 2, 1) := by decide +kernel
theorem dX10_choreGoes_140 : decode cX10_choreGoes 140 = .ok (.iastore, 1) := by decide +kernel
theorem dX10_choreGoes_141 : decode cX10_choreGoes 141 = .ok (.iload_n 2, 1) := by decide +kernel
theorem dX10_choreGoes_142 : decode cX10_choreGoes 142 = .ok (.ifCond .ne 4, 3) := by decide +kernel
theorem dX10_choreGoes_145 : decode cX10_choreGoes 145 = .ok (.return_, 1) := by decide +kernel
theorem dX10_choreGoes_146 : decode cX10_choreGoes 146 = .ok (.aload_n 0, 1) := by decide +kernel
theorem dX10_choreGoes_147 : decode cX10_choreGoes 147 = .ok (.getfield 83, 3) := by decide +kernel
theorem dX10_choreGoes_150 : decode cX10_choreGoes 150 = .ok (.bipush 7, 2) := by decide +kernel
theorem dX10_choreGoes_152 : decode cX10_choreGoes 152 = .ok (.iload_n 2, 1) := by decide +kernel
theorem dX10_choreGoes_153 : decode cX10_choreGoes 153 = .ok (.iastore, 1) := by decide +kernel
theorem dX10_choreGoes_154 : decode cX10_choreGoes 154 = .ok (.aload_n 0, 1) := by decide +kernel
theorem dX10_choreGoes_155 : decode cX10_choreGoes 155 = .ok (.getfield 7, 3) := by decide +kernel
theorem dX10_choreGoes_158 : decode cX10_choreGoes 158 = .ok (.bipush 12, 2) := by decide +kernel
theorem dX10_choreGoes_160 : decode cX10_choreGoes 160 = .ok (.aload_n 0, 1) := by decide +kernel
theorem dX10_choreGoes_161 : decode cX10_choreGoes 161 = .ok (.getfield 7, 3) := by decide +kernel
theorem dX10_choreGoes_164 : decode cX10_choreGoes 164 = .ok (.bipush 12, 2) := by decide +kernel
theorem dX10_choreGoes_166 : decode cX10_choreGoes 166 = .ok (.iaload, 1) := by decide +kernel
theorem dX10_choreGoes_167 : decode cX10_choreGoes 167 = .ok (.iload_n 2, 1) := by decide +kernel
theorem dX10_choreGoes_168 : decode cX10_choreGoes 168 = .ok (.aload_n 0, 1) := by decide +kernel
theorem dX10_choreGoes_169 : decode cX10_choreGoes 169 = .ok (.bipush 109, 2) := by decide +kernel
theorem dX10_choreGoes_171 : decode cX10_choreGoes 171 = .ok (.iconst 0, 1) := by decide +kernel
theorem dX10_choreGoes_172 : decode cX10_choreGoes 172 = .ok (.invokevirtual 316, 3) := by decide +kernel
theorem dX10_choreGoes_175 : decode cX10_choreGoes 175 = .ok (.imul, 1) := by decide +kernel
theorem dX10_choreGoes_176 : decode cX10_choreGoes 176 = .ok (.iadd, 1) := by decide +kernel
theorem dX10_choreGoes_177 : decode cX10_choreGoes 177 = .ok (.iastore, 1) := by decide +kernel
theorem dX10_choreGoes_178 : decode cX10_choreGoes 178 = .ok (.return_, 1) := by decide +kernel
theorem dX10_copies_0 : decode cX10_copies 0 = .ok (.iconst 0, 1) := by decide +kernel
theorem dX10_copies_1 : decode cX10_copies 1 = .ok (.istore_n 3, 1) := by decide +kernel
theorem dX10_copies_2 : decode cX10_copies 2 = .ok (.iload_n 3, 1) := by decide +kernel
theorem dX10_copies_3 : decode cX10_copies 3 = .ok (.iload_n 2, 1) := by decide +kernel
theorem dX10_copies_4 : decode cX10_copies 4 = .ok (.if_icmp .ge 15, 3) := by decide +kernel
theorem dX10_copies_7 : decode cX10_copies 7 = .ok (.aload_n 1, 1) := by decide +kernel
theorem dX10_copies_8 : decode cX10_copies 8 = .ok (.iload_n 3, 1) := by decide +kernel
theorem dX10_copies_9 : decode cX10_copies 9 = .ok (.aload_n 0, 1) := by decide +kernel
theorem dX10_copies_10 : decode cX10_copies 10 = .ok (.iload_n 3, 1) := by decide +kernel
theorem dX10_copies_11 : decode cX10_copies 11 = .ok (.iaload, 1) := by decide +kernel
theorem dX10_copies_12 : decode cX10_copies 12 = .ok (.iastore, 1) := by decide +kernel
theorem dX10_copies_13 : decode cX10_copies 13 = .ok (.iinc 3 1, 3) := by decide +kernel
theorem dX10_copies_16 : decode cX10_copies 16 = .ok (.goto (-14), 3) := by decide +kernel
theorem dX10_copies_19 : decode cX10_copies 19 = .ok (.return_, 1) := by decide +kernel
theorem dX10_dayGoes_0 : decode cX10_dayGoes 0 = .ok (.aload_n 0, 1) := by decide +kernel
theorem dX10_dayGoes_1 : decode cX10_dayGoes 1 = .ok (.getfield 7, 3) := by decide +kernel
theorem dX10_dayGoes_4 : decode cX10_dayGoes 4 = .ok (.bipush 14, 2) := by decide +kernel
theorem dX10_dayGoes_6 : decode cX10_dayGoes 6 = .ok (.sipush 25173, 3) := by decide +kernel
theorem dX10_dayGoes_9 : decode cX10_dayGoes 9 = .ok (.aload_n 0, 1) := by decide +kernel
theorem dX10_dayGoes_10 : decode cX10_dayGoes 10 = .ok (.getfield 7, 3) := by decide +kernel
theorem dX10_dayGoes_13 : decode cX10_dayGoes 13 = .ok (.bipush 14, 2) := by decide +kernel
theorem dX10_dayGoes_15 : decode cX10_dayGoes 15 = .ok (.iaload, 1) := by decide +kernel
theorem dX10_dayGoes_16 : decode cX10_dayGoes 16 = .ok (.imul, 1) := by decide +kernel
theorem dX10_dayGoes_17 : decode cX10_dayGoes 17 = .ok (.sipush 13849, 3) := by decide +kernel
theorem dX10_dayGoes_20 : decode cX10_dayGoes 20 = .ok (.iadd, 1) := by decide +kernel
theorem dX10_dayGoes_21 : decode cX10_dayGoes 21 = .ok (.ldc_w 334, 3) := by decide +kernel
theorem dX10_dayGoes_24 : decode cX10_dayGoes 24 = .ok (.irem, 1) := by decide +kernel
theorem dX10_dayGoes_25 : decode cX10_dayGoes 25 = .ok (.iastore, 1) := by decide +kernel
theorem dX10_dayGoes_26 : decode cX10_dayGoes 26 = .ok (.aload_n 0, 1) := by decide +kernel
theorem dX10_dayGoes_27 : decode cX10_dayGoes 27 = .ok (.getfield 7, 3) := by decide +kernel
theorem dX10_dayGoes_30 : decode cX10_dayGoes 30 = .ok (.bipush 14, 2) := by decide +kernel
theorem dX10_dayGoes_32 : decode cX10_dayGoes 32 = .ok (.iaload, 1) := by decide +kernel
theorem dX10_dayGoes_33 : decode cX10_dayGoes 33 = .ok (.bipush 10, 2) := by decide +kernel
theorem dX10_dayGoes_35 : decode cX10_dayGoes 35 = .ok (.irem, 1) := by decide +kernel
theorem dX10_dayGoes_36 : decode cX10_dayGoes 36 = .ok (.aload_n 0, 1) := by decide +kernel
theorem dX10_dayGoes_37 : decode cX10_dayGoes 37 = .ok (.getfield 161, 3) := by decide +kernel
theorem dX10_dayGoes_40 : decode cX10_dayGoes 40 = .ok (.if_icmp .ge 7, 3) := by decide +kernel
theorem dX10_dayGoes_43 : decode cX10_dayGoes 43 = .ok (.iconst 1, 1) := by decide +kernel
theorem dX10_dayGoes_44 : decode cX10_dayGoes 44 = .ok (.goto 4, 3) := by decide +kernel
theorem dX10_dayGoes_47 : decode cX10_dayGoes 47 = .ok (.iconst 0, 1) := by decide +kernel
theorem dX10_dayGoes_48 : decode cX10_dayGoes 48 = .ok (.istore_n 1, 1) := by decide +kernel
theorem dX10_dayGoes_49 : decode cX10_dayGoes 49 = .ok (.aload_n 0, 1) := by decide +kernel
theorem dX10_dayGoes_50 : decode cX10_dayGoes 50 = .ok (.aload_n 0, 1) := by decide +kernel
theorem dX10_dayGoes_51 : decode cX10_dayGoes 51 = .ok (.getfield 335, 3) := by decide +kernel
theorem dX10_dayGoes_54 : decode cX10_dayGoes 54 = .ok (.iload_n 1, 1) := by decide +kernel
theorem dX10_dayGoes_55 : decode cX10_dayGoes 55 = .ok (.ifCond .eq 7, 3) := by decide +kernel
theorem dX10_dayGoes_58 : decode cX10_dayGoes 58 = .ok (.iconst 1, 1) := by decide +kernel
theorem dX10_dayGoes_59 : decode cX10_dayGoes 59 = .ok (.goto 4, 3) := by decide +kernel
theorem dX10_dayGoes_62 : decode cX10_dayGoes 62 = .ok (.iconst 0, 1) := by decide +kernel
theorem dX10_dayGoes_63 : decode cX10_dayGoes 63 = .ok (.iadd, 1) := by decide +kernel
theorem dX10_dayGoes_64 : decode cX10_dayGoes 64 = .ok (.putfield 335, 3) := by decide +kernel
theorem dX10_dayGoes_67 : decode cX10_dayGoes 67 = .ok (.aload_n 0, 1) := by decide +kernel
theorem dX10_dayGoes_68 : decode cX10_dayGoes 68 = .ok (.iload_n 1, 1) := by decide +kernel
theorem dX10_dayGoes_69 : decode cX10_dayGoes 69 = .ok (.invokevirtual 338, 3) := by decide +kernel
theorem dX10_dayGoes_72 : decode cX10_dayGoes 72 = .ok (.iconst 0, 1) := by decide +kernel
theorem dX10_dayGoes_73 : decode cX10_dayGoes 73 = .ok (.istore_n 2, 1) := by decide +kernel
theorem dX10_dayGoes_74 : decode cX10_dayGoes 74 = .ok (.iload_n 2, 1) := by decide +kernel
theorem dX10_dayGoes_75 : decode cX10_dayGoes 75 = .ok (.bipush 10, 2) := by decide +kernel
theorem dX10_dayGoes_77 : decode cX10_dayGoes 77 = .ok (.if_icmp .ge 20, 3) := by decide +kernel
theorem dX10_dayGoes_80 : decode cX10_dayGoes 80 = .ok (.aload_n 0, 1) := by decide +kernel
theorem dX10_dayGoes_81 : decode cX10_dayGoes 81 = .ok (.getfield 119, 3) := by decide +kernel
theorem dX10_dayGoes_84 : decode cX10_dayGoes 84 = .ok (.iload_n 2, 1) := by decide +kernel
theorem dX10_dayGoes_85 : decode cX10_dayGoes 85 = .ok (.aload_n 0, 1) := by decide +kernel
theorem dX10_dayGoes_86 : decode cX10_dayGoes 86 = .ok (.iload_n 2, 1) := by decide +kernel
theorem dX10_dayGoes_87 : decode cX10_dayGoes 87 = .ok (.invokevirtual 341, 3) := by decide +kernel
theorem dX10_dayGoes_90 : decode cX10_dayGoes 90 = .ok (.iastore, 1) := by decide +kernel
theorem dX10_dayGoes_91 : decode cX10_dayGoes 91 = .ok (.iinc 2 1, 3) := by decide +kernel
theorem dX10_dayGoes_94 : decode cX10_dayGoes 94 = .ok (.goto (-20), 3) := by decide +kernel
theorem dX10_dayGoes_97 : decode cX10_dayGoes 97 = .ok (.iconst 0, 1) := by decide +kernel
theorem dX10_dayGoes_98 : decode cX10_dayGoes 98 = .ok (.istore_n 2, 1) := by decide +kernel
theorem dX10_dayGoes_99 : decode cX10_dayGoes 99 = .ok (.iload_n 2, 1) := by decide +kernel
theorem dX10_dayGoes_100 : decode cX10_dayGoes 100 = .ok (.bipush 12, 2) := by decide +kernel
theorem dX10_dayGoes_102 : decode cX10_dayGoes 102 = .ok (.if_icmp .ge 22, 3) := by decide +kernel
theorem dX10_dayGoes_105 : decode cX10_dayGoes 105 = .ok (.aload_n 0, 1) := by decide +kernel
theorem dX10_dayGoes_106 : decode cX10_dayGoes 106 = .ok (.iload_n 2, 1) := by decide +kernel
theorem dX10_dayGoes_107 : decode cX10_dayGoes 107 = .ok (.invokevirtual 331, 3) := by decide +kernel
theorem dX10_dayGoes_110 : decode cX10_dayGoes 110 = .ok (.ifCond .eq 8, 3) := by decide +kernel
theorem dX10_dayGoes_113 : decode cX10_dayGoes 113 = .ok (.aload_n 0, 1) := by decide +kernel
theorem dX10_dayGoes_114 : decode cX10_dayGoes 114 = .ok (.iload_n 2, 1) := by decide +kernel
theorem dX10_dayGoes_115 : decode cX10_dayGoes 115 = .ok (.invokevirtual 344, 3) := by decide +kernel
theorem dX10_dayGoes_118 : decode cX10_dayGoes 118 = .ok (.iinc 2 1, 3) := by decide +kernel
theorem dX10_dayGoes_121 : decode cX10_dayGoes 121 = .ok (.goto (-22), 3) := by decide +kernel
theorem dX10_dayGoes_124 : decode cX10_dayGoes 124 = .ok (.aload_n 0, 1) := by decide +kernel
theorem dX10_dayGoes_125 : decode cX10_dayGoes 125 = .ok (.aload_n 0, 1) := by decide +kernel
theorem dX10_dayGoes_126 : decode cX10_dayGoes 126 = .ok (.getfield 347, 3) := by decide +kernel
theorem dX10_dayGoes_129 : decode cX10_dayGoes 129 = .ok (.aload_n 0, 1) := by decide +kernel
theorem dX10_dayGoes_130 : decode cX10_dayGoes 130 = .ok (.invokevirtual 350, 3) := by decide +kernel
theorem dX10_dayGoes_133 : decode cX10_dayGoes 133 = .ok (.ifCond .ne 7, 3) := by decide +kernel
theorem dX10_dayGoes_136 : decode cX10_dayGoes 136 = .ok (.iconst 1, 1) := by decide +kernel
theorem dX10_dayGoes_137 : decode cX10_dayGoes 137 = .ok (.goto 4, 3) := by decide +kernel
theorem dX10_dayGoes_140 : decode cX10_dayGoes 140 = .ok (.iconst 0, 1) := by decide +kernel
theorem dX10_dayGoes_141 : decode cX10_dayGoes 141 = .ok (.iadd, 1) := by decide +kernel
theorem dX10_dayGoes_142 : decode cX10_dayGoes 142 = .ok (.putfield 347, 3) := by decide +kernel
theorem dX10_dayGoes_145 : decode cX10_dayGoes 145 = .ok (.aload_n 0, 1) := by decide +kernel
theorem dX10_dayGoes_146 : decode cX10_dayGoes 146 = .ok (.getfield 7, 3) := by decide +kernel
theorem dX10_dayGoes_149 : decode cX10_dayGoes 149 = .ok (.bipush 13, 2) := by decide +kernel
theorem dX10_dayGoes_151 : decode cX10_dayGoes 151 = .ok (.aload_n 0, 1) := by decide +kernel
theorem dX10_dayGoes_152 : decode cX10_dayGoes 152 = .ok (.getfield 7, 3) := by decide +kernel
theorem dX10_dayGoes_155 : decode cX10_dayGoes 155 = .ok (.bipush 13, 2) := by decide +kernel
theorem dX10_dayGoes_157 : decode cX10_dayGoes 157 = .ok (.iaload, 1) := by decide +kernel
theorem dX10_dayGoes_158 : decode cX10_dayGoes 158 = .ok (.iconst 1, 1) := by decide +kernel
theorem dX10_dayGoes_159 : decode cX10_dayGoes 159 = .ok (.iadd, 1) := by decide +kernel
theorem dX10_dayGoes_160 : decode cX10_dayGoes 160 = .ok (.iastore, 1) := by decide +kernel
theorem dX10_dayGoes_161 : decode cX10_dayGoes 161 = .ok (.return_, 1) := by decide +kernel
theorem dX10_daysGo_0 : decode cX10_daysGo 0 = .ok (.aload_n 0, 1) := by decide +kernel
theorem dX10_daysGo_1 : decode cX10_daysGo 1 = .ok (.iconst 0, 1) := by decide +kernel
theorem dX10_daysGo_2 : decode cX10_daysGo 2 = .ok (.putfield 335, 3) := by decide +kernel
theorem dX10_daysGo_5 : decode cX10_daysGo 5 = .ok (.aload_n 0, 1) := by decide +kernel
theorem dX10_daysGo_6 : decode cX10_daysGo 6 = .ok (.iconst 0, 1) := by decide +kernel
theorem dX10_daysGo_7 : decode cX10_daysGo 7 = .ok (.putfield 322, 3) := by decide +kernel
theorem dX10_daysGo_10 : decode cX10_daysGo 10 = .ok (.aload_n 0, 1) := by decide +kernel
theorem dX10_daysGo_11 : decode cX10_daysGo 11 = .ok (.iconst 0, 1) := by decide +kernel
theorem dX10_daysGo_12 : decode cX10_daysGo 12 = .ok (.putfield 347, 3) := by decide +kernel
theorem dX10_daysGo_15 : decode cX10_daysGo 15 = .ok (.aload_n 0, 1) := by decide +kernel
theorem dX10_daysGo_16 : decode cX10_daysGo 16 = .ok (.iconst 0, 1) := by decide +kernel
theorem dX10_daysGo_17 : decode cX10_daysGo 17 = .ok (.putfield 353, 3) := by decide +kernel
theorem dX10_daysGo_20 : decode cX10_daysGo 20 = .ok (.iconst 0, 1) := by decide +kernel
theorem dX10_daysGo_21 : decode cX10_daysGo 21 = .ok (.istore_n 2, 1) := by decide +kernel
theorem dX10_daysGo_22 : decode cX10_daysGo 22 = .ok (.iload_n 2, 1) := by decide +kernel
theorem dX10_daysGo_23 : decode cX10_daysGo 23 = .ok (.bipush 10, 2) := by decide +kernel
theorem dX10_daysGo_25 : decode cX10_daysGo 25 = .ok (.if_icmp .ge 16, 3) := by decide +kernel
theorem dX10_daysGo_28 : decode cX10_daysGo 28 = .ok (.aload_n 0, 1) := by decide +kernel
theorem dX10_daysGo_29 : decode cX10_daysGo 29 = .ok (.getfield 122, 3) := by decide +kernel
theorem dX10_daysGo_32 : decode cX10_daysGo 32 = .ok (.iload_n 2, 1) := by decide +kernel
theorem dX10_daysGo_33 : decode cX10_daysGo 33 = .ok (.iconst 0, 1) := by decide +kernel
theorem dX10_daysGo_34 : decode cX10_daysGo 34 = .ok (.iastore, 1) := by decide +kernel
theorem dX10_daysGo_35 : decode cX10_daysGo 35 = .ok (.iinc 2 1, 3) := by decide +kernel
theorem dX10_daysGo_38 : decode cX10_daysGo 38 = .ok (.goto (-16), 3) := by decide +kernel
theorem dX10_daysGo_41 : decode cX10_daysGo 41 = .ok (.iconst 0, 1) := by decide +kernel
theorem dX10_daysGo_42 : decode cX10_daysGo 42 = .ok (.istore_n 2, 1) := by decide +kernel
theorem dX10_daysGo_43 : decode cX10_daysGo 43 = .ok (.iload_n 2, 1) := by decide +kernel
theorem dX10_daysGo_44 : decode cX10_daysGo 44 = .ok (.iload_n 1, 1) := by decide +kernel
theorem dX10_daysGo_45 : decode cX10_daysGo 45 = .ok (.if_icmp .ge 36, 3) := by decide +kernel
theorem dX10_daysGo_48 : decode cX10_daysGo 48 = .ok (.aload_n 0, 1) := by decide +kernel
theorem dX10_daysGo_49 : decode cX10_daysGo 49 = .ok (.getfield 7, 3) := by decide +kernel
theorem dX10_daysGo_52 : decode cX10_daysGo 52 = .ok (.bipush 13, 2) := by decide +kernel
theorem dX10_daysGo_54 : decode cX10_daysGo 54 = .ok (.iaload, 1) := by decide +kernel
theorem dX10_daysGo_55 : decode cX10_daysGo 55 = .ok (.sipush 9999, 3) := by decide +kernel
theorem dX10_daysGo_58 : decode cX10_daysGo 58 = .ok (.if_icmp .ge 23, 3) := by decide +kernel
theorem dX10_daysGo_61 : decode cX10_daysGo 61 = .ok (.aload_n 0, 1) := by decide +kernel
theorem dX10_daysGo_62 : decode cX10_daysGo 62 = .ok (.invokevirtual 356, 3) := by decide +kernel
theorem dX10_daysGo_65 : decode cX10_daysGo 65 = .ok (.aload_n 0, 1) := by decide +kernel
theorem dX10_daysGo_66 : decode cX10_daysGo 66 = .ok (.aload_n 0, 1) := by decide +kernel
theorem dX10_daysGo_67 : decode cX10_daysGo 67 = .ok (.getfield 353, 3) := by decide +kernel
theorem dX10_daysGo_70 : decode cX10_daysGo 70 = .ok (.iconst 1, 1) := by decide +kernel
theorem dX10_daysGo_71 : decode cX10_daysGo 71 = .ok (.iadd, 1) := by decide +kernel
theorem dX10_daysGo_72 : decode cX10_daysGo 72 = .ok (.putfield 353, 3) := by decide +kernel
theorem dX10_daysGo_75 : decode cX10_daysGo 75 = .ok (.iinc 2 1, 3) := by decide +kernel
theorem dX10_daysGo_78 : decode cX10_daysGo 78 = .ok (.goto (-35), 3) := by decide +kernel
theorem dX10_daysGo_81 : decode cX10_daysGo 81 = .ok (.return_, 1) := by decide +kernel
theorem dX10_does_0 : decode cX10_does 0 = .ok (.iload_n 2, 1) := by decide +kernel
theorem dX10_does_1 : decode cX10_does 1 = .ok (.aload_n 0, 1) := by decide +kernel
theorem dX10_does_2 : decode cX10_does 2 = .ok (.getfield 119, 3) := by decide +kernel
theorem dX10_does_5 : decode cX10_does 5 = .ok (.iload_n 1, 1) := by decide +kernel
theorem dX10_does_6 : decode cX10_does 6 = .ok (.iaload, 1) := by decide +kernel
theorem dX10_does_7 : decode cX10_does 7 = .ok (.invokestatic 319, 3) := by decide +kernel
theorem dX10_does_10 : decode cX10_does 10 = .ok (.istore_n 3, 1) := by decide +kernel
theorem dX10_does_11 : decode cX10_does 11 = .ok (.aload_n 0, 1) := by decide +kernel
theorem dX10_does_12 : decode cX10_does 12 = .ok (.getfield 119, 3) := by decide +kernel
theorem dX10_does_15 : decode cX10_does 15 = .ok (.iload_n 1, 1) := by decide +kernel
theorem dX10_does_16 : decode cX10_does 16 = .ok (.aload_n 0, 1) := by decide +kernel
theorem dX10_does_17 : decode cX10_does 17 = .ok (.getfield 119, 3) := by decide +kernel
theorem dX10_does_20 : decode cX10_does 20 = .ok (.iload_n 1, 1) := by decide +kernel
theorem dX10_does_21 : decode cX10_does 21 = .ok (.iaload, 1) := by decide +kernel
theorem dX10_does_22 : decode cX10_does 22 = .ok (.iload_n 3, 1) := by decide +kernel
theorem dX10_does_23 : decode cX10_does 23 = .ok (.isub, 1) := by decide +kernel
theorem dX10_does_24 : decode cX10_does 24 = .ok (.iastore, 1) := by decide +kernel
theorem dX10_does_25 : decode cX10_does 25 = .ok (.aload_n 0, 1) := by decide +kernel
theorem dX10_does_26 : decode cX10_does 26 = .ok (.getfield 122, 3) := by decide +kernel
theorem dX10_does_29 : decode cX10_does 29 = .ok (.iload_n 1, 1) := by decide +kernel
theorem dX10_does_30 : decode cX10_does 30 = .ok (.aload_n 0, 1) := by decide +kernel
theorem dX10_does_31 : decode cX10_does 31 = .ok (.getfield 122, 3) := by decide +kernel
theorem dX10_does_34 : decode cX10_does 34 = .ok (.iload_n 1, 1) := by decide +kernel
theorem dX10_does_35 : decode cX10_does 35 = .ok (.iaload, 1) := by decide +kernel
theorem dX10_does_36 : decode cX10_does 36 = .ok (.iload_n 3, 1) := by decide +kernel
theorem dX10_does_37 : decode cX10_does 37 = .ok (.iadd, 1) := by decide +kernel
theorem dX10_does_38 : decode cX10_does 38 = .ok (.iastore, 1) := by decide +kernel
theorem dX10_does_39 : decode cX10_does 39 = .ok (.aload_n 0, 1) := by decide +kernel
theorem dX10_does_40 : decode cX10_does 40 = .ok (.aload_n 0, 1) := by decide +kernel
theorem dX10_does_41 : decode cX10_does 41 = .ok (.getfield 322, 3) := by decide +kernel
theorem dX10_does_44 : decode cX10_does 44 = .ok (.iload_n 3, 1) := by decide +kernel
theorem dX10_does_45 : decode cX10_does 45 = .ok (.iadd, 1) := by decide +kernel
theorem dX10_does_46 : decode cX10_does 46 = .ok (.putfield 322, 3) := by decide +kernel
theorem dX10_does_49 : decode cX10_does 49 = .ok (.iload_n 2, 1) := by decide +kernel
theorem dX10_does_50 : decode cX10_does 50 = .ok (.iload_n 3, 1) := by decide +kernel
theorem dX10_does_51 : decode cX10_does 51 = .ok (.isub, 1) := by decide +kernel
theorem dX10_does_52 : decode cX10_does 52 = .ok (.ireturn, 1) := by decide +kernel
theorem dX10_holdsAny_0 : decode cX10_holdsAny 0 = .ok (.iconst 0, 1) := by decide +kernel
theorem dX10_holdsAny_1 : decode cX10_holdsAny 1 = .ok (.istore_n 2, 1) := by decide +kernel
theorem dX10_holdsAny_2 : decode cX10_holdsAny 2 = .ok (.iload_n 2, 1) := by decide +kernel
theorem dX10_holdsAny_3 : decode cX10_holdsAny 3 = .ok (.aload_n 0, 1) := by decide +kernel
theorem dX10_holdsAny_4 : decode cX10_holdsAny 4 = .ok (.getfield 265, 3) := by decide +kernel
theorem dX10_holdsAny_7 : decode cX10_holdsAny 7 = .ok (.if_icmp .ge 41, 3) := by decide +kernel
theorem dX10_holdsAny_10 : decode cX10_holdsAny 10 = .ok (.aload_n 0, 1) := by decide +kernel
theorem dX10_holdsAny_11 : decode cX10_holdsAny 11 = .ok (.getfield 68, 3) := by decide +kernel
theorem dX10_holdsAny_14 : decode cX10_holdsAny 14 = .ok (.iload_n 2, 1) := by decide +kernel
theorem dX10_holdsAny_15 : decode cX10_holdsAny 15 = .ok (.iaload, 1) := by decide +kernel
theorem dX10_holdsAny_16 : decode cX10_holdsAny 16 = .ok (.iload_n 1, 1) := by decide +kernel
theorem dX10_holdsAny_17 : decode cX10_holdsAny 17 = .ok (.if_icmp .ne 25, 3) := by decide +kernel
theorem dX10_holdsAny_20 : decode cX10_holdsAny 20 = .ok (.aload_n 0, 1) := by decide +kernel
theorem dX10_holdsAny_21 : decode cX10_holdsAny 21 = .ok (.aload_n 0, 1) := by decide +kernel
theorem dX10_holdsAny_22 : decode cX10_holdsAny 22 = .ok (.getfield 74, 3) := by decide +kernel
theorem dX10_holdsAny_25 : decode cX10_holdsAny 25 = .ok (.iload_n 2, 1) := by decide +kernel
theorem dX10_holdsAny_26 : decode cX10_holdsAny 26 = .ok (.iaload, 1) := by decide +kernel
theorem dX10_holdsAny_27 : decode cX10_holdsAny 27 = .ok (.aload_n 0, 1) := by decide +kernel
theorem dX10_holdsAny_28 : decode cX10_holdsAny 28 = .ok (.getfield 77, 3) := by decide +kernel
theorem dX10_holdsAny_31 : decode cX10_holdsAny 31 = .ok (.iload_n 2, 1) := by decide +kernel
theorem dX10_holdsAny_32 : decode cX10_holdsAny 32 = .ok (.iaload, 1) := by decide +kernel
theorem dX10_holdsAny_33 : decode cX10_holdsAny 33 = .ok (.invokevirtual 272, 3) := by decide +kernel
theorem dX10_holdsAny_36 : decode cX10_holdsAny 36 = .ok (.iconst 1, 1) := by decide +kernel
theorem dX10_holdsAny_37 : decode cX10_holdsAny 37 = .ok (.if_icmp .ne 5, 3) := by decide +kernel
theorem dX10_holdsAny_40 : decode cX10_holdsAny 40 = .ok (.iconst 1, 1) := by decide +kernel
theorem dX10_holdsAny_41 : decode cX10_holdsAny 41 = .ok (.ireturn, 1) := by decide +kernel
theorem dX10_holdsAny_42 : decode cX10_holdsAny 42 = .ok (.iinc 2 1, 3) := by decide +kernel
theorem dX10_holdsAny_45 : decode cX10_holdsAny 45 = .ok (.goto (-43), 3) := by decide +kernel
theorem dX10_holdsAny_48 : decode cX10_holdsAny 48 = .ok (.iconst 0, 1) := by decide +kernel
theorem dX10_holdsAny_49 : decode cX10_holdsAny 49 = .ok (.ireturn, 1) := by decide +kernel
theorem dX10_trial_0 : decode cX10_trial 0 = .ok (.aload_n 0, 1) := by decide +kernel
theorem dX10_trial_1 : decode cX10_trial 1 = .ok (.getfield 7, 3) := by decide +kernel
theorem dX10_trial_4 : decode cX10_trial 4 = .ok (.aload_n 0, 1) := by decide +kernel
theorem dX10_trial_5 : decode cX10_trial 5 = .ok (.getfield 13, 3) := by decide +kernel
theorem dX10_trial_8 : decode cX10_trial 8 = .ok (.bipush 15, 2) := by decide +kernel
theorem dX10_trial_10 : decode cX10_trial 10 = .ok (.invokestatic 359, 3) := by decide +kernel
theorem dX10_trial_13 : decode cX10_trial 13 = .ok (.aload_n 0, 1) := by decide +kernel
theorem dX10_trial_14 : decode cX10_trial 14 = .ok (.iload_n 1, 1) := by decide +kernel
theorem dX10_trial_15 : decode cX10_trial 15 = .ok (.invokevirtual 363, 3) := by decide +kernel
theorem dX10_trial_18 : decode cX10_trial 18 = .ok (.aload_n 0, 1) := by decide +kernel
theorem dX10_trial_19 : decode cX10_trial 19 = .ok (.getfield 7, 3) := by decide +kernel
theorem dX10_trial_22 : decode cX10_trial 22 = .ok (.bipush 12, 2) := by decide +kernel
theorem dX10_trial_24 : decode cX10_trial 24 = .ok (.iaload, 1) := by decide +kernel
theorem dX10_trial_25 : decode cX10_trial 25 = .ok (.aload_n 0, 1) := by decide +kernel
theorem dX10_trial_26 : decode cX10_trial 26 = .ok (.getfield 13, 3) := by decide +kernel
theorem dX10_trial_29 : decode cX10_trial 29 = .ok (.bipush 12, 2) := by decide +kernel
theorem dX10_trial_31 : decode cX10_trial 31 = .ok (.iaload, 1) := by decide +kernel
theorem dX10_trial_32 : decode cX10_trial 32 = .ok (.isub, 1) := by decide +kernel
