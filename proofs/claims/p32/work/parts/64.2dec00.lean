theorem dX10_isClause_0 : decode cX10_isClause 0 = .ok (.iload_n 0, 1) := by decide +kernel
theorem dX10_isClause_1 : decode cX10_isClause 1 = .ok (.bipush 109, 2) := by decide +kernel
theorem dX10_isClause_3 : decode cX10_isClause 3 = .ok (.if_icmp .eq 21, 3) := by decide +kernel
theorem dX10_isClause_6 : decode cX10_isClause 6 = .ok (.iload_n 0, 1) := by decide +kernel
theorem dX10_isClause_7 : decode cX10_isClause 7 = .ok (.bipush 110, 2) := by decide +kernel
theorem dX10_isClause_9 : decode cX10_isClause 9 = .ok (.if_icmp .eq 15, 3) := by decide +kernel
theorem dX10_isClause_12 : decode cX10_isClause 12 = .ok (.iload_n 0, 1) := by decide +kernel
theorem dX10_isClause_13 : decode cX10_isClause 13 = .ok (.bipush 99, 2) := by decide +kernel
theorem dX10_isClause_15 : decode cX10_isClause 15 = .ok (.if_icmp .eq 9, 3) := by decide +kernel
theorem dX10_isClause_18 : decode cX10_isClause 18 = .ok (.iload_n 0, 1) := by decide +kernel
theorem dX10_isClause_19 : decode cX10_isClause 19 = .ok (.bipush 107, 2) := by decide +kernel
theorem dX10_isClause_21 : decode cX10_isClause 21 = .ok (.if_icmp .ne 7, 3) := by decide +kernel
theorem dX10_isClause_24 : decode cX10_isClause 24 = .ok (.iconst 1, 1) := by decide +kernel
theorem dX10_isClause_25 : decode cX10_isClause 25 = .ok (.goto 4, 3) := by decide +kernel
theorem dX10_isClause_28 : decode cX10_isClause 28 = .ok (.iconst 0, 1) := by decide +kernel
theorem dX10_isClause_29 : decode cX10_isClause 29 = .ok (.ireturn, 1) := by decide +kernel
theorem dX10_law_0 : decode cX10_law 0 = .ok (.iload_n 1, 1) := by decide +kernel
theorem dX10_law_1 : decode cX10_law 1 = .ok (.iconst 1, 1) := by decide +kernel
theorem dX10_law_2 : decode cX10_law 2 = .ok (.sipush 240, 3) := by decide +kernel
theorem dX10_law_5 : decode cX10_law 5 = .ok (.invokestatic 157, 3) := by decide +kernel
theorem dX10_law_8 : decode cX10_law 8 = .ok (.ifCond .eq 11, 3) := by decide +kernel
theorem dX10_law_11 : decode cX10_law 11 = .ok (.iload_n 1, 1) := by decide +kernel
theorem dX10_law_12 : decode cX10_law 12 = .ok (.aload_n 0, 1) := by decide +kernel
theorem dX10_law_13 : decode cX10_law 13 = .ok (.getfield 164, 3) := by decide +kernel
theorem dX10_law_16 : decode cX10_law 16 = .ok (.if_icmp .le 5, 3) := by decide +kernel
theorem dX10_law_19 : decode cX10_law 19 = .ok (.iconst (-1), 1) := by decide +kernel
theorem dX10_law_20 : decode cX10_law 20 = .ok (.ireturn, 1) := by decide +kernel
theorem dX10_law_21 : decode cX10_law 21 = .ok (.aload_n 0, 1) := by decide +kernel
theorem dX10_law_22 : decode cX10_law 22 = .ok (.iconst 0, 1) := by decide +kernel
theorem dX10_law_23 : decode cX10_law 23 = .ok (.putfield 171, 3) := by decide +kernel
theorem dX10_law_26 : decode cX10_law 26 = .ok (.aload_n 0, 1) := by decide +kernel
theorem dX10_law_27 : decode cX10_law 27 = .ok (.iload_n 1, 1) := by decide +kernel
theorem dX10_law_28 : decode cX10_law 28 = .ok (.putfield 174, 3) := by decide +kernel
theorem dX10_law_31 : decode cX10_law 31 = .ok (.aload_n 0, 1) := by decide +kernel
theorem dX10_law_32 : decode cX10_law 32 = .ok (.iconst 0, 1) := by decide +kernel
theorem dX10_law_33 : decode cX10_law 33 = .ok (.putfield 194, 3) := by decide +kernel
theorem dX10_law_36 : decode cX10_law 36 = .ok (.aload_n 0, 1) := by decide +kernel
theorem dX10_law_37 : decode cX10_law 37 = .ok (.iconst 0, 1) := by decide +kernel
theorem dX10_law_38 : decode cX10_law 38 = .ok (.putfield 253, 3) := by decide +kernel
theorem dX10_law_41 : decode cX10_law 41 = .ok (.aload_n 0, 1) := by decide +kernel
theorem dX10_law_42 : decode cX10_law 42 = .ok (.invokevirtual 259, 3) := by decide +kernel
theorem dX10_law_45 : decode cX10_law 45 = .ok (.istore_n 2, 1) := by decide +kernel
theorem dX10_law_46 : decode cX10_law 46 = .ok (.iload_n 2, 1) := by decide +kernel
theorem dX10_law_47 : decode cX10_law 47 = .ok (.ifCond .eq 39, 3) := by decide +kernel
theorem dX10_law_50 : decode cX10_law 50 = .ok (.aload_n 0, 1) := by decide +kernel
theorem dX10_law_51 : decode cX10_law 51 = .ok (.getfield 171, 3) := by decide +kernel
theorem dX10_law_54 : decode cX10_law 54 = .ok (.aload_n 0, 1) := by decide +kernel
theorem dX10_law_55 : decode cX10_law 55 = .ok (.getfield 174, 3) := by decide +kernel
theorem dX10_law_58 : decode cX10_law 58 = .ok (.if_icmp .ge 28, 3) := by decide +kernel
theorem dX10_law_61 : decode cX10_law 61 = .ok (.aload_n 0, 1) := by decide +kernel
theorem dX10_law_62 : decode cX10_law 62 = .ok (.bipush 59, 2) := by decide +kernel
theorem dX10_law_64 : decode cX10_law 64 = .ok (.invokevirtual 262, 3) := by decide +kernel
theorem dX10_law_67 : decode cX10_law 67 = .ok (.ifCond .eq 14, 3) := by decide +kernel
theorem dX10_law_70 : decode cX10_law 70 = .ok (.aload_n 0, 1) := by decide +kernel
theorem dX10_law_71 : decode cX10_law 71 = .ok (.invokevirtual 259, 3) := by decide +kernel
theorem dX10_law_74 : decode cX10_law 74 = .ok (.ifCond .eq 7, 3) := by decide +kernel
theorem dX10_law_77 : decode cX10_law 77 = .ok (.iconst 1, 1) := by decide +kernel
theorem dX10_law_78 : decode cX10_law 78 = .ok (.goto 4, 3) := by decide +kernel
theorem dX10_law_81 : decode cX10_law 81 = .ok (.iconst 0, 1) := by decide +kernel
theorem dX10_law_82 : decode cX10_law 82 = .ok (.istore_n 2, 1) := by decide +kernel
theorem dX10_law_83 : decode cX10_law 83 = .ok (.goto (-37), 3) := by decide +kernel
theorem dX10_law_86 : decode cX10_law 86 = .ok (.aload_n 0, 1) := by decide +kernel
theorem dX10_law_87 : decode cX10_law 87 = .ok (.iconst 0, 1) := by decide +kernel
theorem dX10_law_88 : decode cX10_law 88 = .ok (.putfield 164, 3) := by decide +kernel
theorem dX10_law_91 : decode cX10_law 91 = .ok (.iload_n 2, 1) := by decide +kernel
theorem dX10_law_92 : decode cX10_law 92 = .ok (.ifCond .ne 8, 3) := by decide +kernel
theorem dX10_law_95 : decode cX10_law 95 = .ok (.aload_n 0, 1) := by decide +kernel
theorem dX10_law_96 : decode cX10_law 96 = .ok (.getfield 181, 3) := by decide +kernel
theorem dX10_law_99 : decode cX10_law 99 = .ok (.ireturn, 1) := by decide +kernel
theorem dX10_law_100 : decode cX10_law 100 = .ok (.aload_n 0, 1) := by decide +kernel
theorem dX10_law_101 : decode cX10_law 101 = .ok (.aload_n 0, 1) := by decide +kernel
theorem dX10_law_102 : decode cX10_law 102 = .ok (.getfield 253, 3) := by decide +kernel
theorem dX10_law_105 : decode cX10_law 105 = .ok (.putfield 265, 3) := by decide +kernel
theorem dX10_law_108 : decode cX10_law 108 = .ok (.iconst 0, 1) := by decide +kernel
theorem dX10_law_109 : decode cX10_law 109 = .ok (.istore_n 3, 1) := by decide +kernel
theorem dX10_law_110 : decode cX10_law 110 = .ok (.iload_n 3, 1) := by decide +kernel
theorem dX10_law_111 : decode cX10_law 111 = .ok (.aload_n 0, 1) := by decide +kernel
theorem dX10_law_112 : decode cX10_law 112 = .ok (.getfield 194, 3) := by decide +kernel
theorem dX10_law_115 : decode cX10_law 115 = .ok (.if_icmp .ge 21, 3) := by decide +kernel
theorem dX10_law_118 : decode cX10_law 118 = .ok (.aload_n 0, 1) := by decide +kernel
theorem dX10_law_119 : decode cX10_law 119 = .ok (.getfield 65, 3) := by decide +kernel
theorem dX10_law_122 : decode cX10_law 122 = .ok (.iload_n 3, 1) := by decide +kernel
theorem dX10_law_123 : decode cX10_law 123 = .ok (.aload_n 0, 1) := by decide +kernel
theorem dX10_law_124 : decode cX10_law 124 = .ok (.getfield 47, 3) := by decide +kernel
theorem dX10_law_127 : decode cX10_law 127 = .ok (.iload_n 3, 1) := by decide +kernel
theorem dX10_law_128 : decode cX10_law 128 = .ok (.iaload, 1) := by decide +kernel
theorem dX10_law_129 : decode cX10_law 129 = .ok (.iastore, 1) := by decide +kernel
theorem dX10_law_130 : decode cX10_law 130 = .ok (.iinc 3 1, 3) := by decide +kernel
theorem dX10_law_133 : decode cX10_law 133 = .ok (.goto (-23), 3) := by decide +kernel
theorem dX10_law_136 : decode cX10_law 136 = .ok (.iconst 0, 1) := by decide +kernel
theorem dX10_law_137 : decode cX10_law 137 = .ok (.istore_n 3, 1) := by decide +kernel
theorem dX10_law_138 : decode cX10_law 138 = .ok (.iload_n 3, 1) := by decide +kernel
theorem dX10_law_139 : decode cX10_law 139 = .ok (.aload_n 0, 1) := by decide +kernel
theorem dX10_law_140 : decode cX10_law 140 = .ok (.getfield 253, 3) := by decide +kernel
theorem dX10_law_143 : decode cX10_law 143 = .ok (.if_icmp .ge 57, 3) := by decide +kernel
theorem dX10_law_146 : decode cX10_law 146 = .ok (.aload_n 0, 1) := by decide +kernel
theorem dX10_law_147 : decode cX10_law 147 = .ok (.getfield 68, 3) := by decide +kernel
theorem dX10_law_150 : decode cX10_law 150 = .ok (.iload_n 3, 1) := by decide +kernel
theorem dX10_law_151 : decode cX10_law 151 = .ok (.aload_n 0, 1) := by decide +kernel
theorem dX10_law_152 : decode cX10_law 152 = .ok (.getfield 53, 3) := by decide +kernel
theorem dX10_law_155 : decode cX10_law 155 = .ok (.iload_n 3, 1) := by decide +kernel
theorem dX10_law_156 : decode cX10_law 156 = .ok (.iaload, 1) := by decide +kernel
theorem dX10_law_157 : decode cX10_law 157 = .ok (.iastore, 1) := by decide +kernel
theorem dX10_law_158 : decode cX10_law 158 = .ok (.aload_n 0, 1) := by decide +kernel
theorem dX10_law_159 : decode cX10_law 159 = .ok (.getfield 71, 3) := by decide +kernel
theorem dX10_law_162 : decode cX10_law 162 = .ok (.iload_n 3, 1) := by decide +kernel
theorem dX10_law_163 : decode cX10_law 163 = .ok (.aload_n 0, 1) := by decide +kernel
theorem dX10_law_164 : decode cX10_law 164 = .ok (.getfield 56, 3) := by decide +kernel
theorem dX10_law_167 : decode cX10_law 167 = .ok (.iload_n 3, 1) := by decide +kernel
theorem dX10_law_168 : decode cX10_law 168 = .ok (.iaload, 1) := by decide +kernel
theorem dX10_law_169 : decode cX10_law 169 = .ok (.iastore, 1) := by decide +kernel
theorem dX10_law_170 : decode cX10_law 170 = .ok (.aload_n 0, 1) := by decide +kernel
theorem dX10_law_171 : decode cX10_law 171 = .ok (.getfield 74, 3) := by decide +kernel
theorem dX10_law_174 : decode cX10_law 174 = .ok (.iload_n 3, 1) := by decide +kernel
theorem dX10_law_175 : decode cX10_law 175 = .ok (.aload_n 0, 1) := by decide +kernel
theorem dX10_law_176 : decode cX10_law 176 = .ok (.getfield 59, 3) := by decide +kernel
theorem dX10_law_179 : decode cX10_law 179 = .ok (.iload_n 3, 1) := by decide +kernel
theorem dX10_law_180 : decode cX10_law 180 = .ok (.iaload, 1) := by decide +kernel
theorem dX10_law_181 : decode cX10_law 181 = .ok (.iastore, 1) := by decide +kernel
theorem dX10_law_182 : decode cX10_law 182 = .ok (.aload_n 0, 1) := by decide +kernel
theorem dX10_law_183 : decode cX10_law 183 = .ok (.getfield 77, 3) := by decide +kernel
theorem dX10_law_186 : decode cX10_law 186 = .ok (.iload_n 3, 1) := by decide +kernel
theorem dX10_law_187 : decode cX10_law 187 = .ok (.aload_n 0, 1) := by decide +kernel
theorem dX10_law_188 : decode cX10_law 188 = .ok (.getfield 62, 3) := by decide +kernel
theorem dX10_law_191 : decode cX10_law 191 = .ok (.iload_n 3, 1) := by decide +kernel
theorem dX10_law_192 : decode cX10_law 192 = .ok (.iaload, 1) := by decide +kernel
theorem dX10_law_193 : decode cX10_law 193 = .ok (.iastore, 1) := by decide +kernel
theorem dX10_law_194 : decode cX10_law 194 = .ok (.iinc 3 1, 3) := by decide +kernel
theorem dX10_law_197 : decode cX10_law 197 = .ok (.goto (-59), 3) := by decide +kernel
theorem dX10_law_200 : decode cX10_law 200 = .ok (.aload_n 0, 1) := by decide +kernel
theorem dX10_law_201 : decode cX10_law 201 = .ok (.getfield 253, 3) := by decide +kernel
theorem dX10_law_204 : decode cX10_law 204 = .ok (.ireturn, 1) := by decide +kernel
theorem dX10_readsClause_0 : decode cX10_readsClause 0 = .ok (.aload_n 0, 1) := by decide +kernel
theorem dX10_readsClause_1 : decode cX10_readsClause 1 = .ok (.invokevirtual 177, 3) := by decide +kernel
theorem dX10_readsClause_4 : decode cX10_readsClause 4 = .ok (.istore_n 1, 1) := by decide +kernel
theorem dX10_readsClause_5 : decode cX10_readsClause 5 = .ok (.iload_n 1, 1) := by decide +kernel
theorem dX10_readsClause_6 : decode cX10_readsClause 6 = .ok (.invokestatic 250, 3) := by decide +kernel
theorem dX10_readsClause_9 : decode cX10_readsClause 9 = .ok (.ifCond .ne 13, 3) := by decide +kernel
theorem dX10_readsClause_12 : decode cX10_readsClause 12 = .ok (.aload_n 0, 1) := by decide +kernel
theorem dX10_readsClause_13 : decode cX10_readsClause 13 = .ok (.iconst 1, 1) := by decide +kernel
theorem dX10_readsClause_14 : decode cX10_readsClause 14 = .ok (.aload_n 0, 1) := by decide +kernel
theorem dX10_readsClause_15 : decode cX10_readsClause 15 = .ok (.getfield 171, 3) := by decide +kernel
theorem dX10_readsClause_18 : decode cX10_readsClause 18 = .ok (.invokevirtual 184, 3) := by decide +kernel
theorem dX10_readsClause_21 : decode cX10_readsClause 21 = .ok (.ireturn, 1) := by decide +kernel
theorem dX10_readsClause_22 : decode cX10_readsClause 22 = .ok (.aload_n 0, 1) := by decide +kernel
theorem dX10_readsClause_23 : decode cX10_readsClause 23 = .ok (.getfield 253, 3) := by decide +kernel
theorem dX10_readsClause_26 : decode cX10_readsClause 26 = .ok (.bipush 16, 2) := by decide +kernel
theorem dX10_readsClause_28 : decode cX10_readsClause 28 = .ok (.if_icmp .ne 13, 3) := by decide +kernel
theorem dX10_readsClause_31 : decode cX10_readsClause 31 = .ok (.aload_n 0, 1) := by decide +kernel
theorem dX10_readsClause_32 : decode cX10_readsClause 32 = .ok (.iconst 4, 1) := by decide +kernel
theorem dX10_readsClause_33 : decode cX10_readsClause 33 = .ok (.aload_n 0, 1) := by decide +kernel
theorem dX10_readsClause_34 : decode cX10_readsClause 34 = .ok (.getfield 171, 3) := by decide +kernel
theorem dX10_readsClause_37 : decode cX10_readsClause 37 = .ok (.invokevirtual 184, 3) := by decide +kernel
theorem dX10_readsClause_40 : decode cX10_readsClause 40 = .ok (.ireturn, 1) := by decide +kernel
theorem dX10_readsClause_41 : decode cX10_readsClause 41 = .ok (.aload_n 0, 1) := by decide +kernel
theorem dX10_readsClause_42 : decode cX10_readsClause 42 = .ok (.getfield 53, 3) := by decide +kernel
theorem dX10_readsClause_45 : decode cX10_readsClause 45 = .ok (.aload_n 0, 1) := by decide +kernel
theorem dX10_readsClause_46 : decode cX10_readsClause 46 = .ok (.getfield 253, 3) := by decide +kernel
theorem dX10_readsClause_49 : decode cX10_readsClause 49 = .ok (.iload_n 1, 1) := by decide +kernel
theorem dX10_readsClause_50 : decode cX10_readsClause 50 = .ok (.iastore, 1) := by decide +kernel
theorem dX10_readsClause_51 : decode cX10_readsClause 51 = .ok (.aload_n 0, 1) := by decide +kernel
theorem dX10_readsClause_52 : decode cX10_readsClause 52 = .ok (.aload_n 0, 1) := by decide +kernel
theorem dX10_readsClause_53 : decode cX10_readsClause 53 = .ok (.getfield 171, 3) := by decide +kernel
theorem dX10_readsClause_56 : decode cX10_readsClause 56 = .ok (.iconst 1, 1) := by decide +kernel
theorem dX10_readsClause_57 : decode cX10_readsClause 57 = .ok (.iadd, 1) := by decide +kernel
theorem dX10_readsClause_58 : decode cX10_readsClause 58 = .ok (.putfield 171, 3) := by decide +kernel
theorem dX10_readsClause_61 : decode cX10_readsClause 61 = .ok (.aload_n 0, 1) := by decide +kernel
theorem dX10_readsClause_62 : decode cX10_readsClause 62 = .ok (.getfield 56, 3) := by decide +kernel
theorem dX10_readsClause_65 : decode cX10_readsClause 65 = .ok (.aload_n 0, 1) := by decide +kernel
theorem dX10_readsClause_66 : decode cX10_readsClause 66 = .ok (.getfield 253, 3) := by decide +kernel
theorem dX10_readsClause_69 : decode cX10_readsClause 69 = .ok (.aload_n 0, 1) := by decide +kernel
theorem dX10_readsClause_70 : decode cX10_readsClause 70 = .ok (.getfield 194, 3) := by decide +kernel
theorem dX10_readsClause_73 : decode cX10_readsClause 73 = .ok (.iastore, 1) := by decide +kernel
theorem dX10_readsClause_74 : decode cX10_readsClause 74 = .ok (.aload_n 0, 1) := by decide +kernel
theorem dX10_readsClause_75 : decode cX10_readsClause 75 = .ok (.iconst 0, 1) := by decide +kernel
theorem dX10_readsClause_76 : decode cX10_readsClause 76 = .ok (.putfield 198, 3) := by decide +kernel
theorem dX10_readsClause_79 : decode cX10_readsClause 79 = .ok (.aload_n 0, 1) := by decide +kernel
theorem dX10_readsClause_80 : decode cX10_readsClause 80 = .ok (.iconst 0, 1) := by decide +kernel
theorem dX10_readsClause_81 : decode cX10_readsClause 81 = .ok (.putfield 201, 3) := by decide +kernel
theorem dX10_readsClause_84 : decode cX10_readsClause 84 = .ok (.iload_n 1, 1) := by decide +kernel
theorem dX10_readsClause_85 : decode cX10_readsClause 85 = .ok (.bipush 107, 2) := by decide +kernel
theorem dX10_readsClause_87 : decode cX10_readsClause 87 = .ok (.if_icmp .eq 12, 3) := by decide +kernel
theorem dX10_readsClause_90 : decode cX10_readsClause 90 = .ok (.aload_n 0, 1) := by decide +kernel
theorem dX10_readsClause_91 : decode cX10_readsClause 91 = .ok (.invokevirtual 235, 3) := by decide +kernel
theorem dX10_readsClause_94 : decode cX10_readsClause 94 = .ok (.ifCond .ne 5, 3) := by decide +kernel
theorem dX10_readsClause_97 : decode cX10_readsClause 97 = .ok (.iconst 0, 1) := by decide +kernel
theorem dX10_readsClause_98 : decode cX10_readsClause 98 = .ok (.ireturn, 1) := by decide +kernel
theorem dX10_readsClause_99 : decode cX10_readsClause 99 = .ok (.aload_n 0, 1) := by decide +kernel
theorem dX10_readsClause_100 : decode cX10_readsClause 100 = .ok (.getfield 59, 3) := by decide +kernel
theorem dX10_readsClause_103 : decode cX10_readsClause 103 = .ok (.aload_n 0, 1) := by decide +kernel
theorem dX10_readsClause_104 : decode cX10_readsClause 104 = .ok (.getfield 253, 3) := by decide +kernel
theorem dX10_readsClause_107 : decode cX10_readsClause 107 = .ok (.aload_n 0, 1) := by decide +kernel
theorem dX10_readsClause_108 : decode cX10_readsClause 108 = .ok (.getfield 194, 3) := by decide +kernel
theorem dX10_readsClause_111 : decode cX10_readsClause 111 = .ok (.iastore, 1) := by decide +kernel
theorem dX10_readsClause_112 : decode cX10_readsClause 112 = .ok (.aload_n 0, 1) := by decide +kernel
theorem dX10_readsClause_113 : decode cX10_readsClause 113 = .ok (.invokevirtual 256, 3) := by decide +kernel
theorem dX10_readsClause_116 : decode cX10_readsClause 116 = .ok (.ifCond .ne 5, 3) := by decide +kernel
theorem dX10_readsClause_119 : decode cX10_readsClause 119 = .ok (.iconst 0, 1) := by decide +kernel
theorem dX10_readsClause_120 : decode cX10_readsClause 120 = .ok (.ireturn, 1) := by decide +kernel
theorem dX10_readsClause_121 : decode cX10_readsClause 121 = .ok (.aload_n 0, 1) := by decide +kernel
theorem dX10_readsClause_122 : decode cX10_readsClause 122 = .ok (.getfield 62, 3) := by decide +kernel
theorem dX10_readsClause_125 : decode cX10_readsClause 125 = .ok (.aload_n 0, 1) := by decide +kernel
theorem dX10_readsClause_126 : decode cX10_readsClause 126 = .ok (.getfield 253, 3) := by decide +kernel
theorem dX10_readsClause_129 : decode cX10_readsClause 129 = .ok (.aload_n 0, 1) := by decide +kernel
theorem dX10_readsClause_130 : decode cX10_readsClause 130 = .ok (.getfield 194, 3) := by decide +kernel
theorem dX10_readsClause_133 : decode cX10_readsClause 133 = .ok (.iastore, 1) := by decide +kernel
theorem dX10_readsClause_134 : decode cX10_readsClause 134 = .ok (.aload_n 0, 1) := by decide +kernel
theorem dX10_readsClause_135 : decode cX10_readsClause 135 = .ok (.aload_n 0, 1) := by decide +kernel
theorem dX10_readsClause_136 : decode cX10_readsClause 136 = .ok (.getfield 253, 3) := by decide +kernel
theorem dX10_readsClause_139 : decode cX10_readsClause 139 = .ok (.iconst 1, 1) := by decide +kernel
theorem dX10_readsClause_140 : decode cX10_readsClause 140 = .ok (.iadd, 1) := by decide +kernel
theorem dX10_readsClause_141 : decode cX10_readsClause 141 = .ok (.putfield 253, 3) := by decide +kernel
theorem dX10_readsClause_144 : decode cX10_readsClause 144 = .ok (.iconst 1, 1) := by decide +kernel
theorem dX10_readsClause_145 : decode cX10_readsClause 145 = .ok (.ireturn, 1) := by decide +kernel
