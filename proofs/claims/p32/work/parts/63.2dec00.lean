theorem dX10_readsCompared_0 : decode cX10_readsCompared 0 = .ok (.aload_n 0, 1) := by decide +kernel
theorem dX10_readsCompared_1 : decode cX10_readsCompared 1 = .ok (.invokevirtual 235, 3) := by decide +kernel
theorem dX10_readsCompared_4 : decode cX10_readsCompared 4 = .ok (.ifCond .ne 5, 3) := by decide +kernel
theorem dX10_readsCompared_7 : decode cX10_readsCompared 7 = .ok (.iconst 0, 1) := by decide +kernel
theorem dX10_readsCompared_8 : decode cX10_readsCompared 8 = .ok (.ireturn, 1) := by decide +kernel
theorem dX10_readsCompared_9 : decode cX10_readsCompared 9 = .ok (.aload_n 0, 1) := by decide +kernel
theorem dX10_readsCompared_10 : decode cX10_readsCompared 10 = .ok (.invokevirtual 177, 3) := by decide +kernel
theorem dX10_readsCompared_13 : decode cX10_readsCompared 13 = .ok (.bipush 60, 2) := by decide +kernel
theorem dX10_readsCompared_15 : decode cX10_readsCompared 15 = .ok (.if_icmp .ne 8, 3) := by decide +kernel
theorem dX10_readsCompared_18 : decode cX10_readsCompared 18 = .ok (.bipush 7, 2) := by decide +kernel
theorem dX10_readsCompared_20 : decode cX10_readsCompared 20 = .ok (.goto 32, 3) := by decide +kernel
theorem dX10_readsCompared_23 : decode cX10_readsCompared 23 = .ok (.aload_n 0, 1) := by decide +kernel
theorem dX10_readsCompared_24 : decode cX10_readsCompared 24 = .ok (.invokevirtual 177, 3) := by decide +kernel
theorem dX10_readsCompared_27 : decode cX10_readsCompared 27 = .ok (.bipush 62, 2) := by decide +kernel
theorem dX10_readsCompared_29 : decode cX10_readsCompared 29 = .ok (.if_icmp .ne 8, 3) := by decide +kernel
theorem dX10_readsCompared_32 : decode cX10_readsCompared 32 = .ok (.bipush 8, 2) := by decide +kernel
theorem dX10_readsCompared_34 : decode cX10_readsCompared 34 = .ok (.goto 18, 3) := by decide +kernel
theorem dX10_readsCompared_37 : decode cX10_readsCompared 37 = .ok (.aload_n 0, 1) := by decide +kernel
theorem dX10_readsCompared_38 : decode cX10_readsCompared 38 = .ok (.invokevirtual 177, 3) := by decide +kernel
theorem dX10_readsCompared_41 : decode cX10_readsCompared 41 = .ok (.bipush 61, 2) := by decide +kernel
theorem dX10_readsCompared_43 : decode cX10_readsCompared 43 = .ok (.if_icmp .ne 8, 3) := by decide +kernel
theorem dX10_readsCompared_46 : decode cX10_readsCompared 46 = .ok (.bipush 9, 2) := by decide +kernel
theorem dX10_readsCompared_48 : decode cX10_readsCompared 48 = .ok (.goto 4, 3) := by decide +kernel
theorem dX10_readsCompared_51 : decode cX10_readsCompared 51 = .ok (.iconst (-1), 1) := by decide +kernel
theorem dX10_readsCompared_52 : decode cX10_readsCompared 52 = .ok (.istore_n 1, 1) := by decide +kernel
theorem dX10_readsCompared_53 : decode cX10_readsCompared 53 = .ok (.iload_n 1, 1) := by decide +kernel
theorem dX10_readsCompared_54 : decode cX10_readsCompared 54 = .ok (.iconst (-1), 1) := by decide +kernel
theorem dX10_readsCompared_55 : decode cX10_readsCompared 55 = .ok (.if_icmp .ne 13, 3) := by decide +kernel
theorem dX10_readsCompared_58 : decode cX10_readsCompared 58 = .ok (.aload_n 0, 1) := by decide +kernel
theorem dX10_readsCompared_59 : decode cX10_readsCompared 59 = .ok (.iconst 1, 1) := by decide +kernel
theorem dX10_readsCompared_60 : decode cX10_readsCompared 60 = .ok (.aload_n 0, 1) := by decide +kernel
theorem dX10_readsCompared_61 : decode cX10_readsCompared 61 = .ok (.getfield 171, 3) := by decide +kernel
theorem dX10_readsCompared_64 : decode cX10_readsCompared 64 = .ok (.invokevirtual 184, 3) := by decide +kernel
theorem dX10_readsCompared_67 : decode cX10_readsCompared 67 = .ok (.ireturn, 1) := by decide +kernel
theorem dX10_readsCompared_68 : decode cX10_readsCompared 68 = .ok (.aload_n 0, 1) := by decide +kernel
theorem dX10_readsCompared_69 : decode cX10_readsCompared 69 = .ok (.aload_n 0, 1) := by decide +kernel
theorem dX10_readsCompared_70 : decode cX10_readsCompared 70 = .ok (.getfield 171, 3) := by decide +kernel
theorem dX10_readsCompared_73 : decode cX10_readsCompared 73 = .ok (.iconst 1, 1) := by decide +kernel
theorem dX10_readsCompared_74 : decode cX10_readsCompared 74 = .ok (.iadd, 1) := by decide +kernel
theorem dX10_readsCompared_75 : decode cX10_readsCompared 75 = .ok (.putfield 171, 3) := by decide +kernel
theorem dX10_readsCompared_78 : decode cX10_readsCompared 78 = .ok (.aload_n 0, 1) := by decide +kernel
theorem dX10_readsCompared_79 : decode cX10_readsCompared 79 = .ok (.invokevirtual 235, 3) := by decide +kernel
theorem dX10_readsCompared_82 : decode cX10_readsCompared 82 = .ok (.ifCond .ne 5, 3) := by decide +kernel
theorem dX10_readsCompared_85 : decode cX10_readsCompared 85 = .ok (.iconst 0, 1) := by decide +kernel
theorem dX10_readsCompared_86 : decode cX10_readsCompared 86 = .ok (.ireturn, 1) := by decide +kernel
theorem dX10_readsCompared_87 : decode cX10_readsCompared 87 = .ok (.aload_n 0, 1) := by decide +kernel
theorem dX10_readsCompared_88 : decode cX10_readsCompared 88 = .ok (.iload_n 1, 1) := by decide +kernel
theorem dX10_readsCompared_89 : decode cX10_readsCompared 89 = .ok (.iconst 0, 1) := by decide +kernel
theorem dX10_readsCompared_90 : decode cX10_readsCompared 90 = .ok (.invokevirtual 207, 3) := by decide +kernel
theorem dX10_readsCompared_93 : decode cX10_readsCompared 93 = .ok (.aload_n 0, 1) := by decide +kernel
theorem dX10_readsCompared_94 : decode cX10_readsCompared 94 = .ok (.invokevirtual 238, 3) := by decide +kernel
theorem dX10_readsCompared_97 : decode cX10_readsCompared 97 = .ok (.iconst 1, 1) := by decide +kernel
theorem dX10_readsCompared_98 : decode cX10_readsCompared 98 = .ok (.ireturn, 1) := by decide +kernel
theorem dX10_readsCondition_0 : decode cX10_readsCondition 0 = .ok (.aload_n 0, 1) := by decide +kernel
theorem dX10_readsCondition_1 : decode cX10_readsCondition 1 = .ok (.invokevirtual 177, 3) := by decide +kernel
theorem dX10_readsCondition_4 : decode cX10_readsCondition 4 = .ok (.bipush 40, 2) := by decide +kernel
theorem dX10_readsCondition_6 : decode cX10_readsCondition 6 = .ok (.if_icmp .eq 13, 3) := by decide +kernel
theorem dX10_readsCondition_9 : decode cX10_readsCondition 9 = .ok (.aload_n 0, 1) := by decide +kernel
theorem dX10_readsCondition_10 : decode cX10_readsCondition 10 = .ok (.iconst 1, 1) := by decide +kernel
theorem dX10_readsCondition_11 : decode cX10_readsCondition 11 = .ok (.aload_n 0, 1) := by decide +kernel
theorem dX10_readsCondition_12 : decode cX10_readsCondition 12 = .ok (.getfield 171, 3) := by decide +kernel
theorem dX10_readsCondition_15 : decode cX10_readsCondition 15 = .ok (.invokevirtual 184, 3) := by decide +kernel
theorem dX10_readsCondition_18 : decode cX10_readsCondition 18 = .ok (.ireturn, 1) := by decide +kernel
theorem dX10_readsCondition_19 : decode cX10_readsCondition 19 = .ok (.aload_n 0, 1) := by decide +kernel
theorem dX10_readsCondition_20 : decode cX10_readsCondition 20 = .ok (.iconst 0, 1) := by decide +kernel
theorem dX10_readsCondition_21 : decode cX10_readsCondition 21 = .ok (.putfield 198, 3) := by decide +kernel
theorem dX10_readsCondition_24 : decode cX10_readsCondition 24 = .ok (.aload_n 0, 1) := by decide +kernel
theorem dX10_readsCondition_25 : decode cX10_readsCondition 25 = .ok (.iconst 0, 1) := by decide +kernel
theorem dX10_readsCondition_26 : decode cX10_readsCondition 26 = .ok (.putfield 201, 3) := by decide +kernel
theorem dX10_readsCondition_29 : decode cX10_readsCondition 29 = .ok (.aload_n 0, 1) := by decide +kernel
theorem dX10_readsCondition_30 : decode cX10_readsCondition 30 = .ok (.bipush 13, 2) := by decide +kernel
theorem dX10_readsCondition_32 : decode cX10_readsCondition 32 = .ok (.invokevirtual 211, 3) := by decide +kernel
theorem dX10_readsCondition_35 : decode cX10_readsCondition 35 = .ok (.ifCond .ne 5, 3) := by decide +kernel
theorem dX10_readsCondition_38 : decode cX10_readsCondition 38 = .ok (.iconst 0, 1) := by decide +kernel
theorem dX10_readsCondition_39 : decode cX10_readsCondition 39 = .ok (.ireturn, 1) := by decide +kernel
theorem dX10_readsCondition_40 : decode cX10_readsCondition 40 = .ok (.aload_n 0, 1) := by decide +kernel
theorem dX10_readsCondition_41 : decode cX10_readsCondition 41 = .ok (.invokevirtual 177, 3) := by decide +kernel
theorem dX10_readsCondition_44 : decode cX10_readsCondition 44 = .ok (.bipush 33, 2) := by decide +kernel
theorem dX10_readsCondition_46 : decode cX10_readsCondition 46 = .ok (.if_icmp .eq 12, 3) := by decide +kernel
theorem dX10_readsCondition_49 : decode cX10_readsCondition 49 = .ok (.aload_n 0, 1) := by decide +kernel
theorem dX10_readsCondition_50 : decode cX10_readsCondition 50 = .ok (.invokevirtual 177, 3) := by decide +kernel
theorem dX10_readsCondition_53 : decode cX10_readsCondition 53 = .ok (.bipush 40, 2) := by decide +kernel
theorem dX10_readsCondition_55 : decode cX10_readsCondition 55 = .ok (.if_icmp .ne 28, 3) := by decide +kernel
theorem dX10_readsCondition_58 : decode cX10_readsCondition 58 = .ok (.aload_n 0, 1) := by decide +kernel
theorem dX10_readsCondition_59 : decode cX10_readsCondition 59 = .ok (.aload_n 0, 1) := by decide +kernel
theorem dX10_readsCondition_60 : decode cX10_readsCondition 60 = .ok (.invokevirtual 177, 3) := by decide +kernel
theorem dX10_readsCondition_63 : decode cX10_readsCondition 63 = .ok (.bipush 33, 2) := by decide +kernel
theorem dX10_readsCondition_65 : decode cX10_readsCondition 65 = .ok (.if_icmp .ne 8, 3) := by decide +kernel
theorem dX10_readsCondition_68 : decode cX10_readsCondition 68 = .ok (.bipush 10, 2) := by decide +kernel
theorem dX10_readsCondition_70 : decode cX10_readsCondition 70 = .ok (.goto 5, 3) := by decide +kernel
theorem dX10_readsCondition_73 : decode cX10_readsCondition 73 = .ok (.bipush 13, 2) := by decide +kernel
theorem dX10_readsCondition_75 : decode cX10_readsCondition 75 = .ok (.invokevirtual 211, 3) := by decide +kernel
theorem dX10_readsCondition_78 : decode cX10_readsCondition 78 = .ok (.ifCond .ne (-38), 3) := by decide +kernel
theorem dX10_readsCondition_81 : decode cX10_readsCondition 81 = .ok (.iconst 0, 1) := by decide +kernel
theorem dX10_readsCondition_82 : decode cX10_readsCondition 82 = .ok (.ireturn, 1) := by decide +kernel
theorem dX10_readsCondition_83 : decode cX10_readsCondition 83 = .ok (.aload_n 0, 1) := by decide +kernel
theorem dX10_readsCondition_84 : decode cX10_readsCondition 84 = .ok (.invokevirtual 241, 3) := by decide +kernel
theorem dX10_readsCondition_87 : decode cX10_readsCondition 87 = .ok (.ifCond .ne 5, 3) := by decide +kernel
theorem dX10_readsCondition_90 : decode cX10_readsCondition 90 = .ok (.iconst 0, 1) := by decide +kernel
theorem dX10_readsCondition_91 : decode cX10_readsCondition 91 = .ok (.ireturn, 1) := by decide +kernel
theorem dX10_readsCondition_92 : decode cX10_readsCondition 92 = .ok (.aload_n 0, 1) := by decide +kernel
theorem dX10_readsCondition_93 : decode cX10_readsCondition 93 = .ok (.invokevirtual 177, 3) := by decide +kernel
theorem dX10_readsCondition_96 : decode cX10_readsCondition 96 = .ok (.bipush 41, 2) := by decide +kernel
theorem dX10_readsCondition_98 : decode cX10_readsCondition 98 = .ok (.if_icmp .ne 54, 3) := by decide +kernel
theorem dX10_readsCondition_101 : decode cX10_readsCondition 101 = .ok (.aload_n 0, 1) := by decide +kernel
theorem dX10_readsCondition_102 : decode cX10_readsCondition 102 = .ok (.iconst 1, 1) := by decide +kernel
theorem dX10_readsCondition_103 : decode cX10_readsCondition 103 = .ok (.invokevirtual 244, 3) := by decide +kernel
theorem dX10_readsCondition_106 : decode cX10_readsCondition 106 = .ok (.aload_n 0, 1) := by decide +kernel
theorem dX10_readsCondition_107 : decode cX10_readsCondition 107 = .ok (.aload_n 0, 1) := by decide +kernel
theorem dX10_readsCondition_108 : decode cX10_readsCondition 108 = .ok (.getfield 201, 3) := by decide +kernel
theorem dX10_readsCondition_111 : decode cX10_readsCondition 111 = .ok (.iconst 1, 1) := by decide +kernel
theorem dX10_readsCondition_112 : decode cX10_readsCondition 112 = .ok (.isub, 1) := by decide +kernel
theorem dX10_readsCondition_113 : decode cX10_readsCondition 113 = .ok (.putfield 201, 3) := by decide +kernel
theorem dX10_readsCondition_116 : decode cX10_readsCondition 116 = .ok (.aload_n 0, 1) := by decide +kernel
theorem dX10_readsCondition_117 : decode cX10_readsCondition 117 = .ok (.aload_n 0, 1) := by decide +kernel
theorem dX10_readsCondition_118 : decode cX10_readsCondition 118 = .ok (.getfield 198, 3) := by decide +kernel
theorem dX10_readsCondition_121 : decode cX10_readsCondition 121 = .ok (.iconst 1, 1) := by decide +kernel
theorem dX10_readsCondition_122 : decode cX10_readsCondition 122 = .ok (.isub, 1) := by decide +kernel
theorem dX10_readsCondition_123 : decode cX10_readsCondition 123 = .ok (.putfield 198, 3) := by decide +kernel
theorem dX10_readsCondition_126 : decode cX10_readsCondition 126 = .ok (.aload_n 0, 1) := by decide +kernel
theorem dX10_readsCondition_127 : decode cX10_readsCondition 127 = .ok (.aload_n 0, 1) := by decide +kernel
theorem dX10_readsCondition_128 : decode cX10_readsCondition 128 = .ok (.getfield 171, 3) := by decide +kernel
theorem dX10_readsCondition_131 : decode cX10_readsCondition 131 = .ok (.iconst 1, 1) := by decide +kernel
theorem dX10_readsCondition_132 : decode cX10_readsCondition 132 = .ok (.iadd, 1) := by decide +kernel
theorem dX10_readsCondition_133 : decode cX10_readsCondition 133 = .ok (.putfield 171, 3) := by decide +kernel
theorem dX10_readsCondition_136 : decode cX10_readsCondition 136 = .ok (.aload_n 0, 1) := by decide +kernel
theorem dX10_readsCondition_137 : decode cX10_readsCondition 137 = .ok (.getfield 201, 3) := by decide +kernel
theorem dX10_readsCondition_140 : decode cX10_readsCondition 140 = .ok (.ifCond .ne 5, 3) := by decide +kernel
theorem dX10_readsCondition_143 : decode cX10_readsCondition 143 = .ok (.iconst 1, 1) := by decide +kernel
theorem dX10_readsCondition_144 : decode cX10_readsCondition 144 = .ok (.ireturn, 1) := by decide +kernel
theorem dX10_readsCondition_145 : decode cX10_readsCondition 145 = .ok (.aload_n 0, 1) := by decide +kernel
theorem dX10_readsCondition_146 : decode cX10_readsCondition 146 = .ok (.invokevirtual 238, 3) := by decide +kernel
theorem dX10_readsCondition_149 : decode cX10_readsCondition 149 = .ok (.goto (-57), 3) := by decide +kernel
theorem dX10_readsCondition_152 : decode cX10_readsCondition 152 = .ok (.aload_n 0, 1) := by decide +kernel
theorem dX10_readsCondition_153 : decode cX10_readsCondition 153 = .ok (.invokevirtual 177, 3) := by decide +kernel
theorem dX10_readsCondition_156 : decode cX10_readsCondition 156 = .ok (.bipush 38, 2) := by decide +kernel
theorem dX10_readsCondition_158 : decode cX10_readsCondition 158 = .ok (.if_icmp .eq 22, 3) := by decide +kernel
theorem dX10_readsCondition_161 : decode cX10_readsCondition 161 = .ok (.aload_n 0, 1) := by decide +kernel
theorem dX10_readsCondition_162 : decode cX10_readsCondition 162 = .ok (.invokevirtual 177, 3) := by decide +kernel
theorem dX10_readsCondition_165 : decode cX10_readsCondition 165 = .ok (.bipush 124, 2) := by decide +kernel
theorem dX10_readsCondition_167 : decode cX10_readsCondition 167 = .ok (.if_icmp .eq 13, 3) := by decide +kernel
theorem dX10_readsCondition_170 : decode cX10_readsCondition 170 = .ok (.aload_n 0, 1) := by decide +kernel
theorem dX10_readsCondition_171 : decode cX10_readsCondition 171 = .ok (.iconst 1, 1) := by decide +kernel
theorem dX10_readsCondition_172 : decode cX10_readsCondition 172 = .ok (.aload_n 0, 1) := by decide +kernel
theorem dX10_readsCondition_173 : decode cX10_readsCondition 173 = .ok (.getfield 171, 3) := by decide +kernel
theorem dX10_readsCondition_176 : decode cX10_readsCondition 176 = .ok (.invokevirtual 184, 3) := by decide +kernel
theorem dX10_readsCondition_179 : decode cX10_readsCondition 179 = .ok (.ireturn, 1) := by decide +kernel
theorem dX10_readsCondition_180 : decode cX10_readsCondition 180 = .ok (.aload_n 0, 1) := by decide +kernel
theorem dX10_readsCondition_181 : decode cX10_readsCondition 181 = .ok (.aload_n 0, 1) := by decide +kernel
theorem dX10_readsCondition_182 : decode cX10_readsCondition 182 = .ok (.invokevirtual 177, 3) := by decide +kernel
theorem dX10_readsCondition_185 : decode cX10_readsCondition 185 = .ok (.bipush 124, 2) := by decide +kernel
theorem dX10_readsCondition_187 : decode cX10_readsCondition 187 = .ok (.if_icmp .ne 7, 3) := by decide +kernel
theorem dX10_readsCondition_190 : decode cX10_readsCondition 190 = .ok (.iconst 1, 1) := by decide +kernel
theorem dX10_readsCondition_191 : decode cX10_readsCondition 191 = .ok (.goto 4, 3) := by decide +kernel
theorem dX10_readsCondition_194 : decode cX10_readsCondition 194 = .ok (.iconst 0, 1) := by decide +kernel
theorem dX10_readsCondition_195 : decode cX10_readsCondition 195 = .ok (.invokevirtual 244, 3) := by decide +kernel
theorem dX10_readsCondition_198 : decode cX10_readsCondition 198 = .ok (.aload_n 0, 1) := by decide +kernel
theorem dX10_readsCondition_199 : decode cX10_readsCondition 199 = .ok (.aload_n 0, 1) := by decide +kernel
theorem dX10_readsCondition_200 : decode cX10_readsCondition 200 = .ok (.invokevirtual 177, 3) := by decide +kernel
theorem dX10_readsCondition_203 : decode cX10_readsCondition 203 = .ok (.bipush 38, 2) := by decide +kernel
theorem dX10_readsCondition_205 : decode cX10_readsCondition 205 = .ok (.if_icmp .ne 8, 3) := by decide +kernel
theorem dX10_readsCondition_208 : decode cX10_readsCondition 208 = .ok (.bipush 11, 2) := by decide +kernel
theorem dX10_readsCondition_210 : decode cX10_readsCondition 210 = .ok (.goto 5, 3) := by decide +kernel
theorem dX10_readsCondition_213 : decode cX10_readsCondition 213 = .ok (.bipush 12, 2) := by decide +kernel
theorem dX10_readsCondition_215 : decode cX10_readsCondition 215 = .ok (.invokevirtual 247, 3) := by decide +kernel
theorem dX10_readsCondition_218 : decode cX10_readsCondition 218 = .ok (.goto (-178), 3) := by decide +kernel
