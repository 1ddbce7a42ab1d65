theorem dX9_commonDivisor_0 : decode cX9_commonDivisor 0 = .ok (.iload_n 0, 1) := by decide +kernel
theorem dX9_commonDivisor_1 : decode cX9_commonDivisor 1 = .ok (.istore_n 2, 1) := by decide +kernel
theorem dX9_commonDivisor_2 : decode cX9_commonDivisor 2 = .ok (.iload_n 1, 1) := by decide +kernel
theorem dX9_commonDivisor_3 : decode cX9_commonDivisor 3 = .ok (.istore_n 3, 1) := by decide +kernel
theorem dX9_commonDivisor_4 : decode cX9_commonDivisor 4 = .ok (.iconst 0, 1) := by decide +kernel
theorem dX9_commonDivisor_5 : decode cX9_commonDivisor 5 = .ok (.istore 4, 2) := by decide +kernel
theorem dX9_commonDivisor_7 : decode cX9_commonDivisor 7 = .ok (.iload 4, 2) := by decide +kernel
theorem dX9_commonDivisor_9 : decode cX9_commonDivisor 9 = .ok (.bipush 64, 2) := by decide +kernel
theorem dX9_commonDivisor_11 : decode cX9_commonDivisor 11 = .ok (.if_icmp .ge 23, 3) := by decide +kernel
theorem dX9_commonDivisor_14 : decode cX9_commonDivisor 14 = .ok (.iload_n 3, 1) := by decide +kernel
theorem dX9_commonDivisor_15 : decode cX9_commonDivisor 15 = .ok (.ifCond .le 19, 3) := by decide +kernel
theorem dX9_commonDivisor_18 : decode cX9_commonDivisor 18 = .ok (.iload_n 2, 1) := by decide +kernel
theorem dX9_commonDivisor_19 : decode cX9_commonDivisor 19 = .ok (.iload_n 3, 1) := by decide +kernel
theorem dX9_commonDivisor_20 : decode cX9_commonDivisor 20 = .ok (.irem, 1) := by decide +kernel
theorem dX9_commonDivisor_21 : decode cX9_commonDivisor 21 = .ok (.istore 5, 2) := by decide +kernel
theorem dX9_commonDivisor_23 : decode cX9_commonDivisor 23 = .ok (.iload_n 3, 1) := by decide +kernel
theorem dX9_commonDivisor_24 : decode cX9_commonDivisor 24 = .ok (.istore_n 2, 1) := by decide +kernel
theorem dX9_commonDivisor_25 : decode cX9_commonDivisor 25 = .ok (.iload 5, 2) := by decide +kernel
theorem dX9_commonDivisor_27 : decode cX9_commonDivisor 27 = .ok (.istore_n 3, 1) := by decide +kernel
theorem dX9_commonDivisor_28 : decode cX9_commonDivisor 28 = .ok (.iinc 4 1, 3) := by decide +kernel
theorem dX9_commonDivisor_31 : decode cX9_commonDivisor 31 = .ok (.goto (-24), 3) := by decide +kernel
theorem dX9_commonDivisor_34 : decode cX9_commonDivisor 34 = .ok (.iload_n 2, 1) := by decide +kernel
theorem dX9_commonDivisor_35 : decode cX9_commonDivisor 35 = .ok (.iconst 1, 1) := by decide +kernel
theorem dX9_commonDivisor_36 : decode cX9_commonDivisor 36 = .ok (.invokestatic 317, 3) := by decide +kernel
theorem dX9_commonDivisor_39 : decode cX9_commonDivisor 39 = .ok (.ireturn, 1) := by decide +kernel
theorem dX9_tried_0 : decode cX9_tried 0 = .ok (.iload_n 2, 1) := by decide +kernel
theorem dX9_tried_1 : decode cX9_tried 1 = .ok (.iconst 0, 1) := by decide +kernel
theorem dX9_tried_2 : decode cX9_tried 2 = .ok (.iconst 4, 1) := by decide +kernel
theorem dX9_tried_3 : decode cX9_tried 3 = .ok (.invokestatic 81, 3) := by decide +kernel
theorem dX9_tried_6 : decode cX9_tried 6 = .ok (.ifCond .ne 31, 3) := by decide +kernel
theorem dX9_tried_9 : decode cX9_tried 9 = .ok (.aload_n 0, 1) := by decide +kernel
theorem dX9_tried_10 : decode cX9_tried 10 = .ok (.getfield 19, 3) := by decide +kernel
theorem dX9_tried_13 : decode cX9_tried 13 = .ok (.iload_n 2, 1) := by decide +kernel
theorem dX9_tried_14 : decode cX9_tried 14 = .ok (.bipush 10, 2) := by decide +kernel
theorem dX9_tried_16 : decode cX9_tried 16 = .ok (.isub, 1) := by decide +kernel
theorem dX9_tried_17 : decode cX9_tried 17 = .ok (.invokevirtual 170, 3) := by decide +kernel
theorem dX9_tried_20 : decode cX9_tried 20 = .ok (.ifCond .ne 17, 3) := by decide +kernel
theorem dX9_tried_23 : decode cX9_tried 23 = .ok (.aload_n 0, 1) := by decide +kernel
theorem dX9_tried_24 : decode cX9_tried 24 = .ok (.getfield 19, 3) := by decide +kernel
theorem dX9_tried_27 : decode cX9_tried 27 = .ok (.iload_n 2, 1) := by decide +kernel
theorem dX9_tried_28 : decode cX9_tried 28 = .ok (.bipush 30, 2) := by decide +kernel
theorem dX9_tried_30 : decode cX9_tried 30 = .ok (.isub, 1) := by decide +kernel
theorem dX9_tried_31 : decode cX9_tried 31 = .ok (.invokevirtual 173, 3) := by decide +kernel
theorem dX9_tried_34 : decode cX9_tried 34 = .ok (.ifCond .eq 7, 3) := by decide +kernel
theorem dX9_tried_37 : decode cX9_tried 37 = .ok (.iconst 1, 1) := by decide +kernel
theorem dX9_tried_38 : decode cX9_tried 38 = .ok (.goto 4, 3) := by decide +kernel
theorem dX9_tried_41 : decode cX9_tried 41 = .ok (.iconst 0, 1) := by decide +kernel
theorem dX9_tried_42 : decode cX9_tried 42 = .ok (.istore_n 3, 1) := by decide +kernel
theorem dX9_tried_43 : decode cX9_tried 43 = .ok (.iload_n 1, 1) := by decide +kernel
theorem dX9_tried_44 : decode cX9_tried 44 = .ok (.invokestatic 154, 3) := by decide +kernel
theorem dX9_tried_47 : decode cX9_tried 47 = .ok (.ifCond .eq 7, 3) := by decide +kernel
theorem dX9_tried_50 : decode cX9_tried 50 = .ok (.iload_n 3, 1) := by decide +kernel
theorem dX9_tried_51 : decode cX9_tried 51 = .ok (.ifCond .ne 5, 3) := by decide +kernel
theorem dX9_tried_54 : decode cX9_tried 54 = .ok (.iconst (-1), 1) := by decide +kernel
theorem dX9_tried_55 : decode cX9_tried 55 = .ok (.ireturn, 1) := by decide +kernel
theorem dX9_tried_56 : decode cX9_tried 56 = .ok (.aload_n 0, 1) := by decide +kernel
theorem dX9_tried_57 : decode cX9_tried 57 = .ok (.getfield 73, 3) := by decide +kernel
theorem dX9_tried_60 : decode cX9_tried 60 = .ok (.aload_n 0, 1) := by decide +kernel
theorem dX9_tried_61 : decode cX9_tried 61 = .ok (.getfield 26, 3) := by decide +kernel
theorem dX9_tried_64 : decode cX9_tried 64 = .ok (.invokevirtual 157, 3) := by decide +kernel
theorem dX9_tried_67 : decode cX9_tried 67 = .ok (.aload_n 0, 1) := by decide +kernel
theorem dX9_tried_68 : decode cX9_tried 68 = .ok (.getfield 73, 3) := by decide +kernel
theorem dX9_tried_71 : decode cX9_tried 71 = .ok (.iload_n 1, 1) := by decide +kernel
theorem dX9_tried_72 : decode cX9_tried 72 = .ok (.ldc 160, 2) := by decide +kernel
theorem dX9_tried_74 : decode cX9_tried 74 = .ok (.invokevirtual 161, 3) := by decide +kernel
theorem dX9_tried_77 : decode cX9_tried 77 = .ok (.istore 4, 2) := by decide +kernel
theorem dX9_tried_79 : decode cX9_tried 79 = .ok (.iload_n 2, 1) := by decide +kernel
theorem dX9_tried_80 : decode cX9_tried 80 = .ok (.tableswitch 74 0 4 #[36, 39, 47, 58, 66], 36) := by decide +kernel
theorem dX9_tried_116 : decode cX9_tried 116 = .ok (.iload 4, 2) := by decide +kernel
theorem dX9_tried_118 : decode cX9_tried 118 = .ok (.ireturn, 1) := by decide +kernel
theorem dX9_tried_119 : decode cX9_tried 119 = .ok (.aload_n 0, 1) := by decide +kernel
theorem dX9_tried_120 : decode cX9_tried 120 = .ok (.getfield 73, 3) := by decide +kernel
theorem dX9_tried_123 : decode cX9_tried 123 = .ok (.getfield 176, 3) := by decide +kernel
theorem dX9_tried_126 : decode cX9_tried 126 = .ok (.ireturn, 1) := by decide +kernel
theorem dX9_tried_127 : decode cX9_tried 127 = .ok (.aload_n 0, 1) := by decide +kernel
theorem dX9_tried_128 : decode cX9_tried 128 = .ok (.getfield 73, 3) := by decide +kernel
theorem dX9_tried_131 : decode cX9_tried 131 = .ok (.getfield 165, 3) := by decide +kernel
theorem dX9_tried_134 : decode cX9_tried 134 = .ok (.invokevirtual 179, 3) := by decide +kernel
theorem dX9_tried_137 : decode cX9_tried 137 = .ok (.ireturn, 1) := by decide +kernel
theorem dX9_tried_138 : decode cX9_tried 138 = .ok (.aload_n 0, 1) := by decide +kernel
theorem dX9_tried_139 : decode cX9_tried 139 = .ok (.getfield 73, 3) := by decide +kernel
theorem dX9_tried_142 : decode cX9_tried 142 = .ok (.invokevirtual 182, 3) := by decide +kernel
theorem dX9_tried_145 : decode cX9_tried 145 = .ok (.ireturn, 1) := by decide +kernel
theorem dX9_tried_146 : decode cX9_tried 146 = .ok (.aload_n 0, 1) := by decide +kernel
theorem dX9_tried_147 : decode cX9_tried 147 = .ok (.getfield 73, 3) := by decide +kernel
theorem dX9_tried_150 : decode cX9_tried 150 = .ok (.getfield 185, 3) := by decide +kernel
theorem dX9_tried_153 : decode cX9_tried 153 = .ok (.ireturn, 1) := by decide +kernel
theorem dX9_tried_154 : decode cX9_tried 154 = .ok (.iload_n 2, 1) := by decide +kernel
theorem dX9_tried_155 : decode cX9_tried 155 = .ok (.bipush 30, 2) := by decide +kernel
theorem dX9_tried_157 : decode cX9_tried 157 = .ok (.if_icmp .ge 21, 3) := by decide +kernel
theorem dX9_tried_160 : decode cX9_tried 160 = .ok (.aload_n 0, 1) := by decide +kernel
theorem dX9_tried_161 : decode cX9_tried 161 = .ok (.getfield 73, 3) := by decide +kernel
theorem dX9_tried_164 : decode cX9_tried 164 = .ok (.getfield 165, 3) := by decide +kernel
theorem dX9_tried_167 : decode cX9_tried 167 = .ok (.getfield 98, 3) := by decide +kernel
theorem dX9_tried_170 : decode cX9_tried 170 = .ok (.iload_n 2, 1) := by decide +kernel
theorem dX9_tried_171 : decode cX9_tried 171 = .ok (.bipush 10, 2) := by decide +kernel
theorem dX9_tried_173 : decode cX9_tried 173 = .ok (.isub, 1) := by decide +kernel
theorem dX9_tried_174 : decode cX9_tried 174 = .ok (.iaload, 1) := by decide +kernel
theorem dX9_tried_175 : decode cX9_tried 175 = .ok (.goto 15, 3) := by decide +kernel
theorem dX9_tried_178 : decode cX9_tried 178 = .ok (.aload_n 0, 1) := by decide +kernel
theorem dX9_tried_179 : decode cX9_tried 179 = .ok (.getfield 73, 3) := by decide +kernel
theorem dX9_tried_182 : decode cX9_tried 182 = .ok (.getfield 188, 3) := by decide +kernel
theorem dX9_tried_185 : decode cX9_tried 185 = .ok (.iload_n 2, 1) := by decide +kernel
theorem dX9_tried_186 : decode cX9_tried 186 = .ok (.bipush 30, 2) := by decide +kernel
theorem dX9_tried_188 : decode cX9_tried 188 = .ok (.isub, 1) := by decide +kernel
theorem dX9_tried_189 : decode cX9_tried 189 = .ok (.iaload, 1) := by decide +kernel
theorem dX9_tried_190 : decode cX9_tried 190 = .ok (.ireturn, 1) := by decide +kernel
