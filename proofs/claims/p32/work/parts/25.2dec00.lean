theorem dX8_allDone_0 : decode cX8_allDone 0 = .ok (.iconst 0, 1) := by decide +kernel
theorem dX8_allDone_1 : decode cX8_allDone 1 = .ok (.istore_n 1, 1) := by decide +kernel
theorem dX8_allDone_2 : decode cX8_allDone 2 = .ok (.iconst 0, 1) := by decide +kernel
theorem dX8_allDone_3 : decode cX8_allDone 3 = .ok (.istore_n 2, 1) := by decide +kernel
theorem dX8_allDone_4 : decode cX8_allDone 4 = .ok (.iload_n 2, 1) := by decide +kernel
theorem dX8_allDone_5 : decode cX8_allDone 5 = .ok (.bipush 10, 2) := by decide +kernel
theorem dX8_allDone_7 : decode cX8_allDone 7 = .ok (.if_icmp .ge 18, 3) := by decide +kernel
theorem dX8_allDone_10 : decode cX8_allDone 10 = .ok (.iload_n 1, 1) := by decide +kernel
theorem dX8_allDone_11 : decode cX8_allDone 11 = .ok (.aload_n 0, 1) := by decide +kernel
theorem dX8_allDone_12 : decode cX8_allDone 12 = .ok (.getfield 25, 3) := by decide +kernel
theorem dX8_allDone_15 : decode cX8_allDone 15 = .ok (.iload_n 2, 1) := by decide +kernel
theorem dX8_allDone_16 : decode cX8_allDone 16 = .ok (.iaload, 1) := by decide +kernel
theorem dX8_allDone_17 : decode cX8_allDone 17 = .ok (.iadd, 1) := by decide +kernel
theorem dX8_allDone_18 : decode cX8_allDone 18 = .ok (.istore_n 1, 1) := by decide +kernel
theorem dX8_allDone_19 : decode cX8_allDone 19 = .ok (.iinc 2 1, 3) := by decide +kernel
theorem dX8_allDone_22 : decode cX8_allDone 22 = .ok (.goto (-18), 3) := by decide +kernel
theorem dX8_allDone_25 : decode cX8_allDone 25 = .ok (.iload_n 1, 1) := by decide +kernel
theorem dX8_allDone_26 : decode cX8_allDone 26 = .ok (.ireturn, 1) := by decide +kernel
theorem dX8_begin_0 : decode cX8_begin 0 = .ok (.aload_n 0, 1) := by decide +kernel
theorem dX8_begin_1 : decode cX8_begin 1 = .ok (.getfield 12, 3) := by decide +kernel
theorem dX8_begin_4 : decode cX8_begin 4 = .ok (.aload_n 1, 1) := by decide +kernel
theorem dX8_begin_5 : decode cX8_begin 5 = .ok (.invokevirtual 36, 3) := by decide +kernel
theorem dX8_begin_8 : decode cX8_begin 8 = .ok (.aload_n 0, 1) := by decide +kernel
theorem dX8_begin_9 : decode cX8_begin 9 = .ok (.getfield 18, 3) := by decide +kernel
theorem dX8_begin_12 : decode cX8_begin 12 = .ok (.iconst 0, 1) := by decide +kernel
theorem dX8_begin_13 : decode cX8_begin 13 = .ok (.invokestatic 40, 3) := by decide +kernel
theorem dX8_begin_16 : decode cX8_begin 16 = .ok (.aload_n 0, 1) := by decide +kernel
theorem dX8_begin_17 : decode cX8_begin 17 = .ok (.getfield 25, 3) := by decide +kernel
theorem dX8_begin_20 : decode cX8_begin 20 = .ok (.iconst 0, 1) := by decide +kernel
theorem dX8_begin_21 : decode cX8_begin 21 = .ok (.invokestatic 40, 3) := by decide +kernel
theorem dX8_begin_24 : decode cX8_begin 24 = .ok (.aload_n 0, 1) := by decide +kernel
theorem dX8_begin_25 : decode cX8_begin 25 = .ok (.iconst (-1), 1) := by decide +kernel
theorem dX8_begin_26 : decode cX8_begin 26 = .ok (.putfield 46, 3) := by decide +kernel
theorem dX8_begin_29 : decode cX8_begin 29 = .ok (.aload_n 0, 1) := by decide +kernel
theorem dX8_begin_30 : decode cX8_begin 30 = .ok (.iconst (-1), 1) := by decide +kernel
theorem dX8_begin_31 : decode cX8_begin 31 = .ok (.putfield 50, 3) := by decide +kernel
theorem dX8_begin_34 : decode cX8_begin 34 = .ok (.aload_n 0, 1) := by decide +kernel
theorem dX8_begin_35 : decode cX8_begin 35 = .ok (.aload_n 1, 1) := by decide +kernel
theorem dX8_begin_36 : decode cX8_begin 36 = .ok (.getfield 53, 3) := by decide +kernel
theorem dX8_begin_39 : decode cX8_begin 39 = .ok (.putfield 56, 3) := by decide +kernel
theorem dX8_begin_42 : decode cX8_begin 42 = .ok (.aload_n 0, 1) := by decide +kernel
theorem dX8_begin_43 : decode cX8_begin 43 = .ok (.iconst 0, 1) := by decide +kernel
theorem dX8_begin_44 : decode cX8_begin 44 = .ok (.putfield 59, 3) := by decide +kernel
theorem dX8_begin_47 : decode cX8_begin 47 = .ok (.aload_n 0, 1) := by decide +kernel
theorem dX8_begin_48 : decode cX8_begin 48 = .ok (.iconst 0, 1) := by decide +kernel
theorem dX8_begin_49 : decode cX8_begin 49 = .ok (.putfield 62, 3) := by decide +kernel
theorem dX8_begin_52 : decode cX8_begin 52 = .ok (.return_, 1) := by decide +kernel
theorem dX8_goThroughDay_0 : decode cX8_goThroughDay 0 = .ok (.aload_n 0, 1) := by decide +kernel
theorem dX8_goThroughDay_1 : decode cX8_goThroughDay 1 = .ok (.getfield 12, 3) := by decide +kernel
theorem dX8_goThroughDay_4 : decode cX8_goThroughDay 4 = .ok (.getfield 78, 3) := by decide +kernel
theorem dX8_goThroughDay_7 : decode cX8_goThroughDay 7 = .ok (.sipush 9999, 3) := by decide +kernel
theorem dX8_goThroughDay_10 : decode cX8_goThroughDay 10 = .ok (.if_icmp .lt 5, 3) := by decide +kernel
theorem dX8_goThroughDay_13 : decode cX8_goThroughDay 13 = .ok (.iconst 0, 1) := by decide +kernel
theorem dX8_goThroughDay_14 : decode cX8_goThroughDay 14 = .ok (.ireturn, 1) := by decide +kernel
theorem dX8_goThroughDay_15 : decode cX8_goThroughDay 15 = .ok (.aload_n 0, 1) := by decide +kernel
theorem dX8_goThroughDay_16 : decode cX8_goThroughDay 16 = .ok (.getfield 12, 3) := by decide +kernel
theorem dX8_goThroughDay_19 : decode cX8_goThroughDay 19 = .ok (.sipush 25173, 3) := by decide +kernel
theorem dX8_goThroughDay_22 : decode cX8_goThroughDay 22 = .ok (.aload_n 0, 1) := by decide +kernel
theorem dX8_goThroughDay_23 : decode cX8_goThroughDay 23 = .ok (.getfield 12, 3) := by decide +kernel
theorem dX8_goThroughDay_26 : decode cX8_goThroughDay 26 = .ok (.getfield 81, 3) := by decide +kernel
theorem dX8_goThroughDay_29 : decode cX8_goThroughDay 29 = .ok (.imul, 1) := by decide +kernel
theorem dX8_goThroughDay_30 : decode cX8_goThroughDay 30 = .ok (.sipush 13849, 3) := by decide +kernel
theorem dX8_goThroughDay_33 : decode cX8_goThroughDay 33 = .ok (.iadd, 1) := by decide +kernel
theorem dX8_goThroughDay_34 : decode cX8_goThroughDay 34 = .ok (.ldc 84, 2) := by decide +kernel
theorem dX8_goThroughDay_36 : decode cX8_goThroughDay 36 = .ok (.irem, 1) := by decide +kernel
theorem dX8_goThroughDay_37 : decode cX8_goThroughDay 37 = .ok (.putfield 81, 3) := by decide +kernel
theorem dX8_goThroughDay_40 : decode cX8_goThroughDay 40 = .ok (.aload_n 0, 1) := by decide +kernel
theorem dX8_goThroughDay_41 : decode cX8_goThroughDay 41 = .ok (.getfield 12, 3) := by decide +kernel
theorem dX8_goThroughDay_44 : decode cX8_goThroughDay 44 = .ok (.getfield 81, 3) := by decide +kernel
theorem dX8_goThroughDay_47 : decode cX8_goThroughDay 47 = .ok (.bipush 10, 2) := by decide +kernel
theorem dX8_goThroughDay_49 : decode cX8_goThroughDay 49 = .ok (.irem, 1) := by decide +kernel
theorem dX8_goThroughDay_50 : decode cX8_goThroughDay 50 = .ok (.aload_n 0, 1) := by decide +kernel
theorem dX8_goThroughDay_51 : decode cX8_goThroughDay 51 = .ok (.getfield 28, 3) := by decide +kernel
theorem dX8_goThroughDay_54 : decode cX8_goThroughDay 54 = .ok (.getfield 85, 3) := by decide +kernel
theorem dX8_goThroughDay_57 : decode cX8_goThroughDay 57 = .ok (.if_icmp .ge 7, 3) := by decide +kernel
theorem dX8_goThroughDay_60 : decode cX8_goThroughDay 60 = .ok (.iconst 1, 1) := by decide +kernel
theorem dX8_goThroughDay_61 : decode cX8_goThroughDay 61 = .ok (.goto 4, 3) := by decide +kernel
theorem dX8_goThroughDay_64 : decode cX8_goThroughDay 64 = .ok (.iconst 0, 1) := by decide +kernel
theorem dX8_goThroughDay_65 : decode cX8_goThroughDay 65 = .ok (.istore_n 1, 1) := by decide +kernel
theorem dX8_goThroughDay_66 : decode cX8_goThroughDay 66 = .ok (.aload_n 0, 1) := by decide +kernel
theorem dX8_goThroughDay_67 : decode cX8_goThroughDay 67 = .ok (.getfield 12, 3) := by decide +kernel
theorem dX8_goThroughDay_70 : decode cX8_goThroughDay 70 = .ok (.invokevirtual 90, 3) := by decide +kernel
theorem dX8_goThroughDay_73 : decode cX8_goThroughDay 73 = .ok (.istore_n 2, 1) := by decide +kernel
theorem dX8_goThroughDay_74 : decode cX8_goThroughDay 74 = .ok (.aload_n 0, 1) := by decide +kernel
theorem dX8_goThroughDay_75 : decode cX8_goThroughDay 75 = .ok (.getfield 32, 3) := by decide +kernel
theorem dX8_goThroughDay_78 : decode cX8_goThroughDay 78 = .ok (.aload_n 0, 1) := by decide +kernel
theorem dX8_goThroughDay_79 : decode cX8_goThroughDay 79 = .ok (.getfield 12, 3) := by decide +kernel
theorem dX8_goThroughDay_82 : decode cX8_goThroughDay 82 = .ok (.getfield 78, 3) := by decide +kernel
theorem dX8_goThroughDay_85 : decode cX8_goThroughDay 85 = .ok (.iload_n 1, 1) := by decide +kernel
theorem dX8_goThroughDay_86 : decode cX8_goThroughDay 86 = .ok (.ifCond .eq 7, 3) := by decide +kernel
theorem dX8_goThroughDay_89 : decode cX8_goThroughDay 89 = .ok (.iconst 1, 1) := by decide +kernel
theorem dX8_goThroughDay_90 : decode cX8_goThroughDay 90 = .ok (.goto 4, 3) := by decide +kernel
theorem dX8_goThroughDay_93 : decode cX8_goThroughDay 93 = .ok (.iconst 0, 1) := by decide +kernel
theorem dX8_goThroughDay_94 : decode cX8_goThroughDay 94 = .ok (.iload_n 2, 1) := by decide +kernel
theorem dX8_goThroughDay_95 : decode cX8_goThroughDay 95 = .ok (.invokestatic 93, 3) := by decide +kernel
theorem dX8_goThroughDay_98 : decode cX8_goThroughDay 98 = .ok (.invokevirtual 99, 3) := by decide +kernel
theorem dX8_goThroughDay_101 : decode cX8_goThroughDay 101 = .ok (.aload_n 0, 1) := by decide +kernel
theorem dX8_goThroughDay_102 : decode cX8_goThroughDay 102 = .ok (.getfield 28, 3) := by decide +kernel
theorem dX8_goThroughDay_105 : decode cX8_goThroughDay 105 = .ok (.getfield 105, 3) := by decide +kernel
theorem dX8_goThroughDay_108 : decode cX8_goThroughDay 108 = .ok (.iload_n 2, 1) := by decide +kernel
theorem dX8_goThroughDay_109 : decode cX8_goThroughDay 109 = .ok (.iconst (-1), 1) := by decide +kernel
theorem dX8_goThroughDay_110 : decode cX8_goThroughDay 110 = .ok (.ixor, 1) := by decide +kernel
theorem dX8_goThroughDay_111 : decode cX8_goThroughDay 111 = .ok (.iand, 1) := by decide +kernel
theorem dX8_goThroughDay_112 : decode cX8_goThroughDay 112 = .ok (.istore_n 3, 1) := by decide +kernel
theorem dX8_goThroughDay_113 : decode cX8_goThroughDay 113 = .ok (.iconst 0, 1) := by decide +kernel
theorem dX8_goThroughDay_114 : decode cX8_goThroughDay 114 = .ok (.istore 4, 2) := by decide +kernel
theorem dX8_goThroughDay_116 : decode cX8_goThroughDay 116 = .ok (.iload 4, 2) := by decide +kernel
theorem dX8_goThroughDay_118 : decode cX8_goThroughDay 118 = .ok (.bipush 10, 2) := by decide +kernel
theorem dX8_goThroughDay_120 : decode cX8_goThroughDay 120 = .ok (.if_icmp .ge 35, 3) := by decide +kernel
theorem dX8_goThroughDay_123 : decode cX8_goThroughDay 123 = .ok (.aload_n 0, 1) := by decide +kernel
theorem dX8_goThroughDay_124 : decode cX8_goThroughDay 124 = .ok (.getfield 22, 3) := by decide +kernel
theorem dX8_goThroughDay_127 : decode cX8_goThroughDay 127 = .ok (.iload 4, 2) := by decide +kernel
theorem dX8_goThroughDay_129 : decode cX8_goThroughDay 129 = .ok (.iload_n 3, 1) := by decide +kernel
theorem dX8_goThroughDay_130 : decode cX8_goThroughDay 130 = .ok (.iload 4, 2) := by decide +kernel
theorem dX8_goThroughDay_132 : decode cX8_goThroughDay 132 = .ok (.invokestatic 108, 3) := by decide +kernel
theorem dX8_goThroughDay_135 : decode cX8_goThroughDay 135 = .ok (.ifCond .eq 12, 3) := by decide +kernel
theorem dX8_goThroughDay_138 : decode cX8_goThroughDay 138 = .ok (.aload_n 0, 1) := by decide +kernel
theorem dX8_goThroughDay_139 : decode cX8_goThroughDay 139 = .ok (.iload 4, 2) := by decide +kernel
theorem dX8_goThroughDay_141 : decode cX8_goThroughDay 141 = .ok (.invokevirtual 112, 3) := by decide +kernel
theorem dX8_goThroughDay_144 : decode cX8_goThroughDay 144 = .ok (.goto 4, 3) := by decide +kernel
theorem dX8_goThroughDay_147 : decode cX8_goThroughDay 147 = .ok (.iconst 0, 1) := by decide +kernel
theorem dX8_goThroughDay_148 : decode cX8_goThroughDay 148 = .ok (.iastore, 1) := by decide +kernel
theorem dX8_goThroughDay_149 : decode cX8_goThroughDay 149 = .ok (.iinc 4 1, 3) := by decide +kernel
theorem dX8_goThroughDay_152 : decode cX8_goThroughDay 152 = .ok (.goto (-36), 3) := by decide +kernel
theorem dX8_goThroughDay_155 : decode cX8_goThroughDay 155 = .ok (.iconst 0, 1) := by decide +kernel
theorem dX8_goThroughDay_156 : decode cX8_goThroughDay 156 = .ok (.istore 4, 2) := by decide +kernel
theorem dX8_goThroughDay_158 : decode cX8_goThroughDay 158 = .ok (.iconst 0, 1) := by decide +kernel
theorem dX8_goThroughDay_159 : decode cX8_goThroughDay 159 = .ok (.istore 5, 2) := by decide +kernel
theorem dX8_goThroughDay_161 : decode cX8_goThroughDay 161 = .ok (.iload 5, 2) := by decide +kernel
theorem dX8_goThroughDay_163 : decode cX8_goThroughDay 163 = .ok (.bipush 12, 2) := by decide +kernel
theorem dX8_goThroughDay_165 : decode cX8_goThroughDay 165 = .ok (.if_icmp .ge 39, 3) := by decide +kernel
theorem dX8_goThroughDay_168 : decode cX8_goThroughDay 168 = .ok (.iload 4, 2) := by decide +kernel
theorem dX8_goThroughDay_170 : decode cX8_goThroughDay 170 = .ok (.aload_n 0, 1) := by decide +kernel
theorem dX8_goThroughDay_171 : decode cX8_goThroughDay 171 = .ok (.getfield 28, 3) := by decide +kernel
theorem dX8_goThroughDay_174 : decode cX8_goThroughDay 174 = .ok (.getfield 115, 3) := by decide +kernel
theorem dX8_goThroughDay_177 : decode cX8_goThroughDay 177 = .ok (.iload 5, 2) := by decide +kernel
theorem dX8_goThroughDay_179 : decode cX8_goThroughDay 179 = .ok (.invokestatic 108, 3) := by decide +kernel
theorem dX8_goThroughDay_182 : decode cX8_goThroughDay 182 = .ok (.ifCond .eq 12, 3) := by decide +kernel
theorem dX8_goThroughDay_185 : decode cX8_goThroughDay 185 = .ok (.aload_n 0, 1) := by decide +kernel
theorem dX8_goThroughDay_186 : decode cX8_goThroughDay 186 = .ok (.iload 5, 2) := by decide +kernel
theorem dX8_goThroughDay_188 : decode cX8_goThroughDay 188 = .ok (.invokevirtual 118, 3) := by decide +kernel
theorem dX8_goThroughDay_191 : decode cX8_goThroughDay 191 = .ok (.goto 4, 3) := by decide +kernel
theorem dX8_goThroughDay_194 : decode cX8_goThroughDay 194 = .ok (.iconst 0, 1) := by decide +kernel
theorem dX8_goThroughDay_195 : decode cX8_goThroughDay 195 = .ok (.iadd, 1) := by decide +kernel
theorem dX8_goThroughDay_196 : decode cX8_goThroughDay 196 = .ok (.istore 4, 2) := by decide +kernel
theorem dX8_goThroughDay_198 : decode cX8_goThroughDay 198 = .ok (.iinc 5 1, 3) := by decide +kernel
theorem dX8_goThroughDay_201 : decode cX8_goThroughDay 201 = .ok (.goto (-40), 3) := by decide +kernel
theorem dX8_goThroughDay_204 : decode cX8_goThroughDay 204 = .ok (.aload_n 0, 1) := by decide +kernel
theorem dX8_goThroughDay_205 : decode cX8_goThroughDay 205 = .ok (.dup, 1) := by decide +kernel
theorem dX8_goThroughDay_206 : decode cX8_goThroughDay 206 = .ok (.getfield 59, 3) := by decide +kernel
theorem dX8_goThroughDay_209 : decode cX8_goThroughDay 209 = .ok (.iload_n 1, 1) := by decide +kernel
theorem dX8_goThroughDay_210 : decode cX8_goThroughDay 210 = .ok (.ifCond .eq 7, 3) := by decide +kernel
theorem dX8_goThroughDay_213 : decode cX8_goThroughDay 213 = .ok (.iconst 1, 1) := by decide +kernel
theorem dX8_goThroughDay_214 : decode cX8_goThroughDay 214 = .ok (.goto 4, 3) := by decide +kernel
theorem dX8_goThroughDay_217 : decode cX8_goThroughDay 217 = .ok (.iconst 0, 1) := by decide +kernel
theorem dX8_goThroughDay_218 : decode cX8_goThroughDay 218 = .ok (.iadd, 1) := by decide +kernel
theorem dX8_goThroughDay_219 : decode cX8_goThroughDay 219 = .ok (.putfield 59, 3) := by decide +kernel
theorem dX8_goThroughDay_222 : decode cX8_goThroughDay 222 = .ok (.aload_n 0, 1) := by decide +kernel
theorem dX8_goThroughDay_223 : decode cX8_goThroughDay 223 = .ok (.dup, 1) := by decide +kernel
theorem dX8_goThroughDay_224 : decode cX8_goThroughDay 224 = .ok (.getfield 62, 3) := by decide +kernel
theorem dX8_goThroughDay_227 : decode cX8_goThroughDay 227 = .ok (.iload 4, 2) := by decide +kernel
theorem dX8_goThroughDay_229 : decode cX8_goThroughDay 229 = .ok (.ifCond .ne 7, 3) := by decide +kernel
theorem dX8_goThroughDay_232 : decode cX8_goThroughDay 232 = .ok (.iconst 1, 1) := by decide +kernel
theorem dX8_goThroughDay_233 : decode cX8_goThroughDay 233 = .ok (.goto 4, 3) := by decide +kernel
theorem dX8_goThroughDay_236 : decode cX8_goThroughDay 236 = .ok (.iconst 0, 1) := by decide +kernel
theorem dX8_goThroughDay_237 : decode cX8_goThroughDay 237 = .ok (.iadd, 1) := by decide +kernel
theorem dX8_goThroughDay_238 : decode cX8_goThroughDay 238 = .ok (.putfield 62, 3) := by decide +kernel
theorem dX8_goThroughDay_241 : decode cX8_goThroughDay 241 = .ok (.aload_n 0, 1) := by decide +kernel
theorem dX8_goThroughDay_242 : decode cX8_goThroughDay 242 = .ok (.getfield 12, 3) := by decide +kernel
theorem dX8_goThroughDay_245 : decode cX8_goThroughDay 245 = .ok (.dup, 1) := by decide +kernel
theorem dX8_goThroughDay_246 : decode cX8_goThroughDay 246 = .ok (.getfield 78, 3) := by decide +kernel
theorem dX8_goThroughDay_249 : decode cX8_goThroughDay 249 = .ok (.iconst 1, 1) := by decide +kernel
theorem dX8_goThroughDay_250 : decode cX8_goThroughDay 250 = .ok (.iadd, 1) := by decide +kernel
theorem dX8_goThroughDay_251 : decode cX8_goThroughDay 251 = .ok (.putfield 78, 3) := by decide +kernel
theorem dX8_goThroughDay_254 : decode cX8_goThroughDay 254 = .ok (.iload 4, 2) := by decide +kernel
theorem dX8_goThroughDay_256 : decode cX8_goThroughDay 256 = .ok (.ireturn, 1) := by decide +kernel
theorem dX8_run_0 : decode cX8_run 0 = .ok (.iconst 0, 1) := by decide +kernel
theorem dX8_run_1 : decode cX8_run 1 = .ok (.istore_n 3, 1) := by decide +kernel
theorem dX8_run_2 : decode cX8_run 2 = .ok (.iload_n 3, 1) := by decide +kernel
theorem dX8_run_3 : decode cX8_run 3 = .ok (.iload_n 1, 1) := by decide +kernel
theorem dX8_run_4 : decode cX8_run 4 = .ok (.if_icmp .ge 30, 3) := by decide +kernel
theorem dX8_run_7 : decode cX8_run 7 = .ok (.aload_n 0, 1) := by decide +kernel
theorem dX8_run_8 : decode cX8_run 8 = .ok (.getfield 12, 3) := by decide +kernel
theorem dX8_run_11 : decode cX8_run 11 = .ok (.getfield 53, 3) := by decide +kernel
theorem dX8_run_14 : decode cX8_run 14 = .ok (.aload_n 0, 1) := by decide +kernel
theorem dX8_run_15 : decode cX8_run 15 = .ok (.getfield 56, 3) := by decide +kernel
theorem dX8_run_18 : decode cX8_run 18 = .ok (.isub, 1) := by decide +kernel
theorem dX8_run_19 : decode cX8_run 19 = .ok (.iload_n 2, 1) := by decide +kernel
theorem dX8_run_20 : decode cX8_run 20 = .ok (.if_icmp .ge 14, 3) := by decide +kernel
theorem dX8_run_23 : decode cX8_run 23 = .ok (.aload_n 0, 1) := by decide +kernel
theorem dX8_run_24 : decode cX8_run 24 = .ok (.invokevirtual 74, 3) := by decide +kernel
theorem dX8_run_27 : decode cX8_run 27 = .ok (.pop, 1) := by decide +kernel
theorem dX8_run_28 : decode cX8_run 28 = .ok (.iinc 3 1, 3) := by decide +kernel
theorem dX8_run_31 : decode cX8_run 31 = .ok (.goto (-29), 3) := by decide +kernel
theorem dX8_run_34 : decode cX8_run 34 = .ok (.aload_n 0, 1) := by decide +kernel
theorem dX8_run_35 : decode cX8_run 35 = .ok (.getfield 12, 3) := by decide +kernel
theorem dX8_run_38 : decode cX8_run 38 = .ok (.getfield 53, 3) := by decide +kernel
theorem dX8_run_41 : decode cX8_run 41 = .ok (.aload_n 0, 1) := by decide +kernel
theorem dX8_run_42 : decode cX8_run 42 = .ok (.getfield 56, 3) := by decide +kernel
theorem dX8_run_45 : decode cX8_run 45 = .ok (.isub, 1) := by decide +kernel
theorem dX8_run_46 : decode cX8_run 46 = .ok (.ireturn, 1) := by decide +kernel
theorem dX8_setFront_0 : decode cX8_setFront 0 = .ok (.aload_n 0, 1) := by decide +kernel
theorem dX8_setFront_1 : decode cX8_setFront 1 = .ok (.iload_n 1, 1) := by decide +kernel
theorem dX8_setFront_2 : decode cX8_setFront 2 = .ok (.putfield 50, 3) := by decide +kernel
theorem dX8_setFront_5 : decode cX8_setFront 5 = .ok (.aload_n 0, 1) := by decide +kernel
theorem dX8_setFront_6 : decode cX8_setFront 6 = .ok (.iload_n 2, 1) := by decide +kernel
theorem dX8_setFront_7 : decode cX8_setFront 7 = .ok (.putfield 71, 3) := by decide +kernel
theorem dX8_setFront_10 : decode cX8_setFront 10 = .ok (.return_, 1) := by decide +kernel
theorem dX8_setIdle_0 : decode cX8_setIdle 0 = .ok (.aload_n 0, 1) := by decide +kernel
theorem dX8_setIdle_1 : decode cX8_setIdle 1 = .ok (.iload_n 1, 1) := by decide +kernel
theorem dX8_setIdle_2 : decode cX8_setIdle 2 = .ok (.putfield 46, 3) := by decide +kernel
theorem dX8_setIdle_5 : decode cX8_setIdle 5 = .ok (.aload_n 0, 1) := by decide +kernel
theorem dX8_setIdle_6 : decode cX8_setIdle 6 = .ok (.iload_n 2, 1) := by decide +kernel
theorem dX8_setIdle_7 : decode cX8_setIdle 7 = .ok (.putfield 65, 3) := by decide +kernel
theorem dX8_setIdle_10 : decode cX8_setIdle 10 = .ok (.aload_n 0, 1) := by decide +kernel
theorem dX8_setIdle_11 : decode cX8_setIdle 11 = .ok (.iload_n 3, 1) := by decide +kernel
theorem dX8_setIdle_12 : decode cX8_setIdle 12 = .ok (.putfield 68, 3) := by decide +kernel
theorem dX8_setIdle_15 : decode cX8_setIdle 15 = .ok (.return_, 1) := by decide +kernel
theorem dX8_staysClear_0 : decode cX8_staysClear 0 = .ok (.iconst 1, 1) := by decide +kernel
theorem dX8_staysClear_1 : decode cX8_staysClear 1 = .ok (.istore_n 2, 1) := by decide +kernel
theorem dX8_staysClear_2 : decode cX8_staysClear 2 = .ok (.iconst 0, 1) := by decide +kernel
theorem dX8_staysClear_3 : decode cX8_staysClear 3 = .ok (.istore_n 3, 1) := by decide +kernel
theorem dX8_staysClear_4 : decode cX8_staysClear 4 = .ok (.iload_n 3, 1) := by decide +kernel
theorem dX8_staysClear_5 : decode cX8_staysClear 5 = .ok (.iload_n 1, 1) := by decide +kernel
theorem dX8_staysClear_6 : decode cX8_staysClear 6 = .ok (.if_icmp .ge 26, 3) := by decide +kernel
theorem dX8_staysClear_9 : decode cX8_staysClear 9 = .ok (.iload_n 2, 1) := by decide +kernel
theorem dX8_staysClear_10 : decode cX8_staysClear 10 = .ok (.ifCond .eq 22, 3) := by decide +kernel
theorem dX8_staysClear_13 : decode cX8_staysClear 13 = .ok (.aload_n 0, 1) := by decide +kernel
theorem dX8_staysClear_14 : decode cX8_staysClear 14 = .ok (.invokevirtual 74, 3) := by decide +kernel
theorem dX8_staysClear_17 : decode cX8_staysClear 17 = .ok (.ifCond .ne 7, 3) := by decide +kernel
theorem dX8_staysClear_20 : decode cX8_staysClear 20 = .ok (.iconst 1, 1) := by decide +kernel
theorem dX8_staysClear_21 : decode cX8_staysClear 21 = .ok (.goto 4, 3) := by decide +kernel
theorem dX8_staysClear_24 : decode cX8_staysClear 24 = .ok (.iconst 0, 1) := by decide +kernel
theorem dX8_staysClear_25 : decode cX8_staysClear 25 = .ok (.istore_n 2, 1) := by decide +kernel
theorem dX8_staysClear_26 : decode cX8_staysClear 26 = .ok (.iinc 3 1, 3) := by decide +kernel
theorem dX8_staysClear_29 : decode cX8_staysClear 29 = .ok (.goto (-25), 3) := by decide +kernel
theorem dX8_staysClear_32 : decode cX8_staysClear 32 = .ok (.iload_n 2, 1) := by decide +kernel
theorem dX8_staysClear_33 : decode cX8_staysClear 33 = .ok (.ireturn, 1) := by decide +kernel
