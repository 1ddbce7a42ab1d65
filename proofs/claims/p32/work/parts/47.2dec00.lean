theorem dX10_against_0 : decode cX10_against 0 = .ok (.aload_n 0, 1) := by decide +kernel
theorem dX10_against_1 : decode cX10_against 1 = .ok (.iload_n 1, 1) := by decide +kernel
theorem dX10_against_2 : decode cX10_against 2 = .ok (.invokevirtual 307, 3) := by decide +kernel
theorem dX10_against_5 : decode cX10_against 5 = .ok (.ifCond .eq 46, 3) := by decide +kernel
theorem dX10_against_8 : decode cX10_against 8 = .ok (.aload_n 0, 1) := by decide +kernel
theorem dX10_against_9 : decode cX10_against 9 = .ok (.iload_n 2, 1) := by decide +kernel
theorem dX10_against_10 : decode cX10_against 10 = .ok (.invokevirtual 307, 3) := by decide +kernel
theorem dX10_against_13 : decode cX10_against 13 = .ok (.ifCond .eq 38, 3) := by decide +kernel
theorem dX10_against_16 : decode cX10_against 16 = .ok (.iload_n 1, 1) := by decide +kernel
theorem dX10_against_17 : decode cX10_against 17 = .ok (.iload_n 2, 1) := by decide +kernel
theorem dX10_against_18 : decode cX10_against 18 = .ok (.if_icmp .eq 33, 3) := by decide +kernel
theorem dX10_against_21 : decode cX10_against 21 = .ok (.iload_n 3, 1) := by decide +kernel
theorem dX10_against_22 : decode cX10_against 22 = .ok (.iconst 2, 1) := by decide +kernel
theorem dX10_against_23 : decode cX10_against 23 = .ok (.iconst 5, 1) := by decide +kernel
theorem dX10_against_24 : decode cX10_against 24 = .ok (.invokestatic 157, 3) := by decide +kernel
theorem dX10_against_27 : decode cX10_against 27 = .ok (.ifCond .eq 24, 3) := by decide +kernel
theorem dX10_against_30 : decode cX10_against 30 = .ok (.iload 4, 2) := by decide +kernel
theorem dX10_against_32 : decode cX10_against 32 = .ok (.iconst 1, 1) := by decide +kernel
theorem dX10_against_33 : decode cX10_against 33 = .ok (.bipush 10, 2) := by decide +kernel
theorem dX10_against_35 : decode cX10_against 35 = .ok (.invokestatic 157, 3) := by decide +kernel
theorem dX10_against_38 : decode cX10_against 38 = .ok (.ifCond .eq 13, 3) := by decide +kernel
theorem dX10_against_41 : decode cX10_against 41 = .ok (.iload 5, 2) := by decide +kernel
theorem dX10_against_43 : decode cX10_against 43 = .ok (.iconst 0, 1) := by decide +kernel
theorem dX10_against_44 : decode cX10_against 44 = .ok (.iconst 2, 1) := by decide +kernel
theorem dX10_against_45 : decode cX10_against 45 = .ok (.invokestatic 157, 3) := by decide +kernel
theorem dX10_against_48 : decode cX10_against 48 = .ok (.ifCond .ne 7, 3) := by decide +kernel
theorem dX10_against_51 : decode cX10_against 51 = .ok (.ldc_w 384, 3) := by decide +kernel
theorem dX10_against_54 : decode cX10_against 54 = .ok (.ireturn, 1) := by decide +kernel
theorem dX10_against_55 : decode cX10_against 55 = .ok (.aload_n 0, 1) := by decide +kernel
theorem dX10_against_56 : decode cX10_against 56 = .ok (.iload 4, 2) := by decide +kernel
theorem dX10_against_58 : decode cX10_against 58 = .ok (.putfield 404, 3) := by decide +kernel
theorem dX10_against_61 : decode cX10_against 61 = .ok (.iload_n 3, 1) := by decide +kernel
theorem dX10_against_62 : decode cX10_against 62 = .ok (.iload 4, 2) := by decide +kernel
theorem dX10_against_64 : decode cX10_against 64 = .ok (.imul, 1) := by decide +kernel
theorem dX10_against_65 : decode cX10_against 65 = .ok (.istore 6, 2) := by decide +kernel
theorem dX10_against_67 : decode cX10_against 67 = .ok (.iconst 0, 1) := by decide +kernel
theorem dX10_against_68 : decode cX10_against 68 = .ok (.istore 7, 2) := by decide +kernel
theorem dX10_against_70 : decode cX10_against 70 = .ok (.iload 7, 2) := by decide +kernel
theorem dX10_against_72 : decode cX10_against 72 = .ok (.iload_n 3, 1) := by decide +kernel
theorem dX10_against_73 : decode cX10_against 73 = .ok (.if_icmp .ge 111, 3) := by decide +kernel
theorem dX10_against_76 : decode cX10_against 76 = .ok (.iconst 0, 1) := by decide +kernel
theorem dX10_against_77 : decode cX10_against 77 = .ok (.istore 8, 2) := by decide +kernel
theorem dX10_against_79 : decode cX10_against 79 = .ok (.iload 8, 2) := by decide +kernel
theorem dX10_against_81 : decode cX10_against 81 = .ok (.iload_n 3, 1) := by decide +kernel
theorem dX10_against_82 : decode cX10_against 82 = .ok (.if_icmp .ge 96, 3) := by decide +kernel
theorem dX10_against_85 : decode cX10_against 85 = .ok (.aload_n 0, 1) := by decide +kernel
theorem dX10_against_86 : decode cX10_against 86 = .ok (.iload_n 1, 1) := by decide +kernel
theorem dX10_against_87 : decode cX10_against 87 = .ok (.iconst (-1), 1) := by decide +kernel
theorem dX10_against_88 : decode cX10_against 88 = .ok (.iload_n 2, 1) := by decide +kernel
theorem dX10_against_89 : decode cX10_against 89 = .ok (.iconst (-1), 1) := by decide +kernel
theorem dX10_against_90 : decode cX10_against 90 = .ok (.iload 6, 2) := by decide +kernel
theorem dX10_against_92 : decode cX10_against 92 = .ok (.invokevirtual 407, 3) := by decide +kernel
theorem dX10_against_95 : decode cX10_against 95 = .ok (.istore 9, 2) := by decide +kernel
theorem dX10_against_97 : decode cX10_against 97 = .ok (.aload_n 0, 1) := by decide +kernel
theorem dX10_against_98 : decode cX10_against 98 = .ok (.iload_n 1, 1) := by decide +kernel
theorem dX10_against_99 : decode cX10_against 99 = .ok (.iload 7, 2) := by decide +kernel
theorem dX10_against_101 : decode cX10_against 101 = .ok (.iload_n 2, 1) := by decide +kernel
theorem dX10_against_102 : decode cX10_against 102 = .ok (.iconst (-1), 1) := by decide +kernel
theorem dX10_against_103 : decode cX10_against 103 = .ok (.iload 6, 2) := by decide +kernel
theorem dX10_against_105 : decode cX10_against 105 = .ok (.invokevirtual 407, 3) := by decide +kernel
theorem dX10_against_108 : decode cX10_against 108 = .ok (.istore 10, 2) := by decide +kernel
theorem dX10_against_110 : decode cX10_against 110 = .ok (.aload_n 0, 1) := by decide +kernel
theorem dX10_against_111 : decode cX10_against 111 = .ok (.iload_n 1, 1) := by decide +kernel
theorem dX10_against_112 : decode cX10_against 112 = .ok (.iconst (-1), 1) := by decide +kernel
theorem dX10_against_113 : decode cX10_against 113 = .ok (.iload_n 2, 1) := by decide +kernel
theorem dX10_against_114 : decode cX10_against 114 = .ok (.iload 8, 2) := by decide +kernel
theorem dX10_against_116 : decode cX10_against 116 = .ok (.iload 6, 2) := by decide +kernel
theorem dX10_against_118 : decode cX10_against 118 = .ok (.invokevirtual 407, 3) := by decide +kernel
theorem dX10_against_121 : decode cX10_against 121 = .ok (.istore 11, 2) := by decide +kernel
theorem dX10_against_123 : decode cX10_against 123 = .ok (.aload_n 0, 1) := by decide +kernel
theorem dX10_against_124 : decode cX10_against 124 = .ok (.iload_n 1, 1) := by decide +kernel
theorem dX10_against_125 : decode cX10_against 125 = .ok (.iload 7, 2) := by decide +kernel
theorem dX10_against_127 : decode cX10_against 127 = .ok (.iload_n 2, 1) := by decide +kernel
theorem dX10_against_128 : decode cX10_against 128 = .ok (.iload 8, 2) := by decide +kernel
theorem dX10_against_130 : decode cX10_against 130 = .ok (.iload 6, 2) := by decide +kernel
theorem dX10_against_132 : decode cX10_against 132 = .ok (.invokevirtual 407, 3) := by decide +kernel
theorem dX10_against_135 : decode cX10_against 135 = .ok (.istore 12, 2) := by decide +kernel
theorem dX10_against_137 : decode cX10_against 137 = .ok (.aload_n 0, 1) := by decide +kernel
theorem dX10_against_138 : decode cX10_against 138 = .ok (.getfield 128, 3) := by decide +kernel
theorem dX10_against_141 : decode cX10_against 141 = .ok (.iconst 5, 1) := by decide +kernel
theorem dX10_against_142 : decode cX10_against 142 = .ok (.iload 7, 2) := by decide +kernel
theorem dX10_against_144 : decode cX10_against 144 = .ok (.imul, 1) := by decide +kernel
theorem dX10_against_145 : decode cX10_against 145 = .ok (.iload 8, 2) := by decide +kernel
theorem dX10_against_147 : decode cX10_against 147 = .ok (.iadd, 1) := by decide +kernel
theorem dX10_against_148 : decode cX10_against 148 = .ok (.iload 10, 2) := by decide +kernel
theorem dX10_against_150 : decode cX10_against 150 = .ok (.iload 9, 2) := by decide +kernel
theorem dX10_against_152 : decode cX10_against 152 = .ok (.isub, 1) := by decide +kernel
theorem dX10_against_153 : decode cX10_against 153 = .ok (.iload 12, 2) := by decide +kernel
theorem dX10_against_155 : decode cX10_against 155 = .ok (.iadd, 1) := by decide +kernel
theorem dX10_against_156 : decode cX10_against 156 = .ok (.iload 11, 2) := by decide +kernel
theorem dX10_against_158 : decode cX10_against 158 = .ok (.isub, 1) := by decide +kernel
theorem dX10_against_159 : decode cX10_against 159 = .ok (.iload 11, 2) := by decide +kernel
theorem dX10_against_161 : decode cX10_against 161 = .ok (.iload 9, 2) := by decide +kernel
theorem dX10_against_163 : decode cX10_against 163 = .ok (.isub, 1) := by decide +kernel
theorem dX10_against_164 : decode cX10_against 164 = .ok (.iload 12, 2) := by decide +kernel
theorem dX10_against_166 : decode cX10_against 166 = .ok (.iadd, 1) := by decide +kernel
theorem dX10_against_167 : decode cX10_against 167 = .ok (.iload 10, 2) := by decide +kernel
theorem dX10_against_169 : decode cX10_against 169 = .ok (.isub, 1) := by decide +kernel
theorem dX10_against_170 : decode cX10_against 170 = .ok (.isub, 1) := by decide +kernel
theorem dX10_against_171 : decode cX10_against 171 = .ok (.iastore, 1) := by decide +kernel
theorem dX10_against_172 : decode cX10_against 172 = .ok (.iinc 8 1, 3) := by decide +kernel
theorem dX10_against_175 : decode cX10_against 175 = .ok (.goto (-96), 3) := by decide +kernel
theorem dX10_against_178 : decode cX10_against 178 = .ok (.iinc 7 1, 3) := by decide +kernel
theorem dX10_against_181 : decode cX10_against 181 = .ok (.goto (-111), 3) := by decide +kernel
theorem dX10_against_184 : decode cX10_against 184 = .ok (.iconst 0, 1) := by decide +kernel
theorem dX10_against_185 : decode cX10_against 185 = .ok (.istore 7, 2) := by decide +kernel
theorem dX10_against_187 : decode cX10_against 187 = .ok (.iconst (-1), 1) := by decide +kernel
theorem dX10_against_188 : decode cX10_against 188 = .ok (.istore 8, 2) := by decide +kernel
theorem dX10_against_190 : decode cX10_against 190 = .ok (.iconst 0, 1) := by decide +kernel
theorem dX10_against_191 : decode cX10_against 191 = .ok (.istore 9, 2) := by decide +kernel
theorem dX10_against_193 : decode cX10_against 193 = .ok (.iload 9, 2) := by decide +kernel
theorem dX10_against_195 : decode cX10_against 195 = .ok (.bipush 25, 2) := by decide +kernel
theorem dX10_against_197 : decode cX10_against 197 = .ok (.if_icmp .ge 58, 3) := by decide +kernel
theorem dX10_against_200 : decode cX10_against 200 = .ok (.iload 9, 2) := by decide +kernel
theorem dX10_against_202 : decode cX10_against 202 = .ok (.iconst 5, 1) := by decide +kernel
theorem dX10_against_203 : decode cX10_against 203 = .ok (.idiv, 1) := by decide +kernel
theorem dX10_against_204 : decode cX10_against 204 = .ok (.iload_n 3, 1) := by decide +kernel
theorem dX10_against_205 : decode cX10_against 205 = .ok (.if_icmp .ge 44, 3) := by decide +kernel
theorem dX10_against_208 : decode cX10_against 208 = .ok (.iload 9, 2) := by decide +kernel
theorem dX10_against_210 : decode cX10_against 210 = .ok (.iconst 5, 1) := by decide +kernel
theorem dX10_against_211 : decode cX10_against 211 = .ok (.irem, 1) := by decide +kernel
theorem dX10_against_212 : decode cX10_against 212 = .ok (.iload_n 3, 1) := by decide +kernel
theorem dX10_against_213 : decode cX10_against 213 = .ok (.if_icmp .ge 36, 3) := by decide +kernel
theorem dX10_against_216 : decode cX10_against 216 = .ok (.aload_n 0, 1) := by decide +kernel
theorem dX10_against_217 : decode cX10_against 217 = .ok (.iload 9, 2) := by decide +kernel
theorem dX10_against_219 : decode cX10_against 219 = .ok (.iload_n 3, 1) := by decide +kernel
theorem dX10_against_220 : decode cX10_against 220 = .ok (.invokevirtual 411, 3) := by decide +kernel
theorem dX10_against_223 : decode cX10_against 223 = .ok (.ifCond .ne 6, 3) := by decide +kernel
theorem dX10_against_226 : decode cX10_against 226 = .ok (.goto 23, 3) := by decide +kernel
theorem dX10_against_229 : decode cX10_against 229 = .ok (.iload 7, 2) := by decide +kernel
theorem dX10_against_231 : decode cX10_against 231 = .ok (.ifCond .ne 8, 3) := by decide +kernel
theorem dX10_against_234 : decode cX10_against 234 = .ok (.iload 9, 2) := by decide +kernel
theorem dX10_against_236 : decode cX10_against 236 = .ok (.goto 5, 3) := by decide +kernel
theorem dX10_against_239 : decode cX10_against 239 = .ok (.iload 8, 2) := by decide +kernel
theorem dX10_against_241 : decode cX10_against 241 = .ok (.istore 8, 2) := by decide +kernel
theorem dX10_against_243 : decode cX10_against 243 = .ok (.iload 7, 2) := by decide +kernel
theorem dX10_against_245 : decode cX10_against 245 = .ok (.iconst 1, 1) := by decide +kernel
theorem dX10_against_246 : decode cX10_against 246 = .ok (.iadd, 1) := by decide +kernel
theorem dX10_against_247 : decode cX10_against 247 = .ok (.istore 7, 2) := by decide +kernel
theorem dX10_against_249 : decode cX10_against 249 = .ok (.iinc 9 1, 3) := by decide +kernel
theorem dX10_against_252 : decode cX10_against 252 = .ok (.goto (-59), 3) := by decide +kernel
theorem dX10_against_255 : decode cX10_against 255 = .ok (.iload 5, 2) := by decide +kernel
theorem dX10_against_257 : decode cX10_against 257 = .ok (.ifCond .ne 8, 3) := by decide +kernel
theorem dX10_against_260 : decode cX10_against 260 = .ok (.iload 7, 2) := by decide +kernel
theorem dX10_against_262 : decode cX10_against 262 = .ok (.goto 31, 3) := by decide +kernel
theorem dX10_against_265 : decode cX10_against 265 = .ok (.iload 8, 2) := by decide +kernel
theorem dX10_against_267 : decode cX10_against 267 = .ok (.iconst (-1), 1) := by decide +kernel
theorem dX10_against_268 : decode cX10_against 268 = .ok (.if_icmp .ne 8, 3) := by decide +kernel
theorem dX10_against_271 : decode cX10_against 271 = .ok (.bipush (-2), 2) := by decide +kernel
theorem dX10_against_273 : decode cX10_against 273 = .ok (.goto 20, 3) := by decide +kernel
theorem dX10_against_276 : decode cX10_against 276 = .ok (.iload 5, 2) := by decide +kernel
theorem dX10_against_278 : decode cX10_against 278 = .ok (.iconst 1, 1) := by decide +kernel
theorem dX10_against_279 : decode cX10_against 279 = .ok (.if_icmp .ne 10, 3) := by decide +kernel
theorem dX10_against_282 : decode cX10_against 282 = .ok (.iload 8, 2) := by decide +kernel
theorem dX10_against_284 : decode cX10_against 284 = .ok (.iconst 5, 1) := by decide +kernel
theorem dX10_against_285 : decode cX10_against 285 = .ok (.idiv, 1) := by decide +kernel
theorem dX10_against_286 : decode cX10_against 286 = .ok (.goto 7, 3) := by decide +kernel
theorem dX10_against_289 : decode cX10_against 289 = .ok (.iload 8, 2) := by decide +kernel
theorem dX10_against_291 : decode cX10_against 291 = .ok (.iconst 5, 1) := by decide +kernel
theorem dX10_against_292 : decode cX10_against 292 = .ok (.irem, 1) := by decide +kernel
theorem dX10_against_293 : decode cX10_against 293 = .ok (.ireturn, 1) := by decide +kernel
theorem dX10_rests_0 : decode cX10_rests 0 = .ok (.iconst 0, 1) := by decide +kernel
theorem dX10_rests_1 : decode cX10_rests 1 = .ok (.istore_n 3, 1) := by decide +kernel
theorem dX10_rests_2 : decode cX10_rests 2 = .ok (.iload_n 3, 1) := by decide +kernel
theorem dX10_rests_3 : decode cX10_rests 3 = .ok (.iload_n 2, 1) := by decide +kernel
theorem dX10_rests_4 : decode cX10_rests 4 = .ok (.if_icmp .ge 53, 3) := by decide +kernel
theorem dX10_rests_7 : decode cX10_rests 7 = .ok (.aload_n 0, 1) := by decide +kernel
theorem dX10_rests_8 : decode cX10_rests 8 = .ok (.getfield 128, 3) := by decide +kernel
theorem dX10_rests_11 : decode cX10_rests 11 = .ok (.iconst 5, 1) := by decide +kernel
theorem dX10_rests_12 : decode cX10_rests 12 = .ok (.iload_n 3, 1) := by decide +kernel
theorem dX10_rests_13 : decode cX10_rests 13 = .ok (.imul, 1) := by decide +kernel
theorem dX10_rests_14 : decode cX10_rests 14 = .ok (.iload_n 1, 1) := by decide +kernel
theorem dX10_rests_15 : decode cX10_rests 15 = .ok (.iconst 5, 1) := by decide +kernel
theorem dX10_rests_16 : decode cX10_rests 16 = .ok (.irem, 1) := by decide +kernel
theorem dX10_rests_17 : decode cX10_rests 17 = .ok (.iadd, 1) := by decide +kernel
theorem dX10_rests_18 : decode cX10_rests 18 = .ok (.iaload, 1) := by decide +kernel
theorem dX10_rests_19 : decode cX10_rests 19 = .ok (.aload_n 0, 1) := by decide +kernel
theorem dX10_rests_20 : decode cX10_rests 20 = .ok (.getfield 128, 3) := by decide +kernel
theorem dX10_rests_23 : decode cX10_rests 23 = .ok (.iload_n 1, 1) := by decide +kernel
theorem dX10_rests_24 : decode cX10_rests 24 = .ok (.iaload, 1) := by decide +kernel
theorem dX10_rests_25 : decode cX10_rests 25 = .ok (.if_icmp .gt 24, 3) := by decide +kernel
theorem dX10_rests_28 : decode cX10_rests 28 = .ok (.aload_n 0, 1) := by decide +kernel
theorem dX10_rests_29 : decode cX10_rests 29 = .ok (.getfield 128, 3) := by decide +kernel
theorem dX10_rests_32 : decode cX10_rests 32 = .ok (.iload_n 1, 1) := by decide +kernel
theorem dX10_rests_33 : decode cX10_rests 33 = .ok (.iconst 5, 1) := by decide +kernel
theorem dX10_rests_34 : decode cX10_rests 34 = .ok (.idiv, 1) := by decide +kernel
theorem dX10_rests_35 : decode cX10_rests 35 = .ok (.iconst 5, 1) := by decide +kernel
theorem dX10_rests_36 : decode cX10_rests 36 = .ok (.imul, 1) := by decide +kernel
theorem dX10_rests_37 : decode cX10_rests 37 = .ok (.iload_n 3, 1) := by decide +kernel
theorem dX10_rests_38 : decode cX10_rests 38 = .ok (.iadd, 1) := by decide +kernel
theorem dX10_rests_39 : decode cX10_rests 39 = .ok (.iaload, 1) := by decide +kernel
theorem dX10_rests_40 : decode cX10_rests 40 = .ok (.aload_n 0, 1) := by decide +kernel
theorem dX10_rests_41 : decode cX10_rests 41 = .ok (.getfield 128, 3) := by decide +kernel
theorem dX10_rests_44 : decode cX10_rests 44 = .ok (.iload_n 1, 1) := by decide +kernel
theorem dX10_rests_45 : decode cX10_rests 45 = .ok (.iaload, 1) := by decide +kernel
theorem dX10_rests_46 : decode cX10_rests 46 = .ok (.if_icmp .ge 5, 3) := by decide +kernel
theorem dX10_rests_49 : decode cX10_rests 49 = .ok (.iconst 0, 1) := by decide +kernel
theorem dX10_rests_50 : decode cX10_rests 50 = .ok (.ireturn, 1) := by decide +kernel
theorem dX10_rests_51 : decode cX10_rests 51 = .ok (.iinc 3 1, 3) := by decide +kernel
theorem dX10_rests_54 : decode cX10_rests 54 = .ok (.goto (-52), 3) := by decide +kernel
theorem dX10_rests_57 : decode cX10_rests 57 = .ok (.iconst 1, 1) := by decide +kernel
theorem dX10_rests_58 : decode cX10_rests 58 = .ok (.ireturn, 1) := by decide +kernel
