theorem dX10_byTurns_0 : decode cX10_byTurns 0 = .ok (.iload_n 1, 1) := by decide +kernel
theorem dX10_byTurns_1 : decode cX10_byTurns 1 = .ok (.iconst 1, 1) := by decide +kernel
theorem dX10_byTurns_2 : decode cX10_byTurns 2 = .ok (.sipush 1023, 3) := by decide +kernel
theorem dX10_byTurns_5 : decode cX10_byTurns 5 = .ok (.invokestatic 157, 3) := by decide +kernel
theorem dX10_byTurns_8 : decode cX10_byTurns 8 = .ok (.ifCond .eq 56, 3) := by decide +kernel
theorem dX10_byTurns_11 : decode cX10_byTurns 11 = .ok (.iload_n 1, 1) := by decide +kernel
theorem dX10_byTurns_12 : decode cX10_byTurns 12 = .ok (.aload_n 0, 1) := by decide +kernel
theorem dX10_byTurns_13 : decode cX10_byTurns 13 = .ok (.getfield 146, 3) := by decide +kernel
theorem dX10_byTurns_16 : decode cX10_byTurns 16 = .ok (.iconst (-1), 1) := by decide +kernel
theorem dX10_byTurns_17 : decode cX10_byTurns 17 = .ok (.ixor, 1) := by decide +kernel
theorem dX10_byTurns_18 : decode cX10_byTurns 18 = .ok (.iand, 1) := by decide +kernel
theorem dX10_byTurns_19 : decode cX10_byTurns 19 = .ok (.ifCond .ne 45, 3) := by decide +kernel
theorem dX10_byTurns_22 : decode cX10_byTurns 22 = .ok (.iload_n 1, 1) := by decide +kernel
theorem dX10_byTurns_23 : decode cX10_byTurns 23 = .ok (.invokestatic 297, 3) := by decide +kernel
theorem dX10_byTurns_26 : decode cX10_byTurns 26 = .ok (.iconst 2, 1) := by decide +kernel
theorem dX10_byTurns_27 : decode cX10_byTurns 27 = .ok (.iconst 4, 1) := by decide +kernel
theorem dX10_byTurns_28 : decode cX10_byTurns 28 = .ok (.invokestatic 157, 3) := by decide +kernel
theorem dX10_byTurns_31 : decode cX10_byTurns 31 = .ok (.ifCond .eq 33, 3) := by decide +kernel
theorem dX10_byTurns_34 : decode cX10_byTurns 34 = .ok (.iload_n 2, 1) := by decide +kernel
theorem dX10_byTurns_35 : decode cX10_byTurns 35 = .ok (.iconst 1, 1) := by decide +kernel
theorem dX10_byTurns_36 : decode cX10_byTurns 36 = .ok (.bipush 10, 2) := by decide +kernel
theorem dX10_byTurns_38 : decode cX10_byTurns 38 = .ok (.invokestatic 157, 3) := by decide +kernel
theorem dX10_byTurns_41 : decode cX10_byTurns 41 = .ok (.ifCond .eq 23, 3) := by decide +kernel
theorem dX10_byTurns_44 : decode cX10_byTurns 44 = .ok (.iload_n 3, 1) := by decide +kernel
theorem dX10_byTurns_45 : decode cX10_byTurns 45 = .ok (.bipush 10, 2) := by decide +kernel
theorem dX10_byTurns_47 : decode cX10_byTurns 47 = .ok (.if_icmp .eq 19, 3) := by decide +kernel
theorem dX10_byTurns_50 : decode cX10_byTurns 50 = .ok (.iload_n 3, 1) := by decide +kernel
theorem dX10_byTurns_51 : decode cX10_byTurns 51 = .ok (.iconst 0, 1) := by decide +kernel
theorem dX10_byTurns_52 : decode cX10_byTurns 52 = .ok (.iload_n 1, 1) := by decide +kernel
theorem dX10_byTurns_53 : decode cX10_byTurns 53 = .ok (.invokestatic 297, 3) := by decide +kernel
theorem dX10_byTurns_56 : decode cX10_byTurns 56 = .ok (.iconst 1, 1) := by decide +kernel
theorem dX10_byTurns_57 : decode cX10_byTurns 57 = .ok (.isub, 1) := by decide +kernel
theorem dX10_byTurns_58 : decode cX10_byTurns 58 = .ok (.invokestatic 157, 3) := by decide +kernel
theorem dX10_byTurns_61 : decode cX10_byTurns 61 = .ok (.ifCond .ne 5, 3) := by decide +kernel
theorem dX10_byTurns_64 : decode cX10_byTurns 64 = .ok (.iconst (-1), 1) := by decide +kernel
theorem dX10_byTurns_65 : decode cX10_byTurns 65 = .ok (.ireturn, 1) := by decide +kernel
theorem dX10_byTurns_66 : decode cX10_byTurns 66 = .ok (.iconst 0, 1) := by decide +kernel
theorem dX10_byTurns_67 : decode cX10_byTurns 67 = .ok (.istore 4, 2) := by decide +kernel
theorem dX10_byTurns_69 : decode cX10_byTurns 69 = .ok (.iconst 0, 1) := by decide +kernel
theorem dX10_byTurns_70 : decode cX10_byTurns 70 = .ok (.istore 5, 2) := by decide +kernel
theorem dX10_byTurns_72 : decode cX10_byTurns 72 = .ok (.iload 5, 2) := by decide +kernel
theorem dX10_byTurns_74 : decode cX10_byTurns 74 = .ok (.bipush 10, 2) := by decide +kernel
theorem dX10_byTurns_76 : decode cX10_byTurns 76 = .ok (.if_icmp .ge 36, 3) := by decide +kernel
theorem dX10_byTurns_79 : decode cX10_byTurns 79 = .ok (.iload_n 1, 1) := by decide +kernel
theorem dX10_byTurns_80 : decode cX10_byTurns 80 = .ok (.iload 5, 2) := by decide +kernel
theorem dX10_byTurns_82 : decode cX10_byTurns 82 = .ok (.invokestatic 150, 3) := by decide +kernel
theorem dX10_byTurns_85 : decode cX10_byTurns 85 = .ok (.ifCond .ne 6, 3) := by decide +kernel
theorem dX10_byTurns_88 : decode cX10_byTurns 88 = .ok (.goto 18, 3) := by decide +kernel
theorem dX10_byTurns_91 : decode cX10_byTurns 91 = .ok (.aload_n 0, 1) := by decide +kernel
theorem dX10_byTurns_92 : decode cX10_byTurns 92 = .ok (.getfield 143, 3) := by decide +kernel
theorem dX10_byTurns_95 : decode cX10_byTurns 95 = .ok (.iload 4, 2) := by decide +kernel
theorem dX10_byTurns_97 : decode cX10_byTurns 97 = .ok (.iload 5, 2) := by decide +kernel
theorem dX10_byTurns_99 : decode cX10_byTurns 99 = .ok (.iastore, 1) := by decide +kernel
theorem dX10_byTurns_100 : decode cX10_byTurns 100 = .ok (.iload 4, 2) := by decide +kernel
theorem dX10_byTurns_102 : decode cX10_byTurns 102 = .ok (.iconst 1, 1) := by decide +kernel
theorem dX10_byTurns_103 : decode cX10_byTurns 103 = .ok (.iadd, 1) := by decide +kernel
theorem dX10_byTurns_104 : decode cX10_byTurns 104 = .ok (.istore 4, 2) := by decide +kernel
theorem dX10_byTurns_106 : decode cX10_byTurns 106 = .ok (.iinc 5 1, 3) := by decide +kernel
theorem dX10_byTurns_109 : decode cX10_byTurns 109 = .ok (.goto (-37), 3) := by decide +kernel
theorem dX10_byTurns_112 : decode cX10_byTurns 112 = .ok (.iconst 1, 1) := by decide +kernel
theorem dX10_byTurns_113 : decode cX10_byTurns 113 = .ok (.istore 5, 2) := by decide +kernel
theorem dX10_byTurns_115 : decode cX10_byTurns 115 = .ok (.iconst 0, 1) := by decide +kernel
theorem dX10_byTurns_116 : decode cX10_byTurns 116 = .ok (.istore 6, 2) := by decide +kernel
theorem dX10_byTurns_118 : decode cX10_byTurns 118 = .ok (.iload 6, 2) := by decide +kernel
theorem dX10_byTurns_120 : decode cX10_byTurns 120 = .ok (.iload 4, 2) := by decide +kernel
theorem dX10_byTurns_122 : decode cX10_byTurns 122 = .ok (.if_icmp .ge 16, 3) := by decide +kernel
theorem dX10_byTurns_125 : decode cX10_byTurns 125 = .ok (.iload 5, 2) := by decide +kernel
theorem dX10_byTurns_127 : decode cX10_byTurns 127 = .ok (.iload 4, 2) := by decide +kernel
theorem dX10_byTurns_129 : decode cX10_byTurns 129 = .ok (.imul, 1) := by decide +kernel
theorem dX10_byTurns_130 : decode cX10_byTurns 130 = .ok (.istore 5, 2) := by decide +kernel
theorem dX10_byTurns_132 : decode cX10_byTurns 132 = .ok (.iinc 6 1, 3) := by decide +kernel
theorem dX10_byTurns_135 : decode cX10_byTurns 135 = .ok (.goto (-17), 3) := by decide +kernel
theorem dX10_byTurns_138 : decode cX10_byTurns 138 = .ok (.iconst (-1), 1) := by decide +kernel
theorem dX10_byTurns_139 : decode cX10_byTurns 139 = .ok (.istore 6, 2) := by decide +kernel
theorem dX10_byTurns_141 : decode cX10_byTurns 141 = .ok (.ldc_w 400, 3) := by decide +kernel
theorem dX10_byTurns_144 : decode cX10_byTurns 144 = .ok (.istore 7, 2) := by decide +kernel
theorem dX10_byTurns_146 : decode cX10_byTurns 146 = .ok (.iconst 0, 1) := by decide +kernel
theorem dX10_byTurns_147 : decode cX10_byTurns 147 = .ok (.istore 8, 2) := by decide +kernel
theorem dX10_byTurns_149 : decode cX10_byTurns 149 = .ok (.iload 8, 2) := by decide +kernel
theorem dX10_byTurns_151 : decode cX10_byTurns 151 = .ok (.iload 5, 2) := by decide +kernel
theorem dX10_byTurns_153 : decode cX10_byTurns 153 = .ok (.if_icmp .ge 115, 3) := by decide +kernel
theorem dX10_byTurns_156 : decode cX10_byTurns 156 = .ok (.aload_n 0, 1) := by decide +kernel
theorem dX10_byTurns_157 : decode cX10_byTurns 157 = .ok (.iload 8, 2) := by decide +kernel
theorem dX10_byTurns_159 : decode cX10_byTurns 159 = .ok (.iload 4, 2) := by decide +kernel
theorem dX10_byTurns_161 : decode cX10_byTurns 161 = .ok (.invokevirtual 431, 3) := by decide +kernel
theorem dX10_byTurns_164 : decode cX10_byTurns 164 = .ok (.ifCond .ne 6, 3) := by decide +kernel
theorem dX10_byTurns_167 : decode cX10_byTurns 167 = .ok (.goto 95, 3) := by decide +kernel
theorem dX10_byTurns_170 : decode cX10_byTurns 170 = .ok (.aload_n 0, 1) := by decide +kernel
theorem dX10_byTurns_171 : decode cX10_byTurns 171 = .ok (.invokevirtual 300, 3) := by decide +kernel
theorem dX10_byTurns_174 : decode cX10_byTurns 174 = .ok (.iconst 0, 1) := by decide +kernel
theorem dX10_byTurns_175 : decode cX10_byTurns 175 = .ok (.istore 9, 2) := by decide +kernel
theorem dX10_byTurns_177 : decode cX10_byTurns 177 = .ok (.iload 9, 2) := by decide +kernel
theorem dX10_byTurns_179 : decode cX10_byTurns 179 = .ok (.iload 4, 2) := by decide +kernel
theorem dX10_byTurns_181 : decode cX10_byTurns 181 = .ok (.if_icmp .ge 53, 3) := by decide +kernel
theorem dX10_byTurns_184 : decode cX10_byTurns 184 = .ok (.aload_n 0, 1) := by decide +kernel
theorem dX10_byTurns_185 : decode cX10_byTurns 185 = .ok (.aload_n 0, 1) := by decide +kernel
theorem dX10_byTurns_186 : decode cX10_byTurns 186 = .ok (.getfield 143, 3) := by decide +kernel
theorem dX10_byTurns_189 : decode cX10_byTurns 189 = .ok (.aload_n 0, 1) := by decide +kernel
theorem dX10_byTurns_190 : decode cX10_byTurns 190 = .ok (.getfield 140, 3) := by decide +kernel
theorem dX10_byTurns_193 : decode cX10_byTurns 193 = .ok (.iload 9, 2) := by decide +kernel
theorem dX10_byTurns_195 : decode cX10_byTurns 195 = .ok (.iaload, 1) := by decide +kernel
theorem dX10_byTurns_196 : decode cX10_byTurns 196 = .ok (.iaload, 1) := by decide +kernel
theorem dX10_byTurns_197 : decode cX10_byTurns 197 = .ok (.aload_n 0, 1) := by decide +kernel
theorem dX10_byTurns_198 : decode cX10_byTurns 198 = .ok (.getfield 7, 3) := by decide +kernel
theorem dX10_byTurns_201 : decode cX10_byTurns 201 = .ok (.bipush 13, 2) := by decide +kernel
theorem dX10_byTurns_203 : decode cX10_byTurns 203 = .ok (.iaload, 1) := by decide +kernel
theorem dX10_byTurns_204 : decode cX10_byTurns 204 = .ok (.iload 9, 2) := by decide +kernel
theorem dX10_byTurns_206 : decode cX10_byTurns 206 = .ok (.iload_n 2, 1) := by decide +kernel
theorem dX10_byTurns_207 : decode cX10_byTurns 207 = .ok (.imul, 1) := by decide +kernel
theorem dX10_byTurns_208 : decode cX10_byTurns 208 = .ok (.iadd, 1) := by decide +kernel
theorem dX10_byTurns_209 : decode cX10_byTurns 209 = .ok (.aload_n 0, 1) := by decide +kernel
theorem dX10_byTurns_210 : decode cX10_byTurns 210 = .ok (.getfield 7, 3) := by decide +kernel
theorem dX10_byTurns_213 : decode cX10_byTurns 213 = .ok (.bipush 13, 2) := by decide +kernel
theorem dX10_byTurns_215 : decode cX10_byTurns 215 = .ok (.iaload, 1) := by decide +kernel
theorem dX10_byTurns_216 : decode cX10_byTurns 216 = .ok (.iload 9, 2) := by decide +kernel
theorem dX10_byTurns_218 : decode cX10_byTurns 218 = .ok (.iconst 1, 1) := by decide +kernel
theorem dX10_byTurns_219 : decode cX10_byTurns 219 = .ok (.iadd, 1) := by decide +kernel
theorem dX10_byTurns_220 : decode cX10_byTurns 220 = .ok (.iload_n 2, 1) := by decide +kernel
theorem dX10_byTurns_221 : decode cX10_byTurns 221 = .ok (.imul, 1) := by decide +kernel
theorem dX10_byTurns_222 : decode cX10_byTurns 222 = .ok (.iadd, 1) := by decide +kernel
theorem dX10_byTurns_223 : decode cX10_byTurns 223 = .ok (.iconst 1, 1) := by decide +kernel
theorem dX10_byTurns_224 : decode cX10_byTurns 224 = .ok (.isub, 1) := by decide +kernel
theorem dX10_byTurns_225 : decode cX10_byTurns 225 = .ok (.invokevirtual 303, 3) := by decide +kernel
theorem dX10_byTurns_228 : decode cX10_byTurns 228 = .ok (.iinc 9 1, 3) := by decide +kernel
theorem dX10_byTurns_231 : decode cX10_byTurns 231 = .ok (.goto (-54), 3) := by decide +kernel
theorem dX10_byTurns_234 : decode cX10_byTurns 234 = .ok (.aload_n 0, 1) := by decide +kernel
theorem dX10_byTurns_235 : decode cX10_byTurns 235 = .ok (.iload 4, 2) := by decide +kernel
theorem dX10_byTurns_237 : decode cX10_byTurns 237 = .ok (.iload_n 2, 1) := by decide +kernel
theorem dX10_byTurns_238 : decode cX10_byTurns 238 = .ok (.imul, 1) := by decide +kernel
theorem dX10_byTurns_239 : decode cX10_byTurns 239 = .ok (.invokevirtual 375, 3) := by decide +kernel
theorem dX10_byTurns_242 : decode cX10_byTurns 242 = .ok (.istore 9, 2) := by decide +kernel
theorem dX10_byTurns_244 : decode cX10_byTurns 244 = .ok (.iload 9, 2) := by decide +kernel
theorem dX10_byTurns_246 : decode cX10_byTurns 246 = .ok (.iload 7, 2) := by decide +kernel
theorem dX10_byTurns_248 : decode cX10_byTurns 248 = .ok (.if_icmp .lt 6, 3) := by decide +kernel
theorem dX10_byTurns_251 : decode cX10_byTurns 251 = .ok (.goto 11, 3) := by decide +kernel
theorem dX10_byTurns_254 : decode cX10_byTurns 254 = .ok (.iload 9, 2) := by decide +kernel
theorem dX10_byTurns_256 : decode cX10_byTurns 256 = .ok (.istore 7, 2) := by decide +kernel
theorem dX10_byTurns_258 : decode cX10_byTurns 258 = .ok (.iload 8, 2) := by decide +kernel
theorem dX10_byTurns_260 : decode cX10_byTurns 260 = .ok (.istore 6, 2) := by decide +kernel
theorem dX10_byTurns_262 : decode cX10_byTurns 262 = .ok (.iinc 8 1, 3) := by decide +kernel
theorem dX10_byTurns_265 : decode cX10_byTurns 265 = .ok (.goto (-116), 3) := by decide +kernel
theorem dX10_byTurns_268 : decode cX10_byTurns 268 = .ok (.iload_n 3, 1) := by decide +kernel
theorem dX10_byTurns_269 : decode cX10_byTurns 269 = .ok (.bipush 10, 2) := by decide +kernel
theorem dX10_byTurns_271 : decode cX10_byTurns 271 = .ok (.if_icmp .ne 6, 3) := by decide +kernel
theorem dX10_byTurns_274 : decode cX10_byTurns 274 = .ok (.iload 7, 2) := by decide +kernel
theorem dX10_byTurns_276 : decode cX10_byTurns 276 = .ok (.ireturn, 1) := by decide +kernel
theorem dX10_byTurns_277 : decode cX10_byTurns 277 = .ok (.aload_n 0, 1) := by decide +kernel
theorem dX10_byTurns_278 : decode cX10_byTurns 278 = .ok (.iload 6, 2) := by decide +kernel
theorem dX10_byTurns_280 : decode cX10_byTurns 280 = .ok (.iload 4, 2) := by decide +kernel
theorem dX10_byTurns_282 : decode cX10_byTurns 282 = .ok (.invokevirtual 431, 3) := by decide +kernel
theorem dX10_byTurns_285 : decode cX10_byTurns 285 = .ok (.pop, 1) := by decide +kernel
theorem dX10_byTurns_286 : decode cX10_byTurns 286 = .ok (.aload_n 0, 1) := by decide +kernel
theorem dX10_byTurns_287 : decode cX10_byTurns 287 = .ok (.getfield 143, 3) := by decide +kernel
theorem dX10_byTurns_290 : decode cX10_byTurns 290 = .ok (.aload_n 0, 1) := by decide +kernel
theorem dX10_byTurns_291 : decode cX10_byTurns 291 = .ok (.getfield 140, 3) := by decide +kernel
theorem dX10_byTurns_294 : decode cX10_byTurns 294 = .ok (.iload_n 3, 1) := by decide +kernel
theorem dX10_byTurns_295 : decode cX10_byTurns 295 = .ok (.iaload, 1) := by decide +kernel
theorem dX10_byTurns_296 : decode cX10_byTurns 296 = .ok (.iaload, 1) := by decide +kernel
theorem dX10_byTurns_297 : decode cX10_byTurns 297 = .ok (.ireturn, 1) := by decide +kernel
theorem dX10_readsTurns_0 : decode cX10_readsTurns 0 = .ok (.iload_n 1, 1) := by decide +kernel
theorem dX10_readsTurns_1 : decode cX10_readsTurns 1 = .ok (.istore_n 3, 1) := by decide +kernel
theorem dX10_readsTurns_2 : decode cX10_readsTurns 2 = .ok (.iconst 0, 1) := by decide +kernel
theorem dX10_readsTurns_3 : decode cX10_readsTurns 3 = .ok (.istore 4, 2) := by decide +kernel
theorem dX10_readsTurns_5 : decode cX10_readsTurns 5 = .ok (.iload_n 2, 1) := by decide +kernel
theorem dX10_readsTurns_6 : decode cX10_readsTurns 6 = .ok (.iconst 1, 1) := by decide +kernel
theorem dX10_readsTurns_7 : decode cX10_readsTurns 7 = .ok (.isub, 1) := by decide +kernel
theorem dX10_readsTurns_8 : decode cX10_readsTurns 8 = .ok (.istore 5, 2) := by decide +kernel
theorem dX10_readsTurns_10 : decode cX10_readsTurns 10 = .ok (.iload 5, 2) := by decide +kernel
theorem dX10_readsTurns_12 : decode cX10_readsTurns 12 = .ok (.ifCond .lt 54, 3) := by decide +kernel
theorem dX10_readsTurns_15 : decode cX10_readsTurns 15 = .ok (.aload_n 0, 1) := by decide +kernel
theorem dX10_readsTurns_16 : decode cX10_readsTurns 16 = .ok (.getfield 140, 3) := by decide +kernel
theorem dX10_readsTurns_19 : decode cX10_readsTurns 19 = .ok (.iload 5, 2) := by decide +kernel
theorem dX10_readsTurns_21 : decode cX10_readsTurns 21 = .ok (.iload_n 3, 1) := by decide +kernel
theorem dX10_readsTurns_22 : decode cX10_readsTurns 22 = .ok (.iload_n 2, 1) := by decide +kernel
theorem dX10_readsTurns_23 : decode cX10_readsTurns 23 = .ok (.irem, 1) := by decide +kernel
theorem dX10_readsTurns_24 : decode cX10_readsTurns 24 = .ok (.iastore, 1) := by decide +kernel
theorem dX10_readsTurns_25 : decode cX10_readsTurns 25 = .ok (.iload_n 3, 1) := by decide +kernel
theorem dX10_readsTurns_26 : decode cX10_readsTurns 26 = .ok (.iload_n 2, 1) := by decide +kernel
theorem dX10_readsTurns_27 : decode cX10_readsTurns 27 = .ok (.idiv, 1) := by decide +kernel
theorem dX10_readsTurns_28 : decode cX10_readsTurns 28 = .ok (.istore_n 3, 1) := by decide +kernel
theorem dX10_readsTurns_29 : decode cX10_readsTurns 29 = .ok (.iload 4, 2) := by decide +kernel
theorem dX10_readsTurns_31 : decode cX10_readsTurns 31 = .ok (.aload_n 0, 1) := by decide +kernel
theorem dX10_readsTurns_32 : decode cX10_readsTurns 32 = .ok (.getfield 140, 3) := by decide +kernel
theorem dX10_readsTurns_35 : decode cX10_readsTurns 35 = .ok (.iload 5, 2) := by decide +kernel
theorem dX10_readsTurns_37 : decode cX10_readsTurns 37 = .ok (.iaload, 1) := by decide +kernel
theorem dX10_readsTurns_38 : decode cX10_readsTurns 38 = .ok (.invokestatic 150, 3) := by decide +kernel
theorem dX10_readsTurns_41 : decode cX10_readsTurns 41 = .ok (.ifCond .eq 5, 3) := by decide +kernel
theorem dX10_readsTurns_44 : decode cX10_readsTurns 44 = .ok (.iconst 0, 1) := by decide +kernel
theorem dX10_readsTurns_45 : decode cX10_readsTurns 45 = .ok (.ireturn, 1) := by decide +kernel
theorem dX10_readsTurns_46 : decode cX10_readsTurns 46 = .ok (.iload 4, 2) := by decide +kernel
theorem dX10_readsTurns_48 : decode cX10_readsTurns 48 = .ok (.iconst 1, 1) := by decide +kernel
theorem dX10_readsTurns_49 : decode cX10_readsTurns 49 = .ok (.aload_n 0, 1) := by decide +kernel
theorem dX10_readsTurns_50 : decode cX10_readsTurns 50 = .ok (.getfield 140, 3) := by decide +kernel
theorem dX10_readsTurns_53 : decode cX10_readsTurns 53 = .ok (.iload 5, 2) := by decide +kernel
theorem dX10_readsTurns_55 : decode cX10_readsTurns 55 = .ok (.iaload, 1) := by decide +kernel
theorem dX10_readsTurns_56 : decode cX10_readsTurns 56 = .ok (.ishl, 1) := by decide +kernel
theorem dX10_readsTurns_57 : decode cX10_readsTurns 57 = .ok (.ior, 1) := by decide +kernel
theorem dX10_readsTurns_58 : decode cX10_readsTurns 58 = .ok (.istore 4, 2) := by decide +kernel
theorem dX10_readsTurns_60 : decode cX10_readsTurns 60 = .ok (.iinc 5 (-1), 3) := by decide +kernel
theorem dX10_readsTurns_63 : decode cX10_readsTurns 63 = .ok (.goto (-53), 3) := by decide +kernel
theorem dX10_readsTurns_66 : decode cX10_readsTurns 66 = .ok (.iconst 1, 1) := by decide +kernel
theorem dX10_readsTurns_67 : decode cX10_readsTurns 67 = .ok (.ireturn, 1) := by decide +kernel
