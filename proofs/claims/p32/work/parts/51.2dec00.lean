theorem dX10_hired_0 : decode cX10_hired 0 = .ok (.iload_n 1, 1) := by decide +kernel
theorem dX10_hired_1 : decode cX10_hired 1 = .ok (.iconst 1, 1) := by decide +kernel
theorem dX10_hired_2 : decode cX10_hired 2 = .ok (.bipush 9, 2) := by decide +kernel
theorem dX10_hired_4 : decode cX10_hired 4 = .ok (.invokestatic 157, 3) := by decide +kernel
theorem dX10_hired_7 : decode cX10_hired 7 = .ok (.ifCond .eq 40, 3) := by decide +kernel
theorem dX10_hired_10 : decode cX10_hired 10 = .ok (.iload_n 2, 1) := by decide +kernel
theorem dX10_hired_11 : decode cX10_hired 11 = .ok (.iconst 1, 1) := by decide +kernel
theorem dX10_hired_12 : decode cX10_hired 12 = .ok (.sipush 1023, 3) := by decide +kernel
theorem dX10_hired_15 : decode cX10_hired 15 = .ok (.invokestatic 157, 3) := by decide +kernel
theorem dX10_hired_18 : decode cX10_hired 18 = .ok (.ifCond .eq 29, 3) := by decide +kernel
theorem dX10_hired_21 : decode cX10_hired 21 = .ok (.iload_n 2, 1) := by decide +kernel
theorem dX10_hired_22 : decode cX10_hired 22 = .ok (.aload_n 0, 1) := by decide +kernel
theorem dX10_hired_23 : decode cX10_hired 23 = .ok (.getfield 146, 3) := by decide +kernel
theorem dX10_hired_26 : decode cX10_hired 26 = .ok (.iconst (-1), 1) := by decide +kernel
theorem dX10_hired_27 : decode cX10_hired 27 = .ok (.ixor, 1) := by decide +kernel
theorem dX10_hired_28 : decode cX10_hired 28 = .ok (.iand, 1) := by decide +kernel
theorem dX10_hired_29 : decode cX10_hired 29 = .ok (.ifCond .ne 18, 3) := by decide +kernel
theorem dX10_hired_32 : decode cX10_hired 32 = .ok (.iload_n 2, 1) := by decide +kernel
theorem dX10_hired_33 : decode cX10_hired 33 = .ok (.invokestatic 297, 3) := by decide +kernel
theorem dX10_hired_36 : decode cX10_hired 36 = .ok (.iconst 3, 1) := by decide +kernel
theorem dX10_hired_37 : decode cX10_hired 37 = .ok (.if_icmp .gt 10, 3) := by decide +kernel
theorem dX10_hired_40 : decode cX10_hired 40 = .ok (.iload_n 3, 1) := by decide +kernel
theorem dX10_hired_41 : decode cX10_hired 41 = .ok (.invokestatic 366, 3) := by decide +kernel
theorem dX10_hired_44 : decode cX10_hired 44 = .ok (.ifCond .ne 5, 3) := by decide +kernel
theorem dX10_hired_47 : decode cX10_hired 47 = .ok (.iconst (-1), 1) := by decide +kernel
theorem dX10_hired_48 : decode cX10_hired 48 = .ok (.ireturn, 1) := by decide +kernel
theorem dX10_hired_49 : decode cX10_hired 49 = .ok (.iload 4, 2) := by decide +kernel
theorem dX10_hired_51 : decode cX10_hired 51 = .ok (.bipush 10, 2) := by decide +kernel
theorem dX10_hired_53 : decode cX10_hired 53 = .ok (.if_icmp .eq 25, 3) := by decide +kernel
theorem dX10_hired_56 : decode cX10_hired 56 = .ok (.iload 4, 2) := by decide +kernel
theorem dX10_hired_58 : decode cX10_hired 58 = .ok (.iconst 0, 1) := by decide +kernel
theorem dX10_hired_59 : decode cX10_hired 59 = .ok (.bipush 9, 2) := by decide +kernel
theorem dX10_hired_61 : decode cX10_hired 61 = .ok (.invokestatic 157, 3) := by decide +kernel
theorem dX10_hired_64 : decode cX10_hired 64 = .ok (.ifCond .eq 12, 3) := by decide +kernel
theorem dX10_hired_67 : decode cX10_hired 67 = .ok (.iload_n 2, 1) := by decide +kernel
theorem dX10_hired_68 : decode cX10_hired 68 = .ok (.iload 4, 2) := by decide +kernel
theorem dX10_hired_70 : decode cX10_hired 70 = .ok (.invokestatic 150, 3) := by decide +kernel
theorem dX10_hired_73 : decode cX10_hired 73 = .ok (.ifCond .ne 5, 3) := by decide +kernel
theorem dX10_hired_76 : decode cX10_hired 76 = .ok (.iconst (-1), 1) := by decide +kernel
theorem dX10_hired_77 : decode cX10_hired 77 = .ok (.ireturn, 1) := by decide +kernel
theorem dX10_hired_78 : decode cX10_hired 78 = .ok (.iconst 0, 1) := by decide +kernel
theorem dX10_hired_79 : decode cX10_hired 79 = .ok (.istore 5, 2) := by decide +kernel
theorem dX10_hired_81 : decode cX10_hired 81 = .ok (.iconst 0, 1) := by decide +kernel
theorem dX10_hired_82 : decode cX10_hired 82 = .ok (.istore 6, 2) := by decide +kernel
theorem dX10_hired_84 : decode cX10_hired 84 = .ok (.iload 6, 2) := by decide +kernel
theorem dX10_hired_86 : decode cX10_hired 86 = .ok (.bipush 10, 2) := by decide +kernel
theorem dX10_hired_88 : decode cX10_hired 88 = .ok (.if_icmp .ge 36, 3) := by decide +kernel
theorem dX10_hired_91 : decode cX10_hired 91 = .ok (.iload_n 2, 1) := by decide +kernel
theorem dX10_hired_92 : decode cX10_hired 92 = .ok (.iload 6, 2) := by decide +kernel
theorem dX10_hired_94 : decode cX10_hired 94 = .ok (.invokestatic 150, 3) := by decide +kernel
theorem dX10_hired_97 : decode cX10_hired 97 = .ok (.ifCond .ne 6, 3) := by decide +kernel
theorem dX10_hired_100 : decode cX10_hired 100 = .ok (.goto 18, 3) := by decide +kernel
theorem dX10_hired_103 : decode cX10_hired 103 = .ok (.aload_n 0, 1) := by decide +kernel
theorem dX10_hired_104 : decode cX10_hired 104 = .ok (.getfield 137, 3) := by decide +kernel
theorem dX10_hired_107 : decode cX10_hired 107 = .ok (.iload 5, 2) := by decide +kernel
theorem dX10_hired_109 : decode cX10_hired 109 = .ok (.iload 6, 2) := by decide +kernel
theorem dX10_hired_111 : decode cX10_hired 111 = .ok (.iastore, 1) := by decide +kernel
theorem dX10_hired_112 : decode cX10_hired 112 = .ok (.iload 5, 2) := by decide +kernel
theorem dX10_hired_114 : decode cX10_hired 114 = .ok (.iconst 1, 1) := by decide +kernel
theorem dX10_hired_115 : decode cX10_hired 115 = .ok (.iadd, 1) := by decide +kernel
theorem dX10_hired_116 : decode cX10_hired 116 = .ok (.istore 5, 2) := by decide +kernel
theorem dX10_hired_118 : decode cX10_hired 118 = .ok (.iinc 6 1, 3) := by decide +kernel
theorem dX10_hired_121 : decode cX10_hired 121 = .ok (.goto (-37), 3) := by decide +kernel
theorem dX10_hired_124 : decode cX10_hired 124 = .ok (.ldc_w 400, 3) := by decide +kernel
theorem dX10_hired_127 : decode cX10_hired 127 = .ok (.istore 6, 2) := by decide +kernel
theorem dX10_hired_129 : decode cX10_hired 129 = .ok (.iconst 0, 1) := by decide +kernel
theorem dX10_hired_130 : decode cX10_hired 130 = .ok (.istore 7, 2) := by decide +kernel
theorem dX10_hired_132 : decode cX10_hired 132 = .ok (.iload 7, 2) := by decide +kernel
theorem dX10_hired_134 : decode cX10_hired 134 = .ok (.sipush 1000, 3) := by decide +kernel
theorem dX10_hired_137 : decode cX10_hired 137 = .ok (.if_icmp .ge 117, 3) := by decide +kernel
theorem dX10_hired_140 : decode cX10_hired 140 = .ok (.aload_n 0, 1) := by decide +kernel
theorem dX10_hired_141 : decode cX10_hired 141 = .ok (.iload 7, 2) := by decide +kernel
theorem dX10_hired_143 : decode cX10_hired 143 = .ok (.iload 5, 2) := by decide +kernel
theorem dX10_hired_145 : decode cX10_hired 145 = .ok (.iload_n 1, 1) := by decide +kernel
theorem dX10_hired_146 : decode cX10_hired 146 = .ok (.invokevirtual 425, 3) := by decide +kernel
theorem dX10_hired_149 : decode cX10_hired 149 = .ok (.ifCond .ne 6, 3) := by decide +kernel
theorem dX10_hired_152 : decode cX10_hired 152 = .ok (.goto 96, 3) := by decide +kernel
theorem dX10_hired_155 : decode cX10_hired 155 = .ok (.aload_n 0, 1) := by decide +kernel
theorem dX10_hired_156 : decode cX10_hired 156 = .ok (.sipush 1023, 3) := by decide +kernel
theorem dX10_hired_159 : decode cX10_hired 159 = .ok (.invokevirtual 369, 3) := by decide +kernel
theorem dX10_hired_162 : decode cX10_hired 162 = .ok (.iconst 0, 1) := by decide +kernel
theorem dX10_hired_163 : decode cX10_hired 163 = .ok (.istore 8, 2) := by decide +kernel
theorem dX10_hired_165 : decode cX10_hired 165 = .ok (.iload 8, 2) := by decide +kernel
theorem dX10_hired_167 : decode cX10_hired 167 = .ok (.iload 5, 2) := by decide +kernel
theorem dX10_hired_169 : decode cX10_hired 169 = .ok (.if_icmp .ge 28, 3) := by decide +kernel
theorem dX10_hired_172 : decode cX10_hired 172 = .ok (.aload_n 0, 1) := by decide +kernel
theorem dX10_hired_173 : decode cX10_hired 173 = .ok (.getfield 113, 3) := by decide +kernel
theorem dX10_hired_176 : decode cX10_hired 176 = .ok (.aload_n 0, 1) := by decide +kernel
theorem dX10_hired_177 : decode cX10_hired 177 = .ok (.getfield 137, 3) := by decide +kernel
theorem dX10_hired_180 : decode cX10_hired 180 = .ok (.iload 8, 2) := by decide +kernel
theorem dX10_hired_182 : decode cX10_hired 182 = .ok (.iaload, 1) := by decide +kernel
theorem dX10_hired_183 : decode cX10_hired 183 = .ok (.aload_n 0, 1) := by decide +kernel
theorem dX10_hired_184 : decode cX10_hired 184 = .ok (.getfield 131, 3) := by decide +kernel
theorem dX10_hired_187 : decode cX10_hired 187 = .ok (.iload 8, 2) := by decide +kernel
theorem dX10_hired_189 : decode cX10_hired 189 = .ok (.iaload, 1) := by decide +kernel
theorem dX10_hired_190 : decode cX10_hired 190 = .ok (.iastore, 1) := by decide +kernel
theorem dX10_hired_191 : decode cX10_hired 191 = .ok (.iinc 8 1, 3) := by decide +kernel
theorem dX10_hired_194 : decode cX10_hired 194 = .ok (.goto (-29), 3) := by decide +kernel
theorem dX10_hired_197 : decode cX10_hired 197 = .ok (.aload_n 0, 1) := by decide +kernel
theorem dX10_hired_198 : decode cX10_hired 198 = .ok (.iload_n 3, 1) := by decide +kernel
theorem dX10_hired_199 : decode cX10_hired 199 = .ok (.invokevirtual 375, 3) := by decide +kernel
theorem dX10_hired_202 : decode cX10_hired 202 = .ok (.istore 8, 2) := by decide +kernel
theorem dX10_hired_204 : decode cX10_hired 204 = .ok (.iload 8, 2) := by decide +kernel
theorem dX10_hired_206 : decode cX10_hired 206 = .ok (.iload 6, 2) := by decide +kernel
theorem dX10_hired_208 : decode cX10_hired 208 = .ok (.if_icmp .lt 6, 3) := by decide +kernel
theorem dX10_hired_211 : decode cX10_hired 211 = .ok (.goto 37, 3) := by decide +kernel
theorem dX10_hired_214 : decode cX10_hired 214 = .ok (.iload 8, 2) := by decide +kernel
theorem dX10_hired_216 : decode cX10_hired 216 = .ok (.istore 6, 2) := by decide +kernel
theorem dX10_hired_218 : decode cX10_hired 218 = .ok (.iconst 0, 1) := by decide +kernel
theorem dX10_hired_219 : decode cX10_hired 219 = .ok (.istore 9, 2) := by decide +kernel
theorem dX10_hired_221 : decode cX10_hired 221 = .ok (.iload 9, 2) := by decide +kernel
theorem dX10_hired_223 : decode cX10_hired 223 = .ok (.iload 5, 2) := by decide +kernel
theorem dX10_hired_225 : decode cX10_hired 225 = .ok (.if_icmp .ge 23, 3) := by decide +kernel
theorem dX10_hired_228 : decode cX10_hired 228 = .ok (.aload_n 0, 1) := by decide +kernel
theorem dX10_hired_229 : decode cX10_hired 229 = .ok (.getfield 134, 3) := by decide +kernel
theorem dX10_hired_232 : decode cX10_hired 232 = .ok (.iload 9, 2) := by decide +kernel
theorem dX10_hired_234 : decode cX10_hired 234 = .ok (.aload_n 0, 1) := by decide +kernel
theorem dX10_hired_235 : decode cX10_hired 235 = .ok (.getfield 131, 3) := by decide +kernel
theorem dX10_hired_238 : decode cX10_hired 238 = .ok (.iload 9, 2) := by decide +kernel
theorem dX10_hired_240 : decode cX10_hired 240 = .ok (.iaload, 1) := by decide +kernel
theorem dX10_hired_241 : decode cX10_hired 241 = .ok (.iastore, 1) := by decide +kernel
theorem dX10_hired_242 : decode cX10_hired 242 = .ok (.iinc 9 1, 3) := by decide +kernel
theorem dX10_hired_245 : decode cX10_hired 245 = .ok (.goto (-24), 3) := by decide +kernel
theorem dX10_hired_248 : decode cX10_hired 248 = .ok (.iinc 7 1, 3) := by decide +kernel
theorem dX10_hired_251 : decode cX10_hired 251 = .ok (.goto (-119), 3) := by decide +kernel
theorem dX10_hired_254 : decode cX10_hired 254 = .ok (.iload 4, 2) := by decide +kernel
theorem dX10_hired_256 : decode cX10_hired 256 = .ok (.bipush 10, 2) := by decide +kernel
theorem dX10_hired_258 : decode cX10_hired 258 = .ok (.if_icmp .ne 6, 3) := by decide +kernel
theorem dX10_hired_261 : decode cX10_hired 261 = .ok (.iload 6, 2) := by decide +kernel
theorem dX10_hired_263 : decode cX10_hired 263 = .ok (.ireturn, 1) := by decide +kernel
theorem dX10_hired_264 : decode cX10_hired 264 = .ok (.iconst 0, 1) := by decide +kernel
theorem dX10_hired_265 : decode cX10_hired 265 = .ok (.istore 7, 2) := by decide +kernel
theorem dX10_hired_267 : decode cX10_hired 267 = .ok (.aload_n 0, 1) := by decide +kernel
theorem dX10_hired_268 : decode cX10_hired 268 = .ok (.getfield 137, 3) := by decide +kernel
theorem dX10_hired_271 : decode cX10_hired 271 = .ok (.iload 7, 2) := by decide +kernel
theorem dX10_hired_273 : decode cX10_hired 273 = .ok (.iaload, 1) := by decide +kernel
theorem dX10_hired_274 : decode cX10_hired 274 = .ok (.iload 4, 2) := by decide +kernel
theorem dX10_hired_276 : decode cX10_hired 276 = .ok (.if_icmp .eq 12, 3) := by decide +kernel
theorem dX10_hired_279 : decode cX10_hired 279 = .ok (.iload 7, 2) := by decide +kernel
theorem dX10_hired_281 : decode cX10_hired 281 = .ok (.iconst 1, 1) := by decide +kernel
theorem dX10_hired_282 : decode cX10_hired 282 = .ok (.iadd, 1) := by decide +kernel
theorem dX10_hired_283 : decode cX10_hired 283 = .ok (.istore 7, 2) := by decide +kernel
theorem dX10_hired_285 : decode cX10_hired 285 = .ok (.goto (-18), 3) := by decide +kernel
theorem dX10_hired_288 : decode cX10_hired 288 = .ok (.aload_n 0, 1) := by decide +kernel
theorem dX10_hired_289 : decode cX10_hired 289 = .ok (.getfield 134, 3) := by decide +kernel
theorem dX10_hired_292 : decode cX10_hired 292 = .ok (.iload 7, 2) := by decide +kernel
theorem dX10_hired_294 : decode cX10_hired 294 = .ok (.iaload, 1) := by decide +kernel
theorem dX10_hired_295 : decode cX10_hired 295 = .ok (.ireturn, 1) := by decide +kernel
theorem dX10_share_0 : decode cX10_share 0 = .ok (.iload_n 1, 1) := by decide +kernel
theorem dX10_share_1 : decode cX10_share 1 = .ok (.iconst 1, 1) := by decide +kernel
theorem dX10_share_2 : decode cX10_share 2 = .ok (.sipush 1023, 3) := by decide +kernel
theorem dX10_share_5 : decode cX10_share 5 = .ok (.invokestatic 157, 3) := by decide +kernel
theorem dX10_share_8 : decode cX10_share 8 = .ok (.ifCond .eq 36, 3) := by decide +kernel
theorem dX10_share_11 : decode cX10_share 11 = .ok (.iload_n 1, 1) := by decide +kernel
theorem dX10_share_12 : decode cX10_share 12 = .ok (.invokestatic 297, 3) := by decide +kernel
theorem dX10_share_15 : decode cX10_share 15 = .ok (.iconst 5, 1) := by decide +kernel
theorem dX10_share_16 : decode cX10_share 16 = .ok (.if_icmp .gt 28, 3) := by decide +kernel
theorem dX10_share_19 : decode cX10_share 19 = .ok (.aload_n 0, 1) := by decide +kernel
theorem dX10_share_20 : decode cX10_share 20 = .ok (.iload_n 1, 1) := by decide +kernel
theorem dX10_share_21 : decode cX10_share 21 = .ok (.invokevirtual 388, 3) := by decide +kernel
theorem dX10_share_24 : decode cX10_share 24 = .ok (.ifCond .eq 20, 3) := by decide +kernel
theorem dX10_share_27 : decode cX10_share 27 = .ok (.iload_n 3, 1) := by decide +kernel
theorem dX10_share_28 : decode cX10_share 28 = .ok (.invokestatic 366, 3) := by decide +kernel
theorem dX10_share_31 : decode cX10_share 31 = .ok (.ifCond .eq 13, 3) := by decide +kernel
theorem dX10_share_34 : decode cX10_share 34 = .ok (.iload 4, 2) := by decide +kernel
theorem dX10_share_36 : decode cX10_share 36 = .ok (.iconst 0, 1) := by decide +kernel
theorem dX10_share_37 : decode cX10_share 37 = .ok (.iconst 2, 1) := by decide +kernel
theorem dX10_share_38 : decode cX10_share 38 = .ok (.invokestatic 157, 3) := by decide +kernel
theorem dX10_share_41 : decode cX10_share 41 = .ok (.ifCond .ne 7, 3) := by decide +kernel
theorem dX10_share_44 : decode cX10_share 44 = .ok (.ldc_w 384, 3) := by decide +kernel
theorem dX10_share_47 : decode cX10_share 47 = .ok (.ireturn, 1) := by decide +kernel
theorem dX10_share_48 : decode cX10_share 48 = .ok (.iload 4, 2) := by decide +kernel
theorem dX10_share_50 : decode cX10_share 50 = .ok (.iconst 2, 1) := by decide +kernel
theorem dX10_share_51 : decode cX10_share 51 = .ok (.if_icmp .ge 25, 3) := by decide +kernel
theorem dX10_share_54 : decode cX10_share 54 = .ok (.iload_n 2, 1) := by decide +kernel
theorem dX10_share_55 : decode cX10_share 55 = .ok (.iconst 0, 1) := by decide +kernel
theorem dX10_share_56 : decode cX10_share 56 = .ok (.bipush 9, 2) := by decide +kernel
theorem dX10_share_58 : decode cX10_share 58 = .ok (.invokestatic 157, 3) := by decide +kernel
theorem dX10_share_61 : decode cX10_share 61 = .ok (.ifCond .eq 11, 3) := by decide +kernel
theorem dX10_share_64 : decode cX10_share 64 = .ok (.iload_n 1, 1) := by decide +kernel
theorem dX10_share_65 : decode cX10_share 65 = .ok (.iload_n 2, 1) := by decide +kernel
theorem dX10_share_66 : decode cX10_share 66 = .ok (.invokestatic 150, 3) := by decide +kernel
theorem dX10_share_69 : decode cX10_share 69 = .ok (.ifCond .ne 7, 3) := by decide +kernel
theorem dX10_share_72 : decode cX10_share 72 = .ok (.ldc_w 384, 3) := by decide +kernel
theorem dX10_share_75 : decode cX10_share 75 = .ok (.ireturn, 1) := by decide +kernel
theorem dX10_share_76 : decode cX10_share 76 = .ok (.aload_n 0, 1) := by decide +kernel
theorem dX10_share_77 : decode cX10_share 77 = .ok (.iload_n 1, 1) := by decide +kernel
theorem dX10_share_78 : decode cX10_share 78 = .ok (.iload_n 3, 1) := by decide +kernel
theorem dX10_share_79 : decode cX10_share 79 = .ok (.invokevirtual 391, 3) := by decide +kernel
theorem dX10_share_82 : decode cX10_share 82 = .ok (.iload 4, 2) := by decide +kernel
theorem dX10_share_84 : decode cX10_share 84 = .ok (.iconst 2, 1) := by decide +kernel
theorem dX10_share_85 : decode cX10_share 85 = .ok (.if_icmp .ge 49, 3) := by decide +kernel
theorem dX10_share_88 : decode cX10_share 88 = .ok (.aload_n 0, 1) := by decide +kernel
theorem dX10_share_89 : decode cX10_share 89 = .ok (.iload_n 1, 1) := by decide +kernel
theorem dX10_share_90 : decode cX10_share 90 = .ok (.iload_n 2, 1) := by decide +kernel
theorem dX10_share_91 : decode cX10_share 91 = .ok (.invokevirtual 394, 3) := by decide +kernel
theorem dX10_share_94 : decode cX10_share 94 = .ok (.iload_n 1, 1) := by decide +kernel
theorem dX10_share_95 : decode cX10_share 95 = .ok (.invokestatic 297, 3) := by decide +kernel
theorem dX10_share_98 : decode cX10_share 98 = .ok (.invokestatic 385, 3) := by decide +kernel
theorem dX10_share_101 : decode cX10_share 101 = .ok (.invokestatic 397, 3) := by decide +kernel
theorem dX10_share_104 : decode cX10_share 104 = .ok (.istore 5, 2) := by decide +kernel
theorem dX10_share_106 : decode cX10_share 106 = .ok (.iload 4, 2) := by decide +kernel
theorem dX10_share_108 : decode cX10_share 108 = .ok (.ifCond .ne 15, 3) := by decide +kernel
theorem dX10_share_111 : decode cX10_share 111 = .ok (.aload_n 0, 1) := by decide +kernel
theorem dX10_share_112 : decode cX10_share 112 = .ok (.iload_n 1, 1) := by decide +kernel
theorem dX10_share_113 : decode cX10_share 113 = .ok (.iload_n 2, 1) := by decide +kernel
theorem dX10_share_114 : decode cX10_share 114 = .ok (.invokevirtual 394, 3) := by decide +kernel
theorem dX10_share_117 : decode cX10_share 117 = .ok (.iload 5, 2) := by decide +kernel
theorem dX10_share_119 : decode cX10_share 119 = .ok (.idiv, 1) := by decide +kernel
theorem dX10_share_120 : decode cX10_share 120 = .ok (.goto 13, 3) := by decide +kernel
theorem dX10_share_123 : decode cX10_share 123 = .ok (.iload_n 1, 1) := by decide +kernel
theorem dX10_share_124 : decode cX10_share 124 = .ok (.invokestatic 297, 3) := by decide +kernel
theorem dX10_share_127 : decode cX10_share 127 = .ok (.invokestatic 385, 3) := by decide +kernel
theorem dX10_share_130 : decode cX10_share 130 = .ok (.iload 5, 2) := by decide +kernel
theorem dX10_share_132 : decode cX10_share 132 = .ok (.idiv, 1) := by decide +kernel
theorem dX10_share_133 : decode cX10_share 133 = .ok (.ireturn, 1) := by decide +kernel
theorem dX10_share_134 : decode cX10_share 134 = .ok (.iconst (-1), 1) := by decide +kernel
theorem dX10_share_135 : decode cX10_share 135 = .ok (.istore 5, 2) := by decide +kernel
theorem dX10_share_137 : decode cX10_share 137 = .ok (.iconst 0, 1) := by decide +kernel
theorem dX10_share_138 : decode cX10_share 138 = .ok (.istore 6, 2) := by decide +kernel
theorem dX10_share_140 : decode cX10_share 140 = .ok (.iload 6, 2) := by decide +kernel
theorem dX10_share_142 : decode cX10_share 142 = .ok (.bipush 10, 2) := by decide +kernel
theorem dX10_share_144 : decode cX10_share 144 = .ok (.if_icmp .ge 45, 3) := by decide +kernel
theorem dX10_share_147 : decode cX10_share 147 = .ok (.iload_n 1, 1) := by decide +kernel
theorem dX10_share_148 : decode cX10_share 148 = .ok (.iload 6, 2) := by decide +kernel
theorem dX10_share_150 : decode cX10_share 150 = .ok (.invokestatic 150, 3) := by decide +kernel
theorem dX10_share_153 : decode cX10_share 153 = .ok (.ifCond .eq 30, 3) := by decide +kernel
theorem dX10_share_156 : decode cX10_share 156 = .ok (.iload 5, 2) := by decide +kernel
theorem dX10_share_158 : decode cX10_share 158 = .ok (.iconst (-1), 1) := by decide +kernel
theorem dX10_share_159 : decode cX10_share 159 = .ok (.if_icmp .eq 20, 3) := by decide +kernel
theorem dX10_share_162 : decode cX10_share 162 = .ok (.aload_n 0, 1) := by decide +kernel
theorem dX10_share_163 : decode cX10_share 163 = .ok (.iload_n 1, 1) := by decide +kernel
theorem dX10_share_164 : decode cX10_share 164 = .ok (.iload 6, 2) := by decide +kernel
theorem dX10_share_166 : decode cX10_share 166 = .ok (.invokevirtual 394, 3) := by decide +kernel
theorem dX10_share_169 : decode cX10_share 169 = .ok (.aload_n 0, 1) := by decide +kernel
theorem dX10_share_170 : decode cX10_share 170 = .ok (.iload_n 1, 1) := by decide +kernel
theorem dX10_share_171 : decode cX10_share 171 = .ok (.iload 5, 2) := by decide +kernel
theorem dX10_share_173 : decode cX10_share 173 = .ok (.invokevirtual 394, 3) := by decide +kernel
theorem dX10_share_176 : decode cX10_share 176 = .ok (.if_icmp .le 7, 3) := by decide +kernel
theorem dX10_share_179 : decode cX10_share 179 = .ok (.iload 6, 2) := by decide +kernel
theorem dX10_share_181 : decode cX10_share 181 = .ok (.istore 5, 2) := by decide +kernel
theorem dX10_share_183 : decode cX10_share 183 = .ok (.iinc 6 1, 3) := by decide +kernel
theorem dX10_share_186 : decode cX10_share 186 = .ok (.goto (-46), 3) := by decide +kernel
theorem dX10_share_189 : decode cX10_share 189 = .ok (.iload 5, 2) := by decide +kernel
theorem dX10_share_191 : decode cX10_share 191 = .ok (.ireturn, 1) := by decide +kernel
