theorem dX10_comesTo_0 : decode cX10_comesTo 0 = .ok (.iconst 0, 1) := by decide +kernel
theorem dX10_comesTo_1 : decode cX10_comesTo 1 = .ok (.istore_n 3, 1) := by decide +kernel
theorem dX10_comesTo_2 : decode cX10_comesTo 2 = .ok (.sipush 260, 3) := by decide +kernel
theorem dX10_comesTo_5 : decode cX10_comesTo 5 = .ok (.iload_n 1, 1) := by decide +kernel
theorem dX10_comesTo_6 : decode cX10_comesTo 6 = .ok (.sipush 260, 3) := by decide +kernel
theorem dX10_comesTo_9 : decode cX10_comesTo 9 = .ok (.idiv, 1) := by decide +kernel
theorem dX10_comesTo_10 : decode cX10_comesTo 10 = .ok (.imul, 1) := by decide +kernel
theorem dX10_comesTo_11 : decode cX10_comesTo 11 = .ok (.istore 4, 2) := by decide +kernel
theorem dX10_comesTo_13 : decode cX10_comesTo 13 = .ok (.iload_n 1, 1) := by decide +kernel
theorem dX10_comesTo_14 : decode cX10_comesTo 14 = .ok (.istore 5, 2) := by decide +kernel
theorem dX10_comesTo_16 : decode cX10_comesTo 16 = .ok (.iload 5, 2) := by decide +kernel
theorem dX10_comesTo_18 : decode cX10_comesTo 18 = .ok (.iload_n 2, 1) := by decide +kernel
theorem dX10_comesTo_19 : decode cX10_comesTo 19 = .ok (.if_icmp .ge 214, 3) := by decide +kernel
theorem dX10_comesTo_22 : decode cX10_comesTo 22 = .ok (.aload_n 0, 1) := by decide +kernel
theorem dX10_comesTo_23 : decode cX10_comesTo 23 = .ok (.getfield 65, 3) := by decide +kernel
theorem dX10_comesTo_26 : decode cX10_comesTo 26 = .ok (.iload 5, 2) := by decide +kernel
theorem dX10_comesTo_28 : decode cX10_comesTo 28 = .ok (.iaload, 1) := by decide +kernel
theorem dX10_comesTo_29 : decode cX10_comesTo 29 = .ok (.ldc 197, 2) := by decide +kernel
theorem dX10_comesTo_31 : decode cX10_comesTo 31 = .ok (.idiv, 1) := by decide +kernel
theorem dX10_comesTo_32 : decode cX10_comesTo 32 = .ok (.istore 6, 2) := by decide +kernel
theorem dX10_comesTo_34 : decode cX10_comesTo 34 = .ok (.aload_n 0, 1) := by decide +kernel
theorem dX10_comesTo_35 : decode cX10_comesTo 35 = .ok (.getfield 65, 3) := by decide +kernel
theorem dX10_comesTo_38 : decode cX10_comesTo 38 = .ok (.iload 5, 2) := by decide +kernel
theorem dX10_comesTo_40 : decode cX10_comesTo 40 = .ok (.iaload, 1) := by decide +kernel
theorem dX10_comesTo_41 : decode cX10_comesTo 41 = .ok (.ldc 197, 2) := by decide +kernel
theorem dX10_comesTo_43 : decode cX10_comesTo 43 = .ok (.irem, 1) := by decide +kernel
theorem dX10_comesTo_44 : decode cX10_comesTo 44 = .ok (.istore 7, 2) := by decide +kernel
theorem dX10_comesTo_46 : decode cX10_comesTo 46 = .ok (.iload 5, 2) := by decide +kernel
theorem dX10_comesTo_48 : decode cX10_comesTo 48 = .ok (.iconst 1, 1) := by decide +kernel
theorem dX10_comesTo_49 : decode cX10_comesTo 49 = .ok (.iadd, 1) := by decide +kernel
theorem dX10_comesTo_50 : decode cX10_comesTo 50 = .ok (.istore 5, 2) := by decide +kernel
theorem dX10_comesTo_52 : decode cX10_comesTo 52 = .ok (.iload 6, 2) := by decide +kernel
theorem dX10_comesTo_54 : decode cX10_comesTo 54 = .ok (.ifCond .eq 9, 3) := by decide +kernel
theorem dX10_comesTo_57 : decode cX10_comesTo 57 = .ok (.iload 6, 2) := by decide +kernel
theorem dX10_comesTo_59 : decode cX10_comesTo 59 = .ok (.iconst 1, 1) := by decide +kernel
theorem dX10_comesTo_60 : decode cX10_comesTo 60 = .ok (.if_icmp .ne 33, 3) := by decide +kernel
theorem dX10_comesTo_63 : decode cX10_comesTo 63 = .ok (.aload_n 0, 1) := by decide +kernel
theorem dX10_comesTo_64 : decode cX10_comesTo 64 = .ok (.getfield 80, 3) := by decide +kernel
theorem dX10_comesTo_67 : decode cX10_comesTo 67 = .ok (.iload_n 3, 1) := by decide +kernel
theorem dX10_comesTo_68 : decode cX10_comesTo 68 = .ok (.iload 6, 2) := by decide +kernel
theorem dX10_comesTo_70 : decode cX10_comesTo 70 = .ok (.ifCond .ne 8, 3) := by decide +kernel
theorem dX10_comesTo_73 : decode cX10_comesTo 73 = .ok (.iload 7, 2) := by decide +kernel
theorem dX10_comesTo_75 : decode cX10_comesTo 75 = .ok (.goto 10, 3) := by decide +kernel
theorem dX10_comesTo_78 : decode cX10_comesTo 78 = .ok (.aload_n 0, 1) := by decide +kernel
theorem dX10_comesTo_79 : decode cX10_comesTo 79 = .ok (.getfield 83, 3) := by decide +kernel
theorem dX10_comesTo_82 : decode cX10_comesTo 82 = .ok (.iload 7, 2) := by decide +kernel
theorem dX10_comesTo_84 : decode cX10_comesTo 84 = .ok (.iaload, 1) := by decide +kernel
theorem dX10_comesTo_85 : decode cX10_comesTo 85 = .ok (.iastore, 1) := by decide +kernel
theorem dX10_comesTo_86 : decode cX10_comesTo 86 = .ok (.iload_n 3, 1) := by decide +kernel
theorem dX10_comesTo_87 : decode cX10_comesTo 87 = .ok (.iconst 1, 1) := by decide +kernel
theorem dX10_comesTo_88 : decode cX10_comesTo 88 = .ok (.iadd, 1) := by decide +kernel
theorem dX10_comesTo_89 : decode cX10_comesTo 89 = .ok (.istore_n 3, 1) := by decide +kernel
theorem dX10_comesTo_90 : decode cX10_comesTo 90 = .ok (.goto 140, 3) := by decide +kernel
theorem dX10_comesTo_93 : decode cX10_comesTo 93 = .ok (.iload 6, 2) := by decide +kernel
theorem dX10_comesTo_95 : decode cX10_comesTo 95 = .ok (.bipush 10, 2) := by decide +kernel
theorem dX10_comesTo_97 : decode cX10_comesTo 97 = .ok (.if_icmp .ne 24, 3) := by decide +kernel
theorem dX10_comesTo_100 : decode cX10_comesTo 100 = .ok (.aload_n 0, 1) := by decide +kernel
theorem dX10_comesTo_101 : decode cX10_comesTo 101 = .ok (.getfield 80, 3) := by decide +kernel
theorem dX10_comesTo_104 : decode cX10_comesTo 104 = .ok (.iload_n 3, 1) := by decide +kernel
theorem dX10_comesTo_105 : decode cX10_comesTo 105 = .ok (.iconst 1, 1) := by decide +kernel
theorem dX10_comesTo_106 : decode cX10_comesTo 106 = .ok (.isub, 1) := by decide +kernel
theorem dX10_comesTo_107 : decode cX10_comesTo 107 = .ok (.iconst 1, 1) := by decide +kernel
theorem dX10_comesTo_108 : decode cX10_comesTo 108 = .ok (.aload_n 0, 1) := by decide +kernel
theorem dX10_comesTo_109 : decode cX10_comesTo 109 = .ok (.getfield 80, 3) := by decide +kernel
theorem dX10_comesTo_112 : decode cX10_comesTo 112 = .ok (.iload_n 3, 1) := by decide +kernel
theorem dX10_comesTo_113 : decode cX10_comesTo 113 = .ok (.iconst 1, 1) := by decide +kernel
theorem dX10_comesTo_114 : decode cX10_comesTo 114 = .ok (.isub, 1) := by decide +kernel
theorem dX10_comesTo_115 : decode cX10_comesTo 115 = .ok (.iaload, 1) := by decide +kernel
theorem dX10_comesTo_116 : decode cX10_comesTo 116 = .ok (.isub, 1) := by decide +kernel
theorem dX10_comesTo_117 : decode cX10_comesTo 117 = .ok (.iastore, 1) := by decide +kernel
theorem dX10_comesTo_118 : decode cX10_comesTo 118 = .ok (.goto 112, 3) := by decide +kernel
theorem dX10_comesTo_121 : decode cX10_comesTo 121 = .ok (.iload 6, 2) := by decide +kernel
theorem dX10_comesTo_123 : decode cX10_comesTo 123 = .ok (.bipush 11, 2) := by decide +kernel
theorem dX10_comesTo_125 : decode cX10_comesTo 125 = .ok (.if_icmp .eq 10, 3) := by decide +kernel
theorem dX10_comesTo_128 : decode cX10_comesTo 128 = .ok (.iload 6, 2) := by decide +kernel
theorem dX10_comesTo_130 : decode cX10_comesTo 130 = .ok (.bipush 12, 2) := by decide +kernel
theorem dX10_comesTo_132 : decode cX10_comesTo 132 = .ok (.if_icmp .ne 43, 3) := by decide +kernel
theorem dX10_comesTo_135 : decode cX10_comesTo 135 = .ok (.aload_n 0, 1) := by decide +kernel
theorem dX10_comesTo_136 : decode cX10_comesTo 136 = .ok (.getfield 80, 3) := by decide +kernel
theorem dX10_comesTo_139 : decode cX10_comesTo 139 = .ok (.iload_n 3, 1) := by decide +kernel
theorem dX10_comesTo_140 : decode cX10_comesTo 140 = .ok (.iconst 1, 1) := by decide +kernel
theorem dX10_comesTo_141 : decode cX10_comesTo 141 = .ok (.isub, 1) := by decide +kernel
theorem dX10_comesTo_142 : decode cX10_comesTo 142 = .ok (.iaload, 1) := by decide +kernel
theorem dX10_comesTo_143 : decode cX10_comesTo 143 = .ok (.iload 6, 2) := by decide +kernel
theorem dX10_comesTo_145 : decode cX10_comesTo 145 = .ok (.bipush 12, 2) := by decide +kernel
theorem dX10_comesTo_147 : decode cX10_comesTo 147 = .ok (.if_icmp .ne 7, 3) := by decide +kernel
theorem dX10_comesTo_150 : decode cX10_comesTo 150 = .ok (.iconst 1, 1) := by decide +kernel
theorem dX10_comesTo_151 : decode cX10_comesTo 151 = .ok (.goto 4, 3) := by decide +kernel
theorem dX10_comesTo_154 : decode cX10_comesTo 154 = .ok (.iconst 0, 1) := by decide +kernel
theorem dX10_comesTo_155 : decode cX10_comesTo 155 = .ok (.if_icmp .ne 13, 3) := by decide +kernel
theorem dX10_comesTo_158 : decode cX10_comesTo 158 = .ok (.iload 4, 2) := by decide +kernel
theorem dX10_comesTo_160 : decode cX10_comesTo 160 = .ok (.iload 7, 2) := by decide +kernel
theorem dX10_comesTo_162 : decode cX10_comesTo 162 = .ok (.iadd, 1) := by decide +kernel
theorem dX10_comesTo_163 : decode cX10_comesTo 163 = .ok (.istore 5, 2) := by decide +kernel
theorem dX10_comesTo_165 : decode cX10_comesTo 165 = .ok (.goto 65, 3) := by decide +kernel
theorem dX10_comesTo_168 : decode cX10_comesTo 168 = .ok (.iload_n 3, 1) := by decide +kernel
theorem dX10_comesTo_169 : decode cX10_comesTo 169 = .ok (.iconst 1, 1) := by decide +kernel
theorem dX10_comesTo_170 : decode cX10_comesTo 170 = .ok (.isub, 1) := by decide +kernel
theorem dX10_comesTo_171 : decode cX10_comesTo 171 = .ok (.istore_n 3, 1) := by decide +kernel
theorem dX10_comesTo_172 : decode cX10_comesTo 172 = .ok (.goto 58, 3) := by decide +kernel
theorem dX10_comesTo_175 : decode cX10_comesTo 175 = .ok (.iload_n 3, 1) := by decide +kernel
theorem dX10_comesTo_176 : decode cX10_comesTo 176 = .ok (.iconst 1, 1) := by decide +kernel
theorem dX10_comesTo_177 : decode cX10_comesTo 177 = .ok (.isub, 1) := by decide +kernel
theorem dX10_comesTo_178 : decode cX10_comesTo 178 = .ok (.istore_n 3, 1) := by decide +kernel
theorem dX10_comesTo_179 : decode cX10_comesTo 179 = .ok (.iload 6, 2) := by decide +kernel
theorem dX10_comesTo_181 : decode cX10_comesTo 181 = .ok (.iconst 5, 1) := by decide +kernel
theorem dX10_comesTo_182 : decode cX10_comesTo 182 = .ok (.if_icmp .eq 10, 3) := by decide +kernel
theorem dX10_comesTo_185 : decode cX10_comesTo 185 = .ok (.iload 6, 2) := by decide +kernel
theorem dX10_comesTo_187 : decode cX10_comesTo 187 = .ok (.bipush 6, 2) := by decide +kernel
theorem dX10_comesTo_189 : decode cX10_comesTo 189 = .ok (.if_icmp .ne 14, 3) := by decide +kernel
theorem dX10_comesTo_192 : decode cX10_comesTo 192 = .ok (.aload_n 0, 1) := by decide +kernel
theorem dX10_comesTo_193 : decode cX10_comesTo 193 = .ok (.getfield 80, 3) := by decide +kernel
theorem dX10_comesTo_196 : decode cX10_comesTo 196 = .ok (.iload_n 3, 1) := by decide +kernel
theorem dX10_comesTo_197 : decode cX10_comesTo 197 = .ok (.iaload, 1) := by decide +kernel
theorem dX10_comesTo_198 : decode cX10_comesTo 198 = .ok (.ifCond .ne 5, 3) := by decide +kernel
theorem dX10_comesTo_201 : decode cX10_comesTo 201 = .ok (.iconst 0, 1) := by decide +kernel
theorem dX10_comesTo_202 : decode cX10_comesTo 202 = .ok (.ireturn, 1) := by decide +kernel
theorem dX10_comesTo_203 : decode cX10_comesTo 203 = .ok (.aload_n 0, 1) := by decide +kernel
theorem dX10_comesTo_204 : decode cX10_comesTo 204 = .ok (.getfield 80, 3) := by decide +kernel
theorem dX10_comesTo_207 : decode cX10_comesTo 207 = .ok (.iload_n 3, 1) := by decide +kernel
theorem dX10_comesTo_208 : decode cX10_comesTo 208 = .ok (.iconst 1, 1) := by decide +kernel
theorem dX10_comesTo_209 : decode cX10_comesTo 209 = .ok (.isub, 1) := by decide +kernel
theorem dX10_comesTo_210 : decode cX10_comesTo 210 = .ok (.iload 6, 2) := by decide +kernel
theorem dX10_comesTo_212 : decode cX10_comesTo 212 = .ok (.aload_n 0, 1) := by decide +kernel
theorem dX10_comesTo_213 : decode cX10_comesTo 213 = .ok (.getfield 80, 3) := by decide +kernel
theorem dX10_comesTo_216 : decode cX10_comesTo 216 = .ok (.iload_n 3, 1) := by decide +kernel
theorem dX10_comesTo_217 : decode cX10_comesTo 217 = .ok (.iconst 1, 1) := by decide +kernel
theorem dX10_comesTo_218 : decode cX10_comesTo 218 = .ok (.isub, 1) := by decide +kernel
theorem dX10_comesTo_219 : decode cX10_comesTo 219 = .ok (.iaload, 1) := by decide +kernel
theorem dX10_comesTo_220 : decode cX10_comesTo 220 = .ok (.aload_n 0, 1) := by decide +kernel
theorem dX10_comesTo_221 : decode cX10_comesTo 221 = .ok (.getfield 80, 3) := by decide +kernel
theorem dX10_comesTo_224 : decode cX10_comesTo 224 = .ok (.iload_n 3, 1) := by decide +kernel
theorem dX10_comesTo_225 : decode cX10_comesTo 225 = .ok (.iaload, 1) := by decide +kernel
theorem dX10_comesTo_226 : decode cX10_comesTo 226 = .ok (.invokestatic 268, 3) := by decide +kernel
theorem dX10_comesTo_229 : decode cX10_comesTo 229 = .ok (.iastore, 1) := by decide +kernel
theorem dX10_comesTo_230 : decode cX10_comesTo 230 = .ok (.goto (-214), 3) := by decide +kernel
theorem dX10_comesTo_233 : decode cX10_comesTo 233 = .ok (.aload_n 0, 1) := by decide +kernel
theorem dX10_comesTo_234 : decode cX10_comesTo 234 = .ok (.getfield 80, 3) := by decide +kernel
theorem dX10_comesTo_237 : decode cX10_comesTo 237 = .ok (.iconst 0, 1) := by decide +kernel
theorem dX10_comesTo_238 : decode cX10_comesTo 238 = .ok (.iaload, 1) := by decide +kernel
theorem dX10_comesTo_239 : decode cX10_comesTo 239 = .ok (.ireturn, 1) := by decide +kernel
theorem dX10_reckon_0 : decode cX10_reckon 0 = .ok (.iload_n 0, 1) := by decide +kernel
theorem dX10_reckon_1 : decode cX10_reckon 1 = .ok (.tableswitch 85 2 8 #[43, 47, 51, 55, 59, 63, 74], 43) := by decide +kernel
theorem dX10_reckon_44 : decode cX10_reckon 44 = .ok (.iload_n 1, 1) := by decide +kernel
theorem dX10_reckon_45 : decode cX10_reckon 45 = .ok (.iload_n 2, 1) := by decide +kernel
theorem dX10_reckon_46 : decode cX10_reckon 46 = .ok (.iadd, 1) := by decide +kernel
theorem dX10_reckon_47 : decode cX10_reckon 47 = .ok (.ireturn, 1) := by decide +kernel
theorem dX10_reckon_48 : decode cX10_reckon 48 = .ok (.iload_n 1, 1) := by decide +kernel
theorem dX10_reckon_49 : decode cX10_reckon 49 = .ok (.iload_n 2, 1) := by decide +kernel
theorem dX10_reckon_50 : decode cX10_reckon 50 = .ok (.isub, 1) := by decide +kernel
theorem dX10_reckon_51 : decode cX10_reckon 51 = .ok (.ireturn, 1) := by decide +kernel
theorem dX10_reckon_52 : decode cX10_reckon 52 = .ok (.iload_n 1, 1) := by decide +kernel
theorem dX10_reckon_53 : decode cX10_reckon 53 = .ok (.iload_n 2, 1) := by decide +kernel
theorem dX10_reckon_54 : decode cX10_reckon 54 = .ok (.imul, 1) := by decide +kernel
theorem dX10_reckon_55 : decode cX10_reckon 55 = .ok (.ireturn, 1) := by decide +kernel
theorem dX10_reckon_56 : decode cX10_reckon 56 = .ok (.iload_n 1, 1) := by decide +kernel
theorem dX10_reckon_57 : decode cX10_reckon 57 = .ok (.iload_n 2, 1) := by decide +kernel
theorem dX10_reckon_58 : decode cX10_reckon 58 = .ok (.idiv, 1) := by decide +kernel
theorem dX10_reckon_59 : decode cX10_reckon 59 = .ok (.ireturn, 1) := by decide +kernel
theorem dX10_reckon_60 : decode cX10_reckon 60 = .ok (.iload_n 1, 1) := by decide +kernel
theorem dX10_reckon_61 : decode cX10_reckon 61 = .ok (.iload_n 2, 1) := by decide +kernel
theorem dX10_reckon_62 : decode cX10_reckon 62 = .ok (.irem, 1) := by decide +kernel
theorem dX10_reckon_63 : decode cX10_reckon 63 = .ok (.ireturn, 1) := by decide +kernel
theorem dX10_reckon_64 : decode cX10_reckon 64 = .ok (.iload_n 1, 1) := by decide +kernel
theorem dX10_reckon_65 : decode cX10_reckon 65 = .ok (.iload_n 2, 1) := by decide +kernel
theorem dX10_reckon_66 : decode cX10_reckon 66 = .ok (.if_icmp .ge 7, 3) := by decide +kernel
theorem dX10_reckon_69 : decode cX10_reckon 69 = .ok (.iconst 1, 1) := by decide +kernel
theorem dX10_reckon_70 : decode cX10_reckon 70 = .ok (.goto 4, 3) := by decide +kernel
theorem dX10_reckon_73 : decode cX10_reckon 73 = .ok (.iconst 0, 1) := by decide +kernel
theorem dX10_reckon_74 : decode cX10_reckon 74 = .ok (.ireturn, 1) := by decide +kernel
theorem dX10_reckon_75 : decode cX10_reckon 75 = .ok (.iload_n 1, 1) := by decide +kernel
theorem dX10_reckon_76 : decode cX10_reckon 76 = .ok (.iload_n 2, 1) := by decide +kernel
theorem dX10_reckon_77 : decode cX10_reckon 77 = .ok (.if_icmp .le 7, 3) := by decide +kernel
theorem dX10_reckon_80 : decode cX10_reckon 80 = .ok (.iconst 1, 1) := by decide +kernel
theorem dX10_reckon_81 : decode cX10_reckon 81 = .ok (.goto 4, 3) := by decide +kernel
theorem dX10_reckon_84 : decode cX10_reckon 84 = .ok (.iconst 0, 1) := by decide +kernel
theorem dX10_reckon_85 : decode cX10_reckon 85 = .ok (.ireturn, 1) := by decide +kernel
theorem dX10_reckon_86 : decode cX10_reckon 86 = .ok (.iload_n 1, 1) := by decide +kernel
theorem dX10_reckon_87 : decode cX10_reckon 87 = .ok (.iload_n 2, 1) := by decide +kernel
theorem dX10_reckon_88 : decode cX10_reckon 88 = .ok (.if_icmp .ne 7, 3) := by decide +kernel
theorem dX10_reckon_91 : decode cX10_reckon 91 = .ok (.iconst 1, 1) := by decide +kernel
theorem dX10_reckon_92 : decode cX10_reckon 92 = .ok (.goto 4, 3) := by decide +kernel
theorem dX10_reckon_95 : decode cX10_reckon 95 = .ok (.iconst 0, 1) := by decide +kernel
theorem dX10_reckon_96 : decode cX10_reckon 96 = .ok (.ireturn, 1) := by decide +kernel
