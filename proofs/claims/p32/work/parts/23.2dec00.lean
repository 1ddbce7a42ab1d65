theorem dX1_anyOf_0 : decode cX1_anyOf 0 = .ok (.iconst 0, 1) := by decide +kernel
theorem dX1_anyOf_1 : decode cX1_anyOf 1 = .ok (.istore_n 2, 1) := by decide +kernel
theorem dX1_anyOf_2 : decode cX1_anyOf 2 = .ok (.iload_n 2, 1) := by decide +kernel
theorem dX1_anyOf_3 : decode cX1_anyOf 3 = .ok (.aload_n 0, 1) := by decide +kernel
theorem dX1_anyOf_4 : decode cX1_anyOf 4 = .ok (.getfield 43, 3) := by decide +kernel
theorem dX1_anyOf_7 : decode cX1_anyOf 7 = .ok (.if_icmp .ge 46, 3) := by decide +kernel
theorem dX1_anyOf_10 : decode cX1_anyOf 10 = .ok (.iload_n 2, 1) := by decide +kernel
theorem dX1_anyOf_11 : decode cX1_anyOf 11 = .ok (.bipush 16, 2) := by decide +kernel
theorem dX1_anyOf_13 : decode cX1_anyOf 13 = .ok (.if_icmp .ge 40, 3) := by decide +kernel
theorem dX1_anyOf_16 : decode cX1_anyOf 16 = .ok (.aload_n 0, 1) := by decide +kernel
theorem dX1_anyOf_17 : decode cX1_anyOf 17 = .ok (.getfield 15, 3) := by decide +kernel
theorem dX1_anyOf_20 : decode cX1_anyOf 20 = .ok (.iload_n 2, 1) := by decide +kernel
theorem dX1_anyOf_21 : decode cX1_anyOf 21 = .ok (.iaload, 1) := by decide +kernel
theorem dX1_anyOf_22 : decode cX1_anyOf 22 = .ok (.iload_n 1, 1) := by decide +kernel
theorem dX1_anyOf_23 : decode cX1_anyOf 23 = .ok (.if_icmp .ne 24, 3) := by decide +kernel
theorem dX1_anyOf_26 : decode cX1_anyOf 26 = .ok (.aload_n 0, 1) := by decide +kernel
theorem dX1_anyOf_27 : decode cX1_anyOf 27 = .ok (.aload_n 0, 1) := by decide +kernel
theorem dX1_anyOf_28 : decode cX1_anyOf 28 = .ok (.getfield 21, 3) := by decide +kernel
theorem dX1_anyOf_31 : decode cX1_anyOf 31 = .ok (.iload_n 2, 1) := by decide +kernel
theorem dX1_anyOf_32 : decode cX1_anyOf 32 = .ok (.iaload, 1) := by decide +kernel
theorem dX1_anyOf_33 : decode cX1_anyOf 33 = .ok (.aload_n 0, 1) := by decide +kernel
theorem dX1_anyOf_34 : decode cX1_anyOf 34 = .ok (.getfield 24, 3) := by decide +kernel
theorem dX1_anyOf_37 : decode cX1_anyOf 37 = .ok (.iload_n 2, 1) := by decide +kernel
theorem dX1_anyOf_38 : decode cX1_anyOf 38 = .ok (.iaload, 1) := by decide +kernel
theorem dX1_anyOf_39 : decode cX1_anyOf 39 = .ok (.invokevirtual 46, 3) := by decide +kernel
theorem dX1_anyOf_42 : decode cX1_anyOf 42 = .ok (.ifCond .eq 5, 3) := by decide +kernel
theorem dX1_anyOf_45 : decode cX1_anyOf 45 = .ok (.iconst 1, 1) := by decide +kernel
theorem dX1_anyOf_46 : decode cX1_anyOf 46 = .ok (.ireturn, 1) := by decide +kernel
theorem dX1_anyOf_47 : decode cX1_anyOf 47 = .ok (.iinc 2 1, 3) := by decide +kernel
theorem dX1_anyOf_50 : decode cX1_anyOf 50 = .ok (.goto (-48), 3) := by decide +kernel
theorem dX1_anyOf_53 : decode cX1_anyOf 53 = .ok (.iconst 0, 1) := by decide +kernel
theorem dX1_anyOf_54 : decode cX1_anyOf 54 = .ok (.ireturn, 1) := by decide +kernel
theorem dX1_firstOf_0 : decode cX1_firstOf 0 = .ok (.iconst 0, 1) := by decide +kernel
theorem dX1_firstOf_1 : decode cX1_firstOf 1 = .ok (.istore_n 3, 1) := by decide +kernel
theorem dX1_firstOf_2 : decode cX1_firstOf 2 = .ok (.iload_n 3, 1) := by decide +kernel
theorem dX1_firstOf_3 : decode cX1_firstOf 3 = .ok (.aload_n 0, 1) := by decide +kernel
theorem dX1_firstOf_4 : decode cX1_firstOf 4 = .ok (.getfield 43, 3) := by decide +kernel
theorem dX1_firstOf_7 : decode cX1_firstOf 7 = .ok (.if_icmp .ge 70, 3) := by decide +kernel
theorem dX1_firstOf_10 : decode cX1_firstOf 10 = .ok (.iload_n 3, 1) := by decide +kernel
theorem dX1_firstOf_11 : decode cX1_firstOf 11 = .ok (.bipush 16, 2) := by decide +kernel
theorem dX1_firstOf_13 : decode cX1_firstOf 13 = .ok (.if_icmp .ge 64, 3) := by decide +kernel
theorem dX1_firstOf_16 : decode cX1_firstOf 16 = .ok (.aload_n 0, 1) := by decide +kernel
theorem dX1_firstOf_17 : decode cX1_firstOf 17 = .ok (.getfield 15, 3) := by decide +kernel
theorem dX1_firstOf_20 : decode cX1_firstOf 20 = .ok (.iload_n 3, 1) := by decide +kernel
theorem dX1_firstOf_21 : decode cX1_firstOf 21 = .ok (.iaload, 1) := by decide +kernel
theorem dX1_firstOf_22 : decode cX1_firstOf 22 = .ok (.iload_n 1, 1) := by decide +kernel
theorem dX1_firstOf_23 : decode cX1_firstOf 23 = .ok (.if_icmp .ne 48, 3) := by decide +kernel
theorem dX1_firstOf_26 : decode cX1_firstOf 26 = .ok (.aload_n 0, 1) := by decide +kernel
theorem dX1_firstOf_27 : decode cX1_firstOf 27 = .ok (.aload_n 0, 1) := by decide +kernel
theorem dX1_firstOf_28 : decode cX1_firstOf 28 = .ok (.getfield 21, 3) := by decide +kernel
theorem dX1_firstOf_31 : decode cX1_firstOf 31 = .ok (.iload_n 3, 1) := by decide +kernel
theorem dX1_firstOf_32 : decode cX1_firstOf 32 = .ok (.iaload, 1) := by decide +kernel
theorem dX1_firstOf_33 : decode cX1_firstOf 33 = .ok (.aload_n 0, 1) := by decide +kernel
theorem dX1_firstOf_34 : decode cX1_firstOf 34 = .ok (.getfield 24, 3) := by decide +kernel
theorem dX1_firstOf_37 : decode cX1_firstOf 37 = .ok (.iload_n 3, 1) := by decide +kernel
theorem dX1_firstOf_38 : decode cX1_firstOf 38 = .ok (.iaload, 1) := by decide +kernel
theorem dX1_firstOf_39 : decode cX1_firstOf 39 = .ok (.invokevirtual 46, 3) := by decide +kernel
theorem dX1_firstOf_42 : decode cX1_firstOf 42 = .ok (.ifCond .eq 29, 3) := by decide +kernel
theorem dX1_firstOf_45 : decode cX1_firstOf 45 = .ok (.iconst 0, 1) := by decide +kernel
theorem dX1_firstOf_46 : decode cX1_firstOf 46 = .ok (.bipush 99, 2) := by decide +kernel
theorem dX1_firstOf_48 : decode cX1_firstOf 48 = .ok (.aload_n 0, 1) := by decide +kernel
theorem dX1_firstOf_49 : decode cX1_firstOf 49 = .ok (.aload_n 0, 1) := by decide +kernel
theorem dX1_firstOf_50 : decode cX1_firstOf 50 = .ok (.getfield 18, 3) := by decide +kernel
theorem dX1_firstOf_53 : decode cX1_firstOf 53 = .ok (.iload_n 3, 1) := by decide +kernel
theorem dX1_firstOf_54 : decode cX1_firstOf 54 = .ok (.iaload, 1) := by decide +kernel
theorem dX1_firstOf_55 : decode cX1_firstOf 55 = .ok (.aload_n 0, 1) := by decide +kernel
theorem dX1_firstOf_56 : decode cX1_firstOf 56 = .ok (.getfield 21, 3) := by decide +kernel
theorem dX1_firstOf_59 : decode cX1_firstOf 59 = .ok (.iload_n 3, 1) := by decide +kernel
theorem dX1_firstOf_60 : decode cX1_firstOf 60 = .ok (.iaload, 1) := by decide +kernel
theorem dX1_firstOf_61 : decode cX1_firstOf 61 = .ok (.invokevirtual 46, 3) := by decide +kernel
theorem dX1_firstOf_64 : decode cX1_firstOf 64 = .ok (.invokestatic 50, 3) := by decide +kernel
theorem dX1_firstOf_67 : decode cX1_firstOf 67 = .ok (.invokestatic 55, 3) := by decide +kernel
theorem dX1_firstOf_70 : decode cX1_firstOf 70 = .ok (.ireturn, 1) := by decide +kernel
theorem dX1_firstOf_71 : decode cX1_firstOf 71 = .ok (.iinc 3 1, 3) := by decide +kernel
theorem dX1_firstOf_74 : decode cX1_firstOf 74 = .ok (.goto (-72), 3) := by decide +kernel
theorem dX1_firstOf_77 : decode cX1_firstOf 77 = .ok (.iload_n 2, 1) := by decide +kernel
theorem dX1_firstOf_78 : decode cX1_firstOf 78 = .ok (.ireturn, 1) := by decide +kernel
theorem dX1_reckon_0 : decode cX1_reckon 0 = .ok (.iconst 0, 1) := by decide +kernel
theorem dX1_reckon_1 : decode cX1_reckon 1 = .ok (.istore_n 3, 1) := by decide +kernel
theorem dX1_reckon_2 : decode cX1_reckon 2 = .ok (.iload_n 1, 1) := by decide +kernel
theorem dX1_reckon_3 : decode cX1_reckon 3 = .ok (.iconst 0, 1) := by decide +kernel
theorem dX1_reckon_4 : decode cX1_reckon 4 = .ok (.invokestatic 55, 3) := by decide +kernel
theorem dX1_reckon_7 : decode cX1_reckon 7 = .ok (.istore 4, 2) := by decide +kernel
theorem dX1_reckon_9 : decode cX1_reckon 9 = .ok (.iload 4, 2) := by decide +kernel
theorem dX1_reckon_11 : decode cX1_reckon 11 = .ok (.iload_n 2, 1) := by decide +kernel
theorem dX1_reckon_12 : decode cX1_reckon 12 = .ok (.if_icmp .ge 252, 3) := by decide +kernel
theorem dX1_reckon_15 : decode cX1_reckon 15 = .ok (.iload 4, 2) := by decide +kernel
theorem dX1_reckon_17 : decode cX1_reckon 17 = .ok (.sipush 240, 3) := by decide +kernel
theorem dX1_reckon_20 : decode cX1_reckon 20 = .ok (.if_icmp .ge 244, 3) := by decide +kernel
theorem dX1_reckon_23 : decode cX1_reckon 23 = .ok (.aload_n 0, 1) := by decide +kernel
theorem dX1_reckon_24 : decode cX1_reckon 24 = .ok (.getfield 11, 3) := by decide +kernel
theorem dX1_reckon_27 : decode cX1_reckon 27 = .ok (.iload 4, 2) := by decide +kernel
theorem dX1_reckon_29 : decode cX1_reckon 29 = .ok (.iaload, 1) := by decide +kernel
theorem dX1_reckon_30 : decode cX1_reckon 30 = .ok (.bipush 15, 2) := by decide +kernel
theorem dX1_reckon_32 : decode cX1_reckon 32 = .ok (.iand, 1) := by decide +kernel
theorem dX1_reckon_33 : decode cX1_reckon 33 = .ok (.istore 5, 2) := by decide +kernel
theorem dX1_reckon_35 : decode cX1_reckon 35 = .ok (.aload_n 0, 1) := by decide +kernel
theorem dX1_reckon_36 : decode cX1_reckon 36 = .ok (.getfield 11, 3) := by decide +kernel
theorem dX1_reckon_39 : decode cX1_reckon 39 = .ok (.iload 4, 2) := by decide +kernel
theorem dX1_reckon_41 : decode cX1_reckon 41 = .ok (.iaload, 1) := by decide +kernel
theorem dX1_reckon_42 : decode cX1_reckon 42 = .ok (.iconst 4, 1) := by decide +kernel
theorem dX1_reckon_43 : decode cX1_reckon 43 = .ok (.ishr, 1) := by decide +kernel
theorem dX1_reckon_44 : decode cX1_reckon 44 = .ok (.istore 6, 2) := by decide +kernel
theorem dX1_reckon_46 : decode cX1_reckon 46 = .ok (.iload 5, 2) := by decide +kernel
theorem dX1_reckon_48 : decode cX1_reckon 48 = .ok (.ifCond .eq 9, 3) := by decide +kernel
theorem dX1_reckon_51 : decode cX1_reckon 51 = .ok (.iload 5, 2) := by decide +kernel
theorem dX1_reckon_53 : decode cX1_reckon 53 = .ok (.iconst 1, 1) := by decide +kernel
theorem dX1_reckon_54 : decode cX1_reckon 54 = .ok (.if_icmp .ne 46, 3) := by decide +kernel
theorem dX1_reckon_57 : decode cX1_reckon 57 = .ok (.iload_n 3, 1) := by decide +kernel
theorem dX1_reckon_58 : decode cX1_reckon 58 = .ok (.aload_n 0, 1) := by decide +kernel
theorem dX1_reckon_59 : decode cX1_reckon 59 = .ok (.getfield 30, 3) := by decide +kernel
theorem dX1_reckon_62 : decode cX1_reckon 62 = .ok (.arraylength, 1) := by decide +kernel
theorem dX1_reckon_63 : decode cX1_reckon 63 = .ok (.if_icmp .lt 5, 3) := by decide +kernel
theorem dX1_reckon_66 : decode cX1_reckon 66 = .ok (.iconst 0, 1) := by decide +kernel
theorem dX1_reckon_67 : decode cX1_reckon 67 = .ok (.ireturn, 1) := by decide +kernel
theorem dX1_reckon_68 : decode cX1_reckon 68 = .ok (.aload_n 0, 1) := by decide +kernel
theorem dX1_reckon_69 : decode cX1_reckon 69 = .ok (.getfield 30, 3) := by decide +kernel
theorem dX1_reckon_72 : decode cX1_reckon 72 = .ok (.iload_n 3, 1) := by decide +kernel
theorem dX1_reckon_73 : decode cX1_reckon 73 = .ok (.iload 5, 2) := by decide +kernel
theorem dX1_reckon_75 : decode cX1_reckon 75 = .ok (.ifCond .ne 8, 3) := by decide +kernel
theorem dX1_reckon_78 : decode cX1_reckon 78 = .ok (.iload 6, 2) := by decide +kernel
theorem dX1_reckon_80 : decode cX1_reckon 80 = .ok (.goto 13, 3) := by decide +kernel
theorem dX1_reckon_83 : decode cX1_reckon 83 = .ok (.aload_n 0, 1) := by decide +kernel
theorem dX1_reckon_84 : decode cX1_reckon 84 = .ok (.getfield 27, 3) := by decide +kernel
theorem dX1_reckon_87 : decode cX1_reckon 87 = .ok (.iload 6, 2) := by decide +kernel
theorem dX1_reckon_89 : decode cX1_reckon 89 = .ok (.bipush 7, 2) := by decide +kernel
theorem dX1_reckon_91 : decode cX1_reckon 91 = .ok (.iand, 1) := by decide +kernel
theorem dX1_reckon_92 : decode cX1_reckon 92 = .ok (.iaload, 1) := by decide +kernel
theorem dX1_reckon_93 : decode cX1_reckon 93 = .ok (.iastore, 1) := by decide +kernel
theorem dX1_reckon_94 : decode cX1_reckon 94 = .ok (.iinc 3 1, 3) := by decide +kernel
theorem dX1_reckon_97 : decode cX1_reckon 97 = .ok (.goto 161, 3) := by decide +kernel
theorem dX1_reckon_100 : decode cX1_reckon 100 = .ok (.iload_n 3, 1) := by decide +kernel
theorem dX1_reckon_101 : decode cX1_reckon 101 = .ok (.ifCond .ne 5, 3) := by decide +kernel
theorem dX1_reckon_104 : decode cX1_reckon 104 = .ok (.iconst 0, 1) := by decide +kernel
theorem dX1_reckon_105 : decode cX1_reckon 105 = .ok (.ireturn, 1) := by decide +kernel
theorem dX1_reckon_106 : decode cX1_reckon 106 = .ok (.iload 5, 2) := by decide +kernel
theorem dX1_reckon_108 : decode cX1_reckon 108 = .ok (.iconst 2, 1) := by decide +kernel
theorem dX1_reckon_109 : decode cX1_reckon 109 = .ok (.if_icmp .ne 24, 3) := by decide +kernel
theorem dX1_reckon_112 : decode cX1_reckon 112 = .ok (.aload_n 0, 1) := by decide +kernel
theorem dX1_reckon_113 : decode cX1_reckon 113 = .ok (.getfield 30, 3) := by decide +kernel
theorem dX1_reckon_116 : decode cX1_reckon 116 = .ok (.iload_n 3, 1) := by decide +kernel
theorem dX1_reckon_117 : decode cX1_reckon 117 = .ok (.iconst 1, 1) := by decide +kernel
theorem dX1_reckon_118 : decode cX1_reckon 118 = .ok (.isub, 1) := by decide +kernel
theorem dX1_reckon_119 : decode cX1_reckon 119 = .ok (.iconst 1, 1) := by decide +kernel
theorem dX1_reckon_120 : decode cX1_reckon 120 = .ok (.aload_n 0, 1) := by decide +kernel
theorem dX1_reckon_121 : decode cX1_reckon 121 = .ok (.getfield 30, 3) := by decide +kernel
theorem dX1_reckon_124 : decode cX1_reckon 124 = .ok (.iload_n 3, 1) := by decide +kernel
theorem dX1_reckon_125 : decode cX1_reckon 125 = .ok (.iconst 1, 1) := by decide +kernel
theorem dX1_reckon_126 : decode cX1_reckon 126 = .ok (.isub, 1) := by decide +kernel
theorem dX1_reckon_127 : decode cX1_reckon 127 = .ok (.iaload, 1) := by decide +kernel
theorem dX1_reckon_128 : decode cX1_reckon 128 = .ok (.isub, 1) := by decide +kernel
theorem dX1_reckon_129 : decode cX1_reckon 129 = .ok (.iastore, 1) := by decide +kernel
theorem dX1_reckon_130 : decode cX1_reckon 130 = .ok (.goto 128, 3) := by decide +kernel
theorem dX1_reckon_133 : decode cX1_reckon 133 = .ok (.iload 5, 2) := by decide +kernel
theorem dX1_reckon_135 : decode cX1_reckon 135 = .ok (.iconst 3, 1) := by decide +kernel
theorem dX1_reckon_136 : decode cX1_reckon 136 = .ok (.if_icmp .eq 9, 3) := by decide +kernel
theorem dX1_reckon_139 : decode cX1_reckon 139 = .ok (.iload 5, 2) := by decide +kernel
theorem dX1_reckon_141 : decode cX1_reckon 141 = .ok (.iconst 4, 1) := by decide +kernel
theorem dX1_reckon_142 : decode cX1_reckon 142 = .ok (.if_icmp .ne 45, 3) := by decide +kernel
theorem dX1_reckon_145 : decode cX1_reckon 145 = .ok (.aload_n 0, 1) := by decide +kernel
theorem dX1_reckon_146 : decode cX1_reckon 146 = .ok (.getfield 30, 3) := by decide +kernel
theorem dX1_reckon_149 : decode cX1_reckon 149 = .ok (.iload_n 3, 1) := by decide +kernel
theorem dX1_reckon_150 : decode cX1_reckon 150 = .ok (.iconst 1, 1) := by decide +kernel
theorem dX1_reckon_151 : decode cX1_reckon 151 = .ok (.isub, 1) := by decide +kernel
theorem dX1_reckon_152 : decode cX1_reckon 152 = .ok (.iaload, 1) := by decide +kernel
theorem dX1_reckon_153 : decode cX1_reckon 153 = .ok (.iload 5, 2) := by decide +kernel
theorem dX1_reckon_155 : decode cX1_reckon 155 = .ok (.iconst 3, 1) := by decide +kernel
theorem dX1_reckon_156 : decode cX1_reckon 156 = .ok (.if_icmp .ne 7, 3) := by decide +kernel
theorem dX1_reckon_159 : decode cX1_reckon 159 = .ok (.iconst 1, 1) := by decide +kernel
theorem dX1_reckon_160 : decode cX1_reckon 160 = .ok (.goto 4, 3) := by decide +kernel
theorem dX1_reckon_163 : decode cX1_reckon 163 = .ok (.iconst 0, 1) := by decide +kernel
theorem dX1_reckon_164 : decode cX1_reckon 164 = .ok (.if_icmp .ne 17, 3) := by decide +kernel
theorem dX1_reckon_167 : decode cX1_reckon 167 = .ok (.iload 4, 2) := by decide +kernel
theorem dX1_reckon_169 : decode cX1_reckon 169 = .ok (.iload 6, 2) := by decide +kernel
theorem dX1_reckon_171 : decode cX1_reckon 171 = .ok (.iconst 1, 1) := by decide +kernel
theorem dX1_reckon_172 : decode cX1_reckon 172 = .ok (.isub, 1) := by decide +kernel
theorem dX1_reckon_173 : decode cX1_reckon 173 = .ok (.invokestatic 55, 3) := by decide +kernel
theorem dX1_reckon_176 : decode cX1_reckon 176 = .ok (.istore 4, 2) := by decide +kernel
theorem dX1_reckon_178 : decode cX1_reckon 178 = .ok (.goto 80, 3) := by decide +kernel
theorem dX1_reckon_181 : decode cX1_reckon 181 = .ok (.iinc 3 (-1), 3) := by decide +kernel
theorem dX1_reckon_184 : decode cX1_reckon 184 = .ok (.goto 74, 3) := by decide +kernel
theorem dX1_reckon_187 : decode cX1_reckon 187 = .ok (.iinc 3 (-1), 3) := by decide +kernel
theorem dX1_reckon_190 : decode cX1_reckon 190 = .ok (.iload 5, 2) := by decide +kernel
theorem dX1_reckon_192 : decode cX1_reckon 192 = .ok (.bipush 8, 2) := by decide +kernel
theorem dX1_reckon_194 : decode cX1_reckon 194 = .ok (.if_icmp .eq 10, 3) := by decide +kernel
theorem dX1_reckon_197 : decode cX1_reckon 197 = .ok (.iload 5, 2) := by decide +kernel
theorem dX1_reckon_199 : decode cX1_reckon 199 = .ok (.bipush 9, 2) := by decide +kernel
theorem dX1_reckon_201 : decode cX1_reckon 201 = .ok (.if_icmp .ne 7, 3) := by decide +kernel
theorem dX1_reckon_204 : decode cX1_reckon 204 = .ok (.iconst 1, 1) := by decide +kernel
theorem dX1_reckon_205 : decode cX1_reckon 205 = .ok (.goto 4, 3) := by decide +kernel
theorem dX1_reckon_208 : decode cX1_reckon 208 = .ok (.iconst 0, 1) := by decide +kernel
theorem dX1_reckon_209 : decode cX1_reckon 209 = .ok (.istore 7, 2) := by decide +kernel
theorem dX1_reckon_211 : decode cX1_reckon 211 = .ok (.iload_n 3, 1) := by decide +kernel
theorem dX1_reckon_212 : decode cX1_reckon 212 = .ok (.ifCond .eq 17, 3) := by decide +kernel
theorem dX1_reckon_215 : decode cX1_reckon 215 = .ok (.iload 7, 2) := by decide +kernel
theorem dX1_reckon_217 : decode cX1_reckon 217 = .ok (.ifCond .eq 14, 3) := by decide +kernel
theorem dX1_reckon_220 : decode cX1_reckon 220 = .ok (.aload_n 0, 1) := by decide +kernel
theorem dX1_reckon_221 : decode cX1_reckon 221 = .ok (.getfield 30, 3) := by decide +kernel
theorem dX1_reckon_224 : decode cX1_reckon 224 = .ok (.iload_n 3, 1) := by decide +kernel
theorem dX1_reckon_225 : decode cX1_reckon 225 = .ok (.iaload, 1) := by decide +kernel
theorem dX1_reckon_226 : decode cX1_reckon 226 = .ok (.ifCond .ne 5, 3) := by decide +kernel
theorem dX1_reckon_229 : decode cX1_reckon 229 = .ok (.iconst 0, 1) := by decide +kernel
theorem dX1_reckon_230 : decode cX1_reckon 230 = .ok (.ireturn, 1) := by decide +kernel
theorem dX1_reckon_231 : decode cX1_reckon 231 = .ok (.aload_n 0, 1) := by decide +kernel
theorem dX1_reckon_232 : decode cX1_reckon 232 = .ok (.getfield 30, 3) := by decide +kernel
theorem dX1_reckon_235 : decode cX1_reckon 235 = .ok (.iload_n 3, 1) := by decide +kernel
theorem dX1_reckon_236 : decode cX1_reckon 236 = .ok (.iconst 1, 1) := by decide +kernel
theorem dX1_reckon_237 : decode cX1_reckon 237 = .ok (.isub, 1) := by decide +kernel
theorem dX1_reckon_238 : decode cX1_reckon 238 = .ok (.iload 5, 2) := by decide +kernel
theorem dX1_reckon_240 : decode cX1_reckon 240 = .ok (.aload_n 0, 1) := by decide +kernel
theorem dX1_reckon_241 : decode cX1_reckon 241 = .ok (.getfield 30, 3) := by decide +kernel
theorem dX1_reckon_244 : decode cX1_reckon 244 = .ok (.iload_n 3, 1) := by decide +kernel
theorem dX1_reckon_245 : decode cX1_reckon 245 = .ok (.iconst 1, 1) := by decide +kernel
theorem dX1_reckon_246 : decode cX1_reckon 246 = .ok (.isub, 1) := by decide +kernel
theorem dX1_reckon_247 : decode cX1_reckon 247 = .ok (.iaload, 1) := by decide +kernel
theorem dX1_reckon_248 : decode cX1_reckon 248 = .ok (.aload_n 0, 1) := by decide +kernel
theorem dX1_reckon_249 : decode cX1_reckon 249 = .ok (.getfield 30, 3) := by decide +kernel
theorem dX1_reckon_252 : decode cX1_reckon 252 = .ok (.iload_n 3, 1) := by decide +kernel
theorem dX1_reckon_253 : decode cX1_reckon 253 = .ok (.iaload, 1) := by decide +kernel
theorem dX1_reckon_254 : decode cX1_reckon 254 = .ok (.invokestatic 58, 3) := by decide +kernel
theorem dX1_reckon_257 : decode cX1_reckon 257 = .ok (.iastore, 1) := by decide +kernel
theorem dX1_reckon_258 : decode cX1_reckon 258 = .ok (.iinc 4 1, 3) := by decide +kernel
theorem dX1_reckon_261 : decode cX1_reckon 261 = .ok (.goto (-252), 3) := by decide +kernel
theorem dX1_reckon_264 : decode cX1_reckon 264 = .ok (.iload_n 3, 1) := by decide +kernel
theorem dX1_reckon_265 : decode cX1_reckon 265 = .ok (.ifCond .le 14, 3) := by decide +kernel
theorem dX1_reckon_268 : decode cX1_reckon 268 = .ok (.aload_n 0, 1) := by decide +kernel
theorem dX1_reckon_269 : decode cX1_reckon 269 = .ok (.getfield 30, 3) := by decide +kernel
theorem dX1_reckon_272 : decode cX1_reckon 272 = .ok (.iload_n 3, 1) := by decide +kernel
theorem dX1_reckon_273 : decode cX1_reckon 273 = .ok (.iconst 1, 1) := by decide +kernel
theorem dX1_reckon_274 : decode cX1_reckon 274 = .ok (.isub, 1) := by decide +kernel
theorem dX1_reckon_275 : decode cX1_reckon 275 = .ok (.iaload, 1) := by decide +kernel
theorem dX1_reckon_276 : decode cX1_reckon 276 = .ok (.goto 4, 3) := by decide +kernel
theorem dX1_reckon_279 : decode cX1_reckon 279 = .ok (.iconst 0, 1) := by decide +kernel
theorem dX1_reckon_280 : decode cX1_reckon 280 = .ok (.ireturn, 1) := by decide +kernel
