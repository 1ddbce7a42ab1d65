theorem dX9_placeOfMost_0 : decode cX9_placeOfMost 0 = .ok (.iconst 0, 1) := by decide +kernel
theorem dX9_placeOfMost_1 : decode cX9_placeOfMost 1 = .ok (.istore_n 2, 1) := by decide +kernel
theorem dX9_placeOfMost_2 : decode cX9_placeOfMost 2 = .ok (.iconst 1, 1) := by decide +kernel
theorem dX9_placeOfMost_3 : decode cX9_placeOfMost 3 = .ok (.istore_n 3, 1) := by decide +kernel
theorem dX9_placeOfMost_4 : decode cX9_placeOfMost 4 = .ok (.iload_n 3, 1) := by decide +kernel
theorem dX9_placeOfMost_5 : decode cX9_placeOfMost 5 = .ok (.iload_n 1, 1) := by decide +kernel
theorem dX9_placeOfMost_6 : decode cX9_placeOfMost 6 = .ok (.if_icmp .ge 26, 3) := by decide +kernel
theorem dX9_placeOfMost_9 : decode cX9_placeOfMost 9 = .ok (.aload_n 0, 1) := by decide +kernel
theorem dX9_placeOfMost_10 : decode cX9_placeOfMost 10 = .ok (.iload_n 3, 1) := by decide +kernel
theorem dX9_placeOfMost_11 : decode cX9_placeOfMost 11 = .ok (.iload_n 1, 1) := by decide +kernel
theorem dX9_placeOfMost_12 : decode cX9_placeOfMost 12 = .ok (.invokevirtual 245, 3) := by decide +kernel
theorem dX9_placeOfMost_15 : decode cX9_placeOfMost 15 = .ok (.aload_n 0, 1) := by decide +kernel
theorem dX9_placeOfMost_16 : decode cX9_placeOfMost 16 = .ok (.iload_n 2, 1) := by decide +kernel
theorem dX9_placeOfMost_17 : decode cX9_placeOfMost 17 = .ok (.iload_n 1, 1) := by decide +kernel
theorem dX9_placeOfMost_18 : decode cX9_placeOfMost 18 = .ok (.invokevirtual 245, 3) := by decide +kernel
theorem dX9_placeOfMost_21 : decode cX9_placeOfMost 21 = .ok (.if_icmp .le 5, 3) := by decide +kernel
theorem dX9_placeOfMost_24 : decode cX9_placeOfMost 24 = .ok (.iload_n 3, 1) := by decide +kernel
theorem dX9_placeOfMost_25 : decode cX9_placeOfMost 25 = .ok (.istore_n 2, 1) := by decide +kernel
theorem dX9_placeOfMost_26 : decode cX9_placeOfMost 26 = .ok (.iinc 3 1, 3) := by decide +kernel
theorem dX9_placeOfMost_29 : decode cX9_placeOfMost 29 = .ok (.goto (-25), 3) := by decide +kernel
theorem dX9_placeOfMost_32 : decode cX9_placeOfMost 32 = .ok (.iload_n 2, 1) := by decide +kernel
theorem dX9_placeOfMost_33 : decode cX9_placeOfMost 33 = .ok (.ireturn, 1) := by decide +kernel
theorem dX9_share_0 : decode cX9_share 0 = .ok (.iload_n 1, 1) := by decide +kernel
theorem dX9_share_1 : decode cX9_share 1 = .ok (.invokestatic 142, 3) := by decide +kernel
theorem dX9_share_4 : decode cX9_share 4 = .ok (.istore 5, 2) := by decide +kernel
theorem dX9_share_6 : decode cX9_share 6 = .ok (.aload_n 0, 1) := by decide +kernel
theorem dX9_share_7 : decode cX9_share 7 = .ok (.iload_n 1, 1) := by decide +kernel
theorem dX9_share_8 : decode cX9_share 8 = .ok (.invokevirtual 221, 3) := by decide +kernel
theorem dX9_share_11 : decode cX9_share 11 = .ok (.ifCond .eq 31, 3) := by decide +kernel
theorem dX9_share_14 : decode cX9_share 14 = .ok (.iload_n 1, 1) := by decide +kernel
theorem dX9_share_15 : decode cX9_share 15 = .ok (.aload_n 0, 1) := by decide +kernel
theorem dX9_share_16 : decode cX9_share 16 = .ok (.getfield 26, 3) := by decide +kernel
theorem dX9_share_19 : decode cX9_share 19 = .ok (.invokevirtual 138, 3) := by decide +kernel
theorem dX9_share_22 : decode cX9_share 22 = .ok (.iconst (-1), 1) := by decide +kernel
theorem dX9_share_23 : decode cX9_share 23 = .ok (.ixor, 1) := by decide +kernel
theorem dX9_share_24 : decode cX9_share 24 = .ok (.iand, 1) := by decide +kernel
theorem dX9_share_25 : decode cX9_share 25 = .ok (.ifCond .ne 17, 3) := by decide +kernel
theorem dX9_share_28 : decode cX9_share 28 = .ok (.iload 5, 2) := by decide +kernel
theorem dX9_share_30 : decode cX9_share 30 = .ok (.iconst 1, 1) := by decide +kernel
theorem dX9_share_31 : decode cX9_share 31 = .ok (.iconst 5, 1) := by decide +kernel
theorem dX9_share_32 : decode cX9_share 32 = .ok (.invokestatic 81, 3) := by decide +kernel
theorem dX9_share_35 : decode cX9_share 35 = .ok (.ifCond .eq 7, 3) := by decide +kernel
theorem dX9_share_38 : decode cX9_share 38 = .ok (.iconst 1, 1) := by decide +kernel
theorem dX9_share_39 : decode cX9_share 39 = .ok (.goto 4, 3) := by decide +kernel
theorem dX9_share_42 : decode cX9_share 42 = .ok (.iconst 0, 1) := by decide +kernel
theorem dX9_share_43 : decode cX9_share 43 = .ok (.istore 6, 2) := by decide +kernel
theorem dX9_share_45 : decode cX9_share 45 = .ok (.iload_n 3, 1) := by decide +kernel
theorem dX9_share_46 : decode cX9_share 46 = .ok (.invokestatic 154, 3) := by decide +kernel
theorem dX9_share_49 : decode cX9_share 49 = .ok (.ifCond .eq 18, 3) := by decide +kernel
theorem dX9_share_52 : decode cX9_share 52 = .ok (.iload 6, 2) := by decide +kernel
theorem dX9_share_54 : decode cX9_share 54 = .ok (.ifCond .eq 13, 3) := by decide +kernel
theorem dX9_share_57 : decode cX9_share 57 = .ok (.iload 4, 2) := by decide +kernel
theorem dX9_share_59 : decode cX9_share 59 = .ok (.iconst 0, 1) := by decide +kernel
theorem dX9_share_60 : decode cX9_share 60 = .ok (.iconst 2, 1) := by decide +kernel
theorem dX9_share_61 : decode cX9_share 61 = .ok (.invokestatic 81, 3) := by decide +kernel
theorem dX9_share_64 : decode cX9_share 64 = .ok (.ifCond .ne 6, 3) := by decide +kernel
theorem dX9_share_67 : decode cX9_share 67 = .ok (.ldc 231, 2) := by decide +kernel
theorem dX9_share_69 : decode cX9_share 69 = .ok (.ireturn, 1) := by decide +kernel
theorem dX9_share_70 : decode cX9_share 70 = .ok (.iload 4, 2) := by decide +kernel
theorem dX9_share_72 : decode cX9_share 72 = .ok (.iconst 2, 1) := by decide +kernel
theorem dX9_share_73 : decode cX9_share 73 = .ok (.if_icmp .eq 14, 3) := by decide +kernel
theorem dX9_share_76 : decode cX9_share 76 = .ok (.iload_n 1, 1) := by decide +kernel
theorem dX9_share_77 : decode cX9_share 77 = .ok (.iload_n 2, 1) := by decide +kernel
theorem dX9_share_78 : decode cX9_share 78 = .ok (.invokestatic 232, 3) := by decide +kernel
theorem dX9_share_81 : decode cX9_share 81 = .ok (.ifCond .ne 6, 3) := by decide +kernel
theorem dX9_share_84 : decode cX9_share 84 = .ok (.ldc 231, 2) := by decide +kernel
theorem dX9_share_86 : decode cX9_share 86 = .ok (.ireturn, 1) := by decide +kernel
theorem dX9_share_87 : decode cX9_share 87 = .ok (.iconst 0, 1) := by decide +kernel
theorem dX9_share_88 : decode cX9_share 88 = .ok (.istore 7, 2) := by decide +kernel
theorem dX9_share_90 : decode cX9_share 90 = .ok (.iload 7, 2) := by decide +kernel
theorem dX9_share_92 : decode cX9_share 92 = .ok (.iconst 1, 1) := by decide +kernel
theorem dX9_share_93 : decode cX9_share 93 = .ok (.iload 5, 2) := by decide +kernel
theorem dX9_share_95 : decode cX9_share 95 = .ok (.ishl, 1) := by decide +kernel
theorem dX9_share_96 : decode cX9_share 96 = .ok (.if_icmp .ge 40, 3) := by decide +kernel
theorem dX9_share_99 : decode cX9_share 99 = .ok (.iload 7, 2) := by decide +kernel
theorem dX9_share_101 : decode cX9_share 101 = .ok (.aload_n 0, 1) := by decide +kernel
theorem dX9_share_102 : decode cX9_share 102 = .ok (.getfield 77, 3) := by decide +kernel
theorem dX9_share_105 : decode cX9_share 105 = .ok (.arraylength, 1) := by decide +kernel
theorem dX9_share_106 : decode cX9_share 106 = .ok (.if_icmp .ge 30, 3) := by decide +kernel
theorem dX9_share_109 : decode cX9_share 109 = .ok (.aload_n 0, 1) := by decide +kernel
theorem dX9_share_110 : decode cX9_share 110 = .ok (.getfield 77, 3) := by decide +kernel
theorem dX9_share_113 : decode cX9_share 113 = .ok (.iload 7, 2) := by decide +kernel
theorem dX9_share_115 : decode cX9_share 115 = .ok (.aload_n 0, 1) := by decide +kernel
theorem dX9_share_116 : decode cX9_share 116 = .ok (.iload_n 1, 1) := by decide +kernel
theorem dX9_share_117 : decode cX9_share 117 = .ok (.iload 7, 2) := by decide +kernel
theorem dX9_share_119 : decode cX9_share 119 = .ok (.invokestatic 236, 3) := by decide +kernel
theorem dX9_share_122 : decode cX9_share 122 = .ok (.iload_n 3, 1) := by decide +kernel
theorem dX9_share_123 : decode cX9_share 123 = .ok (.iconst (-1), 1) := by decide +kernel
theorem dX9_share_124 : decode cX9_share 124 = .ok (.iconst (-1), 1) := by decide +kernel
theorem dX9_share_125 : decode cX9_share 125 = .ok (.iconst (-1), 1) := by decide +kernel
theorem dX9_share_126 : decode cX9_share 126 = .ok (.invokevirtual 224, 3) := by decide +kernel
theorem dX9_share_129 : decode cX9_share 129 = .ok (.iastore, 1) := by decide +kernel
theorem dX9_share_130 : decode cX9_share 130 = .ok (.iinc 7 1, 3) := by decide +kernel
theorem dX9_share_133 : decode cX9_share 133 = .ok (.goto (-43), 3) := by decide +kernel
theorem dX9_share_136 : decode cX9_share 136 = .ok (.iload 4, 2) := by decide +kernel
theorem dX9_share_138 : decode cX9_share 138 = .ok (.iconst 2, 1) := by decide +kernel
theorem dX9_share_139 : decode cX9_share 139 = .ok (.if_icmp .ne 14, 3) := by decide +kernel
theorem dX9_share_142 : decode cX9_share 142 = .ok (.iload_n 1, 1) := by decide +kernel
theorem dX9_share_143 : decode cX9_share 143 = .ok (.aload_n 0, 1) := by decide +kernel
theorem dX9_share_144 : decode cX9_share 144 = .ok (.iload 5, 2) := by decide +kernel
theorem dX9_share_146 : decode cX9_share 146 = .ok (.invokevirtual 239, 3) := by decide +kernel
theorem dX9_share_149 : decode cX9_share 149 = .ok (.invokestatic 242, 3) := by decide +kernel
theorem dX9_share_152 : decode cX9_share 152 = .ok (.ireturn, 1) := by decide +kernel
theorem dX9_share_153 : decode cX9_share 153 = .ok (.aload_n 0, 1) := by decide +kernel
theorem dX9_share_154 : decode cX9_share 154 = .ok (.iload_n 1, 1) := by decide +kernel
theorem dX9_share_155 : decode cX9_share 155 = .ok (.iconst 1, 1) := by decide +kernel
theorem dX9_share_156 : decode cX9_share 156 = .ok (.iload_n 2, 1) := by decide +kernel
theorem dX9_share_157 : decode cX9_share 157 = .ok (.ishl, 1) := by decide +kernel
theorem dX9_share_158 : decode cX9_share 158 = .ok (.iconst 1, 1) := by decide +kernel
theorem dX9_share_159 : decode cX9_share 159 = .ok (.isub, 1) := by decide +kernel
theorem dX9_share_160 : decode cX9_share 160 = .ok (.iand, 1) := by decide +kernel
theorem dX9_share_161 : decode cX9_share 161 = .ok (.invokestatic 142, 3) := by decide +kernel
theorem dX9_share_164 : decode cX9_share 164 = .ok (.iload 5, 2) := by decide +kernel
theorem dX9_share_166 : decode cX9_share 166 = .ok (.invokevirtual 245, 3) := by decide +kernel
theorem dX9_share_169 : decode cX9_share 169 = .ok (.istore 7, 2) := by decide +kernel
theorem dX9_share_171 : decode cX9_share 171 = .ok (.getstatic 248, 3) := by decide +kernel
theorem dX9_share_174 : decode cX9_share 174 = .ok (.iload 5, 2) := by decide +kernel
theorem dX9_share_176 : decode cX9_share 176 = .ok (.iaload, 1) := by decide +kernel
theorem dX9_share_177 : decode cX9_share 177 = .ok (.istore 8, 2) := by decide +kernel
theorem dX9_share_179 : decode cX9_share 179 = .ok (.iload 7, 2) := by decide +kernel
theorem dX9_share_181 : decode cX9_share 181 = .ok (.invokestatic 251, 3) := by decide +kernel
theorem dX9_share_184 : decode cX9_share 184 = .ok (.iload 8, 2) := by decide +kernel
theorem dX9_share_186 : decode cX9_share 186 = .ok (.invokestatic 256, 3) := by decide +kernel
theorem dX9_share_189 : decode cX9_share 189 = .ok (.istore 9, 2) := by decide +kernel
theorem dX9_share_191 : decode cX9_share 191 = .ok (.iload 4, 2) := by decide +kernel
theorem dX9_share_193 : decode cX9_share 193 = .ok (.ifCond .ne 8, 3) := by decide +kernel
theorem dX9_share_196 : decode cX9_share 196 = .ok (.iload 7, 2) := by decide +kernel
theorem dX9_share_198 : decode cX9_share 198 = .ok (.goto 5, 3) := by decide +kernel
theorem dX9_share_201 : decode cX9_share 201 = .ok (.iload 8, 2) := by decide +kernel
theorem dX9_share_203 : decode cX9_share 203 = .ok (.iload 9, 2) := by decide +kernel
theorem dX9_share_205 : decode cX9_share 205 = .ok (.idiv, 1) := by decide +kernel
theorem dX9_share_206 : decode cX9_share 206 = .ok (.ireturn, 1) := by decide +kernel
theorem dX9_sumOfOrders_0 : decode cX9_sumOfOrders 0 = .ok (.iconst 0, 1) := by decide +kernel
theorem dX9_sumOfOrders_1 : decode cX9_sumOfOrders 1 = .ok (.istore_n 3, 1) := by decide +kernel
theorem dX9_sumOfOrders_2 : decode cX9_sumOfOrders 2 = .ok (.iconst 0, 1) := by decide +kernel
theorem dX9_sumOfOrders_3 : decode cX9_sumOfOrders 3 = .ok (.istore 4, 2) := by decide +kernel
theorem dX9_sumOfOrders_5 : decode cX9_sumOfOrders 5 = .ok (.iload 4, 2) := by decide +kernel
theorem dX9_sumOfOrders_7 : decode cX9_sumOfOrders 7 = .ok (.iconst 1, 1) := by decide +kernel
theorem dX9_sumOfOrders_8 : decode cX9_sumOfOrders 8 = .ok (.iload_n 2, 1) := by decide +kernel
theorem dX9_sumOfOrders_9 : decode cX9_sumOfOrders 9 = .ok (.ishl, 1) := by decide +kernel
theorem dX9_sumOfOrders_10 : decode cX9_sumOfOrders 10 = .ok (.if_icmp .ge 97, 3) := by decide +kernel
theorem dX9_sumOfOrders_13 : decode cX9_sumOfOrders 13 = .ok (.iload 4, 2) := by decide +kernel
theorem dX9_sumOfOrders_15 : decode cX9_sumOfOrders 15 = .ok (.aload_n 0, 1) := by decide +kernel
theorem dX9_sumOfOrders_16 : decode cX9_sumOfOrders 16 = .ok (.getfield 77, 3) := by decide +kernel
theorem dX9_sumOfOrders_19 : decode cX9_sumOfOrders 19 = .ok (.arraylength, 1) := by decide +kernel
theorem dX9_sumOfOrders_20 : decode cX9_sumOfOrders 20 = .ok (.if_icmp .ge 87, 3) := by decide +kernel
theorem dX9_sumOfOrders_23 : decode cX9_sumOfOrders 23 = .ok (.iload 4, 2) := by decide +kernel
theorem dX9_sumOfOrders_25 : decode cX9_sumOfOrders 25 = .ok (.iconst 1, 1) := by decide +kernel
theorem dX9_sumOfOrders_26 : decode cX9_sumOfOrders 26 = .ok (.iload_n 1, 1) := by decide +kernel
theorem dX9_sumOfOrders_27 : decode cX9_sumOfOrders 27 = .ok (.ishl, 1) := by decide +kernel
theorem dX9_sumOfOrders_28 : decode cX9_sumOfOrders 28 = .ok (.ior, 1) := by decide +kernel
theorem dX9_sumOfOrders_29 : decode cX9_sumOfOrders 29 = .ok (.istore 5, 2) := by decide +kernel
theorem dX9_sumOfOrders_31 : decode cX9_sumOfOrders 31 = .ok (.iload 4, 2) := by decide +kernel
theorem dX9_sumOfOrders_33 : decode cX9_sumOfOrders 33 = .ok (.invokestatic 142, 3) := by decide +kernel
theorem dX9_sumOfOrders_36 : decode cX9_sumOfOrders 36 = .ok (.istore 6, 2) := by decide +kernel
theorem dX9_sumOfOrders_38 : decode cX9_sumOfOrders 38 = .ok (.iload 5, 2) := by decide +kernel
theorem dX9_sumOfOrders_40 : decode cX9_sumOfOrders 40 = .ok (.iload 4, 2) := by decide +kernel
theorem dX9_sumOfOrders_42 : decode cX9_sumOfOrders 42 = .ok (.if_icmp .eq 59, 3) := by decide +kernel
theorem dX9_sumOfOrders_45 : decode cX9_sumOfOrders 45 = .ok (.iload 5, 2) := by decide +kernel
theorem dX9_sumOfOrders_47 : decode cX9_sumOfOrders 47 = .ok (.aload_n 0, 1) := by decide +kernel
theorem dX9_sumOfOrders_48 : decode cX9_sumOfOrders 48 = .ok (.getfield 77, 3) := by decide +kernel
theorem dX9_sumOfOrders_51 : decode cX9_sumOfOrders 51 = .ok (.arraylength, 1) := by decide +kernel
theorem dX9_sumOfOrders_52 : decode cX9_sumOfOrders 52 = .ok (.if_icmp .ge 49, 3) := by decide +kernel
theorem dX9_sumOfOrders_55 : decode cX9_sumOfOrders 55 = .ok (.iload 6, 2) := by decide +kernel
theorem dX9_sumOfOrders_57 : decode cX9_sumOfOrders 57 = .ok (.iload_n 2, 1) := by decide +kernel
theorem dX9_sumOfOrders_58 : decode cX9_sumOfOrders 58 = .ok (.if_icmp .ge 43, 3) := by decide +kernel
theorem dX9_sumOfOrders_61 : decode cX9_sumOfOrders 61 = .ok (.getstatic 248, 3) := by decide +kernel
theorem dX9_sumOfOrders_64 : decode cX9_sumOfOrders 64 = .ok (.iload 6, 2) := by decide +kernel
theorem dX9_sumOfOrders_66 : decode cX9_sumOfOrders 66 = .ok (.iaload, 1) := by decide +kernel
theorem dX9_sumOfOrders_67 : decode cX9_sumOfOrders 67 = .ok (.getstatic 248, 3) := by decide +kernel
theorem dX9_sumOfOrders_70 : decode cX9_sumOfOrders 70 = .ok (.iload_n 2, 1) := by decide +kernel
theorem dX9_sumOfOrders_71 : decode cX9_sumOfOrders 71 = .ok (.iconst 1, 1) := by decide +kernel
theorem dX9_sumOfOrders_72 : decode cX9_sumOfOrders 72 = .ok (.isub, 1) := by decide +kernel
theorem dX9_sumOfOrders_73 : decode cX9_sumOfOrders 73 = .ok (.iload 6, 2) := by decide +kernel
theorem dX9_sumOfOrders_75 : decode cX9_sumOfOrders 75 = .ok (.isub, 1) := by decide +kernel
theorem dX9_sumOfOrders_76 : decode cX9_sumOfOrders 76 = .ok (.iaload, 1) := by decide +kernel
theorem dX9_sumOfOrders_77 : decode cX9_sumOfOrders 77 = .ok (.imul, 1) := by decide +kernel
theorem dX9_sumOfOrders_78 : decode cX9_sumOfOrders 78 = .ok (.istore 7, 2) := by decide +kernel
theorem dX9_sumOfOrders_80 : decode cX9_sumOfOrders 80 = .ok (.iload_n 3, 1) := by decide +kernel
theorem dX9_sumOfOrders_81 : decode cX9_sumOfOrders 81 = .ok (.iload 7, 2) := by decide +kernel
theorem dX9_sumOfOrders_83 : decode cX9_sumOfOrders 83 = .ok (.aload_n 0, 1) := by decide +kernel
theorem dX9_sumOfOrders_84 : decode cX9_sumOfOrders 84 = .ok (.getfield 77, 3) := by decide +kernel
theorem dX9_sumOfOrders_87 : decode cX9_sumOfOrders 87 = .ok (.iload 5, 2) := by decide +kernel
theorem dX9_sumOfOrders_89 : decode cX9_sumOfOrders 89 = .ok (.iaload, 1) := by decide +kernel
theorem dX9_sumOfOrders_90 : decode cX9_sumOfOrders 90 = .ok (.aload_n 0, 1) := by decide +kernel
theorem dX9_sumOfOrders_91 : decode cX9_sumOfOrders 91 = .ok (.getfield 77, 3) := by decide +kernel
theorem dX9_sumOfOrders_94 : decode cX9_sumOfOrders 94 = .ok (.iload 4, 2) := by decide +kernel
theorem dX9_sumOfOrders_96 : decode cX9_sumOfOrders 96 = .ok (.iaload, 1) := by decide +kernel
theorem dX9_sumOfOrders_97 : decode cX9_sumOfOrders 97 = .ok (.isub, 1) := by decide +kernel
theorem dX9_sumOfOrders_98 : decode cX9_sumOfOrders 98 = .ok (.imul, 1) := by decide +kernel
theorem dX9_sumOfOrders_99 : decode cX9_sumOfOrders 99 = .ok (.iadd, 1) := by decide +kernel
theorem dX9_sumOfOrders_100 : decode cX9_sumOfOrders 100 = .ok (.istore_n 3, 1) := by decide +kernel
theorem dX9_sumOfOrders_101 : decode cX9_sumOfOrders 101 = .ok (.iinc 4 1, 3) := by decide +kernel
theorem dX9_sumOfOrders_104 : decode cX9_sumOfOrders 104 = .ok (.goto (-99), 3) := by decide +kernel
theorem dX9_sumOfOrders_107 : decode cX9_sumOfOrders 107 = .ok (.iload_n 3, 1) := by decide +kernel
theorem dX9_sumOfOrders_108 : decode cX9_sumOfOrders 108 = .ok (.ireturn, 1) := by decide +kernel
