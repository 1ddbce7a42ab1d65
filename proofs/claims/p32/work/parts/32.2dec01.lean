theorem dX9_spoilt_131 : decode cX9_spoilt 131 = .ok (.getfield 19, 3) := by decide +kernel
theorem dX9_spoilt_134 : decode cX9_spoilt 134 = .ok (.iload 8, 2) := by decide +kernel
theorem dX9_spoilt_136 : decode cX9_spoilt 136 = .ok (.invokevirtual 173, 3) := by decide +kernel
theorem dX9_spoilt_139 : decode cX9_spoilt 139 = .ok (.ifCond .eq 43, 3) := by decide +kernel
theorem dX9_spoilt_142 : decode cX9_spoilt 142 = .ok (.aload_n 0, 1) := by decide +kernel
theorem dX9_spoilt_143 : decode cX9_spoilt 143 = .ok (.iconst 1, 1) := by decide +kernel
theorem dX9_spoilt_144 : decode cX9_spoilt 144 = .ok (.iload_n 1, 1) := by decide +kernel
theorem dX9_spoilt_145 : decode cX9_spoilt 145 = .ok (.ishl, 1) := by decide +kernel
theorem dX9_spoilt_146 : decode cX9_spoilt 146 = .ok (.iload_n 3, 1) := by decide +kernel
theorem dX9_spoilt_147 : decode cX9_spoilt 147 = .ok (.iload 8, 2) := by decide +kernel
theorem dX9_spoilt_149 : decode cX9_spoilt 149 = .ok (.iconst (-1), 1) := by decide +kernel
theorem dX9_spoilt_150 : decode cX9_spoilt 150 = .ok (.iconst (-1), 1) := by decide +kernel
theorem dX9_spoilt_151 : decode cX9_spoilt 151 = .ok (.invokevirtual 224, 3) := by decide +kernel
theorem dX9_spoilt_154 : decode cX9_spoilt 154 = .ok (.aload_n 0, 1) := by decide +kernel
theorem dX9_spoilt_155 : decode cX9_spoilt 155 = .ok (.iconst 0, 1) := by decide +kernel
theorem dX9_spoilt_156 : decode cX9_spoilt 156 = .ok (.iload_n 3, 1) := by decide +kernel
theorem dX9_spoilt_157 : decode cX9_spoilt 157 = .ok (.iload 8, 2) := by decide +kernel
theorem dX9_spoilt_159 : decode cX9_spoilt 159 = .ok (.iconst (-1), 1) := by decide +kernel
theorem dX9_spoilt_160 : decode cX9_spoilt 160 = .ok (.iconst (-1), 1) := by decide +kernel
theorem dX9_spoilt_161 : decode cX9_spoilt 161 = .ok (.invokevirtual 224, 3) := by decide +kernel
theorem dX9_spoilt_164 : decode cX9_spoilt 164 = .ok (.isub, 1) := by decide +kernel
theorem dX9_spoilt_165 : decode cX9_spoilt 165 = .ok (.istore 9, 2) := by decide +kernel
theorem dX9_spoilt_167 : decode cX9_spoilt 167 = .ok (.iload 9, 2) := by decide +kernel
theorem dX9_spoilt_169 : decode cX9_spoilt 169 = .ok (.iload 6, 2) := by decide +kernel
theorem dX9_spoilt_171 : decode cX9_spoilt 171 = .ok (.if_icmp .le 11, 3) := by decide +kernel
theorem dX9_spoilt_174 : decode cX9_spoilt 174 = .ok (.iload 9, 2) := by decide +kernel
theorem dX9_spoilt_176 : decode cX9_spoilt 176 = .ok (.istore 6, 2) := by decide +kernel
theorem dX9_spoilt_178 : decode cX9_spoilt 178 = .ok (.iload 8, 2) := by decide +kernel
theorem dX9_spoilt_180 : decode cX9_spoilt 180 = .ok (.istore 7, 2) := by decide +kernel
theorem dX9_spoilt_182 : decode cX9_spoilt 182 = .ok (.iinc 8 1, 3) := by decide +kernel
theorem dX9_spoilt_185 : decode cX9_spoilt 185 = .ok (.goto (-68), 3) := by decide +kernel
theorem dX9_spoilt_188 : decode cX9_spoilt 188 = .ok (.iload 7, 2) := by decide +kernel
theorem dX9_spoilt_190 : decode cX9_spoilt 190 = .ok (.ireturn, 1) := by decide +kernel
theorem dX9_together_0 : decode cX9_together 0 = .ok (.iload_n 3, 1) := by decide +kernel
theorem dX9_together_1 : decode cX9_together 1 = .ok (.invokestatic 154, 3) := by decide +kernel
theorem dX9_together_4 : decode cX9_together 4 = .ok (.ifCond .eq 24, 3) := by decide +kernel
theorem dX9_together_7 : decode cX9_together 7 = .ok (.aload_n 0, 1) := by decide +kernel
theorem dX9_together_8 : decode cX9_together 8 = .ok (.iload_n 1, 1) := by decide +kernel
theorem dX9_together_9 : decode cX9_together 9 = .ok (.invokevirtual 228, 3) := by decide +kernel
theorem dX9_together_12 : decode cX9_together 12 = .ok (.ifCond .eq 16, 3) := by decide +kernel
theorem dX9_together_15 : decode cX9_together 15 = .ok (.aload_n 0, 1) := by decide +kernel
theorem dX9_together_16 : decode cX9_together 16 = .ok (.iload_n 2, 1) := by decide +kernel
theorem dX9_together_17 : decode cX9_together 17 = .ok (.invokevirtual 228, 3) := by decide +kernel
theorem dX9_together_20 : decode cX9_together 20 = .ok (.ifCond .eq 8, 3) := by decide +kernel
theorem dX9_together_23 : decode cX9_together 23 = .ok (.iload_n 1, 1) := by decide +kernel
theorem dX9_together_24 : decode cX9_together 24 = .ok (.iload_n 2, 1) := by decide +kernel
theorem dX9_together_25 : decode cX9_together 25 = .ok (.if_icmp .ne 6, 3) := by decide +kernel
theorem dX9_together_28 : decode cX9_together 28 = .ok (.ldc 231, 2) := by decide +kernel
theorem dX9_together_30 : decode cX9_together 30 = .ok (.ireturn, 1) := by decide +kernel
theorem dX9_together_31 : decode cX9_together 31 = .ok (.aload_n 0, 1) := by decide +kernel
theorem dX9_together_32 : decode cX9_together 32 = .ok (.iconst 1, 1) := by decide +kernel
theorem dX9_together_33 : decode cX9_together 33 = .ok (.iload_n 1, 1) := by decide +kernel
theorem dX9_together_34 : decode cX9_together 34 = .ok (.ishl, 1) := by decide +kernel
theorem dX9_together_35 : decode cX9_together 35 = .ok (.iconst 1, 1) := by decide +kernel
theorem dX9_together_36 : decode cX9_together 36 = .ok (.iload_n 2, 1) := by decide +kernel
theorem dX9_together_37 : decode cX9_together 37 = .ok (.ishl, 1) := by decide +kernel
theorem dX9_together_38 : decode cX9_together 38 = .ok (.ior, 1) := by decide +kernel
theorem dX9_together_39 : decode cX9_together 39 = .ok (.iload_n 3, 1) := by decide +kernel
theorem dX9_together_40 : decode cX9_together 40 = .ok (.iconst (-1), 1) := by decide +kernel
theorem dX9_together_41 : decode cX9_together 41 = .ok (.iconst (-1), 1) := by decide +kernel
theorem dX9_together_42 : decode cX9_together 42 = .ok (.iconst (-1), 1) := by decide +kernel
theorem dX9_together_43 : decode cX9_together 43 = .ok (.invokevirtual 224, 3) := by decide +kernel
theorem dX9_together_46 : decode cX9_together 46 = .ok (.istore 4, 2) := by decide +kernel
theorem dX9_together_48 : decode cX9_together 48 = .ok (.aload_n 0, 1) := by decide +kernel
theorem dX9_together_49 : decode cX9_together 49 = .ok (.iconst 0, 1) := by decide +kernel
theorem dX9_together_50 : decode cX9_together 50 = .ok (.iload_n 3, 1) := by decide +kernel
theorem dX9_together_51 : decode cX9_together 51 = .ok (.iconst (-1), 1) := by decide +kernel
theorem dX9_together_52 : decode cX9_together 52 = .ok (.iconst (-1), 1) := by decide +kernel
theorem dX9_together_53 : decode cX9_together 53 = .ok (.iconst (-1), 1) := by decide +kernel
theorem dX9_together_54 : decode cX9_together 54 = .ok (.invokevirtual 224, 3) := by decide +kernel
theorem dX9_together_57 : decode cX9_together 57 = .ok (.istore 5, 2) := by decide +kernel
theorem dX9_together_59 : decode cX9_together 59 = .ok (.aload_n 0, 1) := by decide +kernel
theorem dX9_together_60 : decode cX9_together 60 = .ok (.iconst 1, 1) := by decide +kernel
theorem dX9_together_61 : decode cX9_together 61 = .ok (.iload_n 1, 1) := by decide +kernel
theorem dX9_together_62 : decode cX9_together 62 = .ok (.ishl, 1) := by decide +kernel
theorem dX9_together_63 : decode cX9_together 63 = .ok (.iload_n 3, 1) := by decide +kernel
theorem dX9_together_64 : decode cX9_together 64 = .ok (.iconst (-1), 1) := by decide +kernel
theorem dX9_together_65 : decode cX9_together 65 = .ok (.iconst (-1), 1) := by decide +kernel
theorem dX9_together_66 : decode cX9_together 66 = .ok (.iconst (-1), 1) := by decide +kernel
theorem dX9_together_67 : decode cX9_together 67 = .ok (.invokevirtual 224, 3) := by decide +kernel
theorem dX9_together_70 : decode cX9_together 70 = .ok (.istore 6, 2) := by decide +kernel
theorem dX9_together_72 : decode cX9_together 72 = .ok (.aload_n 0, 1) := by decide +kernel
theorem dX9_together_73 : decode cX9_together 73 = .ok (.iconst 1, 1) := by decide +kernel
theorem dX9_together_74 : decode cX9_together 74 = .ok (.iload_n 2, 1) := by decide +kernel
theorem dX9_together_75 : decode cX9_together 75 = .ok (.ishl, 1) := by decide +kernel
theorem dX9_together_76 : decode cX9_together 76 = .ok (.iload_n 3, 1) := by decide +kernel
theorem dX9_together_77 : decode cX9_together 77 = .ok (.iconst (-1), 1) := by decide +kernel
theorem dX9_together_78 : decode cX9_together 78 = .ok (.iconst (-1), 1) := by decide +kernel
theorem dX9_together_79 : decode cX9_together 79 = .ok (.iconst (-1), 1) := by decide +kernel
theorem dX9_together_80 : decode cX9_together 80 = .ok (.invokevirtual 224, 3) := by decide +kernel
theorem dX9_together_83 : decode cX9_together 83 = .ok (.istore 7, 2) := by decide +kernel
theorem dX9_together_85 : decode cX9_together 85 = .ok (.iload 4, 2) := by decide +kernel
theorem dX9_together_87 : decode cX9_together 87 = .ok (.iload 5, 2) := by decide +kernel
theorem dX9_together_89 : decode cX9_together 89 = .ok (.iadd, 1) := by decide +kernel
theorem dX9_together_90 : decode cX9_together 90 = .ok (.iload 6, 2) := by decide +kernel
theorem dX9_together_92 : decode cX9_together 92 = .ok (.isub, 1) := by decide +kernel
theorem dX9_together_93 : decode cX9_together 93 = .ok (.iload 7, 2) := by decide +kernel
theorem dX9_together_95 : decode cX9_together 95 = .ok (.isub, 1) := by decide +kernel
theorem dX9_together_96 : decode cX9_together 96 = .ok (.ireturn, 1) := by decide +kernel
theorem dX9_when_0 : decode cX9_when 0 = .ok (.aload_n 0, 1) := by decide +kernel
theorem dX9_when_1 : decode cX9_when 1 = .ok (.getfield 19, 3) := by decide +kernel
theorem dX9_when_4 : decode cX9_when 4 = .ok (.iload_n 1, 1) := by decide +kernel
theorem dX9_when_5 : decode cX9_when 5 = .ok (.invokevirtual 173, 3) := by decide +kernel
theorem dX9_when_8 : decode cX9_when 8 = .ok (.ifCond .eq 33, 3) := by decide +kernel
theorem dX9_when_11 : decode cX9_when 11 = .ok (.iload_n 2, 1) := by decide +kernel
theorem dX9_when_12 : decode cX9_when 12 = .ok (.iconst 1, 1) := by decide +kernel
theorem dX9_when_13 : decode cX9_when 13 = .ok (.bipush 20, 2) := by decide +kernel
theorem dX9_when_15 : decode cX9_when 15 = .ok (.invokestatic 81, 3) := by decide +kernel
theorem dX9_when_18 : decode cX9_when 18 = .ok (.ifCond .eq 23, 3) := by decide +kernel
theorem dX9_when_21 : decode cX9_when 21 = .ok (.iload_n 3, 1) := by decide +kernel
theorem dX9_when_22 : decode cX9_when 22 = .ok (.iconst 1, 1) := by decide +kernel
theorem dX9_when_23 : decode cX9_when 23 = .ok (.bipush 30, 2) := by decide +kernel
theorem dX9_when_25 : decode cX9_when 25 = .ok (.invokestatic 81, 3) := by decide +kernel
theorem dX9_when_28 : decode cX9_when 28 = .ok (.ifCond .eq 13, 3) := by decide +kernel
theorem dX9_when_31 : decode cX9_when 31 = .ok (.iload 4, 2) := by decide +kernel
theorem dX9_when_33 : decode cX9_when 33 = .ok (.iconst 0, 1) := by decide +kernel
theorem dX9_when_34 : decode cX9_when 34 = .ok (.iconst 1, 1) := by decide +kernel
theorem dX9_when_35 : decode cX9_when 35 = .ok (.invokestatic 81, 3) := by decide +kernel
theorem dX9_when_38 : decode cX9_when 38 = .ok (.ifCond .ne 6, 3) := by decide +kernel
theorem dX9_when_41 : decode cX9_when 41 = .ok (.ldc 231, 2) := by decide +kernel
theorem dX9_when_43 : decode cX9_when 43 = .ok (.ireturn, 1) := by decide +kernel
theorem dX9_when_44 : decode cX9_when 44 = .ok (.iconst (-1), 1) := by decide +kernel
theorem dX9_when_45 : decode cX9_when 45 = .ok (.istore 5, 2) := by decide +kernel
theorem dX9_when_47 : decode cX9_when 47 = .ok (.iconst 0, 1) := by decide +kernel
theorem dX9_when_48 : decode cX9_when 48 = .ok (.istore 6, 2) := by decide +kernel
theorem dX9_when_50 : decode cX9_when 50 = .ok (.iconst 0, 1) := by decide +kernel
theorem dX9_when_51 : decode cX9_when 51 = .ok (.istore 7, 2) := by decide +kernel
theorem dX9_when_53 : decode cX9_when 53 = .ok (.iload 7, 2) := by decide +kernel
theorem dX9_when_55 : decode cX9_when 55 = .ok (.iload_n 3, 1) := by decide +kernel
theorem dX9_when_56 : decode cX9_when 56 = .ok (.if_icmp .ge 45, 3) := by decide +kernel
theorem dX9_when_59 : decode cX9_when 59 = .ok (.aload_n 0, 1) := by decide +kernel
theorem dX9_when_60 : decode cX9_when 60 = .ok (.iload_n 1, 1) := by decide +kernel
theorem dX9_when_61 : decode cX9_when 61 = .ok (.aload_n 0, 1) := by decide +kernel
theorem dX9_when_62 : decode cX9_when 62 = .ok (.getfield 26, 3) := by decide +kernel
theorem dX9_when_65 : decode cX9_when 65 = .ok (.getfield 209, 3) := by decide +kernel
theorem dX9_when_68 : decode cX9_when 68 = .ok (.iload 7, 2) := by decide +kernel
theorem dX9_when_70 : decode cX9_when 70 = .ok (.iadd, 1) := by decide +kernel
theorem dX9_when_71 : decode cX9_when 71 = .ok (.iload_n 2, 1) := by decide +kernel
theorem dX9_when_72 : decode cX9_when 72 = .ok (.iload_n 3, 1) := by decide +kernel
theorem dX9_when_73 : decode cX9_when 73 = .ok (.iload_n 2, 1) := by decide +kernel
theorem dX9_when_74 : decode cX9_when 74 = .ok (.iadd, 1) := by decide +kernel
theorem dX9_when_75 : decode cX9_when 75 = .ok (.invokevirtual 259, 3) := by decide +kernel
theorem dX9_when_78 : decode cX9_when 78 = .ok (.istore 8, 2) := by decide +kernel
theorem dX9_when_80 : decode cX9_when 80 = .ok (.iload 8, 2) := by decide +kernel
theorem dX9_when_82 : decode cX9_when 82 = .ok (.iload 5, 2) := by decide +kernel
theorem dX9_when_84 : decode cX9_when 84 = .ok (.if_icmp .le 11, 3) := by decide +kernel
theorem dX9_when_87 : decode cX9_when 87 = .ok (.iload 8, 2) := by decide +kernel
theorem dX9_when_89 : decode cX9_when 89 = .ok (.istore 5, 2) := by decide +kernel
theorem dX9_when_91 : decode cX9_when 91 = .ok (.iload 7, 2) := by decide +kernel
theorem dX9_when_93 : decode cX9_when 93 = .ok (.istore 6, 2) := by decide +kernel
theorem dX9_when_95 : decode cX9_when 95 = .ok (.iinc 7 1, 3) := by decide +kernel
theorem dX9_when_98 : decode cX9_when 98 = .ok (.goto (-45), 3) := by decide +kernel
theorem dX9_when_101 : decode cX9_when 101 = .ok (.iload 4, 2) := by decide +kernel
theorem dX9_when_103 : decode cX9_when 103 = .ok (.ifCond .ne 16, 3) := by decide +kernel
theorem dX9_when_106 : decode cX9_when 106 = .ok (.aload_n 0, 1) := by decide +kernel
theorem dX9_when_107 : decode cX9_when 107 = .ok (.getfield 26, 3) := by decide +kernel
theorem dX9_when_110 : decode cX9_when 110 = .ok (.getfield 209, 3) := by decide +kernel
theorem dX9_when_113 : decode cX9_when 113 = .ok (.iload 6, 2) := by decide +kernel
theorem dX9_when_115 : decode cX9_when 115 = .ok (.iadd, 1) := by decide +kernel
theorem dX9_when_116 : decode cX9_when 116 = .ok (.goto 17, 3) := by decide +kernel
theorem dX9_when_119 : decode cX9_when 119 = .ok (.iload 5, 2) := by decide +kernel
theorem dX9_when_121 : decode cX9_when 121 = .ok (.aload_n 0, 1) := by decide +kernel
theorem dX9_when_122 : decode cX9_when 122 = .ok (.iload_n 1, 1) := by decide +kernel
theorem dX9_when_123 : decode cX9_when 123 = .ok (.bipush (-2), 2) := by decide +kernel
theorem dX9_when_125 : decode cX9_when 125 = .ok (.iconst 1, 1) := by decide +kernel
theorem dX9_when_126 : decode cX9_when 126 = .ok (.iload_n 3, 1) := by decide +kernel
theorem dX9_when_127 : decode cX9_when 127 = .ok (.iload_n 2, 1) := by decide +kernel
theorem dX9_when_128 : decode cX9_when 128 = .ok (.iadd, 1) := by decide +kernel
theorem dX9_when_129 : decode cX9_when 129 = .ok (.invokevirtual 259, 3) := by decide +kernel
theorem dX9_when_132 : decode cX9_when 132 = .ok (.isub, 1) := by decide +kernel
theorem dX9_when_133 : decode cX9_when 133 = .ok (.ireturn, 1) := by decide +kernel
