theorem dX9_mayor_80 : decode cX9_mayor 80 = .ok (.bipush (-2), 2) := by decide +kernel
theorem dX9_mayor_82 : decode cX9_mayor 82 = .ok (.istore 6, 2) := by decide +kernel
theorem dX9_mayor_84 : decode cX9_mayor 84 = .ok (.iconst 0, 1) := by decide +kernel
theorem dX9_mayor_85 : decode cX9_mayor 85 = .ok (.istore 7, 2) := by decide +kernel
theorem dX9_mayor_87 : decode cX9_mayor 87 = .ok (.iload 7, 2) := by decide +kernel
theorem dX9_mayor_89 : decode cX9_mayor 89 = .ok (.bipush 10, 2) := by decide +kernel
theorem dX9_mayor_91 : decode cX9_mayor 91 = .ok (.if_icmp .ge 49, 3) := by decide +kernel
theorem dX9_mayor_94 : decode cX9_mayor 94 = .ok (.aload_n 0, 1) := by decide +kernel
theorem dX9_mayor_95 : decode cX9_mayor 95 = .ok (.getfield 19, 3) := by decide +kernel
theorem dX9_mayor_98 : decode cX9_mayor 98 = .ok (.iload 7, 2) := by decide +kernel
theorem dX9_mayor_100 : decode cX9_mayor 100 = .ok (.invokevirtual 173, 3) := by decide +kernel
theorem dX9_mayor_103 : decode cX9_mayor 103 = .ok (.ifCond .eq 31, 3) := by decide +kernel
theorem dX9_mayor_106 : decode cX9_mayor 106 = .ok (.aload_n 0, 1) := by decide +kernel
theorem dX9_mayor_107 : decode cX9_mayor 107 = .ok (.iconst 1, 1) := by decide +kernel
theorem dX9_mayor_108 : decode cX9_mayor 108 = .ok (.iload 7, 2) := by decide +kernel
theorem dX9_mayor_110 : decode cX9_mayor 110 = .ok (.ishl, 1) := by decide +kernel
theorem dX9_mayor_111 : decode cX9_mayor 111 = .ok (.iload_n 1, 1) := by decide +kernel
theorem dX9_mayor_112 : decode cX9_mayor 112 = .ok (.iload 5, 2) := by decide +kernel
theorem dX9_mayor_114 : decode cX9_mayor 114 = .ok (.invokevirtual 266, 3) := by decide +kernel
theorem dX9_mayor_117 : decode cX9_mayor 117 = .ok (.istore 8, 2) := by decide +kernel
theorem dX9_mayor_119 : decode cX9_mayor 119 = .ok (.iload 8, 2) := by decide +kernel
theorem dX9_mayor_121 : decode cX9_mayor 121 = .ok (.iload 5, 2) := by decide +kernel
theorem dX9_mayor_123 : decode cX9_mayor 123 = .ok (.if_icmp .ge 11, 3) := by decide +kernel
theorem dX9_mayor_126 : decode cX9_mayor 126 = .ok (.iload 8, 2) := by decide +kernel
theorem dX9_mayor_128 : decode cX9_mayor 128 = .ok (.istore 5, 2) := by decide +kernel
theorem dX9_mayor_130 : decode cX9_mayor 130 = .ok (.iload 7, 2) := by decide +kernel
theorem dX9_mayor_132 : decode cX9_mayor 132 = .ok (.istore 6, 2) := by decide +kernel
theorem dX9_mayor_134 : decode cX9_mayor 134 = .ok (.iinc 7 1, 3) := by decide +kernel
theorem dX9_mayor_137 : decode cX9_mayor 137 = .ok (.goto (-50), 3) := by decide +kernel
theorem dX9_mayor_140 : decode cX9_mayor 140 = .ok (.iload_n 2, 1) := by decide +kernel
theorem dX9_mayor_141 : decode cX9_mayor 141 = .ok (.ifCond .eq 10, 3) := by decide +kernel
theorem dX9_mayor_144 : decode cX9_mayor 144 = .ok (.iload 6, 2) := by decide +kernel
theorem dX9_mayor_146 : decode cX9_mayor 146 = .ok (.bipush (-2), 2) := by decide +kernel
theorem dX9_mayor_148 : decode cX9_mayor 148 = .ok (.if_icmp .ne 8, 3) := by decide +kernel
theorem dX9_mayor_151 : decode cX9_mayor 151 = .ok (.iload 6, 2) := by decide +kernel
theorem dX9_mayor_153 : decode cX9_mayor 153 = .ok (.goto 8, 3) := by decide +kernel
theorem dX9_mayor_156 : decode cX9_mayor 156 = .ok (.iload 5, 2) := by decide +kernel
theorem dX9_mayor_158 : decode cX9_mayor 158 = .ok (.iload 4, 2) := by decide +kernel
theorem dX9_mayor_160 : decode cX9_mayor 160 = .ok (.isub, 1) := by decide +kernel
theorem dX9_mayor_161 : decode cX9_mayor 161 = .ok (.ireturn, 1) := by decide +kernel
theorem dX9_mustStay_0 : decode cX9_mustStay 0 = .ok (.iload_n 1, 1) := by decide +kernel
theorem dX9_mustStay_1 : decode cX9_mustStay 1 = .ok (.iconst 1, 1) := by decide +kernel
theorem dX9_mustStay_2 : decode cX9_mustStay 2 = .ok (.bipush 20, 2) := by decide +kernel
theorem dX9_mustStay_4 : decode cX9_mustStay 4 = .ok (.invokestatic 81, 3) := by decide +kernel
theorem dX9_mustStay_7 : decode cX9_mustStay 7 = .ok (.ifCond .eq 12, 3) := by decide +kernel
theorem dX9_mustStay_10 : decode cX9_mustStay 10 = .ok (.iload_n 2, 1) := by decide +kernel
theorem dX9_mustStay_11 : decode cX9_mustStay 11 = .ok (.iconst 0, 1) := by decide +kernel
theorem dX9_mustStay_12 : decode cX9_mustStay 12 = .ok (.iconst 1, 1) := by decide +kernel
theorem dX9_mustStay_13 : decode cX9_mustStay 13 = .ok (.invokestatic 81, 3) := by decide +kernel
theorem dX9_mustStay_16 : decode cX9_mustStay 16 = .ok (.ifCond .ne 5, 3) := by decide +kernel
theorem dX9_mustStay_19 : decode cX9_mustStay 19 = .ok (.iconst (-1), 1) := by decide +kernel
theorem dX9_mustStay_20 : decode cX9_mustStay 20 = .ok (.ireturn, 1) := by decide +kernel
theorem dX9_mustStay_21 : decode cX9_mustStay 21 = .ok (.aload_n 0, 1) := by decide +kernel
theorem dX9_mustStay_22 : decode cX9_mustStay 22 = .ok (.getfield 26, 3) := by decide +kernel
theorem dX9_mustStay_25 : decode cX9_mustStay 25 = .ok (.invokevirtual 138, 3) := by decide +kernel
theorem dX9_mustStay_28 : decode cX9_mustStay 28 = .ok (.istore_n 3, 1) := by decide +kernel
theorem dX9_mustStay_29 : decode cX9_mustStay 29 = .ok (.iconst 0, 1) := by decide +kernel
theorem dX9_mustStay_30 : decode cX9_mustStay 30 = .ok (.istore 4, 2) := by decide +kernel
theorem dX9_mustStay_32 : decode cX9_mustStay 32 = .ok (.iload 4, 2) := by decide +kernel
theorem dX9_mustStay_34 : decode cX9_mustStay 34 = .ok (.bipush 10, 2) := by decide +kernel
theorem dX9_mustStay_36 : decode cX9_mustStay 36 = .ok (.if_icmp .gt 79, 3) := by decide +kernel
theorem dX9_mustStay_39 : decode cX9_mustStay 39 = .ok (.iconst 0, 1) := by decide +kernel
theorem dX9_mustStay_40 : decode cX9_mustStay 40 = .ok (.istore 5, 2) := by decide +kernel
theorem dX9_mustStay_42 : decode cX9_mustStay 42 = .ok (.iload 5, 2) := by decide +kernel
theorem dX9_mustStay_44 : decode cX9_mustStay 44 = .ok (.sipush 1023, 3) := by decide +kernel
theorem dX9_mustStay_47 : decode cX9_mustStay 47 = .ok (.if_icmp .gt 62, 3) := by decide +kernel
theorem dX9_mustStay_50 : decode cX9_mustStay 50 = .ok (.iload 5, 2) := by decide +kernel
theorem dX9_mustStay_52 : decode cX9_mustStay 52 = .ok (.invokestatic 142, 3) := by decide +kernel
theorem dX9_mustStay_55 : decode cX9_mustStay 55 = .ok (.iload 4, 2) := by decide +kernel
theorem dX9_mustStay_57 : decode cX9_mustStay 57 = .ok (.if_icmp .ne 16, 3) := by decide +kernel
theorem dX9_mustStay_60 : decode cX9_mustStay 60 = .ok (.iload 5, 2) := by decide +kernel
theorem dX9_mustStay_62 : decode cX9_mustStay 62 = .ok (.iload_n 3, 1) := by decide +kernel
theorem dX9_mustStay_63 : decode cX9_mustStay 63 = .ok (.iconst (-1), 1) := by decide +kernel
theorem dX9_mustStay_64 : decode cX9_mustStay 64 = .ok (.ixor, 1) := by decide +kernel
theorem dX9_mustStay_65 : decode cX9_mustStay 65 = .ok (.iand, 1) := by decide +kernel
theorem dX9_mustStay_66 : decode cX9_mustStay 66 = .ok (.ifCond .ne 7, 3) := by decide +kernel
theorem dX9_mustStay_69 : decode cX9_mustStay 69 = .ok (.iconst 1, 1) := by decide +kernel
theorem dX9_mustStay_70 : decode cX9_mustStay 70 = .ok (.goto 4, 3) := by decide +kernel
theorem dX9_mustStay_73 : decode cX9_mustStay 73 = .ok (.iconst 0, 1) := by decide +kernel
theorem dX9_mustStay_74 : decode cX9_mustStay 74 = .ok (.istore 6, 2) := by decide +kernel
theorem dX9_mustStay_76 : decode cX9_mustStay 76 = .ok (.iload 6, 2) := by decide +kernel
theorem dX9_mustStay_78 : decode cX9_mustStay 78 = .ok (.ifCond .eq 25, 3) := by decide +kernel
theorem dX9_mustStay_81 : decode cX9_mustStay 81 = .ok (.aload_n 0, 1) := by decide +kernel
theorem dX9_mustStay_82 : decode cX9_mustStay 82 = .ok (.iload 5, 2) := by decide +kernel
theorem dX9_mustStay_84 : decode cX9_mustStay 84 = .ok (.iload_n 1, 1) := by decide +kernel
theorem dX9_mustStay_85 : decode cX9_mustStay 85 = .ok (.invokevirtual 281, 3) := by decide +kernel
theorem dX9_mustStay_88 : decode cX9_mustStay 88 = .ok (.ifCond .eq 15, 3) := by decide +kernel
theorem dX9_mustStay_91 : decode cX9_mustStay 91 = .ok (.iload_n 2, 1) := by decide +kernel
theorem dX9_mustStay_92 : decode cX9_mustStay 92 = .ok (.ifCond .ne 8, 3) := by decide +kernel
theorem dX9_mustStay_95 : decode cX9_mustStay 95 = .ok (.iload 4, 2) := by decide +kernel
theorem dX9_mustStay_97 : decode cX9_mustStay 97 = .ok (.goto 5, 3) := by decide +kernel
theorem dX9_mustStay_100 : decode cX9_mustStay 100 = .ok (.iload 5, 2) := by decide +kernel
theorem dX9_mustStay_102 : decode cX9_mustStay 102 = .ok (.ireturn, 1) := by decide +kernel
theorem dX9_mustStay_103 : decode cX9_mustStay 103 = .ok (.iinc 5 1, 3) := by decide +kernel
theorem dX9_mustStay_106 : decode cX9_mustStay 106 = .ok (.goto (-64), 3) := by decide +kernel
theorem dX9_mustStay_109 : decode cX9_mustStay 109 = .ok (.iinc 4 1, 3) := by decide +kernel
theorem dX9_mustStay_112 : decode cX9_mustStay 112 = .ok (.goto (-80), 3) := by decide +kernel
theorem dX9_mustStay_115 : decode cX9_mustStay 115 = .ok (.bipush (-2), 2) := by decide +kernel
theorem dX9_mustStay_117 : decode cX9_mustStay 117 = .ok (.ireturn, 1) := by decide +kernel
theorem dX9_standIn_0 : decode cX9_standIn 0 = .ok (.aload_n 0, 1) := by decide +kernel
theorem dX9_standIn_1 : decode cX9_standIn 1 = .ok (.iload_n 1, 1) := by decide +kernel
theorem dX9_standIn_2 : decode cX9_standIn 2 = .ok (.invokevirtual 228, 3) := by decide +kernel
theorem dX9_standIn_5 : decode cX9_standIn 5 = .ok (.ifCond .eq 23, 3) := by decide +kernel
theorem dX9_standIn_8 : decode cX9_standIn 8 = .ok (.aload_n 0, 1) := by decide +kernel
theorem dX9_standIn_9 : decode cX9_standIn 9 = .ok (.getfield 19, 3) := by decide +kernel
theorem dX9_standIn_12 : decode cX9_standIn 12 = .ok (.iload_n 2, 1) := by decide +kernel
theorem dX9_standIn_13 : decode cX9_standIn 13 = .ok (.invokevirtual 173, 3) := by decide +kernel
theorem dX9_standIn_16 : decode cX9_standIn 16 = .ok (.ifCond .eq 12, 3) := by decide +kernel
theorem dX9_standIn_19 : decode cX9_standIn 19 = .ok (.iload_n 1, 1) := by decide +kernel
theorem dX9_standIn_20 : decode cX9_standIn 20 = .ok (.iload_n 2, 1) := by decide +kernel
theorem dX9_standIn_21 : decode cX9_standIn 21 = .ok (.if_icmp .eq 7, 3) := by decide +kernel
theorem dX9_standIn_24 : decode cX9_standIn 24 = .ok (.iconst 1, 1) := by decide +kernel
theorem dX9_standIn_25 : decode cX9_standIn 25 = .ok (.goto 4, 3) := by decide +kernel
theorem dX9_standIn_28 : decode cX9_standIn 28 = .ok (.iconst 0, 1) := by decide +kernel
theorem dX9_standIn_29 : decode cX9_standIn 29 = .ok (.istore 5, 2) := by decide +kernel
theorem dX9_standIn_31 : decode cX9_standIn 31 = .ok (.aload_n 0, 1) := by decide +kernel
theorem dX9_standIn_32 : decode cX9_standIn 32 = .ok (.getfield 19, 3) := by decide +kernel
theorem dX9_standIn_35 : decode cX9_standIn 35 = .ok (.iload_n 3, 1) := by decide +kernel
theorem dX9_standIn_36 : decode cX9_standIn 36 = .ok (.invokevirtual 170, 3) := by decide +kernel
theorem dX9_standIn_39 : decode cX9_standIn 39 = .ok (.ifCond .ne 19, 3) := by decide +kernel
theorem dX9_standIn_42 : decode cX9_standIn 42 = .ok (.iload_n 3, 1) := by decide +kernel
theorem dX9_standIn_43 : decode cX9_standIn 43 = .ok (.bipush 12, 2) := by decide +kernel
theorem dX9_standIn_45 : decode cX9_standIn 45 = .ok (.if_icmp .ne 17, 3) := by decide +kernel
theorem dX9_standIn_48 : decode cX9_standIn 48 = .ok (.aload_n 0, 1) := by decide +kernel
theorem dX9_standIn_49 : decode cX9_standIn 49 = .ok (.getfield 19, 3) := by decide +kernel
theorem dX9_standIn_52 : decode cX9_standIn 52 = .ok (.getfield 92, 3) := by decide +kernel
theorem dX9_standIn_55 : decode cX9_standIn 55 = .ok (.ifCond .eq 7, 3) := by decide +kernel
theorem dX9_standIn_58 : decode cX9_standIn 58 = .ok (.iconst 1, 1) := by decide +kernel
theorem dX9_standIn_59 : decode cX9_standIn 59 = .ok (.goto 4, 3) := by decide +kernel
theorem dX9_standIn_62 : decode cX9_standIn 62 = .ok (.iconst 0, 1) := by decide +kernel
theorem dX9_standIn_63 : decode cX9_standIn 63 = .ok (.istore 6, 2) := by decide +kernel
theorem dX9_standIn_65 : decode cX9_standIn 65 = .ok (.iload 4, 2) := by decide +kernel
theorem dX9_standIn_67 : decode cX9_standIn 67 = .ok (.invokestatic 154, 3) := by decide +kernel
theorem dX9_standIn_70 : decode cX9_standIn 70 = .ok (.ifCond .eq 13, 3) := by decide +kernel
theorem dX9_standIn_73 : decode cX9_standIn 73 = .ok (.iload 5, 2) := by decide +kernel
theorem dX9_standIn_75 : decode cX9_standIn 75 = .ok (.ifCond .eq 8, 3) := by decide +kernel
theorem dX9_standIn_78 : decode cX9_standIn 78 = .ok (.iload 6, 2) := by decide +kernel
theorem dX9_standIn_80 : decode cX9_standIn 80 = .ok (.ifCond .ne 6, 3) := by decide +kernel
theorem dX9_standIn_83 : decode cX9_standIn 83 = .ok (.ldc 231, 2) := by decide +kernel
theorem dX9_standIn_85 : decode cX9_standIn 85 = .ok (.ireturn, 1) := by decide +kernel
theorem dX9_standIn_86 : decode cX9_standIn 86 = .ok (.iload_n 3, 1) := by decide +kernel
theorem dX9_standIn_87 : decode cX9_standIn 87 = .ok (.bipush 12, 2) := by decide +kernel
theorem dX9_standIn_89 : decode cX9_standIn 89 = .ok (.if_icmp .eq 55, 3) := by decide +kernel
theorem dX9_standIn_92 : decode cX9_standIn 92 = .ok (.aload_n 0, 1) := by decide +kernel
theorem dX9_standIn_93 : decode cX9_standIn 93 = .ok (.iconst 1, 1) := by decide +kernel
theorem dX9_standIn_94 : decode cX9_standIn 94 = .ok (.iload_n 1, 1) := by decide +kernel
theorem dX9_standIn_95 : decode cX9_standIn 95 = .ok (.ishl, 1) := by decide +kernel
theorem dX9_standIn_96 : decode cX9_standIn 96 = .ok (.iload 4, 2) := by decide +kernel
theorem dX9_standIn_98 : decode cX9_standIn 98 = .ok (.iconst (-1), 1) := by decide +kernel
theorem dX9_standIn_99 : decode cX9_standIn 99 = .ok (.iconst (-1), 1) := by decide +kernel
theorem dX9_standIn_100 : decode cX9_standIn 100 = .ok (.iconst (-1), 1) := by decide +kernel
theorem dX9_standIn_101 : decode cX9_standIn 101 = .ok (.invokevirtual 224, 3) := by decide +kernel
theorem dX9_standIn_104 : decode cX9_standIn 104 = .ok (.aload_n 0, 1) := by decide +kernel
theorem dX9_standIn_105 : decode cX9_standIn 105 = .ok (.iconst 0, 1) := by decide +kernel
theorem dX9_standIn_106 : decode cX9_standIn 106 = .ok (.iload 4, 2) := by decide +kernel
theorem dX9_standIn_108 : decode cX9_standIn 108 = .ok (.iconst (-1), 1) := by decide +kernel
theorem dX9_standIn_109 : decode cX9_standIn 109 = .ok (.iconst (-1), 1) := by decide +kernel
theorem dX9_standIn_110 : decode cX9_standIn 110 = .ok (.iconst (-1), 1) := by decide +kernel
theorem dX9_standIn_111 : decode cX9_standIn 111 = .ok (.invokevirtual 224, 3) := by decide +kernel
theorem dX9_standIn_114 : decode cX9_standIn 114 = .ok (.isub, 1) := by decide +kernel
theorem dX9_standIn_115 : decode cX9_standIn 115 = .ok (.istore 7, 2) := by decide +kernel
theorem dX9_standIn_117 : decode cX9_standIn 117 = .ok (.iload 7, 2) := by decide +kernel
theorem dX9_standIn_119 : decode cX9_standIn 119 = .ok (.aload_n 0, 1) := by decide +kernel
theorem dX9_standIn_120 : decode cX9_standIn 120 = .ok (.iconst 1, 1) := by decide +kernel
theorem dX9_standIn_121 : decode cX9_standIn 121 = .ok (.iload_n 1, 1) := by decide +kernel
theorem dX9_standIn_122 : decode cX9_standIn 122 = .ok (.ishl, 1) := by decide +kernel
theorem dX9_standIn_123 : decode cX9_standIn 123 = .ok (.iload 4, 2) := by decide +kernel
theorem dX9_standIn_125 : decode cX9_standIn 125 = .ok (.iconst (-1), 1) := by decide +kernel
theorem dX9_standIn_126 : decode cX9_standIn 126 = .ok (.iload_n 3, 1) := by decide +kernel
theorem dX9_standIn_127 : decode cX9_standIn 127 = .ok (.iload_n 2, 1) := by decide +kernel
theorem dX9_standIn_128 : decode cX9_standIn 128 = .ok (.invokevirtual 224, 3) := by decide +kernel
theorem dX9_standIn_131 : decode cX9_standIn 131 = .ok (.isub, 1) := by decide +kernel
theorem dX9_standIn_132 : decode cX9_standIn 132 = .ok (.aload_n 0, 1) := by decide +kernel
theorem dX9_standIn_133 : decode cX9_standIn 133 = .ok (.iconst 0, 1) := by decide +kernel
theorem dX9_standIn_134 : decode cX9_standIn 134 = .ok (.iload 4, 2) := by decide +kernel
theorem dX9_standIn_136 : decode cX9_standIn 136 = .ok (.iconst (-1), 1) := by decide +kernel
theorem dX9_standIn_137 : decode cX9_standIn 137 = .ok (.iload_n 3, 1) := by decide +kernel
theorem dX9_standIn_138 : decode cX9_standIn 138 = .ok (.iload_n 2, 1) := by decide +kernel
theorem dX9_standIn_139 : decode cX9_standIn 139 = .ok (.invokevirtual 224, 3) := by decide +kernel
theorem dX9_standIn_142 : decode cX9_standIn 142 = .ok (.iadd, 1) := by decide +kernel
theorem dX9_standIn_143 : decode cX9_standIn 143 = .ok (.ireturn, 1) := by decide +kernel
theorem dX9_standIn_144 : decode cX9_standIn 144 = .ok (.ldc 160, 2) := by decide +kernel
theorem dX9_standIn_146 : decode cX9_standIn 146 = .ok (.istore 7, 2) := by decide +kernel
theorem dX9_standIn_148 : decode cX9_standIn 148 = .ok (.iconst (-1), 1) := by decide +kernel
theorem dX9_standIn_149 : decode cX9_standIn 149 = .ok (.istore 8, 2) := by decide +kernel
theorem dX9_standIn_151 : decode cX9_standIn 151 = .ok (.iconst 0, 1) := by decide +kernel
theorem dX9_standIn_152 : decode cX9_standIn 152 = .ok (.istore 9, 2) := by decide +kernel
theorem dX9_standIn_154 : decode cX9_standIn 154 = .ok (.iload 9, 2) := by decide +kernel
theorem dX9_standIn_156 : decode cX9_standIn 156 = .ok (.bipush 12, 2) := by decide +kernel
theorem dX9_standIn_158 : decode cX9_standIn 158 = .ok (.if_icmp .ge 63, 3) := by decide +kernel
theorem dX9_standIn_161 : decode cX9_standIn 161 = .ok (.aload_n 0, 1) := by decide +kernel
theorem dX9_standIn_162 : decode cX9_standIn 162 = .ok (.getfield 19, 3) := by decide +kernel
theorem dX9_standIn_165 : decode cX9_standIn 165 = .ok (.iload 9, 2) := by decide +kernel
theorem dX9_standIn_167 : decode cX9_standIn 167 = .ok (.invokevirtual 170, 3) := by decide +kernel
theorem dX9_standIn_170 : decode cX9_standIn 170 = .ok (.ifCond .eq 45, 3) := by decide +kernel
theorem dX9_standIn_173 : decode cX9_standIn 173 = .ok (.aload_n 0, 1) := by decide +kernel
theorem dX9_standIn_174 : decode cX9_standIn 174 = .ok (.iconst 1, 1) := by decide +kernel
theorem dX9_standIn_175 : decode cX9_standIn 175 = .ok (.iload_n 1, 1) := by decide +kernel
theorem dX9_standIn_176 : decode cX9_standIn 176 = .ok (.ishl, 1) := by decide +kernel
theorem dX9_standIn_177 : decode cX9_standIn 177 = .ok (.iload 4, 2) := by decide +kernel
theorem dX9_standIn_179 : decode cX9_standIn 179 = .ok (.iconst (-1), 1) := by decide +kernel
theorem dX9_standIn_180 : decode cX9_standIn 180 = .ok (.iload 9, 2) := by decide +kernel
theorem dX9_standIn_182 : decode cX9_standIn 182 = .ok (.iload_n 2, 1) := by decide +kernel
theorem dX9_standIn_183 : decode cX9_standIn 183 = .ok (.invokevirtual 224, 3) := by decide +kernel
theorem dX9_standIn_186 : decode cX9_standIn 186 = .ok (.aload_n 0, 1) := by decide +kernel
theorem dX9_standIn_187 : decode cX9_standIn 187 = .ok (.iconst 0, 1) := by decide +kernel
theorem dX9_standIn_188 : decode cX9_standIn 188 = .ok (.iload 4, 2) := by decide +kernel
theorem dX9_standIn_190 : decode cX9_standIn 190 = .ok (.iconst (-1), 1) := by decide +kernel
theorem dX9_standIn_191 : decode cX9_standIn 191 = .ok (.iload 9, 2) := by decide +kernel
theorem dX9_standIn_193 : decode cX9_standIn 193 = .ok (.iload_n 2, 1) := by decide +kernel
theorem dX9_standIn_194 : decode cX9_standIn 194 = .ok (.invokevirtual 224, 3) := by decide +kernel
theorem dX9_standIn_197 : decode cX9_standIn 197 = .ok (.isub, 1) := by decide +kernel
theorem dX9_standIn_198 : decode cX9_standIn 198 = .ok (.istore 10, 2) := by decide +kernel
theorem dX9_standIn_200 : decode cX9_standIn 200 = .ok (.iload 10, 2) := by decide +kernel
theorem dX9_standIn_202 : decode cX9_standIn 202 = .ok (.iload 7, 2) := by decide +kernel
theorem dX9_standIn_204 : decode cX9_standIn 204 = .ok (.if_icmp .ge 11, 3) := by decide +kernel
theorem dX9_standIn_207 : decode cX9_standIn 207 = .ok (.iload 10, 2) := by decide +kernel
theorem dX9_standIn_209 : decode cX9_standIn 209 = .ok (.istore 7, 2) := by decide +kernel
theorem dX9_standIn_211 : decode cX9_standIn 211 = .ok (.iload 9, 2) := by decide +kernel
theorem dX9_standIn_213 : decode cX9_standIn 213 = .ok (.istore 8, 2) := by decide +kernel
theorem dX9_standIn_215 : decode cX9_standIn 215 = .ok (.iinc 9 1, 3) := by decide +kernel
theorem dX9_standIn_218 : decode cX9_standIn 218 = .ok (.goto (-64), 3) := by decide +kernel
theorem dX9_standIn_221 : decode cX9_standIn 221 = .ok (.iload 8, 2) := by decide +kernel
theorem dX9_standIn_223 : decode cX9_standIn 223 = .ok (.ireturn, 1) := by decide +kernel
