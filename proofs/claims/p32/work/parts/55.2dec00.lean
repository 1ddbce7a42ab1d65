theorem dX10_doers_0 : decode cX10_doers 0 = .ok (.iload_n 1, 1) := by decide +kernel
theorem dX10_doers_1 : decode cX10_doers 1 = .ok (.iconst 1, 1) := by decide +kernel
theorem dX10_doers_2 : decode cX10_doers 2 = .ok (.bipush 120, 2) := by decide +kernel
theorem dX10_doers_4 : decode cX10_doers 4 = .ok (.invokestatic 157, 3) := by decide +kernel
theorem dX10_doers_7 : decode cX10_doers 7 = .ok (.ifCond .eq 11, 3) := by decide +kernel
theorem dX10_doers_10 : decode cX10_doers 10 = .ok (.iload_n 1, 1) := by decide +kernel
theorem dX10_doers_11 : decode cX10_doers 11 = .ok (.aload_n 0, 1) := by decide +kernel
theorem dX10_doers_12 : decode cX10_doers 12 = .ok (.getfield 164, 3) := by decide +kernel
theorem dX10_doers_15 : decode cX10_doers 15 = .ok (.if_icmp .le 5, 3) := by decide +kernel
theorem dX10_doers_18 : decode cX10_doers 18 = .ok (.iconst (-1), 1) := by decide +kernel
theorem dX10_doers_19 : decode cX10_doers 19 = .ok (.ireturn, 1) := by decide +kernel
theorem dX10_doers_20 : decode cX10_doers 20 = .ok (.aload_n 0, 1) := by decide +kernel
theorem dX10_doers_21 : decode cX10_doers 21 = .ok (.iconst 0, 1) := by decide +kernel
theorem dX10_doers_22 : decode cX10_doers 22 = .ok (.putfield 171, 3) := by decide +kernel
theorem dX10_doers_25 : decode cX10_doers 25 = .ok (.aload_n 0, 1) := by decide +kernel
theorem dX10_doers_26 : decode cX10_doers 26 = .ok (.iload_n 1, 1) := by decide +kernel
theorem dX10_doers_27 : decode cX10_doers 27 = .ok (.putfield 174, 3) := by decide +kernel
theorem dX10_doers_30 : decode cX10_doers 30 = .ok (.aload_n 0, 1) := by decide +kernel
theorem dX10_doers_31 : decode cX10_doers 31 = .ok (.iconst 0, 1) := by decide +kernel
theorem dX10_doers_32 : decode cX10_doers 32 = .ok (.putfield 276, 3) := by decide +kernel
theorem dX10_doers_35 : decode cX10_doers 35 = .ok (.aload_n 0, 1) := by decide +kernel
theorem dX10_doers_36 : decode cX10_doers 36 = .ok (.invokevirtual 282, 3) := by decide +kernel
theorem dX10_doers_39 : decode cX10_doers 39 = .ok (.istore_n 2, 1) := by decide +kernel
theorem dX10_doers_40 : decode cX10_doers 40 = .ok (.iload_n 2, 1) := by decide +kernel
theorem dX10_doers_41 : decode cX10_doers 41 = .ok (.ifCond .eq 39, 3) := by decide +kernel
theorem dX10_doers_44 : decode cX10_doers 44 = .ok (.aload_n 0, 1) := by decide +kernel
theorem dX10_doers_45 : decode cX10_doers 45 = .ok (.getfield 171, 3) := by decide +kernel
theorem dX10_doers_48 : decode cX10_doers 48 = .ok (.aload_n 0, 1) := by decide +kernel
theorem dX10_doers_49 : decode cX10_doers 49 = .ok (.getfield 174, 3) := by decide +kernel
theorem dX10_doers_52 : decode cX10_doers 52 = .ok (.if_icmp .ge 28, 3) := by decide +kernel
theorem dX10_doers_55 : decode cX10_doers 55 = .ok (.aload_n 0, 1) := by decide +kernel
theorem dX10_doers_56 : decode cX10_doers 56 = .ok (.bipush 59, 2) := by decide +kernel
theorem dX10_doers_58 : decode cX10_doers 58 = .ok (.invokevirtual 262, 3) := by decide +kernel
theorem dX10_doers_61 : decode cX10_doers 61 = .ok (.ifCond .eq 14, 3) := by decide +kernel
theorem dX10_doers_64 : decode cX10_doers 64 = .ok (.aload_n 0, 1) := by decide +kernel
theorem dX10_doers_65 : decode cX10_doers 65 = .ok (.invokevirtual 282, 3) := by decide +kernel
theorem dX10_doers_68 : decode cX10_doers 68 = .ok (.ifCond .eq 7, 3) := by decide +kernel
theorem dX10_doers_71 : decode cX10_doers 71 = .ok (.iconst 1, 1) := by decide +kernel
theorem dX10_doers_72 : decode cX10_doers 72 = .ok (.goto 4, 3) := by decide +kernel
theorem dX10_doers_75 : decode cX10_doers 75 = .ok (.iconst 0, 1) := by decide +kernel
theorem dX10_doers_76 : decode cX10_doers 76 = .ok (.istore_n 2, 1) := by decide +kernel
theorem dX10_doers_77 : decode cX10_doers 77 = .ok (.goto (-37), 3) := by decide +kernel
theorem dX10_doers_80 : decode cX10_doers 80 = .ok (.aload_n 0, 1) := by decide +kernel
theorem dX10_doers_81 : decode cX10_doers 81 = .ok (.iconst 0, 1) := by decide +kernel
theorem dX10_doers_82 : decode cX10_doers 82 = .ok (.putfield 164, 3) := by decide +kernel
theorem dX10_doers_85 : decode cX10_doers 85 = .ok (.iload_n 2, 1) := by decide +kernel
theorem dX10_doers_86 : decode cX10_doers 86 = .ok (.ifCond .ne 8, 3) := by decide +kernel
theorem dX10_doers_89 : decode cX10_doers 89 = .ok (.aload_n 0, 1) := by decide +kernel
theorem dX10_doers_90 : decode cX10_doers 90 = .ok (.getfield 181, 3) := by decide +kernel
theorem dX10_doers_93 : decode cX10_doers 93 = .ok (.ireturn, 1) := by decide +kernel
theorem dX10_doers_94 : decode cX10_doers 94 = .ok (.iconst 0, 1) := by decide +kernel
theorem dX10_doers_95 : decode cX10_doers 95 = .ok (.istore_n 3, 1) := by decide +kernel
theorem dX10_doers_96 : decode cX10_doers 96 = .ok (.iload_n 3, 1) := by decide +kernel
theorem dX10_doers_97 : decode cX10_doers 97 = .ok (.aload_n 0, 1) := by decide +kernel
theorem dX10_doers_98 : decode cX10_doers 98 = .ok (.getfield 276, 3) := by decide +kernel
theorem dX10_doers_101 : decode cX10_doers 101 = .ok (.if_icmp .ge 75, 3) := by decide +kernel
theorem dX10_doers_104 : decode cX10_doers 104 = .ok (.aload_n 0, 1) := by decide +kernel
theorem dX10_doers_105 : decode cX10_doers 105 = .ok (.getfield 37, 3) := by decide +kernel
theorem dX10_doers_108 : decode cX10_doers 108 = .ok (.aload_n 0, 1) := by decide +kernel
theorem dX10_doers_109 : decode cX10_doers 109 = .ok (.getfield 86, 3) := by decide +kernel
theorem dX10_doers_112 : decode cX10_doers 112 = .ok (.iload_n 3, 1) := by decide +kernel
theorem dX10_doers_113 : decode cX10_doers 113 = .ok (.iaload, 1) := by decide +kernel
theorem dX10_doers_114 : decode cX10_doers 114 = .ok (.aload_n 0, 1) := by decide +kernel
theorem dX10_doers_115 : decode cX10_doers 115 = .ok (.getfield 89, 3) := by decide +kernel
theorem dX10_doers_118 : decode cX10_doers 118 = .ok (.iload_n 3, 1) := by decide +kernel
theorem dX10_doers_119 : decode cX10_doers 119 = .ok (.iaload, 1) := by decide +kernel
theorem dX10_doers_120 : decode cX10_doers 120 = .ok (.iastore, 1) := by decide +kernel
theorem dX10_doers_121 : decode cX10_doers 121 = .ok (.iconst 0, 1) := by decide +kernel
theorem dX10_doers_122 : decode cX10_doers 122 = .ok (.istore 4, 2) := by decide +kernel
theorem dX10_doers_124 : decode cX10_doers 124 = .ok (.iload 4, 2) := by decide +kernel
theorem dX10_doers_126 : decode cX10_doers 126 = .ok (.aload_n 0, 1) := by decide +kernel
theorem dX10_doers_127 : decode cX10_doers 127 = .ok (.getfield 89, 3) := by decide +kernel
theorem dX10_doers_130 : decode cX10_doers 130 = .ok (.iload_n 3, 1) := by decide +kernel
theorem dX10_doers_131 : decode cX10_doers 131 = .ok (.iaload, 1) := by decide +kernel
theorem dX10_doers_132 : decode cX10_doers 132 = .ok (.if_icmp .ge 38, 3) := by decide +kernel
theorem dX10_doers_135 : decode cX10_doers 135 = .ok (.aload_n 0, 1) := by decide +kernel
theorem dX10_doers_136 : decode cX10_doers 136 = .ok (.getfield 40, 3) := by decide +kernel
theorem dX10_doers_139 : decode cX10_doers 139 = .ok (.bipush 10, 2) := by decide +kernel
theorem dX10_doers_141 : decode cX10_doers 141 = .ok (.aload_n 0, 1) := by decide +kernel
theorem dX10_doers_142 : decode cX10_doers 142 = .ok (.getfield 86, 3) := by decide +kernel
theorem dX10_doers_145 : decode cX10_doers 145 = .ok (.iload_n 3, 1) := by decide +kernel
theorem dX10_doers_146 : decode cX10_doers 146 = .ok (.iaload, 1) := by decide +kernel
theorem dX10_doers_147 : decode cX10_doers 147 = .ok (.imul, 1) := by decide +kernel
theorem dX10_doers_148 : decode cX10_doers 148 = .ok (.iload 4, 2) := by decide +kernel
theorem dX10_doers_150 : decode cX10_doers 150 = .ok (.iadd, 1) := by decide +kernel
theorem dX10_doers_151 : decode cX10_doers 151 = .ok (.aload_n 0, 1) := by decide +kernel
theorem dX10_doers_152 : decode cX10_doers 152 = .ok (.getfield 92, 3) := by decide +kernel
theorem dX10_doers_155 : decode cX10_doers 155 = .ok (.bipush 10, 2) := by decide +kernel
theorem dX10_doers_157 : decode cX10_doers 157 = .ok (.iload_n 3, 1) := by decide +kernel
theorem dX10_doers_158 : decode cX10_doers 158 = .ok (.imul, 1) := by decide +kernel
theorem dX10_doers_159 : decode cX10_doers 159 = .ok (.iload 4, 2) := by decide +kernel
theorem dX10_doers_161 : decode cX10_doers 161 = .ok (.iadd, 1) := by decide +kernel
theorem dX10_doers_162 : decode cX10_doers 162 = .ok (.iaload, 1) := by decide +kernel
theorem dX10_doers_163 : decode cX10_doers 163 = .ok (.iastore, 1) := by decide +kernel
theorem dX10_doers_164 : decode cX10_doers 164 = .ok (.iinc 4 1, 3) := by decide +kernel
theorem dX10_doers_167 : decode cX10_doers 167 = .ok (.goto (-43), 3) := by decide +kernel
theorem dX10_doers_170 : decode cX10_doers 170 = .ok (.iinc 3 1, 3) := by decide +kernel
theorem dX10_doers_173 : decode cX10_doers 173 = .ok (.goto (-77), 3) := by decide +kernel
theorem dX10_doers_176 : decode cX10_doers 176 = .ok (.aload_n 0, 1) := by decide +kernel
theorem dX10_doers_177 : decode cX10_doers 177 = .ok (.getfield 276, 3) := by decide +kernel
theorem dX10_doers_180 : decode cX10_doers 180 = .ok (.ireturn, 1) := by decide +kernel
theorem dX10_readsDoers_0 : decode cX10_readsDoers 0 = .ok (.iconst 0, 1) := by decide +kernel
theorem dX10_readsDoers_1 : decode cX10_readsDoers 1 = .ok (.istore_n 1, 1) := by decide +kernel
theorem dX10_readsDoers_2 : decode cX10_readsDoers 2 = .ok (.iconst 0, 1) := by decide +kernel
theorem dX10_readsDoers_3 : decode cX10_readsDoers 3 = .ok (.istore_n 2, 1) := by decide +kernel
theorem dX10_readsDoers_4 : decode cX10_readsDoers 4 = .ok (.aload_n 0, 1) := by decide +kernel
theorem dX10_readsDoers_5 : decode cX10_readsDoers 5 = .ok (.invokevirtual 177, 3) := by decide +kernel
theorem dX10_readsDoers_8 : decode cX10_readsDoers 8 = .ok (.bipush 97, 2) := by decide +kernel
theorem dX10_readsDoers_10 : decode cX10_readsDoers 10 = .ok (.bipush 106, 2) := by decide +kernel
theorem dX10_readsDoers_12 : decode cX10_readsDoers 12 = .ok (.invokestatic 157, 3) := by decide +kernel
theorem dX10_readsDoers_15 : decode cX10_readsDoers 15 = .ok (.ifCond .eq 68, 3) := by decide +kernel
theorem dX10_readsDoers_18 : decode cX10_readsDoers 18 = .ok (.aload_n 0, 1) := by decide +kernel
theorem dX10_readsDoers_19 : decode cX10_readsDoers 19 = .ok (.invokevirtual 177, 3) := by decide +kernel
theorem dX10_readsDoers_22 : decode cX10_readsDoers 22 = .ok (.bipush 97, 2) := by decide +kernel
theorem dX10_readsDoers_24 : decode cX10_readsDoers 24 = .ok (.isub, 1) := by decide +kernel
theorem dX10_readsDoers_25 : decode cX10_readsDoers 25 = .ok (.istore_n 3, 1) := by decide +kernel
theorem dX10_readsDoers_26 : decode cX10_readsDoers 26 = .ok (.iload_n 2, 1) := by decide +kernel
theorem dX10_readsDoers_27 : decode cX10_readsDoers 27 = .ok (.iload_n 3, 1) := by decide +kernel
theorem dX10_readsDoers_28 : decode cX10_readsDoers 28 = .ok (.invokestatic 150, 3) := by decide +kernel
theorem dX10_readsDoers_31 : decode cX10_readsDoers 31 = .ok (.ifCond .eq 14, 3) := by decide +kernel
theorem dX10_readsDoers_34 : decode cX10_readsDoers 34 = .ok (.aload_n 0, 1) := by decide +kernel
theorem dX10_readsDoers_35 : decode cX10_readsDoers 35 = .ok (.bipush 6, 2) := by decide +kernel
theorem dX10_readsDoers_37 : decode cX10_readsDoers 37 = .ok (.aload_n 0, 1) := by decide +kernel
theorem dX10_readsDoers_38 : decode cX10_readsDoers 38 = .ok (.getfield 171, 3) := by decide +kernel
theorem dX10_readsDoers_41 : decode cX10_readsDoers 41 = .ok (.invokevirtual 184, 3) := by decide +kernel
theorem dX10_readsDoers_44 : decode cX10_readsDoers 44 = .ok (.ireturn, 1) := by decide +kernel
theorem dX10_readsDoers_45 : decode cX10_readsDoers 45 = .ok (.iload_n 2, 1) := by decide +kernel
theorem dX10_readsDoers_46 : decode cX10_readsDoers 46 = .ok (.iconst 1, 1) := by decide +kernel
theorem dX10_readsDoers_47 : decode cX10_readsDoers 47 = .ok (.iload_n 3, 1) := by decide +kernel
theorem dX10_readsDoers_48 : decode cX10_readsDoers 48 = .ok (.ishl, 1) := by decide +kernel
theorem dX10_readsDoers_49 : decode cX10_readsDoers 49 = .ok (.ior, 1) := by decide +kernel
theorem dX10_readsDoers_50 : decode cX10_readsDoers 50 = .ok (.istore_n 2, 1) := by decide +kernel
theorem dX10_readsDoers_51 : decode cX10_readsDoers 51 = .ok (.aload_n 0, 1) := by decide +kernel
theorem dX10_readsDoers_52 : decode cX10_readsDoers 52 = .ok (.getfield 92, 3) := by decide +kernel
theorem dX10_readsDoers_55 : decode cX10_readsDoers 55 = .ok (.bipush 10, 2) := by decide +kernel
theorem dX10_readsDoers_57 : decode cX10_readsDoers 57 = .ok (.aload_n 0, 1) := by decide +kernel
theorem dX10_readsDoers_58 : decode cX10_readsDoers 58 = .ok (.getfield 276, 3) := by decide +kernel
theorem dX10_readsDoers_61 : decode cX10_readsDoers 61 = .ok (.imul, 1) := by decide +kernel
theorem dX10_readsDoers_62 : decode cX10_readsDoers 62 = .ok (.iload_n 1, 1) := by decide +kernel
theorem dX10_readsDoers_63 : decode cX10_readsDoers 63 = .ok (.iadd, 1) := by decide +kernel
theorem dX10_readsDoers_64 : decode cX10_readsDoers 64 = .ok (.iload_n 3, 1) := by decide +kernel
theorem dX10_readsDoers_65 : decode cX10_readsDoers 65 = .ok (.iastore, 1) := by decide +kernel
theorem dX10_readsDoers_66 : decode cX10_readsDoers 66 = .ok (.iload_n 1, 1) := by decide +kernel
theorem dX10_readsDoers_67 : decode cX10_readsDoers 67 = .ok (.iconst 1, 1) := by decide +kernel
theorem dX10_readsDoers_68 : decode cX10_readsDoers 68 = .ok (.iadd, 1) := by decide +kernel
theorem dX10_readsDoers_69 : decode cX10_readsDoers 69 = .ok (.istore_n 1, 1) := by decide +kernel
theorem dX10_readsDoers_70 : decode cX10_readsDoers 70 = .ok (.aload_n 0, 1) := by decide +kernel
theorem dX10_readsDoers_71 : decode cX10_readsDoers 71 = .ok (.aload_n 0, 1) := by decide +kernel
theorem dX10_readsDoers_72 : decode cX10_readsDoers 72 = .ok (.getfield 171, 3) := by decide +kernel
theorem dX10_readsDoers_75 : decode cX10_readsDoers 75 = .ok (.iconst 1, 1) := by decide +kernel
theorem dX10_readsDoers_76 : decode cX10_readsDoers 76 = .ok (.iadd, 1) := by decide +kernel
theorem dX10_readsDoers_77 : decode cX10_readsDoers 77 = .ok (.putfield 171, 3) := by decide +kernel
theorem dX10_readsDoers_80 : decode cX10_readsDoers 80 = .ok (.goto (-76), 3) := by decide +kernel
theorem dX10_readsDoers_83 : decode cX10_readsDoers 83 = .ok (.aload_n 0, 1) := by decide +kernel
theorem dX10_readsDoers_84 : decode cX10_readsDoers 84 = .ok (.getfield 89, 3) := by decide +kernel
theorem dX10_readsDoers_87 : decode cX10_readsDoers 87 = .ok (.aload_n 0, 1) := by decide +kernel
theorem dX10_readsDoers_88 : decode cX10_readsDoers 88 = .ok (.getfield 276, 3) := by decide +kernel
theorem dX10_readsDoers_91 : decode cX10_readsDoers 91 = .ok (.iload_n 1, 1) := by decide +kernel
theorem dX10_readsDoers_92 : decode cX10_readsDoers 92 = .ok (.iastore, 1) := by decide +kernel
theorem dX10_readsDoers_93 : decode cX10_readsDoers 93 = .ok (.iload_n 1, 1) := by decide +kernel
theorem dX10_readsDoers_94 : decode cX10_readsDoers 94 = .ok (.ifCond .gt 15, 3) := by decide +kernel
theorem dX10_readsDoers_97 : decode cX10_readsDoers 97 = .ok (.aload_n 0, 1) := by decide +kernel
theorem dX10_readsDoers_98 : decode cX10_readsDoers 98 = .ok (.iconst 1, 1) := by decide +kernel
theorem dX10_readsDoers_99 : decode cX10_readsDoers 99 = .ok (.aload_n 0, 1) := by decide +kernel
theorem dX10_readsDoers_100 : decode cX10_readsDoers 100 = .ok (.getfield 171, 3) := by decide +kernel
theorem dX10_readsDoers_103 : decode cX10_readsDoers 103 = .ok (.invokevirtual 184, 3) := by decide +kernel
theorem dX10_readsDoers_106 : decode cX10_readsDoers 106 = .ok (.ifCond .eq 7, 3) := by decide +kernel
theorem dX10_readsDoers_109 : decode cX10_readsDoers 109 = .ok (.iconst 1, 1) := by decide +kernel
theorem dX10_readsDoers_110 : decode cX10_readsDoers 110 = .ok (.goto 4, 3) := by decide +kernel
theorem dX10_readsDoers_113 : decode cX10_readsDoers 113 = .ok (.iconst 0, 1) := by decide +kernel
theorem dX10_readsDoers_114 : decode cX10_readsDoers 114 = .ok (.ireturn, 1) := by decide +kernel
theorem dX10_readsLine_0 : decode cX10_readsLine 0 = .ok (.aload_n 0, 1) := by decide +kernel
theorem dX10_readsLine_1 : decode cX10_readsLine 1 = .ok (.getfield 171, 3) := by decide +kernel
theorem dX10_readsLine_4 : decode cX10_readsLine 4 = .ok (.istore_n 1, 1) := by decide +kernel
theorem dX10_readsLine_5 : decode cX10_readsLine 5 = .ok (.aload_n 0, 1) := by decide +kernel
theorem dX10_readsLine_6 : decode cX10_readsLine 6 = .ok (.invokevirtual 190, 3) := by decide +kernel
theorem dX10_readsLine_9 : decode cX10_readsLine 9 = .ok (.ifCond .ne 13, 3) := by decide +kernel
theorem dX10_readsLine_12 : decode cX10_readsLine 12 = .ok (.aload_n 0, 1) := by decide +kernel
theorem dX10_readsLine_13 : decode cX10_readsLine 13 = .ok (.iconst 1, 1) := by decide +kernel
theorem dX10_readsLine_14 : decode cX10_readsLine 14 = .ok (.aload_n 0, 1) := by decide +kernel
theorem dX10_readsLine_15 : decode cX10_readsLine 15 = .ok (.getfield 171, 3) := by decide +kernel
theorem dX10_readsLine_18 : decode cX10_readsLine 18 = .ok (.invokevirtual 184, 3) := by decide +kernel
theorem dX10_readsLine_21 : decode cX10_readsLine 21 = .ok (.ireturn, 1) := by decide +kernel
theorem dX10_readsLine_22 : decode cX10_readsLine 22 = .ok (.aload_n 0, 1) := by decide +kernel
theorem dX10_readsLine_23 : decode cX10_readsLine 23 = .ok (.getfield 276, 3) := by decide +kernel
theorem dX10_readsLine_26 : decode cX10_readsLine 26 = .ok (.bipush 12, 2) := by decide +kernel
theorem dX10_readsLine_28 : decode cX10_readsLine 28 = .ok (.if_icmp .ne 13, 3) := by decide +kernel
theorem dX10_readsLine_31 : decode cX10_readsLine 31 = .ok (.aload_n 0, 1) := by decide +kernel
theorem dX10_readsLine_32 : decode cX10_readsLine 32 = .ok (.iconst 4, 1) := by decide +kernel
theorem dX10_readsLine_33 : decode cX10_readsLine 33 = .ok (.aload_n 0, 1) := by decide +kernel
theorem dX10_readsLine_34 : decode cX10_readsLine 34 = .ok (.getfield 171, 3) := by decide +kernel
theorem dX10_readsLine_37 : decode cX10_readsLine 37 = .ok (.invokevirtual 184, 3) := by decide +kernel
theorem dX10_readsLine_40 : decode cX10_readsLine 40 = .ok (.ireturn, 1) := by decide +kernel
theorem dX10_readsLine_41 : decode cX10_readsLine 41 = .ok (.aload_n 0, 1) := by decide +kernel
theorem dX10_readsLine_42 : decode cX10_readsLine 42 = .ok (.iconst 0, 1) := by decide +kernel
theorem dX10_readsLine_43 : decode cX10_readsLine 43 = .ok (.putfield 187, 3) := by decide +kernel
theorem dX10_readsLine_46 : decode cX10_readsLine 46 = .ok (.aload_n 0, 1) := by decide +kernel
theorem dX10_readsLine_47 : decode cX10_readsLine 47 = .ok (.invokevirtual 190, 3) := by decide +kernel
theorem dX10_readsLine_50 : decode cX10_readsLine 50 = .ok (.ifCond .eq 45, 3) := by decide +kernel
theorem dX10_readsLine_53 : decode cX10_readsLine 53 = .ok (.aload_n 0, 1) := by decide +kernel
theorem dX10_readsLine_54 : decode cX10_readsLine 54 = .ok (.getfield 171, 3) := by decide +kernel
theorem dX10_readsLine_57 : decode cX10_readsLine 57 = .ok (.iload_n 1, 1) := by decide +kernel
theorem dX10_readsLine_58 : decode cX10_readsLine 58 = .ok (.iconst 2, 1) := by decide +kernel
theorem dX10_readsLine_59 : decode cX10_readsLine 59 = .ok (.iadd, 1) := by decide +kernel
theorem dX10_readsLine_60 : decode cX10_readsLine 60 = .ok (.if_icmp .ge 35, 3) := by decide +kernel
theorem dX10_readsLine_63 : decode cX10_readsLine 63 = .ok (.aload_n 0, 1) := by decide +kernel
theorem dX10_readsLine_64 : decode cX10_readsLine 64 = .ok (.bipush 10, 2) := by decide +kernel
theorem dX10_readsLine_66 : decode cX10_readsLine 66 = .ok (.aload_n 0, 1) := by decide +kernel
theorem dX10_readsLine_67 : decode cX10_readsLine 67 = .ok (.getfield 187, 3) := by decide +kernel
theorem dX10_readsLine_70 : decode cX10_readsLine 70 = .ok (.imul, 1) := by decide +kernel
theorem dX10_readsLine_71 : decode cX10_readsLine 71 = .ok (.aload_n 0, 1) := by decide +kernel
theorem dX10_readsLine_72 : decode cX10_readsLine 72 = .ok (.invokevirtual 177, 3) := by decide +kernel
theorem dX10_readsLine_75 : decode cX10_readsLine 75 = .ok (.iadd, 1) := by decide +kernel
theorem dX10_readsLine_76 : decode cX10_readsLine 76 = .ok (.bipush 48, 2) := by decide +kernel
theorem dX10_readsLine_78 : decode cX10_readsLine 78 = .ok (.isub, 1) := by decide +kernel
theorem dX10_readsLine_79 : decode cX10_readsLine 79 = .ok (.putfield 187, 3) := by decide +kernel
theorem dX10_readsLine_82 : decode cX10_readsLine 82 = .ok (.aload_n 0, 1) := by decide +kernel
theorem dX10_readsLine_83 : decode cX10_readsLine 83 = .ok (.aload_n 0, 1) := by decide +kernel
theorem dX10_readsLine_84 : decode cX10_readsLine 84 = .ok (.getfield 171, 3) := by decide +kernel
theorem dX10_readsLine_87 : decode cX10_readsLine 87 = .ok (.iconst 1, 1) := by decide +kernel
theorem dX10_readsLine_88 : decode cX10_readsLine 88 = .ok (.iadd, 1) := by decide +kernel
theorem dX10_readsLine_89 : decode cX10_readsLine 89 = .ok (.putfield 171, 3) := by decide +kernel
theorem dX10_readsLine_92 : decode cX10_readsLine 92 = .ok (.goto (-46), 3) := by decide +kernel
theorem dX10_readsLine_95 : decode cX10_readsLine 95 = .ok (.aload_n 0, 1) := by decide +kernel
theorem dX10_readsLine_96 : decode cX10_readsLine 96 = .ok (.getfield 187, 3) := by decide +kernel
theorem dX10_readsLine_99 : decode cX10_readsLine 99 = .ok (.bipush 12, 2) := by decide +kernel
theorem dX10_readsLine_101 : decode cX10_readsLine 101 = .ok (.if_icmp .lt 10, 3) := by decide +kernel
theorem dX10_readsLine_104 : decode cX10_readsLine 104 = .ok (.aload_n 0, 1) := by decide +kernel
theorem dX10_readsLine_105 : decode cX10_readsLine 105 = .ok (.iconst 3, 1) := by decide +kernel
theorem dX10_readsLine_106 : decode cX10_readsLine 106 = .ok (.iload_n 1, 1) := by decide +kernel
theorem dX10_readsLine_107 : decode cX10_readsLine 107 = .ok (.invokevirtual 184, 3) := by decide +kernel
theorem dX10_readsLine_110 : decode cX10_readsLine 110 = .ok (.ireturn, 1) := by decide +kernel
theorem dX10_readsLine_111 : decode cX10_readsLine 111 = .ok (.aload_n 0, 1) := by decide +kernel
theorem dX10_readsLine_112 : decode cX10_readsLine 112 = .ok (.getfield 86, 3) := by decide +kernel
theorem dX10_readsLine_115 : decode cX10_readsLine 115 = .ok (.aload_n 0, 1) := by decide +kernel
theorem dX10_readsLine_116 : decode cX10_readsLine 116 = .ok (.getfield 276, 3) := by decide +kernel
theorem dX10_readsLine_119 : decode cX10_readsLine 119 = .ok (.aload_n 0, 1) := by decide +kernel
theorem dX10_readsLine_120 : decode cX10_readsLine 120 = .ok (.getfield 187, 3) := by decide +kernel
theorem dX10_readsLine_123 : decode cX10_readsLine 123 = .ok (.iastore, 1) := by decide +kernel
theorem dX10_readsLine_124 : decode cX10_readsLine 124 = .ok (.aload_n 0, 1) := by decide +kernel
theorem dX10_readsLine_125 : decode cX10_readsLine 125 = .ok (.bipush 58, 2) := by decide +kernel
theorem dX10_readsLine_127 : decode cX10_readsLine 127 = .ok (.invokevirtual 262, 3) := by decide +kernel
theorem dX10_readsLine_130 : decode cX10_readsLine 130 = .ok (.ifCond .eq 10, 3) := by decide +kernel
theorem dX10_readsLine_133 : decode cX10_readsLine 133 = .ok (.aload_n 0, 1) := by decide +kernel
theorem dX10_readsLine_134 : decode cX10_readsLine 134 = .ok (.invokevirtual 279, 3) := by decide +kernel
theorem dX10_readsLine_137 : decode cX10_readsLine 137 = .ok (.ifCond .ne 5, 3) := by decide +kernel
theorem dX10_readsLine_140 : decode cX10_readsLine 140 = .ok (.iconst 0, 1) := by decide +kernel
theorem dX10_readsLine_141 : decode cX10_readsLine 141 = .ok (.ireturn, 1) := by decide +kernel
theorem dX10_readsLine_142 : decode cX10_readsLine 142 = .ok (.aload_n 0, 1) := by decide +kernel
theorem dX10_readsLine_143 : decode cX10_readsLine 143 = .ok (.aload_n 0, 1) := by decide +kernel
theorem dX10_readsLine_144 : decode cX10_readsLine 144 = .ok (.getfield 276, 3) := by decide +kernel
theorem dX10_readsLine_147 : decode cX10_readsLine 147 = .ok (.iconst 1, 1) := by decide +kernel
theorem dX10_readsLine_148 : decode cX10_readsLine 148 = .ok (.iadd, 1) := by decide +kernel
theorem dX10_readsLine_149 : decode cX10_readsLine 149 = .ok (.putfield 276, 3) := by decide +kernel
theorem dX10_readsLine_152 : decode cX10_readsLine 152 = .ok (.iconst 1, 1) := by decide +kernel
theorem dX10_readsLine_153 : decode cX10_readsLine 153 = .ok (.ireturn, 1) := by decide +kernel
