theorem dX10_here_0 : decode cX10_here 0 = .ok (.aload_n 0, 1) := by decide +kernel
theorem dX10_here_1 : decode cX10_here 1 = .ok (.getfield 171, 3) := by decide +kernel
theorem dX10_here_4 : decode cX10_here 4 = .ok (.aload_n 0, 1) := by decide +kernel
theorem dX10_here_5 : decode cX10_here 5 = .ok (.getfield 174, 3) := by decide +kernel
theorem dX10_here_8 : decode cX10_here 8 = .ok (.if_icmp .ge 19, 3) := by decide +kernel
theorem dX10_here_11 : decode cX10_here 11 = .ok (.aload_n 0, 1) := by decide +kernel
theorem dX10_here_12 : decode cX10_here 12 = .ok (.getfield 43, 3) := by decide +kernel
theorem dX10_here_15 : decode cX10_here 15 = .ok (.aload_n 0, 1) := by decide +kernel
theorem dX10_here_16 : decode cX10_here 16 = .ok (.getfield 171, 3) := by decide +kernel
theorem dX10_here_19 : decode cX10_here 19 = .ok (.baload, 1) := by decide +kernel
theorem dX10_here_20 : decode cX10_here 20 = .ok (.sipush 255, 3) := by decide +kernel
theorem dX10_here_23 : decode cX10_here 23 = .ok (.iand, 1) := by decide +kernel
theorem dX10_here_24 : decode cX10_here 24 = .ok (.goto 4, 3) := by decide +kernel
theorem dX10_here_27 : decode cX10_here 27 = .ok (.iconst (-1), 1) := by decide +kernel
theorem dX10_here_28 : decode cX10_here 28 = .ok (.ireturn, 1) := by decide +kernel
theorem dX10_isDigit_0 : decode cX10_isDigit 0 = .ok (.aload_n 0, 1) := by decide +kernel
theorem dX10_isDigit_1 : decode cX10_isDigit 1 = .ok (.invokevirtual 177, 3) := by decide +kernel
theorem dX10_isDigit_4 : decode cX10_isDigit 4 = .ok (.bipush 48, 2) := by decide +kernel
theorem dX10_isDigit_6 : decode cX10_isDigit 6 = .ok (.if_icmp .lt 16, 3) := by decide +kernel
theorem dX10_isDigit_9 : decode cX10_isDigit 9 = .ok (.aload_n 0, 1) := by decide +kernel
theorem dX10_isDigit_10 : decode cX10_isDigit 10 = .ok (.invokevirtual 177, 3) := by decide +kernel
theorem dX10_isDigit_13 : decode cX10_isDigit 13 = .ok (.bipush 57, 2) := by decide +kernel
theorem dX10_isDigit_15 : decode cX10_isDigit 15 = .ok (.if_icmp .gt 7, 3) := by decide +kernel
theorem dX10_isDigit_18 : decode cX10_isDigit 18 = .ok (.iconst 1, 1) := by decide +kernel
theorem dX10_isDigit_19 : decode cX10_isDigit 19 = .ok (.goto 4, 3) := by decide +kernel
theorem dX10_isDigit_22 : decode cX10_isDigit 22 = .ok (.iconst 0, 1) := by decide +kernel
theorem dX10_isDigit_23 : decode cX10_isDigit 23 = .ok (.ireturn, 1) := by decide +kernel
theorem dX10_leaves_0 : decode cX10_leaves 0 = .ok (.iload_n 1, 1) := by decide +kernel
theorem dX10_leaves_1 : decode cX10_leaves 1 = .ok (.iconst 1, 1) := by decide +kernel
theorem dX10_leaves_2 : decode cX10_leaves 2 = .ok (.bipush 120, 2) := by decide +kernel
theorem dX10_leaves_4 : decode cX10_leaves 4 = .ok (.invokestatic 157, 3) := by decide +kernel
theorem dX10_leaves_7 : decode cX10_leaves 7 = .ok (.ifCond .eq 11, 3) := by decide +kernel
theorem dX10_leaves_10 : decode cX10_leaves 10 = .ok (.iload_n 1, 1) := by decide +kernel
theorem dX10_leaves_11 : decode cX10_leaves 11 = .ok (.aload_n 0, 1) := by decide +kernel
theorem dX10_leaves_12 : decode cX10_leaves 12 = .ok (.getfield 164, 3) := by decide +kernel
theorem dX10_leaves_15 : decode cX10_leaves 15 = .ok (.if_icmp .le 5, 3) := by decide +kernel
theorem dX10_leaves_18 : decode cX10_leaves 18 = .ok (.iconst (-1), 1) := by decide +kernel
theorem dX10_leaves_19 : decode cX10_leaves 19 = .ok (.ireturn, 1) := by decide +kernel
theorem dX10_leaves_20 : decode cX10_leaves 20 = .ok (.aload_n 0, 1) := by decide +kernel
theorem dX10_leaves_21 : decode cX10_leaves 21 = .ok (.iconst 0, 1) := by decide +kernel
theorem dX10_leaves_22 : decode cX10_leaves 22 = .ok (.putfield 171, 3) := by decide +kernel
theorem dX10_leaves_25 : decode cX10_leaves 25 = .ok (.aload_n 0, 1) := by decide +kernel
theorem dX10_leaves_26 : decode cX10_leaves 26 = .ok (.iload_n 1, 1) := by decide +kernel
theorem dX10_leaves_27 : decode cX10_leaves 27 = .ok (.putfield 174, 3) := by decide +kernel
theorem dX10_leaves_30 : decode cX10_leaves 30 = .ok (.aload_n 0, 1) := by decide +kernel
theorem dX10_leaves_31 : decode cX10_leaves 31 = .ok (.iconst 0, 1) := by decide +kernel
theorem dX10_leaves_32 : decode cX10_leaves 32 = .ok (.putfield 276, 3) := by decide +kernel
theorem dX10_leaves_35 : decode cX10_leaves 35 = .ok (.iconst 0, 1) := by decide +kernel
theorem dX10_leaves_36 : decode cX10_leaves 36 = .ok (.istore_n 2, 1) := by decide +kernel
theorem dX10_leaves_37 : decode cX10_leaves 37 = .ok (.iload_n 2, 1) := by decide +kernel
theorem dX10_leaves_38 : decode cX10_leaves 38 = .ok (.bipush 10, 2) := by decide +kernel
theorem dX10_leaves_40 : decode cX10_leaves 40 = .ok (.if_icmp .ge 17, 3) := by decide +kernel
theorem dX10_leaves_43 : decode cX10_leaves 43 = .ok (.aload_n 0, 1) := by decide +kernel
theorem dX10_leaves_44 : decode cX10_leaves 44 = .ok (.getfield 95, 3) := by decide +kernel
theorem dX10_leaves_47 : decode cX10_leaves 47 = .ok (.iload_n 2, 1) := by decide +kernel
theorem dX10_leaves_48 : decode cX10_leaves 48 = .ok (.bipush (-2), 2) := by decide +kernel
theorem dX10_leaves_50 : decode cX10_leaves 50 = .ok (.iastore, 1) := by decide +kernel
theorem dX10_leaves_51 : decode cX10_leaves 51 = .ok (.iinc 2 1, 3) := by decide +kernel
theorem dX10_leaves_54 : decode cX10_leaves 54 = .ok (.goto (-17), 3) := by decide +kernel
theorem dX10_leaves_57 : decode cX10_leaves 57 = .ok (.aload_n 0, 1) := by decide +kernel
theorem dX10_leaves_58 : decode cX10_leaves 58 = .ok (.invokevirtual 288, 3) := by decide +kernel
theorem dX10_leaves_61 : decode cX10_leaves 61 = .ok (.istore_n 2, 1) := by decide +kernel
theorem dX10_leaves_62 : decode cX10_leaves 62 = .ok (.iload_n 2, 1) := by decide +kernel
theorem dX10_leaves_63 : decode cX10_leaves 63 = .ok (.ifCond .eq 39, 3) := by decide +kernel
theorem dX10_leaves_66 : decode cX10_leaves 66 = .ok (.aload_n 0, 1) := by decide +kernel
theorem dX10_leaves_67 : decode cX10_leaves 67 = .ok (.getfield 171, 3) := by decide +kernel
theorem dX10_leaves_70 : decode cX10_leaves 70 = .ok (.aload_n 0, 1) := by decide +kernel
theorem dX10_leaves_71 : decode cX10_leaves 71 = .ok (.getfield 174, 3) := by decide +kernel
theorem dX10_leaves_74 : decode cX10_leaves 74 = .ok (.if_icmp .ge 28, 3) := by decide +kernel
theorem dX10_leaves_77 : decode cX10_leaves 77 = .ok (.aload_n 0, 1) := by decide +kernel
theorem dX10_leaves_78 : decode cX10_leaves 78 = .ok (.bipush 44, 2) := by decide +kernel
theorem dX10_leaves_80 : decode cX10_leaves 80 = .ok (.invokevirtual 262, 3) := by decide +kernel
theorem dX10_leaves_83 : decode cX10_leaves 83 = .ok (.ifCond .eq 14, 3) := by decide +kernel
theorem dX10_leaves_86 : decode cX10_leaves 86 = .ok (.aload_n 0, 1) := by decide +kernel
theorem dX10_leaves_87 : decode cX10_leaves 87 = .ok (.invokevirtual 288, 3) := by decide +kernel
theorem dX10_leaves_90 : decode cX10_leaves 90 = .ok (.ifCond .eq 7, 3) := by decide +kernel
theorem dX10_leaves_93 : decode cX10_leaves 93 = .ok (.iconst 1, 1) := by decide +kernel
theorem dX10_leaves_94 : decode cX10_leaves 94 = .ok (.goto 4, 3) := by decide +kernel
theorem dX10_leaves_97 : decode cX10_leaves 97 = .ok (.iconst 0, 1) := by decide +kernel
theorem dX10_leaves_98 : decode cX10_leaves 98 = .ok (.istore_n 2, 1) := by decide +kernel
theorem dX10_leaves_99 : decode cX10_leaves 99 = .ok (.goto (-37), 3) := by decide +kernel
theorem dX10_leaves_102 : decode cX10_leaves 102 = .ok (.aload_n 0, 1) := by decide +kernel
theorem dX10_leaves_103 : decode cX10_leaves 103 = .ok (.iconst 0, 1) := by decide +kernel
theorem dX10_leaves_104 : decode cX10_leaves 104 = .ok (.putfield 164, 3) := by decide +kernel
theorem dX10_leaves_107 : decode cX10_leaves 107 = .ok (.iload_n 2, 1) := by decide +kernel
theorem dX10_leaves_108 : decode cX10_leaves 108 = .ok (.ifCond .ne 8, 3) := by decide +kernel
theorem dX10_leaves_111 : decode cX10_leaves 111 = .ok (.aload_n 0, 1) := by decide +kernel
theorem dX10_leaves_112 : decode cX10_leaves 112 = .ok (.getfield 181, 3) := by decide +kernel
theorem dX10_leaves_115 : decode cX10_leaves 115 = .ok (.ireturn, 1) := by decide +kernel
theorem dX10_leaves_116 : decode cX10_leaves 116 = .ok (.iconst 0, 1) := by decide +kernel
theorem dX10_leaves_117 : decode cX10_leaves 117 = .ok (.istore_n 3, 1) := by decide +kernel
theorem dX10_leaves_118 : decode cX10_leaves 118 = .ok (.iload_n 3, 1) := by decide +kernel
theorem dX10_leaves_119 : decode cX10_leaves 119 = .ok (.bipush 10, 2) := by decide +kernel
theorem dX10_leaves_121 : decode cX10_leaves 121 = .ok (.if_icmp .ge 33, 3) := by decide +kernel
theorem dX10_leaves_124 : decode cX10_leaves 124 = .ok (.aload_n 0, 1) := by decide +kernel
theorem dX10_leaves_125 : decode cX10_leaves 125 = .ok (.getfield 28, 3) := by decide +kernel
theorem dX10_leaves_128 : decode cX10_leaves 128 = .ok (.iload_n 3, 1) := by decide +kernel
theorem dX10_leaves_129 : decode cX10_leaves 129 = .ok (.aload_n 0, 1) := by decide +kernel
theorem dX10_leaves_130 : decode cX10_leaves 130 = .ok (.getfield 95, 3) := by decide +kernel
theorem dX10_leaves_133 : decode cX10_leaves 133 = .ok (.iload_n 3, 1) := by decide +kernel
theorem dX10_leaves_134 : decode cX10_leaves 134 = .ok (.iaload, 1) := by decide +kernel
theorem dX10_leaves_135 : decode cX10_leaves 135 = .ok (.iastore, 1) := by decide +kernel
theorem dX10_leaves_136 : decode cX10_leaves 136 = .ok (.aload_n 0, 1) := by decide +kernel
theorem dX10_leaves_137 : decode cX10_leaves 137 = .ok (.getfield 31, 3) := by decide +kernel
theorem dX10_leaves_140 : decode cX10_leaves 140 = .ok (.iload_n 3, 1) := by decide +kernel
theorem dX10_leaves_141 : decode cX10_leaves 141 = .ok (.aload_n 0, 1) := by decide +kernel
theorem dX10_leaves_142 : decode cX10_leaves 142 = .ok (.getfield 98, 3) := by decide +kernel
theorem dX10_leaves_145 : decode cX10_leaves 145 = .ok (.iload_n 3, 1) := by decide +kernel
theorem dX10_leaves_146 : decode cX10_leaves 146 = .ok (.iaload, 1) := by decide +kernel
theorem dX10_leaves_147 : decode cX10_leaves 147 = .ok (.iastore, 1) := by decide +kernel
theorem dX10_leaves_148 : decode cX10_leaves 148 = .ok (.iinc 3 1, 3) := by decide +kernel
theorem dX10_leaves_151 : decode cX10_leaves 151 = .ok (.goto (-33), 3) := by decide +kernel
theorem dX10_leaves_154 : decode cX10_leaves 154 = .ok (.aload_n 0, 1) := by decide +kernel
theorem dX10_leaves_155 : decode cX10_leaves 155 = .ok (.getfield 276, 3) := by decide +kernel
theorem dX10_leaves_158 : decode cX10_leaves 158 = .ok (.ireturn, 1) := by decide +kernel
theorem dX10_readsDay_0 : decode cX10_readsDay 0 = .ok (.aload_n 0, 1) := by decide +kernel
theorem dX10_readsDay_1 : decode cX10_readsDay 1 = .ok (.getfield 171, 3) := by decide +kernel
theorem dX10_readsDay_4 : decode cX10_readsDay 4 = .ok (.istore_n 1, 1) := by decide +kernel
theorem dX10_readsDay_5 : decode cX10_readsDay 5 = .ok (.aload_n 0, 1) := by decide +kernel
theorem dX10_readsDay_6 : decode cX10_readsDay 6 = .ok (.invokevirtual 190, 3) := by decide +kernel
theorem dX10_readsDay_9 : decode cX10_readsDay 9 = .ok (.ifCond .ne 13, 3) := by decide +kernel
theorem dX10_readsDay_12 : decode cX10_readsDay 12 = .ok (.aload_n 0, 1) := by decide +kernel
theorem dX10_readsDay_13 : decode cX10_readsDay 13 = .ok (.iconst 1, 1) := by decide +kernel
theorem dX10_readsDay_14 : decode cX10_readsDay 14 = .ok (.aload_n 0, 1) := by decide +kernel
theorem dX10_readsDay_15 : decode cX10_readsDay 15 = .ok (.getfield 171, 3) := by decide +kernel
theorem dX10_readsDay_18 : decode cX10_readsDay 18 = .ok (.invokevirtual 184, 3) := by decide +kernel
theorem dX10_readsDay_21 : decode cX10_readsDay 21 = .ok (.ireturn, 1) := by decide +kernel
theorem dX10_readsDay_22 : decode cX10_readsDay 22 = .ok (.aload_n 0, 1) := by decide +kernel
theorem dX10_readsDay_23 : decode cX10_readsDay 23 = .ok (.iconst 0, 1) := by decide +kernel
theorem dX10_readsDay_24 : decode cX10_readsDay 24 = .ok (.putfield 187, 3) := by decide +kernel
theorem dX10_readsDay_27 : decode cX10_readsDay 27 = .ok (.aload_n 0, 1) := by decide +kernel
theorem dX10_readsDay_28 : decode cX10_readsDay 28 = .ok (.invokevirtual 190, 3) := by decide +kernel
theorem dX10_readsDay_31 : decode cX10_readsDay 31 = .ok (.ifCond .eq 45, 3) := by decide +kernel
theorem dX10_readsDay_34 : decode cX10_readsDay 34 = .ok (.aload_n 0, 1) := by decide +kernel
theorem dX10_readsDay_35 : decode cX10_readsDay 35 = .ok (.getfield 171, 3) := by decide +kernel
theorem dX10_readsDay_38 : decode cX10_readsDay 38 = .ok (.iload_n 1, 1) := by decide +kernel
theorem dX10_readsDay_39 : decode cX10_readsDay 39 = .ok (.iconst 3, 1) := by decide +kernel
theorem dX10_readsDay_40 : decode cX10_readsDay 40 = .ok (.iadd, 1) := by decide +kernel
theorem dX10_readsDay_41 : decode cX10_readsDay 41 = .ok (.if_icmp .ge 35, 3) := by decide +kernel
theorem dX10_readsDay_44 : decode cX10_readsDay 44 = .ok (.aload_n 0, 1) := by decide +kernel
theorem dX10_readsDay_45 : decode cX10_readsDay 45 = .ok (.bipush 10, 2) := by decide +kernel
theorem dX10_readsDay_47 : decode cX10_readsDay 47 = .ok (.aload_n 0, 1) := by decide +kernel
theorem dX10_readsDay_48 : decode cX10_readsDay 48 = .ok (.getfield 187, 3) := by decide +kernel
theorem dX10_readsDay_51 : decode cX10_readsDay 51 = .ok (.imul, 1) := by decide +kernel
theorem dX10_readsDay_52 : decode cX10_readsDay 52 = .ok (.aload_n 0, 1) := by decide +kernel
theorem dX10_readsDay_53 : decode cX10_readsDay 53 = .ok (.invokevirtual 177, 3) := by decide +kernel
theorem dX10_readsDay_56 : decode cX10_readsDay 56 = .ok (.iadd, 1) := by decide +kernel
theorem dX10_readsDay_57 : decode cX10_readsDay 57 = .ok (.bipush 48, 2) := by decide +kernel
theorem dX10_readsDay_59 : decode cX10_readsDay 59 = .ok (.isub, 1) := by decide +kernel
theorem dX10_readsDay_60 : decode cX10_readsDay 60 = .ok (.putfield 187, 3) := by decide +kernel
theorem dX10_readsDay_63 : decode cX10_readsDay 63 = .ok (.aload_n 0, 1) := by decide +kernel
theorem dX10_readsDay_64 : decode cX10_readsDay 64 = .ok (.aload_n 0, 1) := by decide +kernel
theorem dX10_readsDay_65 : decode cX10_readsDay 65 = .ok (.getfield 171, 3) := by decide +kernel
theorem dX10_readsDay_68 : decode cX10_readsDay 68 = .ok (.iconst 1, 1) := by decide +kernel
theorem dX10_readsDay_69 : decode cX10_readsDay 69 = .ok (.iadd, 1) := by decide +kernel
theorem dX10_readsDay_70 : decode cX10_readsDay 70 = .ok (.putfield 171, 3) := by decide +kernel
theorem dX10_readsDay_73 : decode cX10_readsDay 73 = .ok (.goto (-46), 3) := by decide +kernel
theorem dX10_readsDay_76 : decode cX10_readsDay 76 = .ok (.iconst 1, 1) := by decide +kernel
theorem dX10_readsDay_77 : decode cX10_readsDay 77 = .ok (.ireturn, 1) := by decide +kernel
theorem dX10_readsLeave_0 : decode cX10_readsLeave 0 = .ok (.aload_n 0, 1) := by decide +kernel
theorem dX10_readsLeave_1 : decode cX10_readsLeave 1 = .ok (.invokevirtual 177, 3) := by decide +kernel
theorem dX10_readsLeave_4 : decode cX10_readsLeave 4 = .ok (.bipush 97, 2) := by decide +kernel
theorem dX10_readsLeave_6 : decode cX10_readsLeave 6 = .ok (.bipush 106, 2) := by decide +kernel
theorem dX10_readsLeave_8 : decode cX10_readsLeave 8 = .ok (.invokestatic 157, 3) := by decide +kernel
theorem dX10_readsLeave_11 : decode cX10_readsLeave 11 = .ok (.ifCond .ne 13, 3) := by decide +kernel
theorem dX10_readsLeave_14 : decode cX10_readsLeave 14 = .ok (.aload_n 0, 1) := by decide +kernel
theorem dX10_readsLeave_15 : decode cX10_readsLeave 15 = .ok (.iconst 1, 1) := by decide +kernel
theorem dX10_readsLeave_16 : decode cX10_readsLeave 16 = .ok (.aload_n 0, 1) := by decide +kernel
theorem dX10_readsLeave_17 : decode cX10_readsLeave 17 = .ok (.getfield 171, 3) := by decide +kernel
theorem dX10_readsLeave_20 : decode cX10_readsLeave 20 = .ok (.invokevirtual 184, 3) := by decide +kernel
theorem dX10_readsLeave_23 : decode cX10_readsLeave 23 = .ok (.ireturn, 1) := by decide +kernel
theorem dX10_readsLeave_24 : decode cX10_readsLeave 24 = .ok (.aload_n 0, 1) := by decide +kernel
theorem dX10_readsLeave_25 : decode cX10_readsLeave 25 = .ok (.getfield 276, 3) := by decide +kernel
theorem dX10_readsLeave_28 : decode cX10_readsLeave 28 = .ok (.bipush 10, 2) := by decide +kernel
theorem dX10_readsLeave_30 : decode cX10_readsLeave 30 = .ok (.if_icmp .ne 13, 3) := by decide +kernel
theorem dX10_readsLeave_33 : decode cX10_readsLeave 33 = .ok (.aload_n 0, 1) := by decide +kernel
theorem dX10_readsLeave_34 : decode cX10_readsLeave 34 = .ok (.iconst 4, 1) := by decide +kernel
theorem dX10_readsLeave_35 : decode cX10_readsLeave 35 = .ok (.aload_n 0, 1) := by decide +kernel
theorem dX10_readsLeave_36 : decode cX10_readsLeave 36 = .ok (.getfield 171, 3) := by decide +kernel
theorem dX10_readsLeave_39 : decode cX10_readsLeave 39 = .ok (.invokevirtual 184, 3) := by decide +kernel
theorem dX10_readsLeave_42 : decode cX10_readsLeave 42 = .ok (.ireturn, 1) := by decide +kernel
theorem dX10_readsLeave_43 : decode cX10_readsLeave 43 = .ok (.aload_n 0, 1) := by decide +kernel
theorem dX10_readsLeave_44 : decode cX10_readsLeave 44 = .ok (.invokevirtual 177, 3) := by decide +kernel
theorem dX10_readsLeave_47 : decode cX10_readsLeave 47 = .ok (.bipush 97, 2) := by decide +kernel
theorem dX10_readsLeave_49 : decode cX10_readsLeave 49 = .ok (.isub, 1) := by decide +kernel
theorem dX10_readsLeave_50 : decode cX10_readsLeave 50 = .ok (.istore_n 1, 1) := by decide +kernel
theorem dX10_readsLeave_51 : decode cX10_readsLeave 51 = .ok (.aload_n 0, 1) := by decide +kernel
theorem dX10_readsLeave_52 : decode cX10_readsLeave 52 = .ok (.getfield 95, 3) := by decide +kernel
theorem dX10_readsLeave_55 : decode cX10_readsLeave 55 = .ok (.iload_n 1, 1) := by decide +kernel
theorem dX10_readsLeave_56 : decode cX10_readsLeave 56 = .ok (.iaload, 1) := by decide +kernel
theorem dX10_readsLeave_57 : decode cX10_readsLeave 57 = .ok (.bipush (-2), 2) := by decide +kernel
theorem dX10_readsLeave_59 : decode cX10_readsLeave 59 = .ok (.if_icmp .eq 14, 3) := by decide +kernel
theorem dX10_readsLeave_62 : decode cX10_readsLeave 62 = .ok (.aload_n 0, 1) := by decide +kernel
theorem dX10_readsLeave_63 : decode cX10_readsLeave 63 = .ok (.bipush 6, 2) := by decide +kernel
theorem dX10_readsLeave_65 : decode cX10_readsLeave 65 = .ok (.aload_n 0, 1) := by decide +kernel
theorem dX10_readsLeave_66 : decode cX10_readsLeave 66 = .ok (.getfield 171, 3) := by decide +kernel
theorem dX10_readsLeave_69 : decode cX10_readsLeave 69 = .ok (.invokevirtual 184, 3) := by decide +kernel
theorem dX10_readsLeave_72 : decode cX10_readsLeave 72 = .ok (.ireturn, 1) := by decide +kernel
theorem dX10_readsLeave_73 : decode cX10_readsLeave 73 = .ok (.aload_n 0, 1) := by decide +kernel
theorem dX10_readsLeave_74 : decode cX10_readsLeave 74 = .ok (.aload_n 0, 1) := by decide +kernel
theorem dX10_readsLeave_75 : decode cX10_readsLeave 75 = .ok (.getfield 171, 3) := by decide +kernel
theorem dX10_readsLeave_78 : decode cX10_readsLeave 78 = .ok (.iconst 1, 1) := by decide +kernel
theorem dX10_readsLeave_79 : decode cX10_readsLeave 79 = .ok (.iadd, 1) := by decide +kernel
theorem dX10_readsLeave_80 : decode cX10_readsLeave 80 = .ok (.putfield 171, 3) := by decide +kernel
theorem dX10_readsLeave_83 : decode cX10_readsLeave 83 = .ok (.aload_n 0, 1) := by decide +kernel
theorem dX10_readsLeave_84 : decode cX10_readsLeave 84 = .ok (.invokevirtual 285, 3) := by decide +kernel
theorem dX10_readsLeave_87 : decode cX10_readsLeave 87 = .ok (.ifCond .ne 5, 3) := by decide +kernel
theorem dX10_readsLeave_90 : decode cX10_readsLeave 90 = .ok (.iconst 0, 1) := by decide +kernel
theorem dX10_readsLeave_91 : decode cX10_readsLeave 91 = .ok (.ireturn, 1) := by decide +kernel
theorem dX10_readsLeave_92 : decode cX10_readsLeave 92 = .ok (.aload_n 0, 1) := by decide +kernel
theorem dX10_readsLeave_93 : decode cX10_readsLeave 93 = .ok (.getfield 187, 3) := by decide +kernel
theorem dX10_readsLeave_96 : decode cX10_readsLeave 96 = .ok (.istore_n 2, 1) := by decide +kernel
theorem dX10_readsLeave_97 : decode cX10_readsLeave 97 = .ok (.aload_n 0, 1) := by decide +kernel
theorem dX10_readsLeave_98 : decode cX10_readsLeave 98 = .ok (.bipush 45, 2) := by decide +kernel
theorem dX10_readsLeave_100 : decode cX10_readsLeave 100 = .ok (.invokevirtual 262, 3) := by decide +kernel
theorem dX10_readsLeave_103 : decode cX10_readsLeave 103 = .ok (.ifCond .ne 5, 3) := by decide +kernel
theorem dX10_readsLeave_106 : decode cX10_readsLeave 106 = .ok (.iconst 0, 1) := by decide +kernel
theorem dX10_readsLeave_107 : decode cX10_readsLeave 107 = .ok (.ireturn, 1) := by decide +kernel
theorem dX10_readsLeave_108 : decode cX10_readsLeave 108 = .ok (.aload_n 0, 1) := by decide +kernel
theorem dX10_readsLeave_109 : decode cX10_readsLeave 109 = .ok (.getfield 171, 3) := by decide +kernel
theorem dX10_readsLeave_112 : decode cX10_readsLeave 112 = .ok (.istore_n 3, 1) := by decide +kernel
theorem dX10_readsLeave_113 : decode cX10_readsLeave 113 = .ok (.aload_n 0, 1) := by decide +kernel
theorem dX10_readsLeave_114 : decode cX10_readsLeave 114 = .ok (.invokevirtual 285, 3) := by decide +kernel
theorem dX10_readsLeave_117 : decode cX10_readsLeave 117 = .ok (.ifCond .ne 5, 3) := by decide +kernel
theorem dX10_readsLeave_120 : decode cX10_readsLeave 120 = .ok (.iconst 0, 1) := by decide +kernel
theorem dX10_readsLeave_121 : decode cX10_readsLeave 121 = .ok (.ireturn, 1) := by decide +kernel
theorem dX10_readsLeave_122 : decode cX10_readsLeave 122 = .ok (.aload_n 0, 1) := by decide +kernel
theorem dX10_readsLeave_123 : decode cX10_readsLeave 123 = .ok (.getfield 187, 3) := by decide +kernel
theorem dX10_readsLeave_126 : decode cX10_readsLeave 126 = .ok (.iload_n 2, 1) := by decide +kernel
theorem dX10_readsLeave_127 : decode cX10_readsLeave 127 = .ok (.if_icmp .ge 11, 3) := by decide +kernel
theorem dX10_readsLeave_130 : decode cX10_readsLeave 130 = .ok (.aload_n 0, 1) := by decide +kernel
theorem dX10_readsLeave_131 : decode cX10_readsLeave 131 = .ok (.bipush 7, 2) := by decide +kernel
theorem dX10_readsLeave_133 : decode cX10_readsLeave 133 = .ok (.iload_n 3, 1) := by decide +kernel
theorem dX10_readsLeave_134 : decode cX10_readsLeave 134 = .ok (.invokevirtual 184, 3) := by decide +kernel
theorem dX10_readsLeave_137 : decode cX10_readsLeave 137 = .ok (.ireturn, 1) := by decide +kernel
theorem dX10_readsLeave_138 : decode cX10_readsLeave 138 = .ok (.aload_n 0, 1) := by decide +kernel
theorem dX10_readsLeave_139 : decode cX10_readsLeave 139 = .ok (.getfield 95, 3) := by decide +kernel
theorem dX10_readsLeave_142 : decode cX10_readsLeave 142 = .ok (.iload_n 1, 1) := by decide +kernel
theorem dX10_readsLeave_143 : decode cX10_readsLeave 143 = .ok (.iload_n 2, 1) := by decide +kernel
theorem dX10_readsLeave_144 : decode cX10_readsLeave 144 = .ok (.iastore, 1) := by decide +kernel
theorem dX10_readsLeave_145 : decode cX10_readsLeave 145 = .ok (.aload_n 0, 1) := by decide +kernel
theorem dX10_readsLeave_146 : decode cX10_readsLeave 146 = .ok (.getfield 98, 3) := by decide +kernel
theorem dX10_readsLeave_149 : decode cX10_readsLeave 149 = .ok (.iload_n 1, 1) := by decide +kernel
theorem dX10_readsLeave_150 : decode cX10_readsLeave 150 = .ok (.aload_n 0, 1) := by decide +kernel
theorem dX10_readsLeave_151 : decode cX10_readsLeave 151 = .ok (.getfield 187, 3) := by decide +kernel
theorem dX10_readsLeave_154 : decode cX10_readsLeave 154 = .ok (.iastore, 1) := by decide +kernel
theorem dX10_readsLeave_155 : decode cX10_readsLeave 155 = .ok (.aload_n 0, 1) := by decide +kernel
theorem dX10_readsLeave_156 : decode cX10_readsLeave 156 = .ok (.aload_n 0, 1) := by decide +kernel
theorem dX10_readsLeave_157 : decode cX10_readsLeave 157 = .ok (.getfield 276, 3) := by decide +kernel
theorem dX10_readsLeave_160 : decode cX10_readsLeave 160 = .ok (.iconst 1, 1) := by decide +kernel
theorem dX10_readsLeave_161 : decode cX10_readsLeave 161 = .ok (.iadd, 1) := by decide +kernel
theorem dX10_readsLeave_162 : decode cX10_readsLeave 162 = .ok (.putfield 276, 3) := by decide +kernel
theorem dX10_readsLeave_165 : decode cX10_readsLeave 165 = .ok (.iconst 1, 1) := by decide +kernel
theorem dX10_readsLeave_166 : decode cX10_readsLeave 166 = .ok (.ireturn, 1) := by decide +kernel
theorem dX10_takes_0 : decode cX10_takes 0 = .ok (.aload_n 0, 1) := by decide +kernel
theorem dX10_takes_1 : decode cX10_takes 1 = .ok (.invokevirtual 177, 3) := by decide +kernel
theorem dX10_takes_4 : decode cX10_takes 4 = .ok (.iload_n 1, 1) := by decide +kernel
theorem dX10_takes_5 : decode cX10_takes 5 = .ok (.if_icmp .eq 13, 3) := by decide +kernel
theorem dX10_takes_8 : decode cX10_takes 8 = .ok (.aload_n 0, 1) := by decide +kernel
theorem dX10_takes_9 : decode cX10_takes 9 = .ok (.iconst 1, 1) := by decide +kernel
theorem dX10_takes_10 : decode cX10_takes 10 = .ok (.aload_n 0, 1) := by decide +kernel
theorem dX10_takes_11 : decode cX10_takes 11 = .ok (.getfield 171, 3) := by decide +kernel
theorem dX10_takes_14 : decode cX10_takes 14 = .ok (.invokevirtual 184, 3) := by decide +kernel
theorem dX10_takes_17 : decode cX10_takes 17 = .ok (.ireturn, 1) := by decide +kernel
theorem dX10_takes_18 : decode cX10_takes 18 = .ok (.aload_n 0, 1) := by decide +kernel
theorem dX10_takes_19 : decode cX10_takes 19 = .ok (.aload_n 0, 1) := by decide +kernel
theorem dX10_takes_20 : decode cX10_takes 20 = .ok (.getfield 171, 3) := by decide +kernel
theorem dX10_takes_23 : decode cX10_takes 23 = .ok (.iconst 1, 1) := by decide +kernel
theorem dX10_takes_24 : decode cX10_takes 24 = .ok (.iadd, 1) := by decide +kernel
theorem dX10_takes_25 : decode cX10_takes 25 = .ok (.putfield 171, 3) := by decide +kernel
theorem dX10_takes_28 : decode cX10_takes 28 = .ok (.iconst 1, 1) := by decide +kernel
theorem dX10_takes_29 : decode cX10_takes 29 = .ok (.ireturn, 1) := by decide +kernel
theorem dX10_wrongAt_0 : decode cX10_wrongAt 0 = .ok (.aload_n 0, 1) := by decide +kernel
theorem dX10_wrongAt_1 : decode cX10_wrongAt 1 = .ok (.sipush (-1000), 3) := by decide +kernel
theorem dX10_wrongAt_4 : decode cX10_wrongAt 4 = .ok (.iload_n 1, 1) := by decide +kernel
theorem dX10_wrongAt_5 : decode cX10_wrongAt 5 = .ok (.imul, 1) := by decide +kernel
theorem dX10_wrongAt_6 : decode cX10_wrongAt 6 = .ok (.iload_n 2, 1) := by decide +kernel
theorem dX10_wrongAt_7 : decode cX10_wrongAt 7 = .ok (.isub, 1) := by decide +kernel
theorem dX10_wrongAt_8 : decode cX10_wrongAt 8 = .ok (.putfield 181, 3) := by decide +kernel
theorem dX10_wrongAt_11 : decode cX10_wrongAt 11 = .ok (.iconst 0, 1) := by decide +kernel
theorem dX10_wrongAt_12 : decode cX10_wrongAt 12 = .ok (.ireturn, 1) := by decide +kernel
