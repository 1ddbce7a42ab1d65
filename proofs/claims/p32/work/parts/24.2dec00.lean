theorem dX8_goThroughChore_0 : decode cX8_goThroughChore 0 = .ok (.aload_n 0, 1) := by decide +kernel
theorem dX8_goThroughChore_1 : decode cX8_goThroughChore 1 = .ok (.getfield 12, 3) := by decide +kernel
theorem dX8_goThroughChore_4 : decode cX8_goThroughChore 4 = .ok (.getfield 132, 3) := by decide +kernel
theorem dX8_goThroughChore_7 : decode cX8_goThroughChore 7 = .ok (.iload_n 1, 1) := by decide +kernel
theorem dX8_goThroughChore_8 : decode cX8_goThroughChore 8 = .ok (.iaload, 1) := by decide +kernel
theorem dX8_goThroughChore_9 : decode cX8_goThroughChore 9 = .ok (.istore_n 2, 1) := by decide +kernel
theorem dX8_goThroughChore_10 : decode cX8_goThroughChore 10 = .ok (.aload_n 0, 1) := by decide +kernel
theorem dX8_goThroughChore_11 : decode cX8_goThroughChore 11 = .ok (.getfield 32, 3) := by decide +kernel
theorem dX8_goThroughChore_14 : decode cX8_goThroughChore 14 = .ok (.iload_n 1, 1) := by decide +kernel
theorem dX8_goThroughChore_15 : decode cX8_goThroughChore 15 = .ok (.aload_n 0, 1) := by decide +kernel
theorem dX8_goThroughChore_16 : decode cX8_goThroughChore 16 = .ok (.getfield 28, 3) := by decide +kernel
theorem dX8_goThroughChore_19 : decode cX8_goThroughChore 19 = .ok (.getfield 135, 3) := by decide +kernel
theorem dX8_goThroughChore_22 : decode cX8_goThroughChore 22 = .ok (.iload_n 1, 1) := by decide +kernel
theorem dX8_goThroughChore_23 : decode cX8_goThroughChore 23 = .ok (.iaload, 1) := by decide +kernel
theorem dX8_goThroughChore_24 : decode cX8_goThroughChore 24 = .ok (.iload_n 2, 1) := by decide +kernel
theorem dX8_goThroughChore_25 : decode cX8_goThroughChore 25 = .ok (.invokevirtual 138, 3) := by decide +kernel
theorem dX8_goThroughChore_28 : decode cX8_goThroughChore 28 = .ok (.aload_n 0, 1) := by decide +kernel
theorem dX8_goThroughChore_29 : decode cX8_goThroughChore 29 = .ok (.getfield 32, 3) := by decide +kernel
theorem dX8_goThroughChore_32 : decode cX8_goThroughChore 32 = .ok (.iconst 1, 1) := by decide +kernel
theorem dX8_goThroughChore_33 : decode cX8_goThroughChore 33 = .ok (.aload_n 0, 1) := by decide +kernel
theorem dX8_goThroughChore_34 : decode cX8_goThroughChore 34 = .ok (.getfield 28, 3) := by decide +kernel
theorem dX8_goThroughChore_37 : decode cX8_goThroughChore 37 = .ok (.getfield 135, 3) := by decide +kernel
theorem dX8_goThroughChore_40 : decode cX8_goThroughChore 40 = .ok (.iload_n 1, 1) := by decide +kernel
theorem dX8_goThroughChore_41 : decode cX8_goThroughChore 41 = .ok (.iaload, 1) := by decide +kernel
theorem dX8_goThroughChore_42 : decode cX8_goThroughChore 42 = .ok (.invokevirtual 128, 3) := by decide +kernel
theorem dX8_goThroughChore_45 : decode cX8_goThroughChore 45 = .ok (.istore_n 3, 1) := by decide +kernel
theorem dX8_goThroughChore_46 : decode cX8_goThroughChore 46 = .ok (.iload_n 2, 1) := by decide +kernel
theorem dX8_goThroughChore_47 : decode cX8_goThroughChore 47 = .ok (.ifCond .le 18, 3) := by decide +kernel
theorem dX8_goThroughChore_50 : decode cX8_goThroughChore 50 = .ok (.aload_n 0, 1) := by decide +kernel
theorem dX8_goThroughChore_51 : decode cX8_goThroughChore 51 = .ok (.getfield 32, 3) := by decide +kernel
theorem dX8_goThroughChore_54 : decode cX8_goThroughChore 54 = .ok (.iconst 3, 1) := by decide +kernel
theorem dX8_goThroughChore_55 : decode cX8_goThroughChore 55 = .ok (.invokevirtual 141, 3) := by decide +kernel
theorem dX8_goThroughChore_58 : decode cX8_goThroughChore 58 = .ok (.ifCond .eq 7, 3) := by decide +kernel
theorem dX8_goThroughChore_61 : decode cX8_goThroughChore 61 = .ok (.iload_n 3, 1) := by decide +kernel
theorem dX8_goThroughChore_62 : decode cX8_goThroughChore 62 = .ok (.iload_n 2, 1) := by decide +kernel
theorem dX8_goThroughChore_63 : decode cX8_goThroughChore 63 = .ok (.iadd, 1) := by decide +kernel
theorem dX8_goThroughChore_64 : decode cX8_goThroughChore 64 = .ok (.istore_n 3, 1) := by decide +kernel
theorem dX8_goThroughChore_65 : decode cX8_goThroughChore 65 = .ok (.iload_n 3, 1) := by decide +kernel
theorem dX8_goThroughChore_66 : decode cX8_goThroughChore 66 = .ok (.bipush 99, 2) := by decide +kernel
theorem dX8_goThroughChore_68 : decode cX8_goThroughChore 68 = .ok (.invokestatic 145, 3) := by decide +kernel
theorem dX8_goThroughChore_71 : decode cX8_goThroughChore 71 = .ok (.istore_n 3, 1) := by decide +kernel
theorem dX8_goThroughChore_72 : decode cX8_goThroughChore 72 = .ok (.iload_n 1, 1) := by decide +kernel
theorem dX8_goThroughChore_73 : decode cX8_goThroughChore 73 = .ok (.aload_n 0, 1) := by decide +kernel
theorem dX8_goThroughChore_74 : decode cX8_goThroughChore 74 = .ok (.getfield 50, 3) := by decide +kernel
theorem dX8_goThroughChore_77 : decode cX8_goThroughChore 77 = .ok (.if_icmp .ne 15, 3) := by decide +kernel
theorem dX8_goThroughChore_80 : decode cX8_goThroughChore 80 = .ok (.iload_n 3, 1) := by decide +kernel
theorem dX8_goThroughChore_81 : decode cX8_goThroughChore 81 = .ok (.aload_n 0, 1) := by decide +kernel
theorem dX8_goThroughChore_82 : decode cX8_goThroughChore 82 = .ok (.aload_n 0, 1) := by decide +kernel
theorem dX8_goThroughChore_83 : decode cX8_goThroughChore 83 = .ok (.getfield 71, 3) := by decide +kernel
theorem dX8_goThroughChore_86 : decode cX8_goThroughChore 86 = .ok (.iload_n 3, 1) := by decide +kernel
theorem dX8_goThroughChore_87 : decode cX8_goThroughChore 87 = .ok (.invokevirtual 150, 3) := by decide +kernel
theorem dX8_goThroughChore_90 : decode cX8_goThroughChore 90 = .ok (.isub, 1) := by decide +kernel
theorem dX8_goThroughChore_91 : decode cX8_goThroughChore 91 = .ok (.istore_n 3, 1) := by decide +kernel
theorem dX8_goThroughChore_92 : decode cX8_goThroughChore 92 = .ok (.iconst 0, 1) := by decide +kernel
theorem dX8_goThroughChore_93 : decode cX8_goThroughChore 93 = .ok (.istore 4, 2) := by decide +kernel
theorem dX8_goThroughChore_95 : decode cX8_goThroughChore 95 = .ok (.iload 4, 2) := by decide +kernel
theorem dX8_goThroughChore_97 : decode cX8_goThroughChore 97 = .ok (.aload_n 0, 1) := by decide +kernel
theorem dX8_goThroughChore_98 : decode cX8_goThroughChore 98 = .ok (.getfield 28, 3) := by decide +kernel
theorem dX8_goThroughChore_101 : decode cX8_goThroughChore 101 = .ok (.getfield 153, 3) := by decide +kernel
theorem dX8_goThroughChore_104 : decode cX8_goThroughChore 104 = .ok (.iload_n 1, 1) := by decide +kernel
theorem dX8_goThroughChore_105 : decode cX8_goThroughChore 105 = .ok (.iaload, 1) := by decide +kernel
theorem dX8_goThroughChore_106 : decode cX8_goThroughChore 106 = .ok (.if_icmp .ge 39, 3) := by decide +kernel
theorem dX8_goThroughChore_109 : decode cX8_goThroughChore 109 = .ok (.iload 4, 2) := by decide +kernel
theorem dX8_goThroughChore_111 : decode cX8_goThroughChore 111 = .ok (.bipush 10, 2) := by decide +kernel
theorem dX8_goThroughChore_113 : decode cX8_goThroughChore 113 = .ok (.if_icmp .ge 32, 3) := by decide +kernel
theorem dX8_goThroughChore_116 : decode cX8_goThroughChore 116 = .ok (.iload_n 3, 1) := by decide +kernel
theorem dX8_goThroughChore_117 : decode cX8_goThroughChore 117 = .ok (.aload_n 0, 1) := by decide +kernel
theorem dX8_goThroughChore_118 : decode cX8_goThroughChore 118 = .ok (.aload_n 0, 1) := by decide +kernel
theorem dX8_goThroughChore_119 : decode cX8_goThroughChore 119 = .ok (.getfield 28, 3) := by decide +kernel
theorem dX8_goThroughChore_122 : decode cX8_goThroughChore 122 = .ok (.getfield 156, 3) := by decide +kernel
theorem dX8_goThroughChore_125 : decode cX8_goThroughChore 125 = .ok (.iload_n 1, 1) := by decide +kernel
theorem dX8_goThroughChore_126 : decode cX8_goThroughChore 126 = .ok (.bipush 10, 2) := by decide +kernel
theorem dX8_goThroughChore_128 : decode cX8_goThroughChore 128 = .ok (.imul, 1) := by decide +kernel
theorem dX8_goThroughChore_129 : decode cX8_goThroughChore 129 = .ok (.iload 4, 2) := by decide +kernel
theorem dX8_goThroughChore_131 : decode cX8_goThroughChore 131 = .ok (.iadd, 1) := by decide +kernel
theorem dX8_goThroughChore_132 : decode cX8_goThroughChore 132 = .ok (.iaload, 1) := by decide +kernel
theorem dX8_goThroughChore_133 : decode cX8_goThroughChore 133 = .ok (.iload_n 3, 1) := by decide +kernel
theorem dX8_goThroughChore_134 : decode cX8_goThroughChore 134 = .ok (.invokevirtual 150, 3) := by decide +kernel
theorem dX8_goThroughChore_137 : decode cX8_goThroughChore 137 = .ok (.isub, 1) := by decide +kernel
theorem dX8_goThroughChore_138 : decode cX8_goThroughChore 138 = .ok (.istore_n 3, 1) := by decide +kernel
theorem dX8_goThroughChore_139 : decode cX8_goThroughChore 139 = .ok (.iinc 4 1, 3) := by decide +kernel
theorem dX8_goThroughChore_142 : decode cX8_goThroughChore 142 = .ok (.goto (-47), 3) := by decide +kernel
theorem dX8_goThroughChore_145 : decode cX8_goThroughChore 145 = .ok (.aload_n 0, 1) := by decide +kernel
theorem dX8_goThroughChore_146 : decode cX8_goThroughChore 146 = .ok (.getfield 12, 3) := by decide +kernel
theorem dX8_goThroughChore_149 : decode cX8_goThroughChore 149 = .ok (.getfield 132, 3) := by decide +kernel
theorem dX8_goThroughChore_152 : decode cX8_goThroughChore 152 = .ok (.iload_n 1, 1) := by decide +kernel
theorem dX8_goThroughChore_153 : decode cX8_goThroughChore 153 = .ok (.iload_n 3, 1) := by decide +kernel
theorem dX8_goThroughChore_154 : decode cX8_goThroughChore 154 = .ok (.iastore, 1) := by decide +kernel
theorem dX8_goThroughChore_155 : decode cX8_goThroughChore 155 = .ok (.iload_n 3, 1) := by decide +kernel
theorem dX8_goThroughChore_156 : decode cX8_goThroughChore 156 = .ok (.ifCond .le 34, 3) := by decide +kernel
theorem dX8_goThroughChore_159 : decode cX8_goThroughChore 159 = .ok (.aload_n 0, 1) := by decide +kernel
theorem dX8_goThroughChore_160 : decode cX8_goThroughChore 160 = .ok (.getfield 32, 3) := by decide +kernel
theorem dX8_goThroughChore_163 : decode cX8_goThroughChore 163 = .ok (.iload_n 3, 1) := by decide +kernel
theorem dX8_goThroughChore_164 : decode cX8_goThroughChore 164 = .ok (.invokevirtual 159, 3) := by decide +kernel
theorem dX8_goThroughChore_167 : decode cX8_goThroughChore 167 = .ok (.aload_n 0, 1) := by decide +kernel
theorem dX8_goThroughChore_168 : decode cX8_goThroughChore 168 = .ok (.getfield 12, 3) := by decide +kernel
theorem dX8_goThroughChore_171 : decode cX8_goThroughChore 171 = .ok (.dup, 1) := by decide +kernel
theorem dX8_goThroughChore_172 : decode cX8_goThroughChore 172 = .ok (.getfield 53, 3) := by decide +kernel
theorem dX8_goThroughChore_175 : decode cX8_goThroughChore 175 = .ok (.iload_n 3, 1) := by decide +kernel
theorem dX8_goThroughChore_176 : decode cX8_goThroughChore 176 = .ok (.aload_n 0, 1) := by decide +kernel
theorem dX8_goThroughChore_177 : decode cX8_goThroughChore 177 = .ok (.getfield 32, 3) := by decide +kernel
theorem dX8_goThroughChore_180 : decode cX8_goThroughChore 180 = .ok (.iconst 0, 1) := by decide +kernel
theorem dX8_goThroughChore_181 : decode cX8_goThroughChore 181 = .ok (.iconst 0, 1) := by decide +kernel
theorem dX8_goThroughChore_182 : decode cX8_goThroughChore 182 = .ok (.invokevirtual 128, 3) := by decide +kernel
theorem dX8_goThroughChore_185 : decode cX8_goThroughChore 185 = .ok (.imul, 1) := by decide +kernel
theorem dX8_goThroughChore_186 : decode cX8_goThroughChore 186 = .ok (.iadd, 1) := by decide +kernel
theorem dX8_goThroughChore_187 : decode cX8_goThroughChore 187 = .ok (.putfield 53, 3) := by decide +kernel
theorem dX8_goThroughChore_190 : decode cX8_goThroughChore 190 = .ok (.iload_n 3, 1) := by decide +kernel
theorem dX8_goThroughChore_191 : decode cX8_goThroughChore 191 = .ok (.ireturn, 1) := by decide +kernel
theorem dX8_unitsOf_0 : decode cX8_unitsOf 0 = .ok (.iload_n 1, 1) := by decide +kernel
theorem dX8_unitsOf_1 : decode cX8_unitsOf 1 = .ok (.aload_n 0, 1) := by decide +kernel
theorem dX8_unitsOf_2 : decode cX8_unitsOf 2 = .ok (.getfield 46, 3) := by decide +kernel
theorem dX8_unitsOf_5 : decode cX8_unitsOf 5 = .ok (.if_icmp .ne 33, 3) := by decide +kernel
theorem dX8_unitsOf_8 : decode cX8_unitsOf 8 = .ok (.aload_n 0, 1) := by decide +kernel
theorem dX8_unitsOf_9 : decode cX8_unitsOf 9 = .ok (.getfield 12, 3) := by decide +kernel
theorem dX8_unitsOf_12 : decode cX8_unitsOf 12 = .ok (.getfield 78, 3) := by decide +kernel
theorem dX8_unitsOf_15 : decode cX8_unitsOf 15 = .ok (.aload_n 0, 1) := by decide +kernel
theorem dX8_unitsOf_16 : decode cX8_unitsOf 16 = .ok (.getfield 65, 3) := by decide +kernel
theorem dX8_unitsOf_19 : decode cX8_unitsOf 19 = .ok (.if_icmp .lt 19, 3) := by decide +kernel
theorem dX8_unitsOf_22 : decode cX8_unitsOf 22 = .ok (.aload_n 0, 1) := by decide +kernel
theorem dX8_unitsOf_23 : decode cX8_unitsOf 23 = .ok (.getfield 12, 3) := by decide +kernel
theorem dX8_unitsOf_26 : decode cX8_unitsOf 26 = .ok (.getfield 78, 3) := by decide +kernel
theorem dX8_unitsOf_29 : decode cX8_unitsOf 29 = .ok (.aload_n 0, 1) := by decide +kernel
theorem dX8_unitsOf_30 : decode cX8_unitsOf 30 = .ok (.getfield 68, 3) := by decide +kernel
theorem dX8_unitsOf_33 : decode cX8_unitsOf 33 = .ok (.if_icmp .gt 5, 3) := by decide +kernel
theorem dX8_unitsOf_36 : decode cX8_unitsOf 36 = .ok (.iconst 0, 1) := by decide +kernel
theorem dX8_unitsOf_37 : decode cX8_unitsOf 37 = .ok (.ireturn, 1) := by decide +kernel
theorem dX8_unitsOf_38 : decode cX8_unitsOf 38 = .ok (.aload_n 0, 1) := by decide +kernel
theorem dX8_unitsOf_39 : decode cX8_unitsOf 39 = .ok (.getfield 28, 3) := by decide +kernel
theorem dX8_unitsOf_42 : decode cX8_unitsOf 42 = .ok (.getfield 121, 3) := by decide +kernel
theorem dX8_unitsOf_45 : decode cX8_unitsOf 45 = .ok (.iload_n 1, 1) := by decide +kernel
theorem dX8_unitsOf_46 : decode cX8_unitsOf 46 = .ok (.iaload, 1) := by decide +kernel
theorem dX8_unitsOf_47 : decode cX8_unitsOf 47 = .ok (.aload_n 0, 1) := by decide +kernel
theorem dX8_unitsOf_48 : decode cX8_unitsOf 48 = .ok (.getfield 18, 3) := by decide +kernel
theorem dX8_unitsOf_51 : decode cX8_unitsOf 51 = .ok (.iload_n 1, 1) := by decide +kernel
theorem dX8_unitsOf_52 : decode cX8_unitsOf 52 = .ok (.iaload, 1) := by decide +kernel
theorem dX8_unitsOf_53 : decode cX8_unitsOf 53 = .ok (.iadd, 1) := by decide +kernel
theorem dX8_unitsOf_54 : decode cX8_unitsOf 54 = .ok (.istore_n 2, 1) := by decide +kernel
theorem dX8_unitsOf_55 : decode cX8_unitsOf 55 = .ok (.aload_n 0, 1) := by decide +kernel
theorem dX8_unitsOf_56 : decode cX8_unitsOf 56 = .ok (.getfield 32, 3) := by decide +kernel
theorem dX8_unitsOf_59 : decode cX8_unitsOf 59 = .ok (.iload_n 1, 1) := by decide +kernel
theorem dX8_unitsOf_60 : decode cX8_unitsOf 60 = .ok (.iload_n 2, 1) := by decide +kernel
theorem dX8_unitsOf_61 : decode cX8_unitsOf 61 = .ok (.invokevirtual 124, 3) := by decide +kernel
theorem dX8_unitsOf_64 : decode cX8_unitsOf 64 = .ok (.aload_n 0, 1) := by decide +kernel
theorem dX8_unitsOf_65 : decode cX8_unitsOf 65 = .ok (.getfield 32, 3) := by decide +kernel
theorem dX8_unitsOf_68 : decode cX8_unitsOf 68 = .ok (.iconst 2, 1) := by decide +kernel
theorem dX8_unitsOf_69 : decode cX8_unitsOf 69 = .ok (.iload_n 2, 1) := by decide +kernel
theorem dX8_unitsOf_70 : decode cX8_unitsOf 70 = .ok (.invokevirtual 128, 3) := by decide +kernel
theorem dX8_unitsOf_73 : decode cX8_unitsOf 73 = .ok (.ireturn, 1) := by decide +kernel
theorem dX8_work_0 : decode cX8_work 0 = .ok (.iload_n 1, 1) := by decide +kernel
theorem dX8_work_1 : decode cX8_work 1 = .ok (.ifCond .lt 9, 3) := by decide +kernel
theorem dX8_work_4 : decode cX8_work 4 = .ok (.iload_n 1, 1) := by decide +kernel
theorem dX8_work_5 : decode cX8_work 5 = .ok (.bipush 10, 2) := by decide +kernel
theorem dX8_work_7 : decode cX8_work 7 = .ok (.if_icmp .lt 5, 3) := by decide +kernel
theorem dX8_work_10 : decode cX8_work 10 = .ok (.iconst 0, 1) := by decide +kernel
theorem dX8_work_11 : decode cX8_work 11 = .ok (.ireturn, 1) := by decide +kernel
theorem dX8_work_12 : decode cX8_work 12 = .ok (.aload_n 0, 1) := by decide +kernel
theorem dX8_work_13 : decode cX8_work 13 = .ok (.getfield 22, 3) := by decide +kernel
theorem dX8_work_16 : decode cX8_work 16 = .ok (.iload_n 1, 1) := by decide +kernel
theorem dX8_work_17 : decode cX8_work 17 = .ok (.iaload, 1) := by decide +kernel
theorem dX8_work_18 : decode cX8_work 18 = .ok (.iload_n 2, 1) := by decide +kernel
theorem dX8_work_19 : decode cX8_work 19 = .ok (.invokestatic 145, 3) := by decide +kernel
theorem dX8_work_22 : decode cX8_work 22 = .ok (.istore_n 3, 1) := by decide +kernel
theorem dX8_work_23 : decode cX8_work 23 = .ok (.aload_n 0, 1) := by decide +kernel
theorem dX8_work_24 : decode cX8_work 24 = .ok (.getfield 22, 3) := by decide +kernel
theorem dX8_work_27 : decode cX8_work 27 = .ok (.iload_n 1, 1) := by decide +kernel
theorem dX8_work_28 : decode cX8_work 28 = .ok (.dup2, 1) := by decide +kernel
theorem dX8_work_29 : decode cX8_work 29 = .ok (.iaload, 1) := by decide +kernel
theorem dX8_work_30 : decode cX8_work 30 = .ok (.iload_n 3, 1) := by decide +kernel
theorem dX8_work_31 : decode cX8_work 31 = .ok (.isub, 1) := by decide +kernel
theorem dX8_work_32 : decode cX8_work 32 = .ok (.iastore, 1) := by decide +kernel
theorem dX8_work_33 : decode cX8_work 33 = .ok (.aload_n 0, 1) := by decide +kernel
theorem dX8_work_34 : decode cX8_work 34 = .ok (.getfield 25, 3) := by decide +kernel
theorem dX8_work_37 : decode cX8_work 37 = .ok (.iload_n 1, 1) := by decide +kernel
theorem dX8_work_38 : decode cX8_work 38 = .ok (.dup2, 1) := by decide +kernel
theorem dX8_work_39 : decode cX8_work 39 = .ok (.iaload, 1) := by decide +kernel
theorem dX8_work_40 : decode cX8_work 40 = .ok (.iload_n 3, 1) := by decide +kernel
theorem dX8_work_41 : decode cX8_work 41 = .ok (.iadd, 1) := by decide +kernel
theorem dX8_work_42 : decode cX8_work 42 = .ok (.iastore, 1) := by decide +kernel
theorem dX8_work_43 : decode cX8_work 43 = .ok (.iload_n 3, 1) := by decide +kernel
theorem dX8_work_44 : decode cX8_work 44 = .ok (.ireturn, 1) := by decide +kernel
