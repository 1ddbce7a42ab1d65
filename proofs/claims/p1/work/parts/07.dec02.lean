theorem dX10_laysNobody_40 : decode cX10_laysNobody 40 = .ok (.aload_n 0, 1) := by decide +kernel
theorem dX10_laysNobody_41 : decode cX10_laysNobody 41 = .ok (.getfield 113, 3) := by decide +kernel
theorem dX10_laysNobody_44 : decode cX10_laysNobody 44 = .ok (.iload_n 1, 1) := by decide +kernel
theorem dX10_laysNobody_45 : decode cX10_laysNobody 45 = .ok (.iconst 0, 1) := by decide +kernel
theorem dX10_laysNobody_46 : decode cX10_laysNobody 46 = .ok (.iastore, 1) := by decide +kernel
theorem dX10_laysNobody_47 : decode cX10_laysNobody 47 = .ok (.iinc 1 1, 3) := by decide +kernel
theorem dX10_laysNobody_50 : decode cX10_laysNobody 50 = .ok (.goto (-48), 3) := by decide +kernel
theorem dX10_laysNobody_53 : decode cX10_laysNobody 53 = .ok (.iconst 0, 1) := by decide +kernel
theorem dX10_laysNobody_54 : decode cX10_laysNobody 54 = .ok (.istore_n 1, 1) := by decide +kernel
theorem dX10_laysNobody_55 : decode cX10_laysNobody 55 = .ok (.iload_n 1, 1) := by decide +kernel
theorem dX10_laysNobody_56 : decode cX10_laysNobody 56 = .ok (.bipush 12, 2) := by decide +kernel
theorem dX10_laysNobody_58 : decode cX10_laysNobody 58 = .ok (.if_icmp .ge 16, 3) := by decide +kernel
theorem dX10_laysNobody_61 : decode cX10_laysNobody 61 = .ok (.aload_n 0, 1) := by decide +kernel
theorem dX10_laysNobody_62 : decode cX10_laysNobody 62 = .ok (.getfield 116, 3) := by decide +kernel
theorem dX10_laysNobody_65 : decode cX10_laysNobody 65 = .ok (.iload_n 1, 1) := by decide +kernel
theorem dX10_laysNobody_66 : decode cX10_laysNobody 66 = .ok (.iconst (-1), 1) := by decide +kernel
theorem dX10_laysNobody_67 : decode cX10_laysNobody 67 = .ok (.iastore, 1) := by decide +kernel
theorem dX10_laysNobody_68 : decode cX10_laysNobody 68 = .ok (.iinc 1 1, 3) := by decide +kernel
theorem dX10_laysNobody_71 : decode cX10_laysNobody 71 = .ok (.goto (-16), 3) := by decide +kernel
theorem dX10_laysNobody_74 : decode cX10_laysNobody 74 = .ok (.return_, 1) := by decide +kernel
theorem dX10_leaveSet_0 : decode cX10_leaveSet 0 = .ok (.iconst 0, 1) := by decide +kernel
theorem dX10_leaveSet_1 : decode cX10_leaveSet 1 = .ok (.istore_n 1, 1) := by decide +kernel
theorem dX10_leaveSet_2 : decode cX10_leaveSet 2 = .ok (.iconst 0, 1) := by decide +kernel
theorem dX10_leaveSet_3 : decode cX10_leaveSet 3 = .ok (.istore_n 2, 1) := by decide +kernel
theorem dX10_leaveSet_4 : decode cX10_leaveSet 4 = .ok (.iload_n 2, 1) := by decide +kernel
theorem dX10_leaveSet_5 : decode cX10_leaveSet 5 = .ok (.bipush 10, 2) := by decide +kernel
theorem dX10_leaveSet_7 : decode cX10_leaveSet 7 = .ok (.if_icmp .ge 27, 3) := by decide +kernel
theorem dX10_leaveSet_10 : decode cX10_leaveSet 10 = .ok (.iload_n 1, 1) := by decide +kernel
theorem dX10_leaveSet_11 : decode cX10_leaveSet 11 = .ok (.aload_n 0, 1) := by decide +kernel
theorem dX10_leaveSet_12 : decode cX10_leaveSet 12 = .ok (.iload_n 2, 1) := by decide +kernel
theorem dX10_leaveSet_13 : decode cX10_leaveSet 13 = .ok (.invokevirtual 291, 3) := by decide +kernel
theorem dX10_leaveSet_16 : decode cX10_leaveSet 16 = .ok (.ifCond .eq 9, 3) := by decide +kernel
theorem dX10_leaveSet_25 : decode cX10_leaveSet 25 = .ok (.iconst 0, 1) := by decide +kernel
theorem dX10_leaveSet_26 : decode cX10_leaveSet 26 = .ok (.ior, 1) := by decide +kernel
theorem dX10_leaveSet_27 : decode cX10_leaveSet 27 = .ok (.istore_n 1, 1) := by decide +kernel
theorem dX10_leaveSet_28 : decode cX10_leaveSet 28 = .ok (.iinc 2 1, 3) := by decide +kernel
theorem dX10_leaveSet_31 : decode cX10_leaveSet 31 = .ok (.goto (-27), 3) := by decide +kernel
theorem dX10_leaveSet_34 : decode cX10_leaveSet 34 = .ok (.iload_n 1, 1) := by decide +kernel
theorem dX10_leaveSet_35 : decode cX10_leaveSet 35 = .ok (.ireturn, 1) := by decide +kernel
theorem dX10_leaves_0 : decode cX10_leaves 0 = .ok (.iload_n 1, 1) := by decide +kernel
theorem dX10_leaves_1 : decode cX10_leaves 1 = .ok (.iconst 1, 1) := by decide +kernel
theorem dX10_leaves_2 : decode cX10_leaves 2 = .ok (.bipush 120, 2) := by decide +kernel
theorem dX10_leaves_4 : decode cX10_leaves 4 = .ok (.invokestatic 157, 3) := by decide +kernel
theorem dX10_leaves_7 : decode cX10_leaves 7 = .ok (.ifCond .eq 11, 3) := by decide +kernel
theorem dX10_leaves_10 : decode cX10_leaves 10 = .ok (.iload_n 1, 1) := by decide +kernel
theorem dX10_leaves_11 : decode cX10_leaves 11 = .ok (.aload_n 0, 1) := by decide +kernel
theorem dX10_leaves_12 : decode cX10_leaves 12 = .ok (.getfield 164, 3) := by decide +kernel
theorem dX10_leaves_15 : decode cX10_leaves 15 = .ok (.if_icmp .le 5, 3) := by decide +kernel
theorem dX10_leaves_18 : decode cX10_leaves 18 = .ok (.iconst (-1), 1) := by decide +kernel
theorem dX10_leaves_19 : decode cX10_leaves 19 = .ok (.ireturn, 1) := by decide +kernel
theorem dX10_mayor_0 : decode cX10_mayor 0 = .ok (.iload_n 1, 1) := by decide +kernel
theorem dX10_mayor_1 : decode cX10_mayor 1 = .ok (.invokestatic 366, 3) := by decide +kernel
theorem dX10_mayor_4 : decode cX10_mayor 4 = .ok (.ifCond .eq 34, 3) := by decide +kernel
theorem dX10_mayor_7 : decode cX10_mayor 7 = .ok (.iload_n 2, 1) := by decide +kernel
theorem dX10_mayor_8 : decode cX10_mayor 8 = .ok (.iconst 0, 1) := by decide +kernel
theorem dX10_mayor_9 : decode cX10_mayor 9 = .ok (.iconst 1, 1) := by decide +kernel
theorem dX10_mayor_10 : decode cX10_mayor 10 = .ok (.invokestatic 157, 3) := by decide +kernel
theorem dX10_mayor_13 : decode cX10_mayor 13 = .ok (.ifCond .ne 29, 3) := by decide +kernel
theorem dX10_mayor_16 : decode cX10_mayor 16 = .ok (.iload_n 2, 1) := by decide +kernel
theorem dX10_mayor_17 : decode cX10_mayor 17 = .ok (.bipush 10, 2) := by decide +kernel
theorem dX10_mayor_19 : decode cX10_mayor 19 = .ok (.bipush 19, 2) := by decide +kernel
theorem dX10_mayor_21 : decode cX10_mayor 21 = .ok (.invokestatic 157, 3) := by decide +kernel
theorem dX10_mayor_24 : decode cX10_mayor 24 = .ok (.ifCond .eq 14, 3) := by decide +kernel
theorem dX10_mayor_27 : decode cX10_mayor 27 = .ok (.aload_n 0, 1) := by decide +kernel
theorem dX10_mayor_28 : decode cX10_mayor 28 = .ok (.iload_n 2, 1) := by decide +kernel
theorem dX10_mayor_29 : decode cX10_mayor 29 = .ok (.bipush 10, 2) := by decide +kernel
theorem dX10_mayor_31 : decode cX10_mayor 31 = .ok (.isub, 1) := by decide +kernel
theorem dX10_mayor_32 : decode cX10_mayor 32 = .ok (.invokevirtual 307, 3) := by decide +kernel
theorem dX10_mayor_35 : decode cX10_mayor 35 = .ok (.ifCond .ne 7, 3) := by decide +kernel
theorem dX10_mayor_38 : decode cX10_mayor 38 = .ok (.ldc_w 384, 3) := by decide +kernel
theorem dX10_mayor_41 : decode cX10_mayor 41 = .ok (.ireturn, 1) := by decide +kernel
theorem dX10_mayor_42 : decode cX10_mayor 42 = .ok (.aload_n 0, 1) := by decide +kernel
theorem dX10_mayor_43 : decode cX10_mayor 43 = .ok (.iconst 0, 1) := by decide +kernel
theorem dX10_mayor_44 : decode cX10_mayor 44 = .ok (.iload_n 1, 1) := by decide +kernel
theorem dX10_mayor_45 : decode cX10_mayor 45 = .ok (.invokevirtual 418, 3) := by decide +kernel
theorem dX10_mayor_48 : decode cX10_mayor 48 = .ok (.istore_n 3, 1) := by decide +kernel
theorem dX10_mayor_49 : decode cX10_mayor 49 = .ok (.iload_n 2, 1) := by decide +kernel
theorem dX10_mayor_50 : decode cX10_mayor 50 = .ok (.bipush 10, 2) := by decide +kernel
theorem dX10_mayor_52 : decode cX10_mayor 52 = .ok (.if_icmp .lt 17, 3) := by decide +kernel
theorem dX10_mayor_69 : decode cX10_mayor 69 = .ok (.bipush (-2), 2) := by decide +kernel
theorem dX10_mayor_71 : decode cX10_mayor 71 = .ok (.istore 4, 2) := by decide +kernel
theorem dX10_mayor_73 : decode cX10_mayor 73 = .ok (.ldc_w 400, 3) := by decide +kernel
theorem dX10_mayor_76 : decode cX10_mayor 76 = .ok (.istore 5, 2) := by decide +kernel
theorem dX10_mayor_78 : decode cX10_mayor 78 = .ok (.iconst 0, 1) := by decide +kernel
theorem dX10_mayor_79 : decode cX10_mayor 79 = .ok (.istore 6, 2) := by decide +kernel
theorem dX10_mayor_81 : decode cX10_mayor 81 = .ok (.iload 6, 2) := by decide +kernel
theorem dX10_mayor_83 : decode cX10_mayor 83 = .ok (.bipush 10, 2) := by decide +kernel
theorem dX10_mayor_85 : decode cX10_mayor 85 = .ok (.if_icmp .ge 55, 3) := by decide +kernel
theorem dX10_mayor_88 : decode cX10_mayor 88 = .ok (.aload_n 0, 1) := by decide +kernel
theorem dX10_mayor_89 : decode cX10_mayor 89 = .ok (.iload 6, 2) := by decide +kernel
theorem dX10_mayor_91 : decode cX10_mayor 91 = .ok (.invokevirtual 307, 3) := by decide +kernel
theorem dX10_mayor_94 : decode cX10_mayor 94 = .ok (.ifCond .eq 17, 3) := by decide +kernel
theorem dX10_mayor_111 : decode cX10_mayor 111 = .ok (.ldc_w 400, 3) := by decide +kernel
theorem dX10_mayor_114 : decode cX10_mayor 114 = .ok (.istore 7, 2) := by decide +kernel
theorem dX10_mayor_116 : decode cX10_mayor 116 = .ok (.iload 7, 2) := by decide +kernel
theorem dX10_mayor_118 : decode cX10_mayor 118 = .ok (.iload 5, 2) := by decide +kernel
theorem dX10_mayor_120 : decode cX10_mayor 120 = .ok (.if_icmp .lt 6, 3) := by decide +kernel
theorem dX10_mayor_123 : decode cX10_mayor 123 = .ok (.goto 11, 3) := by decide +kernel
theorem dX10_mayor_134 : decode cX10_mayor 134 = .ok (.iinc 6 1, 3) := by decide +kernel
theorem dX10_mayor_137 : decode cX10_mayor 137 = .ok (.goto (-56), 3) := by decide +kernel
theorem dX10_mayor_140 : decode cX10_mayor 140 = .ok (.iload 4, 2) := by decide +kernel
theorem dX10_mayor_142 : decode cX10_mayor 142 = .ok (.bipush (-2), 2) := by decide +kernel
theorem dX10_mayor_144 : decode cX10_mayor 144 = .ok (.if_icmp .eq 7, 3) := by decide +kernel
theorem dX10_mayor_151 : decode cX10_mayor 151 = .ok (.iload 4, 2) := by decide +kernel
theorem dX10_mayor_153 : decode cX10_mayor 153 = .ok (.goto 5, 3) := by decide +kernel
theorem dX10_mayor_158 : decode cX10_mayor 158 = .ok (.ireturn, 1) := by decide +kernel
theorem dX10_missed_0 : decode cX10_missed 0 = .ok (.aload_n 0, 1) := by decide +kernel
theorem dX10_missed_1 : decode cX10_missed 1 = .ok (.iload_n 1, 1) := by decide +kernel
theorem dX10_missed_2 : decode cX10_missed 2 = .ok (.invokevirtual 381, 3) := by decide +kernel
theorem dX10_missed_5 : decode cX10_missed 5 = .ok (.ifCond .eq 28, 3) := by decide +kernel
theorem dX10_missed_33 : decode cX10_missed 33 = .ok (.ldc_w 384, 3) := by decide +kernel
theorem dX10_missed_36 : decode cX10_missed 36 = .ok (.ireturn, 1) := by decide +kernel
theorem dX10_missedWithout_0 : decode cX10_missedWithout 0 = .ok (.aload_n 0, 1) := by decide +kernel
theorem dX10_missedWithout_1 : decode cX10_missedWithout 1 = .ok (.invokevirtual 300, 3) := by decide +kernel
theorem dX10_missedWithout_4 : decode cX10_missedWithout 4 = .ok (.iconst 0, 1) := by decide +kernel
theorem dX10_missedWithout_5 : decode cX10_missedWithout 5 = .ok (.istore_n 3, 1) := by decide +kernel
theorem dX10_missedWithout_6 : decode cX10_missedWithout 6 = .ok (.iload_n 3, 1) := by decide +kernel
theorem dX10_missedWithout_7 : decode cX10_missedWithout 7 = .ok (.bipush 10, 2) := by decide +kernel
theorem dX10_missedWithout_9 : decode cX10_missedWithout 9 = .ok (.if_icmp .ge 26, 3) := by decide +kernel
theorem dX10_missedWithout_12 : decode cX10_missedWithout 12 = .ok (.iload_n 1, 1) := by decide +kernel
theorem dX10_missedWithout_13 : decode cX10_missedWithout 13 = .ok (.iload_n 3, 1) := by decide +kernel
theorem dX10_missedWithout_14 : decode cX10_missedWithout 14 = .ok (.invokestatic 150, 3) := by decide +kernel
theorem dX10_missedWithout_17 : decode cX10_missedWithout 17 = .ok (.ifCond .eq 12, 3) := by decide +kernel
theorem dX10_missedWithout_29 : decode cX10_missedWithout 29 = .ok (.iinc 3 1, 3) := by decide +kernel
theorem dX10_missedWithout_32 : decode cX10_missedWithout 32 = .ok (.goto (-26), 3) := by decide +kernel
theorem dX10_missedWithout_35 : decode cX10_missedWithout 35 = .ok (.aload_n 0, 1) := by decide +kernel
theorem dX10_missedWithout_36 : decode cX10_missedWithout 36 = .ok (.iload_n 2, 1) := by decide +kernel
theorem dX10_missedWithout_37 : decode cX10_missedWithout 37 = .ok (.invokevirtual 375, 3) := by decide +kernel
theorem dX10_missedWithout_40 : decode cX10_missedWithout 40 = .ok (.ireturn, 1) := by decide +kernel
theorem dX10_mustStay_0 : decode cX10_mustStay 0 = .ok (.iload_n 1, 1) := by decide +kernel
theorem dX10_mustStay_1 : decode cX10_mustStay 1 = .ok (.iconst 1, 1) := by decide +kernel
theorem dX10_mustStay_2 : decode cX10_mustStay 2 = .ok (.bipush 20, 2) := by decide +kernel
theorem dX10_mustStay_4 : decode cX10_mustStay 4 = .ok (.invokestatic 157, 3) := by decide +kernel
theorem dX10_mustStay_7 : decode cX10_mustStay 7 = .ok (.ifCond .eq 12, 3) := by decide +kernel
theorem dX10_mustStay_10 : decode cX10_mustStay 10 = .ok (.iload_n 2, 1) := by decide +kernel
theorem dX10_mustStay_11 : decode cX10_mustStay 11 = .ok (.iconst 0, 1) := by decide +kernel
theorem dX10_mustStay_12 : decode cX10_mustStay 12 = .ok (.iconst 1, 1) := by decide +kernel
theorem dX10_mustStay_13 : decode cX10_mustStay 13 = .ok (.invokestatic 157, 3) := by decide +kernel
theorem dX10_mustStay_16 : decode cX10_mustStay 16 = .ok (.ifCond .ne 5, 3) := by decide +kernel
theorem dX10_mustStay_19 : decode cX10_mustStay 19 = .ok (.iconst (-1), 1) := by decide +kernel
theorem dX10_mustStay_20 : decode cX10_mustStay 20 = .ok (.ireturn, 1) := by decide +kernel
theorem dX10_mustStay_21 : decode cX10_mustStay 21 = .ok (.aload_n 0, 1) := by decide +kernel
theorem dX10_mustStay_22 : decode cX10_mustStay 22 = .ok (.invokevirtual 294, 3) := by decide +kernel
theorem dX10_mustStay_25 : decode cX10_mustStay 25 = .ok (.istore_n 3, 1) := by decide +kernel
theorem dX10_mustStay_26 : decode cX10_mustStay 26 = .ok (.iconst (-1), 1) := by decide +kernel
theorem dX10_mustStay_27 : decode cX10_mustStay 27 = .ok (.istore 4, 2) := by decide +kernel
theorem dX10_mustStay_29 : decode cX10_mustStay 29 = .ok (.iconst 0, 1) := by decide +kernel
theorem dX10_mustStay_30 : decode cX10_mustStay 30 = .ok (.istore 5, 2) := by decide +kernel
theorem dX10_mustStay_32 : decode cX10_mustStay 32 = .ok (.iload 5, 2) := by decide +kernel
theorem dX10_mustStay_34 : decode cX10_mustStay 34 = .ok (.sipush 1024, 3) := by decide +kernel
theorem dX10_mustStay_37 : decode cX10_mustStay 37 = .ok (.if_icmp .ge 67, 3) := by decide +kernel
theorem dX10_mustStay_40 : decode cX10_mustStay 40 = .ok (.iload 5, 2) := by decide +kernel
theorem dX10_mustStay_42 : decode cX10_mustStay 42 = .ok (.iload_n 3, 1) := by decide +kernel
theorem dX10_mustStay_43 : decode cX10_mustStay 43 = .ok (.iconst (-1), 1) := by decide +kernel
theorem dX10_mustStay_44 : decode cX10_mustStay 44 = .ok (.ixor, 1) := by decide +kernel
theorem dX10_mustStay_45 : decode cX10_mustStay 45 = .ok (.iand, 1) := by decide +kernel
theorem dX10_mustStay_46 : decode cX10_mustStay 46 = .ok (.ifCond .ne 52, 3) := by decide +kernel
theorem dX10_mustStay_49 : decode cX10_mustStay 49 = .ok (.iload 4, 2) := by decide +kernel
theorem dX10_mustStay_51 : decode cX10_mustStay 51 = .ok (.iconst (-1), 1) := by decide +kernel
theorem dX10_mustStay_52 : decode cX10_mustStay 52 = .ok (.if_icmp .eq 19, 3) := by decide +kernel
theorem dX10_mustStay_71 : decode cX10_mustStay 71 = .ok (.aload_n 0, 1) := by decide +kernel
theorem dX10_mustStay_72 : decode cX10_mustStay 72 = .ok (.iload_n 3, 1) := by decide +kernel
theorem dX10_mustStay_73 : decode cX10_mustStay 73 = .ok (.iload 5, 2) := by decide +kernel
theorem dX10_mustStay_75 : decode cX10_mustStay 75 = .ok (.iconst (-1), 1) := by decide +kernel
theorem dX10_mustStay_76 : decode cX10_mustStay 76 = .ok (.ixor, 1) := by decide +kernel
theorem dX10_mustStay_77 : decode cX10_mustStay 77 = .ok (.iand, 1) := by decide +kernel
theorem dX10_mustStay_78 : decode cX10_mustStay 78 = .ok (.iload_n 1, 1) := by decide +kernel
theorem dX10_mustStay_79 : decode cX10_mustStay 79 = .ok (.invokevirtual 378, 3) := by decide +kernel
theorem dX10_mustStay_82 : decode cX10_mustStay 82 = .ok (.pop, 1) := by decide +kernel
theorem dX10_mustStay_83 : decode cX10_mustStay 83 = .ok (.aload_n 0, 1) := by decide +kernel
theorem dX10_mustStay_84 : decode cX10_mustStay 84 = .ok (.getfield 347, 3) := by decide +kernel
theorem dX10_mustStay_87 : decode cX10_mustStay 87 = .ok (.aload_n 0, 1) := by decide +kernel
theorem dX10_mustStay_88 : decode cX10_mustStay 88 = .ok (.getfield 353, 3) := by decide +kernel
theorem dX10_mustStay_91 : decode cX10_mustStay 91 = .ok (.if_icmp .ne 7, 3) := by decide +kernel
theorem dX10_mustStay_94 : decode cX10_mustStay 94 = .ok (.iload 5, 2) := by decide +kernel
theorem dX10_mustStay_96 : decode cX10_mustStay 96 = .ok (.istore 4, 2) := by decide +kernel
theorem dX10_mustStay_98 : decode cX10_mustStay 98 = .ok (.iinc 5 1, 3) := by decide +kernel
theorem dX10_mustStay_101 : decode cX10_mustStay 101 = .ok (.goto (-69), 3) := by decide +kernel
theorem dX10_mustStay_104 : decode cX10_mustStay 104 = .ok (.iload 4, 2) := by decide +kernel
theorem dX10_mustStay_106 : decode cX10_mustStay 106 = .ok (.iconst (-1), 1) := by decide +kernel
theorem dX10_mustStay_107 : decode cX10_mustStay 107 = .ok (.if_icmp .ne 8, 3) := by decide +kernel
theorem dX10_mustStay_115 : decode cX10_mustStay 115 = .ok (.iload_n 2, 1) := by decide +kernel
theorem dX10_mustStay_116 : decode cX10_mustStay 116 = .ok (.ifCond .ne 11, 3) := by decide +kernel
theorem dX10_mustStay_119 : decode cX10_mustStay 119 = .ok (.iload 4, 2) := by decide +kernel
theorem dX10_mustStay_121 : decode cX10_mustStay 121 = .ok (.invokestatic 297, 3) := by decide +kernel
theorem dX10_mustStay_124 : decode cX10_mustStay 124 = .ok (.goto 5, 3) := by decide +kernel
theorem dX10_mustStay_127 : decode cX10_mustStay 127 = .ok (.iload 4, 2) := by decide +kernel
theorem dX10_mustStay_129 : decode cX10_mustStay 129 = .ok (.ireturn, 1) := by decide +kernel
theorem dX10_person_0 : decode cX10_person 0 = .ok (.iload_n 1, 1) := by decide +kernel
theorem dX10_person_1 : decode cX10_person 1 = .ok (.iconst 0, 1) := by decide +kernel
theorem dX10_person_2 : decode cX10_person 2 = .ok (.bipush 9, 2) := by decide +kernel
theorem dX10_person_4 : decode cX10_person 4 = .ok (.invokestatic 157, 3) := by decide +kernel
theorem dX10_person_7 : decode cX10_person 7 = .ok (.ifCond .eq 13, 3) := by decide +kernel
theorem dX10_person_10 : decode cX10_person 10 = .ok (.iload_n 2, 1) := by decide +kernel
theorem dX10_person_11 : decode cX10_person 11 = .ok (.iconst 0, 1) := by decide +kernel
theorem dX10_person_12 : decode cX10_person 12 = .ok (.bipush 20, 2) := by decide +kernel
theorem dX10_person_14 : decode cX10_person 14 = .ok (.invokestatic 157, 3) := by decide +kernel
theorem dX10_person_17 : decode cX10_person 17 = .ok (.ifCond .ne 5, 3) := by decide +kernel
theorem dX10_person_20 : decode cX10_person 20 = .ok (.iconst 0, 1) := by decide +kernel
theorem dX10_person_21 : decode cX10_person 21 = .ok (.ireturn, 1) := by decide +kernel
theorem dX10_person_22 : decode cX10_person 22 = .ok (.aload_n 0, 1) := by decide +kernel
theorem dX10_person_23 : decode cX10_person 23 = .ok (.aload_n 0, 1) := by decide +kernel
theorem dX10_person_24 : decode cX10_person 24 = .ok (.getfield 146, 3) := by decide +kernel
theorem dX10_person_27 : decode cX10_person 27 = .ok (.iconst 1, 1) := by decide +kernel
theorem dX10_person_28 : decode cX10_person 28 = .ok (.iload_n 1, 1) := by decide +kernel
theorem dX10_person_29 : decode cX10_person 29 = .ok (.ishl, 1) := by decide +kernel
theorem dX10_person_30 : decode cX10_person 30 = .ok (.ior, 1) := by decide +kernel
theorem dX10_person_31 : decode cX10_person 31 = .ok (.putfield 146, 3) := by decide +kernel
theorem dX10_person_34 : decode cX10_person 34 = .ok (.aload_n 0, 1) := by decide +kernel
theorem dX10_person_35 : decode cX10_person 35 = .ok (.getfield 25, 3) := by decide +kernel
theorem dX10_person_38 : decode cX10_person 38 = .ok (.iload_n 1, 1) := by decide +kernel
theorem dX10_person_39 : decode cX10_person 39 = .ok (.iload_n 2, 1) := by decide +kernel
theorem dX10_person_40 : decode cX10_person 40 = .ok (.iastore, 1) := by decide +kernel
theorem dX10_person_41 : decode cX10_person 41 = .ok (.iconst 1, 1) := by decide +kernel
theorem dX10_person_42 : decode cX10_person 42 = .ok (.ireturn, 1) := by decide +kernel
theorem dX10_personIs_0 : decode cX10_personIs 0 = .ok (.aload_n 0, 1) := by decide +kernel
theorem dX10_personIs_1 : decode cX10_personIs 1 = .ok (.iload_n 1, 1) := by decide +kernel
theorem dX10_personIs_2 : decode cX10_personIs 2 = .ok (.invokevirtual 307, 3) := by decide +kernel
theorem dX10_personIs_5 : decode cX10_personIs 5 = .ok (.ifCond .ne 5, 3) := by decide +kernel
theorem dX10_personIs_8 : decode cX10_personIs 8 = .ok (.iconst (-1), 1) := by decide +kernel
theorem dX10_personIs_9 : decode cX10_personIs 9 = .ok (.ireturn, 1) := by decide +kernel
theorem dX10_rain_0 : decode cX10_rain 0 = .ok (.iload_n 1, 1) := by decide +kernel
theorem dX10_rain_1 : decode cX10_rain 1 = .ok (.iconst 0, 1) := by decide +kernel
theorem dX10_rain_2 : decode cX10_rain 2 = .ok (.bipush 10, 2) := by decide +kernel
theorem dX10_rain_4 : decode cX10_rain 4 = .ok (.invokestatic 157, 3) := by decide +kernel
theorem dX10_rain_7 : decode cX10_rain 7 = .ok (.ifCond .ne 5, 3) := by decide +kernel
theorem dX10_rain_10 : decode cX10_rain 10 = .ok (.iconst 0, 1) := by decide +kernel
theorem dX10_rain_11 : decode cX10_rain 11 = .ok (.ireturn, 1) := by decide +kernel
theorem dX10_rain_12 : decode cX10_rain 12 = .ok (.aload_n 0, 1) := by decide +kernel
theorem dX10_rain_13 : decode cX10_rain 13 = .ok (.iload_n 1, 1) := by decide +kernel
theorem dX10_rain_14 : decode cX10_rain 14 = .ok (.putfield 161, 3) := by decide +kernel
theorem dX10_rain_17 : decode cX10_rain 17 = .ok (.iconst 1, 1) := by decide +kernel
theorem dX10_rain_18 : decode cX10_rain 18 = .ok (.ireturn, 1) := by decide +kernel
theorem dX10_seed_0 : decode cX10_seed 0 = .ok (.iload_n 1, 1) := by decide +kernel
theorem dX10_seed_1 : decode cX10_seed 1 = .ok (.iconst 0, 1) := by decide +kernel
theorem dX10_seed_2 : decode cX10_seed 2 = .ok (.ldc_w 434, 3) := by decide +kernel
theorem dX10_seed_5 : decode cX10_seed 5 = .ok (.invokestatic 157, 3) := by decide +kernel
theorem dX10_seed_8 : decode cX10_seed 8 = .ok (.ifCond .ne 5, 3) := by decide +kernel
theorem dX10_seed_11 : decode cX10_seed 11 = .ok (.iconst 0, 1) := by decide +kernel
theorem dX10_seed_12 : decode cX10_seed 12 = .ok (.ireturn, 1) := by decide +kernel
theorem dX10_seed_13 : decode cX10_seed 13 = .ok (.aload_n 0, 1) := by decide +kernel
theorem dX10_seed_14 : decode cX10_seed 14 = .ok (.getfield 7, 3) := by decide +kernel
theorem dX10_seed_17 : decode cX10_seed 17 = .ok (.bipush 14, 2) := by decide +kernel
theorem dX10_seed_19 : decode cX10_seed 19 = .ok (.iload_n 1, 1) := by decide +kernel
theorem dX10_seed_20 : decode cX10_seed 20 = .ok (.iastore, 1) := by decide +kernel
theorem dX10_seed_21 : decode cX10_seed 21 = .ok (.iconst 1, 1) := by decide +kernel
theorem dX10_seed_22 : decode cX10_seed 22 = .ok (.ireturn, 1) := by decide +kernel
theorem dX10_share_0 : decode cX10_share 0 = .ok (.iload_n 1, 1) := by decide +kernel
theorem dX10_share_1 : decode cX10_share 1 = .ok (.iconst 1, 1) := by decide +kernel
theorem dX10_share_2 : decode cX10_share 2 = .ok (.sipush 1023, 3) := by decide +kernel
theorem dX10_share_5 : decode cX10_share 5 = .ok (.invokestatic 157, 3) := by decide +kernel
theorem dX10_share_8 : decode cX10_share 8 = .ok (.ifCond .eq 36, 3) := by decide +kernel
theorem dX10_share_11 : decode cX10_share 11 = .ok (.iload_n 1, 1) := by decide +kernel
theorem dX10_share_12 : decode cX10_share 12 = .ok (.invokestatic 297, 3) := by decide +kernel
theorem dX10_share_15 : decode cX10_share 15 = .ok (.iconst 5, 1) := by decide +kernel
theorem dX10_share_16 : decode cX10_share 16 = .ok (.if_icmp .gt 28, 3) := by decide +kernel
theorem dX10_share_19 : decode cX10_share 19 = .ok (.aload_n 0, 1) := by decide +kernel
theorem dX10_share_20 : decode cX10_share 20 = .ok (.iload_n 1, 1) := by decide +kernel
theorem dX10_share_21 : decode cX10_share 21 = .ok (.invokevirtual 388, 3) := by decide +kernel
theorem dX10_share_24 : decode cX10_share 24 = .ok (.ifCond .eq 20, 3) := by decide +kernel
theorem dX10_share_44 : decode cX10_share 44 = .ok (.ldc_w 384, 3) := by decide +kernel
theorem dX10_share_47 : decode cX10_share 47 = .ok (.ireturn, 1) := by decide +kernel
theorem dX10_spoilt_0 : decode cX10_spoilt 0 = .ok (.aload_n 0, 1) := by decide +kernel
theorem dX10_spoilt_1 : decode cX10_spoilt 1 = .ok (.iload_n 1, 1) := by decide +kernel
theorem dX10_spoilt_2 : decode cX10_spoilt 2 = .ok (.invokevirtual 381, 3) := by decide +kernel
theorem dX10_spoilt_5 : decode cX10_spoilt 5 = .ok (.ifCond .eq 29, 3) := by decide +kernel
theorem dX10_spoilt_34 : decode cX10_spoilt 34 = .ok (.ldc_w 384, 3) := by decide +kernel
theorem dX10_spoilt_37 : decode cX10_spoilt 37 = .ok (.ireturn, 1) := by decide +kernel
theorem dX10_standIn_0 : decode cX10_standIn 0 = .ok (.aload_n 0, 1) := by decide +kernel
theorem dX10_standIn_1 : decode cX10_standIn 1 = .ok (.iload_n 1, 1) := by decide +kernel
theorem dX10_standIn_2 : decode cX10_standIn 2 = .ok (.invokevirtual 381, 3) := by decide +kernel
theorem dX10_standIn_5 : decode cX10_standIn 5 = .ok (.ifCond .eq 45, 3) := by decide +kernel
theorem dX10_standIn_50 : decode cX10_standIn 50 = .ok (.ldc_w 384, 3) := by decide +kernel
theorem dX10_standIn_53 : decode cX10_standIn 53 = .ok (.ireturn, 1) := by decide +kernel
theorem dX10_stopped_0 : decode cX10_stopped 0 = .ok (.iload_n 1, 1) := by decide +kernel
theorem dX10_stopped_1 : decode cX10_stopped 1 = .ok (.iconst 1, 1) := by decide +kernel
theorem dX10_stopped_2 : decode cX10_stopped 2 = .ok (.bipush 12, 2) := by decide +kernel
theorem dX10_stopped_4 : decode cX10_stopped 4 = .ok (.invokestatic 157, 3) := by decide +kernel
theorem dX10_stopped_7 : decode cX10_stopped 7 = .ok (.ifCond .eq 11, 3) := by decide +kernel
theorem dX10_stopped_10 : decode cX10_stopped 10 = .ok (.iload_n 1, 1) := by decide +kernel
theorem dX10_stopped_11 : decode cX10_stopped 11 = .ok (.aload_n 0, 1) := by decide +kernel
theorem dX10_stopped_12 : decode cX10_stopped 12 = .ok (.getfield 164, 3) := by decide +kernel
theorem dX10_stopped_15 : decode cX10_stopped 15 = .ok (.if_icmp .le 5, 3) := by decide +kernel
theorem dX10_stopped_18 : decode cX10_stopped 18 = .ok (.iconst (-1), 1) := by decide +kernel
theorem dX10_stopped_19 : decode cX10_stopped 19 = .ok (.ireturn, 1) := by decide +kernel
theorem dX10_together_0 : decode cX10_together 0 = .ok (.aload_n 0, 1) := by decide +kernel
theorem dX10_together_1 : decode cX10_together 1 = .ok (.iload_n 1, 1) := by decide +kernel
theorem dX10_together_2 : decode cX10_together 2 = .ok (.invokevirtual 381, 3) := by decide +kernel
theorem dX10_together_5 : decode cX10_together 5 = .ok (.ifCond .eq 23, 3) := by decide +kernel
theorem dX10_together_28 : decode cX10_together 28 = .ok (.ldc_w 384, 3) := by decide +kernel
theorem dX10_together_31 : decode cX10_together 31 = .ok (.ireturn, 1) := by decide +kernel
theorem dX10_trial_0 : decode cX10_trial 0 = .ok (.aload_n 0, 1) := by decide +kernel
theorem dX10_trial_1 : decode cX10_trial 1 = .ok (.getfield 7, 3) := by decide +kernel
theorem dX10_trial_4 : decode cX10_trial 4 = .ok (.aload_n 0, 1) := by decide +kernel
theorem dX10_trial_5 : decode cX10_trial 5 = .ok (.getfield 13, 3) := by decide +kernel
theorem dX10_trial_8 : decode cX10_trial 8 = .ok (.bipush 15, 2) := by decide +kernel
theorem dX10_trial_10 : decode cX10_trial 10 = .ok (.invokestatic 359, 3) := by decide +kernel
theorem dX10_trial_13 : decode cX10_trial 13 = .ok (.aload_n 0, 1) := by decide +kernel
theorem dX10_trial_14 : decode cX10_trial 14 = .ok (.iload_n 1, 1) := by decide +kernel
theorem dX10_trial_15 : decode cX10_trial 15 = .ok (.invokevirtual 363, 3) := by decide +kernel
theorem dX10_trial_18 : decode cX10_trial 18 = .ok (.aload_n 0, 1) := by decide +kernel
theorem dX10_trial_19 : decode cX10_trial 19 = .ok (.getfield 7, 3) := by decide +kernel
theorem dX10_trial_22 : decode cX10_trial 22 = .ok (.bipush 12, 2) := by decide +kernel
theorem dX10_trial_24 : decode cX10_trial 24 = .ok (.iaload, 1) := by decide +kernel
theorem dX10_trial_25 : decode cX10_trial 25 = .ok (.aload_n 0, 1) := by decide +kernel
theorem dX10_trial_26 : decode cX10_trial 26 = .ok (.getfield 13, 3) := by decide +kernel
theorem dX10_trial_29 : decode cX10_trial 29 = .ok (.bipush 12, 2) := by decide +kernel
theorem dX10_trial_31 : decode cX10_trial 31 = .ok (.iaload, 1) := by decide +kernel
theorem dX10_trial_32 : decode cX10_trial 32 = .ok (.isub, 1) := by decide +kernel
theorem dX10_trial_33 : decode cX10_trial 33 = .ok (.istore_n 2, 1) := by decide +kernel
theorem dX10_trial_34 : decode cX10_trial 34 = .ok (.aload_n 0, 1) := by decide +kernel
theorem dX10_trial_35 : decode cX10_trial 35 = .ok (.getfield 13, 3) := by decide +kernel
theorem dX10_trial_38 : decode cX10_trial 38 = .ok (.aload_n 0, 1) := by decide +kernel
theorem dX10_trial_39 : decode cX10_trial 39 = .ok (.getfield 7, 3) := by decide +kernel
theorem dX10_trial_42 : decode cX10_trial 42 = .ok (.bipush 15, 2) := by decide +kernel
theorem dX10_trial_44 : decode cX10_trial 44 = .ok (.invokestatic 359, 3) := by decide +kernel
theorem dX10_trial_47 : decode cX10_trial 47 = .ok (.iload_n 2, 1) := by decide +kernel
theorem dX10_trial_48 : decode cX10_trial 48 = .ok (.ireturn, 1) := by decide +kernel
theorem dX10_tried_0 : decode cX10_tried 0 = .ok (.iload_n 2, 1) := by decide +kernel
theorem dX10_tried_1 : decode cX10_tried 1 = .ok (.iconst 0, 1) := by decide +kernel
theorem dX10_tried_2 : decode cX10_tried 2 = .ok (.iconst 4, 1) := by decide +kernel
theorem dX10_tried_3 : decode cX10_tried 3 = .ok (.invokestatic 157, 3) := by decide +kernel
theorem dX10_tried_6 : decode cX10_tried 6 = .ok (.ifCond .ne 47, 3) := by decide +kernel
theorem dX10_tried_9 : decode cX10_tried 9 = .ok (.iload_n 2, 1) := by decide +kernel
theorem dX10_tried_10 : decode cX10_tried 10 = .ok (.bipush 10, 2) := by decide +kernel
theorem dX10_tried_12 : decode cX10_tried 12 = .ok (.bipush 21, 2) := by decide +kernel
theorem dX10_tried_14 : decode cX10_tried 14 = .ok (.invokestatic 157, 3) := by decide +kernel
theorem dX10_tried_17 : decode cX10_tried 17 = .ok (.ifCond .eq 14, 3) := by decide +kernel
theorem dX10_tried_20 : decode cX10_tried 20 = .ok (.aload_n 0, 1) := by decide +kernel
theorem dX10_tried_21 : decode cX10_tried 21 = .ok (.iload_n 2, 1) := by decide +kernel
theorem dX10_tried_22 : decode cX10_tried 22 = .ok (.bipush 10, 2) := by decide +kernel
theorem dX10_tried_24 : decode cX10_tried 24 = .ok (.isub, 1) := by decide +kernel
theorem dX10_tried_25 : decode cX10_tried 25 = .ok (.invokevirtual 331, 3) := by decide +kernel
theorem dX10_tried_28 : decode cX10_tried 28 = .ok (.ifCond .ne 25, 3) := by decide +kernel
theorem dX10_tried_31 : decode cX10_tried 31 = .ok (.iload_n 2, 1) := by decide +kernel
theorem dX10_tried_32 : decode cX10_tried 32 = .ok (.bipush 30, 2) := by decide +kernel
theorem dX10_tried_34 : decode cX10_tried 34 = .ok (.bipush 39, 2) := by decide +kernel
theorem dX10_tried_36 : decode cX10_tried 36 = .ok (.invokestatic 157, 3) := by decide +kernel
theorem dX10_tried_39 : decode cX10_tried 39 = .ok (.ifCond .eq 18, 3) := by decide +kernel
theorem dX10_tried_42 : decode cX10_tried 42 = .ok (.aload_n 0, 1) := by decide +kernel
theorem dX10_tried_43 : decode cX10_tried 43 = .ok (.iload_n 2, 1) := by decide +kernel
theorem dX10_tried_44 : decode cX10_tried 44 = .ok (.bipush 30, 2) := by decide +kernel
theorem dX10_tried_46 : decode cX10_tried 46 = .ok (.isub, 1) := by decide +kernel
theorem dX10_tried_47 : decode cX10_tried 47 = .ok (.invokevirtual 307, 3) := by decide +kernel
theorem dX10_tried_50 : decode cX10_tried 50 = .ok (.ifCond .eq 7, 3) := by decide +kernel
theorem dX10_tried_53 : decode cX10_tried 53 = .ok (.iconst 1, 1) := by decide +kernel
theorem dX10_tried_54 : decode cX10_tried 54 = .ok (.goto 4, 3) := by decide +kernel
theorem dX10_tried_57 : decode cX10_tried 57 = .ok (.iconst 0, 1) := by decide +kernel
theorem dX10_tried_58 : decode cX10_tried 58 = .ok (.istore_n 3, 1) := by decide +kernel
theorem dX10_tried_59 : decode cX10_tried 59 = .ok (.iload_n 1, 1) := by decide +kernel
theorem dX10_tried_60 : decode cX10_tried 60 = .ok (.invokestatic 366, 3) := by decide +kernel
theorem dX10_tried_63 : decode cX10_tried 63 = .ok (.ifCond .eq 7, 3) := by decide +kernel
theorem dX10_tried_66 : decode cX10_tried 66 = .ok (.iload_n 3, 1) := by decide +kernel
theorem dX10_tried_67 : decode cX10_tried 67 = .ok (.ifCond .ne 5, 3) := by decide +kernel
theorem dX10_tried_70 : decode cX10_tried 70 = .ok (.iconst (-1), 1) := by decide +kernel
theorem dX10_tried_71 : decode cX10_tried 71 = .ok (.ireturn, 1) := by decide +kernel
theorem dX10_tried_72 : decode cX10_tried 72 = .ok (.aload_n 0, 1) := by decide +kernel
theorem dX10_tried_73 : decode cX10_tried 73 = .ok (.sipush 1023, 3) := by decide +kernel
theorem dX10_tried_76 : decode cX10_tried 76 = .ok (.invokevirtual 369, 3) := by decide +kernel
theorem dX10_tried_79 : decode cX10_tried 79 = .ok (.aload_n 0, 1) := by decide +kernel
theorem dX10_tried_80 : decode cX10_tried 80 = .ok (.getfield 7, 3) := by decide +kernel
theorem dX10_tried_83 : decode cX10_tried 83 = .ok (.aload_n 0, 1) := by decide +kernel
theorem dX10_tried_84 : decode cX10_tried 84 = .ok (.getfield 13, 3) := by decide +kernel
theorem dX10_tried_87 : decode cX10_tried 87 = .ok (.bipush 15, 2) := by decide +kernel
theorem dX10_tried_89 : decode cX10_tried 89 = .ok (.invokestatic 359, 3) := by decide +kernel
theorem dX10_tried_92 : decode cX10_tried 92 = .ok (.aload_n 0, 1) := by decide +kernel
theorem dX10_tried_93 : decode cX10_tried 93 = .ok (.iload_n 1, 1) := by decide +kernel
theorem dX10_tried_94 : decode cX10_tried 94 = .ok (.invokevirtual 363, 3) := by decide +kernel
theorem dX10_tried_97 : decode cX10_tried 97 = .ok (.iload_n 2, 1) := by decide +kernel
theorem dX10_tried_98 : decode cX10_tried 98 = .ok (.tableswitch 90 0 4 #[34, 54, 63, 72, 81], 34) := by decide +kernel
theorem dX10_tried_132 : decode cX10_tried 132 = .ok (.aload_n 0, 1) := by decide +kernel
theorem dX10_tried_133 : decode cX10_tried 133 = .ok (.getfield 7, 3) := by decide +kernel
theorem dX10_tried_136 : decode cX10_tried 136 = .ok (.bipush 12, 2) := by decide +kernel
theorem dX10_tried_138 : decode cX10_tried 138 = .ok (.iaload, 1) := by decide +kernel
theorem dX10_tried_139 : decode cX10_tried 139 = .ok (.aload_n 0, 1) := by decide +kernel
theorem dX10_tried_140 : decode cX10_tried 140 = .ok (.getfield 13, 3) := by decide +kernel
theorem dX10_tried_143 : decode cX10_tried 143 = .ok (.bipush 12, 2) := by decide +kernel
theorem dX10_tried_145 : decode cX10_tried 145 = .ok (.iaload, 1) := by decide +kernel
theorem dX10_tried_146 : decode cX10_tried 146 = .ok (.isub, 1) := by decide +kernel
theorem dX10_tried_147 : decode cX10_tried 147 = .ok (.istore 4, 2) := by decide +kernel
theorem dX10_tried_149 : decode cX10_tried 149 = .ok (.goto 68, 3) := by decide +kernel
theorem dX10_tried_152 : decode cX10_tried 152 = .ok (.aload_n 0, 1) := by decide +kernel
theorem dX10_tried_153 : decode cX10_tried 153 = .ok (.getfield 335, 3) := by decide +kernel
theorem dX10_tried_156 : decode cX10_tried 156 = .ok (.istore 4, 2) := by decide +kernel
theorem dX10_tried_158 : decode cX10_tried 158 = .ok (.goto 59, 3) := by decide +kernel
theorem dX10_tried_161 : decode cX10_tried 161 = .ok (.aload_n 0, 1) := by decide +kernel
theorem dX10_tried_162 : decode cX10_tried 162 = .ok (.invokevirtual 350, 3) := by decide +kernel
theorem dX10_tried_165 : decode cX10_tried 165 = .ok (.istore 4, 2) := by decide +kernel
theorem dX10_tried_167 : decode cX10_tried 167 = .ok (.goto 50, 3) := by decide +kernel
theorem dX10_tried_170 : decode cX10_tried 170 = .ok (.aload_n 0, 1) := by decide +kernel
theorem dX10_tried_171 : decode cX10_tried 171 = .ok (.getfield 322, 3) := by decide +kernel
theorem dX10_tried_174 : decode cX10_tried 174 = .ok (.istore 4, 2) := by decide +kernel
theorem dX10_tried_176 : decode cX10_tried 176 = .ok (.goto 41, 3) := by decide +kernel
theorem dX10_tried_179 : decode cX10_tried 179 = .ok (.aload_n 0, 1) := by decide +kernel
theorem dX10_tried_180 : decode cX10_tried 180 = .ok (.getfield 347, 3) := by decide +kernel
theorem dX10_tried_183 : decode cX10_tried 183 = .ok (.istore 4, 2) := by decide +kernel
theorem dX10_tried_185 : decode cX10_tried 185 = .ok (.goto 32, 3) := by decide +kernel
theorem dX10_tried_217 : decode cX10_tried 217 = .ok (.aload_n 0, 1) := by decide +kernel
theorem dX10_tried_218 : decode cX10_tried 218 = .ok (.getfield 13, 3) := by decide +kernel
theorem dX10_tried_221 : decode cX10_tried 221 = .ok (.aload_n 0, 1) := by decide +kernel
theorem dX10_tried_222 : decode cX10_tried 222 = .ok (.getfield 7, 3) := by decide +kernel
theorem dX10_tried_225 : decode cX10_tried 225 = .ok (.bipush 15, 2) := by decide +kernel
theorem dX10_tried_227 : decode cX10_tried 227 = .ok (.invokestatic 359, 3) := by decide +kernel
theorem dX10_tried_230 : decode cX10_tried 230 = .ok (.iload 4, 2) := by decide +kernel
theorem dX10_tried_232 : decode cX10_tried 232 = .ok (.ireturn, 1) := by decide +kernel
theorem dX10_types_0 : decode cX10_types 0 = .ok (.iconst 3, 1) := by decide +kernel
theorem dX10_types_1 : decode cX10_types 1 = .ok (.istore_n 2, 1) := by decide +kernel
theorem dX10_types_2 : decode cX10_types 2 = .ok (.iload_n 2, 1) := by decide +kernel
theorem dX10_types_3 : decode cX10_types 3 = .ok (.ifCond .lt 35, 3) := by decide +kernel
theorem dX10_types_6 : decode cX10_types 6 = .ok (.aload_n 0, 1) := by decide +kernel
theorem dX10_types_7 : decode cX10_types 7 = .ok (.getfield 43, 3) := by decide +kernel
theorem dX10_types_10 : decode cX10_types 10 = .ok (.aload_n 0, 1) := by decide +kernel
theorem dX10_types_11 : decode cX10_types 11 = .ok (.getfield 164, 3) := by decide +kernel
theorem dX10_types_14 : decode cX10_types 14 = .ok (.iload_n 1, 1) := by decide +kernel
theorem dX10_types_15 : decode cX10_types 15 = .ok (.bipush 8, 2) := by decide +kernel
theorem dX10_types_17 : decode cX10_types 17 = .ok (.iload_n 2, 1) := by decide +kernel
theorem dX10_types_18 : decode cX10_types 18 = .ok (.imul, 1) := by decide +kernel
theorem dX10_types_19 : decode cX10_types 19 = .ok (.ishr, 1) := by decide +kernel
theorem dX10_types_20 : decode cX10_types 20 = .ok (.i2b, 1) := by decide +kernel
theorem dX10_types_21 : decode cX10_types 21 = .ok (.bastore, 1) := by decide +kernel
theorem dX10_types_22 : decode cX10_types 22 = .ok (.aload_n 0, 1) := by decide +kernel
theorem dX10_types_23 : decode cX10_types 23 = .ok (.aload_n 0, 1) := by decide +kernel
theorem dX10_types_24 : decode cX10_types 24 = .ok (.getfield 164, 3) := by decide +kernel
theorem dX10_types_27 : decode cX10_types 27 = .ok (.iconst 1, 1) := by decide +kernel
theorem dX10_types_28 : decode cX10_types 28 = .ok (.iadd, 1) := by decide +kernel
theorem dX10_types_29 : decode cX10_types 29 = .ok (.putfield 164, 3) := by decide +kernel
theorem dX10_types_32 : decode cX10_types 32 = .ok (.iinc 2 (-1), 3) := by decide +kernel
theorem dX10_types_35 : decode cX10_types 35 = .ok (.goto (-33), 3) := by decide +kernel
theorem dX10_types_38 : decode cX10_types 38 = .ok (.return_, 1) := by decide +kernel
theorem dX10_undo_0 : decode cX10_undo 0 = .ok (.aload_n 0, 1) := by decide +kernel
theorem dX10_undo_1 : decode cX10_undo 1 = .ok (.getfield 435, 3) := by decide +kernel
theorem dX10_undo_4 : decode cX10_undo 4 = .ok (.ifCond .ne 5, 3) := by decide +kernel
theorem dX10_undo_7 : decode cX10_undo 7 = .ok (.iconst 0, 1) := by decide +kernel
theorem dX10_undo_8 : decode cX10_undo 8 = .ok (.ireturn, 1) := by decide +kernel
theorem dX10_undoneAll_0 : decode cX10_undoneAll 0 = .ok (.iconst 0, 1) := by decide +kernel
theorem dX10_undoneAll_1 : decode cX10_undoneAll 1 = .ok (.istore_n 1, 1) := by decide +kernel
theorem dX10_undoneAll_2 : decode cX10_undoneAll 2 = .ok (.iconst 0, 1) := by decide +kernel
theorem dX10_undoneAll_3 : decode cX10_undoneAll 3 = .ok (.istore_n 2, 1) := by decide +kernel
theorem dX10_undoneAll_4 : decode cX10_undoneAll 4 = .ok (.iload_n 2, 1) := by decide +kernel
theorem dX10_undoneAll_5 : decode cX10_undoneAll 5 = .ok (.bipush 12, 2) := by decide +kernel
theorem dX10_undoneAll_7 : decode cX10_undoneAll 7 = .ok (.if_icmp .ge 30, 3) := by decide +kernel
theorem dX10_undoneAll_10 : decode cX10_undoneAll 10 = .ok (.iload_n 1, 1) := by decide +kernel
theorem dX10_undoneAll_11 : decode cX10_undoneAll 11 = .ok (.aload_n 0, 1) := by decide +kernel
theorem dX10_undoneAll_12 : decode cX10_undoneAll 12 = .ok (.iload_n 2, 1) := by decide +kernel
theorem dX10_undoneAll_13 : decode cX10_undoneAll 13 = .ok (.invokevirtual 331, 3) := by decide +kernel
theorem dX10_undoneAll_16 : decode cX10_undoneAll 16 = .ok (.ifCond .eq 12, 3) := by decide +kernel
theorem dX10_undoneAll_28 : decode cX10_undoneAll 28 = .ok (.iconst 0, 1) := by decide +kernel
theorem dX10_undoneAll_29 : decode cX10_undoneAll 29 = .ok (.iadd, 1) := by decide +kernel
theorem dX10_undoneAll_30 : decode cX10_undoneAll 30 = .ok (.istore_n 1, 1) := by decide +kernel
theorem dX10_undoneAll_31 : decode cX10_undoneAll 31 = .ok (.iinc 2 1, 3) := by decide +kernel
theorem dX10_undoneAll_34 : decode cX10_undoneAll 34 = .ok (.goto (-30), 3) := by decide +kernel
theorem dX10_undoneAll_37 : decode cX10_undoneAll 37 = .ok (.iload_n 1, 1) := by decide +kernel
theorem dX10_undoneAll_38 : decode cX10_undoneAll 38 = .ok (.ireturn, 1) := by decide +kernel
theorem dX10_unitsOf_0 : decode cX10_unitsOf 0 = .ok (.aload_n 0, 1) := by decide +kernel
theorem dX10_unitsOf_1 : decode cX10_unitsOf 1 = .ok (.iload_n 1, 1) := by decide +kernel
theorem dX10_unitsOf_2 : decode cX10_unitsOf 2 = .ok (.invokevirtual 307, 3) := by decide +kernel
theorem dX10_unitsOf_5 : decode cX10_unitsOf 5 = .ok (.ifCond .eq 43, 3) := by decide +kernel
theorem dX10_unitsOf_48 : decode cX10_unitsOf 48 = .ok (.iconst 0, 1) := by decide +kernel
theorem dX10_unitsOf_49 : decode cX10_unitsOf 49 = .ok (.ireturn, 1) := by decide +kernel
theorem dX10_when_0 : decode cX10_when 0 = .ok (.aload_n 0, 1) := by decide +kernel
theorem dX10_when_1 : decode cX10_when 1 = .ok (.iload_n 1, 1) := by decide +kernel
theorem dX10_when_2 : decode cX10_when 2 = .ok (.invokevirtual 307, 3) := by decide +kernel
theorem dX10_when_5 : decode cX10_when 5 = .ok (.ifCond .eq 33, 3) := by decide +kernel
theorem dX10_when_38 : decode cX10_when 38 = .ok (.ldc_w 384, 3) := by decide +kernel
theorem dX10_when_41 : decode cX10_when 41 = .ok (.ireturn, 1) := by decide +kernel
theorem dX1_init_0 : decode cX1_init 0 = .ok (.aload_n 0, 1) := by decide +kernel
theorem dX1_init_1 : decode cX1_init 1 = .ok (.invokespecial 3, 3) := by decide +kernel
theorem dX1_init_4 : decode cX1_init 4 = .ok (.aload_n 0, 1) := by decide +kernel
theorem dX1_init_5 : decode cX1_init 5 = .ok (.sipush 240, 3) := by decide +kernel
theorem dX1_init_8 : decode cX1_init 8 = .ok (.newarray .int, 2) := by decide +kernel
theorem dX1_init_10 : decode cX1_init 10 = .ok (.putfield 11, 3) := by decide +kernel
theorem dX1_init_13 : decode cX1_init 13 = .ok (.aload_n 0, 1) := by decide +kernel
theorem dX1_init_14 : decode cX1_init 14 = .ok (.bipush 16, 2) := by decide +kernel
theorem dX1_init_16 : decode cX1_init 16 = .ok (.newarray .int, 2) := by decide +kernel
theorem dX1_init_18 : decode cX1_init 18 = .ok (.putfield 15, 3) := by decide +kernel
theorem dX1_init_21 : decode cX1_init 21 = .ok (.aload_n 0, 1) := by decide +kernel
theorem dX1_init_22 : decode cX1_init 22 = .ok (.bipush 16, 2) := by decide +kernel
theorem dX1_init_24 : decode cX1_init 24 = .ok (.newarray .int, 2) := by decide +kernel
theorem dX1_init_26 : decode cX1_init 26 = .ok (.putfield 18, 3) := by decide +kernel
theorem dX1_init_29 : decode cX1_init 29 = .ok (.aload_n 0, 1) := by decide +kernel
theorem dX1_init_30 : decode cX1_init 30 = .ok (.bipush 16, 2) := by decide +kernel
theorem dX1_init_32 : decode cX1_init 32 = .ok (.newarray .int, 2) := by decide +kernel
theorem dX1_init_34 : decode cX1_init 34 = .ok (.putfield 21, 3) := by decide +kernel
theorem dX1_init_37 : decode cX1_init 37 = .ok (.aload_n 0, 1) := by decide +kernel
theorem dX1_init_38 : decode cX1_init 38 = .ok (.bipush 16, 2) := by decide +kernel
theorem dX1_init_40 : decode cX1_init 40 = .ok (.newarray .int, 2) := by decide +kernel
theorem dX1_init_42 : decode cX1_init 42 = .ok (.putfield 24, 3) := by decide +kernel
theorem dX1_init_45 : decode cX1_init 45 = .ok (.aload_n 0, 1) := by decide +kernel
theorem dX1_init_46 : decode cX1_init 46 = .ok (.bipush 8, 2) := by decide +kernel
theorem dX1_init_48 : decode cX1_init 48 = .ok (.newarray .int, 2) := by decide +kernel
theorem dX1_init_50 : decode cX1_init 50 = .ok (.putfield 27, 3) := by decide +kernel
theorem dX1_init_53 : decode cX1_init 53 = .ok (.aload_n 0, 1) := by decide +kernel
theorem dX1_init_54 : decode cX1_init 54 = .ok (.bipush 32, 2) := by decide +kernel
theorem dX1_init_56 : decode cX1_init 56 = .ok (.newarray .int, 2) := by decide +kernel
theorem dX1_init_58 : decode cX1_init 58 = .ok (.putfield 30, 3) := by decide +kernel
theorem dX1_init_61 : decode cX1_init 61 = .ok (.return_, 1) := by decide +kernel
theorem dX1_setDay_0 : decode cX1_setDay 0 = .ok (.aload_n 0, 1) := by decide +kernel
theorem dX1_setDay_1 : decode cX1_setDay 1 = .ok (.getfield 27, 3) := by decide +kernel
theorem dX1_setDay_4 : decode cX1_setDay 4 = .ok (.iconst 3, 1) := by decide +kernel
theorem dX1_setDay_5 : decode cX1_setDay 5 = .ok (.iload_n 1, 1) := by decide +kernel
