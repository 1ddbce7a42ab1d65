theorem dJ6_bitCount_0f7a4_0 : decode cJ6_bitCount_0f7a4 0 = .ok (.iload_n 0, 1) := by decide +kernel
theorem dJ6_bitCount_0f7a4_1 : decode cJ6_bitCount_0f7a4 1 = .ok (.iload_n 0, 1) := by decide +kernel
theorem dJ6_bitCount_0f7a4_2 : decode cJ6_bitCount_0f7a4 2 = .ok (.iconst 1, 1) := by decide +kernel
theorem dJ6_bitCount_0f7a4_3 : decode cJ6_bitCount_0f7a4 3 = .ok (.iushr, 1) := by decide +kernel
theorem dJ6_bitCount_0f7a4_4 : decode cJ6_bitCount_0f7a4 4 = .ok (.ldc_w 265, 3) := by decide +kernel
theorem dJ6_bitCount_0f7a4_7 : decode cJ6_bitCount_0f7a4 7 = .ok (.iand, 1) := by decide +kernel
theorem dJ6_bitCount_0f7a4_8 : decode cJ6_bitCount_0f7a4 8 = .ok (.isub, 1) := by decide +kernel
theorem dJ6_bitCount_0f7a4_9 : decode cJ6_bitCount_0f7a4 9 = .ok (.istore_n 0, 1) := by decide +kernel
theorem dJ6_bitCount_0f7a4_10 : decode cJ6_bitCount_0f7a4 10 = .ok (.iload_n 0, 1) := by decide +kernel
theorem dJ6_bitCount_0f7a4_11 : decode cJ6_bitCount_0f7a4 11 = .ok (.ldc_w 266, 3) := by decide +kernel
theorem dJ6_bitCount_0f7a4_14 : decode cJ6_bitCount_0f7a4 14 = .ok (.iand, 1) := by decide +kernel
theorem dJ6_bitCount_0f7a4_15 : decode cJ6_bitCount_0f7a4 15 = .ok (.iload_n 0, 1) := by decide +kernel
theorem dJ6_bitCount_0f7a4_16 : decode cJ6_bitCount_0f7a4 16 = .ok (.iconst 2, 1) := by decide +kernel
theorem dJ6_bitCount_0f7a4_17 : decode cJ6_bitCount_0f7a4 17 = .ok (.iushr, 1) := by decide +kernel
theorem dJ6_bitCount_0f7a4_18 : decode cJ6_bitCount_0f7a4 18 = .ok (.ldc_w 266, 3) := by decide +kernel
theorem dJ6_bitCount_0f7a4_21 : decode cJ6_bitCount_0f7a4 21 = .ok (.iand, 1) := by decide +kernel
theorem dJ6_bitCount_0f7a4_22 : decode cJ6_bitCount_0f7a4 22 = .ok (.iadd, 1) := by decide +kernel
theorem dJ6_bitCount_0f7a4_23 : decode cJ6_bitCount_0f7a4 23 = .ok (.istore_n 0, 1) := by decide +kernel
theorem dJ6_bitCount_0f7a4_24 : decode cJ6_bitCount_0f7a4 24 = .ok (.iload_n 0, 1) := by decide +kernel
theorem dJ6_bitCount_0f7a4_25 : decode cJ6_bitCount_0f7a4 25 = .ok (.iload_n 0, 1) := by decide +kernel
theorem dJ6_bitCount_0f7a4_26 : decode cJ6_bitCount_0f7a4 26 = .ok (.iconst 4, 1) := by decide +kernel
theorem dJ6_bitCount_0f7a4_27 : decode cJ6_bitCount_0f7a4 27 = .ok (.iushr, 1) := by decide +kernel
theorem dJ6_bitCount_0f7a4_28 : decode cJ6_bitCount_0f7a4 28 = .ok (.iadd, 1) := by decide +kernel
theorem dJ6_bitCount_0f7a4_29 : decode cJ6_bitCount_0f7a4 29 = .ok (.ldc_w 267, 3) := by decide +kernel
theorem dJ6_bitCount_0f7a4_32 : decode cJ6_bitCount_0f7a4 32 = .ok (.iand, 1) := by decide +kernel
theorem dJ6_bitCount_0f7a4_33 : decode cJ6_bitCount_0f7a4 33 = .ok (.istore_n 0, 1) := by decide +kernel
theorem dJ6_bitCount_0f7a4_34 : decode cJ6_bitCount_0f7a4 34 = .ok (.iload_n 0, 1) := by decide +kernel
theorem dJ6_bitCount_0f7a4_35 : decode cJ6_bitCount_0f7a4 35 = .ok (.iload_n 0, 1) := by decide +kernel
theorem dJ6_bitCount_0f7a4_36 : decode cJ6_bitCount_0f7a4 36 = .ok (.bipush 8, 2) := by decide +kernel
theorem dJ6_bitCount_0f7a4_38 : decode cJ6_bitCount_0f7a4 38 = .ok (.iushr, 1) := by decide +kernel
theorem dJ6_bitCount_0f7a4_39 : decode cJ6_bitCount_0f7a4 39 = .ok (.iadd, 1) := by decide +kernel
theorem dJ6_bitCount_0f7a4_40 : decode cJ6_bitCount_0f7a4 40 = .ok (.istore_n 0, 1) := by decide +kernel
theorem dJ6_bitCount_0f7a4_41 : decode cJ6_bitCount_0f7a4 41 = .ok (.iload_n 0, 1) := by decide +kernel
theorem dJ6_bitCount_0f7a4_42 : decode cJ6_bitCount_0f7a4 42 = .ok (.iload_n 0, 1) := by decide +kernel
theorem dJ6_bitCount_0f7a4_43 : decode cJ6_bitCount_0f7a4 43 = .ok (.bipush 16, 2) := by decide +kernel
theorem dJ6_bitCount_0f7a4_45 : decode cJ6_bitCount_0f7a4 45 = .ok (.iushr, 1) := by decide +kernel
theorem dJ6_bitCount_0f7a4_46 : decode cJ6_bitCount_0f7a4 46 = .ok (.iadd, 1) := by decide +kernel
theorem dJ6_bitCount_0f7a4_47 : decode cJ6_bitCount_0f7a4 47 = .ok (.istore_n 0, 1) := by decide +kernel
theorem dJ6_bitCount_0f7a4_48 : decode cJ6_bitCount_0f7a4 48 = .ok (.iload_n 0, 1) := by decide +kernel
theorem dJ6_bitCount_0f7a4_49 : decode cJ6_bitCount_0f7a4 49 = .ok (.bipush 63, 2) := by decide +kernel
theorem dJ6_bitCount_0f7a4_51 : decode cJ6_bitCount_0f7a4 51 = .ok (.iand, 1) := by decide +kernel
theorem dJ6_bitCount_0f7a4_52 : decode cJ6_bitCount_0f7a4 52 = .ok (.ireturn, 1) := by decide +kernel
theorem dJ7_fill_53178_0 : decode cJ7_fill_53178 0 = .ok (.iconst 0, 1) := by decide +kernel
theorem dJ7_fill_53178_1 : decode cJ7_fill_53178 1 = .ok (.istore_n 2, 1) := by decide +kernel
theorem dJ7_fill_53178_2 : decode cJ7_fill_53178 2 = .ok (.aload_n 0, 1) := by decide +kernel
theorem dJ7_fill_53178_3 : decode cJ7_fill_53178 3 = .ok (.arraylength, 1) := by decide +kernel
theorem dJ7_fill_53178_4 : decode cJ7_fill_53178 4 = .ok (.istore_n 3, 1) := by decide +kernel
theorem dJ7_fill_53178_5 : decode cJ7_fill_53178 5 = .ok (.iload_n 2, 1) := by decide +kernel
theorem dJ7_fill_53178_6 : decode cJ7_fill_53178 6 = .ok (.iload_n 3, 1) := by decide +kernel
theorem dJ7_fill_53178_7 : decode cJ7_fill_53178 7 = .ok (.if_icmp .ge 13, 3) := by decide +kernel
theorem dJ7_fill_53178_10 : decode cJ7_fill_53178 10 = .ok (.aload_n 0, 1) := by decide +kernel
theorem dJ7_fill_53178_11 : decode cJ7_fill_53178 11 = .ok (.iload_n 2, 1) := by decide +kernel
theorem dJ7_fill_53178_12 : decode cJ7_fill_53178 12 = .ok (.iload_n 1, 1) := by decide +kernel
theorem dJ7_fill_53178_13 : decode cJ7_fill_53178 13 = .ok (.iastore, 1) := by decide +kernel
theorem dJ7_fill_53178_14 : decode cJ7_fill_53178 14 = .ok (.iinc 2 1, 3) := by decide +kernel
theorem dJ7_fill_53178_17 : decode cJ7_fill_53178 17 = .ok (.goto (-12), 3) := by decide +kernel
theorem dJ7_fill_53178_20 : decode cJ7_fill_53178 20 = .ok (.return_, 1) := by decide +kernel
theorem dX10_areDays_0 : decode cX10_areDays 0 = .ok (.iload_n 0, 1) := by decide +kernel
theorem dX10_areDays_1 : decode cX10_areDays 1 = .ok (.iconst 1, 1) := by decide +kernel
theorem dX10_areDays_2 : decode cX10_areDays 2 = .ok (.bipush 60, 2) := by decide +kernel
theorem dX10_areDays_4 : decode cX10_areDays 4 = .ok (.invokestatic 157, 3) := by decide +kernel
theorem dX10_areDays_7 : decode cX10_areDays 7 = .ok (.ireturn, 1) := by decide +kernel
theorem dX10_awayOn_0 : decode cX10_awayOn 0 = .ok (.iconst 0, 1) := by decide +kernel
theorem dX10_awayOn_1 : decode cX10_awayOn 1 = .ok (.istore_n 2, 1) := by decide +kernel
theorem dX10_awayOn_2 : decode cX10_awayOn 2 = .ok (.iconst 0, 1) := by decide +kernel
theorem dX10_awayOn_3 : decode cX10_awayOn 3 = .ok (.istore_n 3, 1) := by decide +kernel
theorem dX10_awayOn_4 : decode cX10_awayOn 4 = .ok (.iload_n 3, 1) := by decide +kernel
theorem dX10_awayOn_5 : decode cX10_awayOn 5 = .ok (.bipush 10, 2) := by decide +kernel
theorem dX10_awayOn_7 : decode cX10_awayOn 7 = .ok (.if_icmp .ge 36, 3) := by decide +kernel
theorem dX10_awayOn_10 : decode cX10_awayOn 10 = .ok (.iload_n 2, 1) := by decide +kernel
theorem dX10_awayOn_11 : decode cX10_awayOn 11 = .ok (.aload_n 0, 1) := by decide +kernel
theorem dX10_awayOn_12 : decode cX10_awayOn 12 = .ok (.iload_n 3, 1) := by decide +kernel
theorem dX10_awayOn_13 : decode cX10_awayOn 13 = .ok (.invokevirtual 307, 3) := by decide +kernel
theorem dX10_awayOn_16 : decode cX10_awayOn 16 = .ok (.ifCond .eq 18, 3) := by decide +kernel
theorem dX10_awayOn_34 : decode cX10_awayOn 34 = .ok (.iconst 0, 1) := by decide +kernel
theorem dX10_awayOn_35 : decode cX10_awayOn 35 = .ok (.ior, 1) := by decide +kernel
theorem dX10_awayOn_36 : decode cX10_awayOn 36 = .ok (.istore_n 2, 1) := by decide +kernel
theorem dX10_awayOn_37 : decode cX10_awayOn 37 = .ok (.iinc 3 1, 3) := by decide +kernel
theorem dX10_awayOn_40 : decode cX10_awayOn 40 = .ok (.goto (-36), 3) := by decide +kernel
theorem dX10_awayOn_43 : decode cX10_awayOn 43 = .ok (.iload_n 2, 1) := by decide +kernel
theorem dX10_awayOn_44 : decode cX10_awayOn 44 = .ok (.ireturn, 1) := by decide +kernel
theorem dX10_bits_0 : decode cX10_bits 0 = .ok (.iconst 0, 1) := by decide +kernel
theorem dX10_bits_1 : decode cX10_bits 1 = .ok (.istore_n 1, 1) := by decide +kernel
theorem dX10_bits_2 : decode cX10_bits 2 = .ok (.iconst 0, 1) := by decide +kernel
theorem dX10_bits_3 : decode cX10_bits 3 = .ok (.istore_n 2, 1) := by decide +kernel
theorem dX10_bits_4 : decode cX10_bits 4 = .ok (.iload_n 2, 1) := by decide +kernel
theorem dX10_bits_5 : decode cX10_bits 5 = .ok (.bipush 12, 2) := by decide +kernel
theorem dX10_bits_7 : decode cX10_bits 7 = .ok (.if_icmp .ge 17, 3) := by decide +kernel
theorem dX10_bits_10 : decode cX10_bits 10 = .ok (.iload_n 1, 1) := by decide +kernel
theorem dX10_bits_11 : decode cX10_bits 11 = .ok (.iload_n 0, 1) := by decide +kernel
theorem dX10_bits_12 : decode cX10_bits 12 = .ok (.iload_n 2, 1) := by decide +kernel
theorem dX10_bits_13 : decode cX10_bits 13 = .ok (.ishr, 1) := by decide +kernel
theorem dX10_bits_14 : decode cX10_bits 14 = .ok (.iconst 1, 1) := by decide +kernel
theorem dX10_bits_15 : decode cX10_bits 15 = .ok (.iand, 1) := by decide +kernel
theorem dX10_bits_16 : decode cX10_bits 16 = .ok (.iadd, 1) := by decide +kernel
theorem dX10_bits_17 : decode cX10_bits 17 = .ok (.istore_n 1, 1) := by decide +kernel
theorem dX10_bits_18 : decode cX10_bits 18 = .ok (.iinc 2 1, 3) := by decide +kernel
theorem dX10_bits_21 : decode cX10_bits 21 = .ok (.goto (-17), 3) := by decide +kernel
theorem dX10_bits_24 : decode cX10_bits 24 = .ok (.iload_n 1, 1) := by decide +kernel
theorem dX10_bits_25 : decode cX10_bits 25 = .ok (.ireturn, 1) := by decide +kernel
theorem dX10_copies_0 : decode cX10_copies 0 = .ok (.iconst 0, 1) := by decide +kernel
theorem dX10_copies_1 : decode cX10_copies 1 = .ok (.istore_n 3, 1) := by decide +kernel
theorem dX10_copies_2 : decode cX10_copies 2 = .ok (.iload_n 3, 1) := by decide +kernel
theorem dX10_copies_3 : decode cX10_copies 3 = .ok (.iload_n 2, 1) := by decide +kernel
theorem dX10_copies_4 : decode cX10_copies 4 = .ok (.if_icmp .ge 15, 3) := by decide +kernel
theorem dX10_copies_7 : decode cX10_copies 7 = .ok (.aload_n 1, 1) := by decide +kernel
theorem dX10_copies_8 : decode cX10_copies 8 = .ok (.iload_n 3, 1) := by decide +kernel
theorem dX10_copies_9 : decode cX10_copies 9 = .ok (.aload_n 0, 1) := by decide +kernel
theorem dX10_copies_10 : decode cX10_copies 10 = .ok (.iload_n 3, 1) := by decide +kernel
theorem dX10_copies_11 : decode cX10_copies 11 = .ok (.iaload, 1) := by decide +kernel
theorem dX10_copies_12 : decode cX10_copies 12 = .ok (.iastore, 1) := by decide +kernel
theorem dX10_copies_13 : decode cX10_copies 13 = .ok (.iinc 3 1, 3) := by decide +kernel
theorem dX10_copies_16 : decode cX10_copies 16 = .ok (.goto (-14), 3) := by decide +kernel
theorem dX10_copies_19 : decode cX10_copies 19 = .ok (.return_, 1) := by decide +kernel
theorem dX10_dayGoes_0 : decode cX10_dayGoes 0 = .ok (.aload_n 0, 1) := by decide +kernel
theorem dX10_dayGoes_1 : decode cX10_dayGoes 1 = .ok (.getfield 7, 3) := by decide +kernel
theorem dX10_dayGoes_4 : decode cX10_dayGoes 4 = .ok (.bipush 14, 2) := by decide +kernel
theorem dX10_dayGoes_6 : decode cX10_dayGoes 6 = .ok (.sipush 25173, 3) := by decide +kernel
theorem dX10_dayGoes_9 : decode cX10_dayGoes 9 = .ok (.aload_n 0, 1) := by decide +kernel
theorem dX10_dayGoes_10 : decode cX10_dayGoes 10 = .ok (.getfield 7, 3) := by decide +kernel
theorem dX10_dayGoes_13 : decode cX10_dayGoes 13 = .ok (.bipush 14, 2) := by decide +kernel
theorem dX10_dayGoes_15 : decode cX10_dayGoes 15 = .ok (.iaload, 1) := by decide +kernel
theorem dX10_dayGoes_16 : decode cX10_dayGoes 16 = .ok (.imul, 1) := by decide +kernel
theorem dX10_dayGoes_17 : decode cX10_dayGoes 17 = .ok (.sipush 13849, 3) := by decide +kernel
theorem dX10_dayGoes_20 : decode cX10_dayGoes 20 = .ok (.iadd, 1) := by decide +kernel
theorem dX10_dayGoes_21 : decode cX10_dayGoes 21 = .ok (.ldc_w 334, 3) := by decide +kernel
theorem dX10_dayGoes_24 : decode cX10_dayGoes 24 = .ok (.irem, 1) := by decide +kernel
theorem dX10_dayGoes_25 : decode cX10_dayGoes 25 = .ok (.iastore, 1) := by decide +kernel
theorem dX10_dayGoes_26 : decode cX10_dayGoes 26 = .ok (.aload_n 0, 1) := by decide +kernel
theorem dX10_dayGoes_27 : decode cX10_dayGoes 27 = .ok (.getfield 7, 3) := by decide +kernel
theorem dX10_dayGoes_30 : decode cX10_dayGoes 30 = .ok (.bipush 14, 2) := by decide +kernel
theorem dX10_dayGoes_32 : decode cX10_dayGoes 32 = .ok (.iaload, 1) := by decide +kernel
theorem dX10_dayGoes_33 : decode cX10_dayGoes 33 = .ok (.bipush 10, 2) := by decide +kernel
theorem dX10_dayGoes_35 : decode cX10_dayGoes 35 = .ok (.irem, 1) := by decide +kernel
theorem dX10_dayGoes_36 : decode cX10_dayGoes 36 = .ok (.aload_n 0, 1) := by decide +kernel
theorem dX10_dayGoes_37 : decode cX10_dayGoes 37 = .ok (.getfield 161, 3) := by decide +kernel
theorem dX10_dayGoes_40 : decode cX10_dayGoes 40 = .ok (.if_icmp .ge 7, 3) := by decide +kernel
theorem dX10_dayGoes_47 : decode cX10_dayGoes 47 = .ok (.iconst 0, 1) := by decide +kernel
theorem dX10_dayGoes_48 : decode cX10_dayGoes 48 = .ok (.istore_n 1, 1) := by decide +kernel
theorem dX10_dayGoes_49 : decode cX10_dayGoes 49 = .ok (.aload_n 0, 1) := by decide +kernel
theorem dX10_dayGoes_50 : decode cX10_dayGoes 50 = .ok (.aload_n 0, 1) := by decide +kernel
theorem dX10_dayGoes_51 : decode cX10_dayGoes 51 = .ok (.getfield 335, 3) := by decide +kernel
theorem dX10_dayGoes_54 : decode cX10_dayGoes 54 = .ok (.iload_n 1, 1) := by decide +kernel
theorem dX10_dayGoes_55 : decode cX10_dayGoes 55 = .ok (.ifCond .eq 7, 3) := by decide +kernel
theorem dX10_dayGoes_62 : decode cX10_dayGoes 62 = .ok (.iconst 0, 1) := by decide +kernel
theorem dX10_dayGoes_63 : decode cX10_dayGoes 63 = .ok (.iadd, 1) := by decide +kernel
theorem dX10_dayGoes_64 : decode cX10_dayGoes 64 = .ok (.putfield 335, 3) := by decide +kernel
theorem dX10_dayGoes_67 : decode cX10_dayGoes 67 = .ok (.aload_n 0, 1) := by decide +kernel
theorem dX10_dayGoes_68 : decode cX10_dayGoes 68 = .ok (.iload_n 1, 1) := by decide +kernel
theorem dX10_dayGoes_69 : decode cX10_dayGoes 69 = .ok (.invokevirtual 338, 3) := by decide +kernel
theorem dX10_dayGoes_72 : decode cX10_dayGoes 72 = .ok (.iconst 0, 1) := by decide +kernel
theorem dX10_dayGoes_73 : decode cX10_dayGoes 73 = .ok (.istore_n 2, 1) := by decide +kernel
theorem dX10_dayGoes_74 : decode cX10_dayGoes 74 = .ok (.iload_n 2, 1) := by decide +kernel
theorem dX10_dayGoes_75 : decode cX10_dayGoes 75 = .ok (.bipush 10, 2) := by decide +kernel
theorem dX10_dayGoes_77 : decode cX10_dayGoes 77 = .ok (.if_icmp .ge 20, 3) := by decide +kernel
theorem dX10_dayGoes_80 : decode cX10_dayGoes 80 = .ok (.aload_n 0, 1) := by decide +kernel
theorem dX10_dayGoes_81 : decode cX10_dayGoes 81 = .ok (.getfield 119, 3) := by decide +kernel
theorem dX10_dayGoes_84 : decode cX10_dayGoes 84 = .ok (.iload_n 2, 1) := by decide +kernel
theorem dX10_dayGoes_85 : decode cX10_dayGoes 85 = .ok (.aload_n 0, 1) := by decide +kernel
theorem dX10_dayGoes_86 : decode cX10_dayGoes 86 = .ok (.iload_n 2, 1) := by decide +kernel
theorem dX10_dayGoes_87 : decode cX10_dayGoes 87 = .ok (.invokevirtual 341, 3) := by decide +kernel
theorem dX10_dayGoes_90 : decode cX10_dayGoes 90 = .ok (.iastore, 1) := by decide +kernel
theorem dX10_dayGoes_91 : decode cX10_dayGoes 91 = .ok (.iinc 2 1, 3) := by decide +kernel
theorem dX10_dayGoes_94 : decode cX10_dayGoes 94 = .ok (.goto (-20), 3) := by decide +kernel
theorem dX10_dayGoes_97 : decode cX10_dayGoes 97 = .ok (.iconst 0, 1) := by decide +kernel
theorem dX10_dayGoes_98 : decode cX10_dayGoes 98 = .ok (.istore_n 2, 1) := by decide +kernel
theorem dX10_dayGoes_99 : decode cX10_dayGoes 99 = .ok (.iload_n 2, 1) := by decide +kernel
theorem dX10_dayGoes_100 : decode cX10_dayGoes 100 = .ok (.bipush 12, 2) := by decide +kernel
theorem dX10_dayGoes_102 : decode cX10_dayGoes 102 = .ok (.if_icmp .ge 22, 3) := by decide +kernel
theorem dX10_dayGoes_105 : decode cX10_dayGoes 105 = .ok (.aload_n 0, 1) := by decide +kernel
theorem dX10_dayGoes_106 : decode cX10_dayGoes 106 = .ok (.iload_n 2, 1) := by decide +kernel
theorem dX10_dayGoes_107 : decode cX10_dayGoes 107 = .ok (.invokevirtual 331, 3) := by decide +kernel
theorem dX10_dayGoes_110 : decode cX10_dayGoes 110 = .ok (.ifCond .eq 8, 3) := by decide +kernel
theorem dX10_dayGoes_118 : decode cX10_dayGoes 118 = .ok (.iinc 2 1, 3) := by decide +kernel
theorem dX10_dayGoes_121 : decode cX10_dayGoes 121 = .ok (.goto (-22), 3) := by decide +kernel
theorem dX10_dayGoes_124 : decode cX10_dayGoes 124 = .ok (.aload_n 0, 1) := by decide +kernel
theorem dX10_dayGoes_125 : decode cX10_dayGoes 125 = .ok (.aload_n 0, 1) := by decide +kernel
theorem dX10_dayGoes_126 : decode cX10_dayGoes 126 = .ok (.getfield 347, 3) := by decide +kernel
theorem dX10_dayGoes_129 : decode cX10_dayGoes 129 = .ok (.aload_n 0, 1) := by decide +kernel
theorem dX10_dayGoes_130 : decode cX10_dayGoes 130 = .ok (.invokevirtual 350, 3) := by decide +kernel
theorem dX10_dayGoes_133 : decode cX10_dayGoes 133 = .ok (.ifCond .ne 7, 3) := by decide +kernel
theorem dX10_dayGoes_136 : decode cX10_dayGoes 136 = .ok (.iconst 1, 1) := by decide +kernel
theorem dX10_dayGoes_137 : decode cX10_dayGoes 137 = .ok (.goto 4, 3) := by decide +kernel
theorem dX10_dayGoes_141 : decode cX10_dayGoes 141 = .ok (.iadd, 1) := by decide +kernel
theorem dX10_dayGoes_142 : decode cX10_dayGoes 142 = .ok (.putfield 347, 3) := by decide +kernel
theorem dX10_dayGoes_145 : decode cX10_dayGoes 145 = .ok (.aload_n 0, 1) := by decide +kernel
theorem dX10_dayGoes_146 : decode cX10_dayGoes 146 = .ok (.getfield 7, 3) := by decide +kernel
theorem dX10_dayGoes_149 : decode cX10_dayGoes 149 = .ok (.bipush 13, 2) := by decide +kernel
theorem dX10_dayGoes_151 : decode cX10_dayGoes 151 = .ok (.aload_n 0, 1) := by decide +kernel
theorem dX10_dayGoes_152 : decode cX10_dayGoes 152 = .ok (.getfield 7, 3) := by decide +kernel
theorem dX10_dayGoes_155 : decode cX10_dayGoes 155 = .ok (.bipush 13, 2) := by decide +kernel
theorem dX10_dayGoes_157 : decode cX10_dayGoes 157 = .ok (.iaload, 1) := by decide +kernel
theorem dX10_dayGoes_158 : decode cX10_dayGoes 158 = .ok (.iconst 1, 1) := by decide +kernel
theorem dX10_dayGoes_159 : decode cX10_dayGoes 159 = .ok (.iadd, 1) := by decide +kernel
theorem dX10_dayGoes_160 : decode cX10_dayGoes 160 = .ok (.iastore, 1) := by decide +kernel
theorem dX10_dayGoes_161 : decode cX10_dayGoes 161 = .ok (.return_, 1) := by decide +kernel
theorem dX10_daysGo_0 : decode cX10_daysGo 0 = .ok (.aload_n 0, 1) := by decide +kernel
theorem dX10_daysGo_1 : decode cX10_daysGo 1 = .ok (.iconst 0, 1) := by decide +kernel
theorem dX10_daysGo_2 : decode cX10_daysGo 2 = .ok (.putfield 335, 3) := by decide +kernel
theorem dX10_daysGo_5 : decode cX10_daysGo 5 = .ok (.aload_n 0, 1) := by decide +kernel
theorem dX10_daysGo_6 : decode cX10_daysGo 6 = .ok (.iconst 0, 1) := by decide +kernel
theorem dX10_daysGo_7 : decode cX10_daysGo 7 = .ok (.putfield 322, 3) := by decide +kernel
theorem dX10_daysGo_10 : decode cX10_daysGo 10 = .ok (.aload_n 0, 1) := by decide +kernel
theorem dX10_daysGo_11 : decode cX10_daysGo 11 = .ok (.iconst 0, 1) := by decide +kernel
theorem dX10_daysGo_12 : decode cX10_daysGo 12 = .ok (.putfield 347, 3) := by decide +kernel
theorem dX10_daysGo_15 : decode cX10_daysGo 15 = .ok (.aload_n 0, 1) := by decide +kernel
theorem dX10_daysGo_16 : decode cX10_daysGo 16 = .ok (.iconst 0, 1) := by decide +kernel
theorem dX10_daysGo_17 : decode cX10_daysGo 17 = .ok (.putfield 353, 3) := by decide +kernel
theorem dX10_daysGo_20 : decode cX10_daysGo 20 = .ok (.iconst 0, 1) := by decide +kernel
theorem dX10_daysGo_21 : decode cX10_daysGo 21 = .ok (.istore_n 2, 1) := by decide +kernel
theorem dX10_daysGo_22 : decode cX10_daysGo 22 = .ok (.iload_n 2, 1) := by decide +kernel
theorem dX10_daysGo_23 : decode cX10_daysGo 23 = .ok (.bipush 10, 2) := by decide +kernel
theorem dX10_daysGo_25 : decode cX10_daysGo 25 = .ok (.if_icmp .ge 16, 3) := by decide +kernel
theorem dX10_daysGo_28 : decode cX10_daysGo 28 = .ok (.aload_n 0, 1) := by decide +kernel
theorem dX10_daysGo_29 : decode cX10_daysGo 29 = .ok (.getfield 122, 3) := by decide +kernel
theorem dX10_daysGo_32 : decode cX10_daysGo 32 = .ok (.iload_n 2, 1) := by decide +kernel
theorem dX10_daysGo_33 : decode cX10_daysGo 33 = .ok (.iconst 0, 1) := by decide +kernel
theorem dX10_daysGo_34 : decode cX10_daysGo 34 = .ok (.iastore, 1) := by decide +kernel
theorem dX10_daysGo_35 : decode cX10_daysGo 35 = .ok (.iinc 2 1, 3) := by decide +kernel
theorem dX10_daysGo_38 : decode cX10_daysGo 38 = .ok (.goto (-16), 3) := by decide +kernel
theorem dX10_daysGo_41 : decode cX10_daysGo 41 = .ok (.iconst 0, 1) := by decide +kernel
theorem dX10_daysGo_42 : decode cX10_daysGo 42 = .ok (.istore_n 2, 1) := by decide +kernel
theorem dX10_daysGo_43 : decode cX10_daysGo 43 = .ok (.iload_n 2, 1) := by decide +kernel
theorem dX10_daysGo_44 : decode cX10_daysGo 44 = .ok (.iload_n 1, 1) := by decide +kernel
theorem dX10_daysGo_45 : decode cX10_daysGo 45 = .ok (.if_icmp .ge 36, 3) := by decide +kernel
theorem dX10_daysGo_48 : decode cX10_daysGo 48 = .ok (.aload_n 0, 1) := by decide +kernel
theorem dX10_daysGo_49 : decode cX10_daysGo 49 = .ok (.getfield 7, 3) := by decide +kernel
theorem dX10_daysGo_52 : decode cX10_daysGo 52 = .ok (.bipush 13, 2) := by decide +kernel
theorem dX10_daysGo_54 : decode cX10_daysGo 54 = .ok (.iaload, 1) := by decide +kernel
theorem dX10_daysGo_55 : decode cX10_daysGo 55 = .ok (.sipush 9999, 3) := by decide +kernel
theorem dX10_daysGo_58 : decode cX10_daysGo 58 = .ok (.if_icmp .ge 23, 3) := by decide +kernel
theorem dX10_daysGo_61 : decode cX10_daysGo 61 = .ok (.aload_n 0, 1) := by decide +kernel
theorem dX10_daysGo_62 : decode cX10_daysGo 62 = .ok (.invokevirtual 356, 3) := by decide +kernel
theorem dX10_daysGo_65 : decode cX10_daysGo 65 = .ok (.aload_n 0, 1) := by decide +kernel
theorem dX10_daysGo_66 : decode cX10_daysGo 66 = .ok (.aload_n 0, 1) := by decide +kernel
theorem dX10_daysGo_67 : decode cX10_daysGo 67 = .ok (.getfield 353, 3) := by decide +kernel
theorem dX10_daysGo_70 : decode cX10_daysGo 70 = .ok (.iconst 1, 1) := by decide +kernel
theorem dX10_daysGo_71 : decode cX10_daysGo 71 = .ok (.iadd, 1) := by decide +kernel
theorem dX10_daysGo_72 : decode cX10_daysGo 72 = .ok (.putfield 353, 3) := by decide +kernel
theorem dX10_daysGo_75 : decode cX10_daysGo 75 = .ok (.iinc 2 1, 3) := by decide +kernel
theorem dX10_daysGo_78 : decode cX10_daysGo 78 = .ok (.goto (-35), 3) := by decide +kernel
theorem dX10_daysGo_81 : decode cX10_daysGo 81 = .ok (.return_, 1) := by decide +kernel
theorem dX10_feels_0 : decode cX10_feels 0 = .ok (.iconst 0, 1) := by decide +kernel
theorem dX10_feels_1 : decode cX10_feels 1 = .ok (.istore_n 2, 1) := by decide +kernel
theorem dX10_feels_2 : decode cX10_feels 2 = .ok (.iload_n 2, 1) := by decide +kernel
theorem dX10_feels_3 : decode cX10_feels 3 = .ok (.bipush 8, 2) := by decide +kernel
theorem dX10_feels_5 : decode cX10_feels 5 = .ok (.if_icmp .ge 16, 3) := by decide +kernel
theorem dX10_feels_8 : decode cX10_feels 8 = .ok (.aload_n 0, 1) := by decide +kernel
theorem dX10_feels_9 : decode cX10_feels 9 = .ok (.getfield 83, 3) := by decide +kernel
theorem dX10_feels_12 : decode cX10_feels 12 = .ok (.iload_n 2, 1) := by decide +kernel
theorem dX10_feels_13 : decode cX10_feels 13 = .ok (.iconst 0, 1) := by decide +kernel
theorem dX10_feels_14 : decode cX10_feels 14 = .ok (.iastore, 1) := by decide +kernel
theorem dX10_feels_15 : decode cX10_feels 15 = .ok (.iinc 2 1, 3) := by decide +kernel
theorem dX10_feels_18 : decode cX10_feels 18 = .ok (.goto (-16), 3) := by decide +kernel
theorem dX10_feels_21 : decode cX10_feels 21 = .ok (.aload_n 0, 1) := by decide +kernel
theorem dX10_feels_22 : decode cX10_feels 22 = .ok (.getfield 83, 3) := by decide +kernel
theorem dX10_feels_25 : decode cX10_feels 25 = .ok (.iconst 3, 1) := by decide +kernel
theorem dX10_feels_26 : decode cX10_feels 26 = .ok (.aload_n 0, 1) := by decide +kernel
theorem dX10_feels_27 : decode cX10_feels 27 = .ok (.getfield 7, 3) := by decide +kernel
theorem dX10_feels_30 : decode cX10_feels 30 = .ok (.bipush 13, 2) := by decide +kernel
theorem dX10_feels_32 : decode cX10_feels 32 = .ok (.iaload, 1) := by decide +kernel
theorem dX10_feels_33 : decode cX10_feels 33 = .ok (.iastore, 1) := by decide +kernel
theorem dX10_feels_34 : decode cX10_feels 34 = .ok (.aload_n 0, 1) := by decide +kernel
theorem dX10_feels_35 : decode cX10_feels 35 = .ok (.getfield 83, 3) := by decide +kernel
theorem dX10_feels_38 : decode cX10_feels 38 = .ok (.iconst 4, 1) := by decide +kernel
theorem dX10_feels_39 : decode cX10_feels 39 = .ok (.aload_n 0, 1) := by decide +kernel
theorem dX10_feels_40 : decode cX10_feels 40 = .ok (.getfield 7, 3) := by decide +kernel
theorem dX10_feels_43 : decode cX10_feels 43 = .ok (.bipush 13, 2) := by decide +kernel
theorem dX10_feels_45 : decode cX10_feels 45 = .ok (.iaload, 1) := by decide +kernel
theorem dX10_feels_46 : decode cX10_feels 46 = .ok (.bipush 7, 2) := by decide +kernel
theorem dX10_feels_48 : decode cX10_feels 48 = .ok (.irem, 1) := by decide +kernel
theorem dX10_feels_49 : decode cX10_feels 49 = .ok (.iastore, 1) := by decide +kernel
theorem dX10_feels_50 : decode cX10_feels 50 = .ok (.aload_n 0, 1) := by decide +kernel
theorem dX10_feels_51 : decode cX10_feels 51 = .ok (.getfield 83, 3) := by decide +kernel
theorem dX10_feels_54 : decode cX10_feels 54 = .ok (.iconst 5, 1) := by decide +kernel
theorem dX10_feels_55 : decode cX10_feels 55 = .ok (.iload_n 1, 1) := by decide +kernel
theorem dX10_feels_56 : decode cX10_feels 56 = .ok (.ifCond .eq 7, 3) := by decide +kernel
theorem dX10_feels_63 : decode cX10_feels 63 = .ok (.iconst 0, 1) := by decide +kernel
theorem dX10_feels_64 : decode cX10_feels 64 = .ok (.iastore, 1) := by decide +kernel
theorem dX10_feels_65 : decode cX10_feels 65 = .ok (.aload_n 0, 1) := by decide +kernel
theorem dX10_feels_66 : decode cX10_feels 66 = .ok (.getfield 83, 3) := by decide +kernel
theorem dX10_feels_69 : decode cX10_feels 69 = .ok (.bipush 6, 2) := by decide +kernel
theorem dX10_feels_71 : decode cX10_feels 71 = .ok (.aload_n 0, 1) := by decide +kernel
theorem dX10_feels_72 : decode cX10_feels 72 = .ok (.aload_n 0, 1) := by decide +kernel
theorem dX10_feels_73 : decode cX10_feels 73 = .ok (.getfield 7, 3) := by decide +kernel
theorem dX10_feels_76 : decode cX10_feels 76 = .ok (.bipush 13, 2) := by decide +kernel
theorem dX10_feels_78 : decode cX10_feels 78 = .ok (.iaload, 1) := by decide +kernel
theorem dX10_feels_79 : decode cX10_feels 79 = .ok (.invokevirtual 313, 3) := by decide +kernel
theorem dX10_feels_82 : decode cX10_feels 82 = .ok (.invokestatic 297, 3) := by decide +kernel
theorem dX10_feels_85 : decode cX10_feels 85 = .ok (.iastore, 1) := by decide +kernel
theorem dX10_feels_86 : decode cX10_feels 86 = .ok (.return_, 1) := by decide +kernel
theorem dX10_has_0 : decode cX10_has 0 = .ok (.iload_n 0, 1) := by decide +kernel
theorem dX10_has_1 : decode cX10_has 1 = .ok (.iload_n 1, 1) := by decide +kernel
theorem dX10_has_2 : decode cX10_has 2 = .ok (.ishr, 1) := by decide +kernel
theorem dX10_has_3 : decode cX10_has 3 = .ok (.iconst 1, 1) := by decide +kernel
theorem dX10_has_4 : decode cX10_has 4 = .ok (.iand, 1) := by decide +kernel
theorem dX10_has_5 : decode cX10_has 5 = .ok (.iconst 1, 1) := by decide +kernel
theorem dX10_has_6 : decode cX10_has 6 = .ok (.if_icmp .ne 7, 3) := by decide +kernel
theorem dX10_has_9 : decode cX10_has 9 = .ok (.iconst 1, 1) := by decide +kernel
theorem dX10_has_10 : decode cX10_has 10 = .ok (.goto 4, 3) := by decide +kernel
theorem dX10_has_13 : decode cX10_has 13 = .ok (.iconst 0, 1) := by decide +kernel
theorem dX10_has_14 : decode cX10_has 14 = .ok (.ireturn, 1) := by decide +kernel
theorem dX10_hasLeave_0 : decode cX10_hasLeave 0 = .ok (.aload_n 0, 1) := by decide +kernel
theorem dX10_hasLeave_1 : decode cX10_hasLeave 1 = .ok (.getfield 28, 3) := by decide +kernel
theorem dX10_hasLeave_4 : decode cX10_hasLeave 4 = .ok (.iload_n 1, 1) := by decide +kernel
theorem dX10_hasLeave_5 : decode cX10_hasLeave 5 = .ok (.iaload, 1) := by decide +kernel
theorem dX10_hasLeave_6 : decode cX10_hasLeave 6 = .ok (.bipush (-2), 2) := by decide +kernel
theorem dX10_hasLeave_8 : decode cX10_hasLeave 8 = .ok (.if_icmp .eq 7, 3) := by decide +kernel
theorem dX10_hasLeave_15 : decode cX10_hasLeave 15 = .ok (.iconst 0, 1) := by decide +kernel
theorem dX10_hasLeave_16 : decode cX10_hasLeave 16 = .ok (.ireturn, 1) := by decide +kernel
theorem dX10_in_0 : decode cX10_in 0 = .ok (.iload_n 0, 1) := by decide +kernel
theorem dX10_in_1 : decode cX10_in 1 = .ok (.iload_n 1, 1) := by decide +kernel
theorem dX10_in_2 : decode cX10_in 2 = .ok (.if_icmp .lt 12, 3) := by decide +kernel
theorem dX10_in_5 : decode cX10_in 5 = .ok (.iload_n 0, 1) := by decide +kernel
theorem dX10_in_6 : decode cX10_in 6 = .ok (.iload_n 2, 1) := by decide +kernel
theorem dX10_in_7 : decode cX10_in 7 = .ok (.if_icmp .gt 7, 3) := by decide +kernel
theorem dX10_in_10 : decode cX10_in 10 = .ok (.iconst 1, 1) := by decide +kernel
theorem dX10_in_11 : decode cX10_in 11 = .ok (.goto 4, 3) := by decide +kernel
theorem dX10_in_14 : decode cX10_in 14 = .ok (.iconst 0, 1) := by decide +kernel
theorem dX10_in_15 : decode cX10_in 15 = .ok (.ireturn, 1) := by decide +kernel
theorem dX10_isChore_0 : decode cX10_isChore 0 = .ok (.iload_n 1, 1) := by decide +kernel
theorem dX10_isChore_1 : decode cX10_isChore 1 = .ok (.ifCond .lt 24, 3) := by decide +kernel
theorem dX10_isChore_4 : decode cX10_isChore 4 = .ok (.iload_n 1, 1) := by decide +kernel
theorem dX10_isChore_5 : decode cX10_isChore 5 = .ok (.bipush 12, 2) := by decide +kernel
theorem dX10_isChore_7 : decode cX10_isChore 7 = .ok (.if_icmp .ge 18, 3) := by decide +kernel
theorem dX10_isChore_10 : decode cX10_isChore 10 = .ok (.aload_n 0, 1) := by decide +kernel
theorem dX10_isChore_11 : decode cX10_isChore 11 = .ok (.getfield 154, 3) := by decide +kernel
theorem dX10_isChore_14 : decode cX10_isChore 14 = .ok (.iload_n 1, 1) := by decide +kernel
theorem dX10_isChore_15 : decode cX10_isChore 15 = .ok (.invokestatic 150, 3) := by decide +kernel
theorem dX10_isChore_18 : decode cX10_isChore 18 = .ok (.ifCond .eq 7, 3) := by decide +kernel
theorem dX10_isChore_25 : decode cX10_isChore 25 = .ok (.iconst 0, 1) := by decide +kernel
theorem dX10_isChore_26 : decode cX10_isChore 26 = .ok (.ireturn, 1) := by decide +kernel
theorem dX10_isGoer_0 : decode cX10_isGoer 0 = .ok (.aload_n 0, 1) := by decide +kernel
theorem dX10_isGoer_1 : decode cX10_isGoer 1 = .ok (.iload_n 1, 1) := by decide +kernel
theorem dX10_isGoer_2 : decode cX10_isGoer 2 = .ok (.invokevirtual 307, 3) := by decide +kernel
theorem dX10_isGoer_5 : decode cX10_isGoer 5 = .ok (.ifCond .eq 15, 3) := by decide +kernel
theorem dX10_isGoer_20 : decode cX10_isGoer 20 = .ok (.iconst 0, 1) := by decide +kernel
theorem dX10_isGoer_21 : decode cX10_isGoer 21 = .ok (.ireturn, 1) := by decide +kernel
theorem dX10_isPerson_0 : decode cX10_isPerson 0 = .ok (.iload_n 1, 1) := by decide +kernel
theorem dX10_isPerson_1 : decode cX10_isPerson 1 = .ok (.ifCond .lt 24, 3) := by decide +kernel
theorem dX10_isPerson_4 : decode cX10_isPerson 4 = .ok (.iload_n 1, 1) := by decide +kernel
theorem dX10_isPerson_5 : decode cX10_isPerson 5 = .ok (.bipush 10, 2) := by decide +kernel
theorem dX10_isPerson_7 : decode cX10_isPerson 7 = .ok (.if_icmp .ge 18, 3) := by decide +kernel
theorem dX10_isPerson_10 : decode cX10_isPerson 10 = .ok (.aload_n 0, 1) := by decide +kernel
theorem dX10_isPerson_11 : decode cX10_isPerson 11 = .ok (.getfield 146, 3) := by decide +kernel
theorem dX10_isPerson_14 : decode cX10_isPerson 14 = .ok (.iload_n 1, 1) := by decide +kernel
theorem dX10_isPerson_15 : decode cX10_isPerson 15 = .ok (.invokestatic 150, 3) := by decide +kernel
theorem dX10_isPerson_18 : decode cX10_isPerson 18 = .ok (.ifCond .eq 7, 3) := by decide +kernel
theorem dX10_isPerson_25 : decode cX10_isPerson 25 = .ok (.iconst 0, 1) := by decide +kernel
theorem dX10_isPerson_26 : decode cX10_isPerson 26 = .ok (.ireturn, 1) := by decide +kernel
theorem dX10_laysGoing_0 : decode cX10_laysGoing 0 = .ok (.aload_n 0, 1) := by decide +kernel
theorem dX10_laysGoing_1 : decode cX10_laysGoing 1 = .ok (.invokevirtual 300, 3) := by decide +kernel
theorem dX10_laysGoing_4 : decode cX10_laysGoing 4 = .ok (.iconst 0, 1) := by decide +kernel
theorem dX10_laysGoing_5 : decode cX10_laysGoing 5 = .ok (.istore_n 2, 1) := by decide +kernel
theorem dX10_laysGoing_6 : decode cX10_laysGoing 6 = .ok (.iload_n 2, 1) := by decide +kernel
theorem dX10_laysGoing_7 : decode cX10_laysGoing 7 = .ok (.bipush 10, 2) := by decide +kernel
theorem dX10_laysGoing_9 : decode cX10_laysGoing 9 = .ok (.if_icmp .ge 42, 3) := by decide +kernel
theorem dX10_laysGoing_12 : decode cX10_laysGoing 12 = .ok (.iload_n 1, 1) := by decide +kernel
theorem dX10_laysGoing_13 : decode cX10_laysGoing 13 = .ok (.iload_n 2, 1) := by decide +kernel
theorem dX10_laysGoing_14 : decode cX10_laysGoing 14 = .ok (.invokestatic 150, 3) := by decide +kernel
theorem dX10_laysGoing_17 : decode cX10_laysGoing 17 = .ok (.ifCond .eq 28, 3) := by decide +kernel
theorem dX10_laysGoing_20 : decode cX10_laysGoing 20 = .ok (.aload_n 0, 1) := by decide +kernel
theorem dX10_laysGoing_21 : decode cX10_laysGoing 21 = .ok (.iload_n 2, 1) := by decide +kernel
theorem dX10_laysGoing_22 : decode cX10_laysGoing 22 = .ok (.invokevirtual 291, 3) := by decide +kernel
theorem dX10_laysGoing_25 : decode cX10_laysGoing 25 = .ok (.ifCond .eq 20, 3) := by decide +kernel
theorem dX10_laysGoing_45 : decode cX10_laysGoing 45 = .ok (.iinc 2 1, 3) := by decide +kernel
theorem dX10_laysGoing_48 : decode cX10_laysGoing 48 = .ok (.goto (-42), 3) := by decide +kernel
theorem dX10_laysGoing_51 : decode cX10_laysGoing 51 = .ok (.return_, 1) := by decide +kernel
theorem dX10_laysNobody_0 : decode cX10_laysNobody 0 = .ok (.iconst 0, 1) := by decide +kernel
theorem dX10_laysNobody_1 : decode cX10_laysNobody 1 = .ok (.istore_n 1, 1) := by decide +kernel
theorem dX10_laysNobody_2 : decode cX10_laysNobody 2 = .ok (.iload_n 1, 1) := by decide +kernel
theorem dX10_laysNobody_3 : decode cX10_laysNobody 3 = .ok (.bipush 10, 2) := by decide +kernel
theorem dX10_laysNobody_5 : decode cX10_laysNobody 5 = .ok (.if_icmp .ge 48, 3) := by decide +kernel
theorem dX10_laysNobody_8 : decode cX10_laysNobody 8 = .ok (.aload_n 0, 1) := by decide +kernel
theorem dX10_laysNobody_9 : decode cX10_laysNobody 9 = .ok (.getfield 101, 3) := by decide +kernel
theorem dX10_laysNobody_12 : decode cX10_laysNobody 12 = .ok (.iload_n 1, 1) := by decide +kernel
theorem dX10_laysNobody_13 : decode cX10_laysNobody 13 = .ok (.bipush (-2), 2) := by decide +kernel
theorem dX10_laysNobody_15 : decode cX10_laysNobody 15 = .ok (.iastore, 1) := by decide +kernel
theorem dX10_laysNobody_16 : decode cX10_laysNobody 16 = .ok (.aload_n 0, 1) := by decide +kernel
theorem dX10_laysNobody_17 : decode cX10_laysNobody 17 = .ok (.getfield 104, 3) := by decide +kernel
theorem dX10_laysNobody_20 : decode cX10_laysNobody 20 = .ok (.iload_n 1, 1) := by decide +kernel
theorem dX10_laysNobody_21 : decode cX10_laysNobody 21 = .ok (.bipush (-3), 2) := by decide +kernel
theorem dX10_laysNobody_23 : decode cX10_laysNobody 23 = .ok (.iastore, 1) := by decide +kernel
theorem dX10_laysNobody_24 : decode cX10_laysNobody 24 = .ok (.aload_n 0, 1) := by decide +kernel
theorem dX10_laysNobody_25 : decode cX10_laysNobody 25 = .ok (.getfield 107, 3) := by decide +kernel
theorem dX10_laysNobody_28 : decode cX10_laysNobody 28 = .ok (.iload_n 1, 1) := by decide +kernel
theorem dX10_laysNobody_29 : decode cX10_laysNobody 29 = .ok (.bipush (-2), 2) := by decide +kernel
theorem dX10_laysNobody_31 : decode cX10_laysNobody 31 = .ok (.iastore, 1) := by decide +kernel
theorem dX10_laysNobody_32 : decode cX10_laysNobody 32 = .ok (.aload_n 0, 1) := by decide +kernel
theorem dX10_laysNobody_33 : decode cX10_laysNobody 33 = .ok (.getfield 110, 3) := by decide +kernel
theorem dX10_laysNobody_36 : decode cX10_laysNobody 36 = .ok (.iload_n 1, 1) := by decide +kernel
theorem dX10_laysNobody_37 : decode cX10_laysNobody 37 = .ok (.bipush (-3), 2) := by decide +kernel
theorem dX10_laysNobody_39 : decode cX10_laysNobody 39 = .ok (.iastore, 1) := by decide +kernel
theorem dX10_laysNobody_40 : decode cX10_laysNobody 40 = .ok (.aload_n 0, 1) := by decide +kernel
theorem dX10_laysNobody_41 : decode cX10_laysNobody 41 = .ok (.getfield 113, 3) := by decide +kernel
theorem dX10_laysNobody_44 : decode cX10_laysNobody 44 = .ok (.iload_n 1, 1) := by decide +kernel
theorem dX10_laysNobody_45 : decode cX10_laysNobody 45 = .ok (.iconst 0, 1) := by decide +kernel
theorem dX10_laysNobody_46 : decode cX10_laysNobody 46 = .ok (.iastore, 1) := by decide +kernel
theorem dX10_laysNobody_47 : decode cX10_laysNobody 47 = .ok (.iinc 1 1, 3) := by decide +kernel
theorem dX10_laysNobody_50 : decode cX10_laysNobody 50 = .ok (.goto (-48), 3) := by decide +kernel
theorem dX10_laysNobody_53 : decode cX10_laysNobody 53 = .ok (.iconst 0, 1) := by decide +kernel
theorem dX10_laysNobody_54 : decode cX10_laysNobody 54 = .ok (.istore_n 1, 1) := by decide +kernel
theorem dX10_laysNobody_55 : decode cX10_laysNobody 55 = .ok (.iload_n 1, 1) := by decide +kernel
theorem dX10_laysNobody_56 : decode cX10_laysNobody 56 = .ok (.bipush 12, 2) := by decide +kernel
theorem dX10_laysNobody_58 : decode cX10_laysNobody 58 = .ok (.if_icmp .ge 16, 3) := by decide +kernel
theorem dX10_laysNobody_61 : decode cX10_laysNobody 61 = .ok (.aload_n 0, 1) := by decide +kernel
theorem dX10_laysNobody_62 : decode cX10_laysNobody 62 = .ok (.getfield 116, 3) := by decide +kernel
theorem dX10_laysNobody_65 : decode cX10_laysNobody 65 = .ok (.iload_n 1, 1) := by decide +kernel
theorem dX10_laysNobody_66 : decode cX10_laysNobody 66 = .ok (.iconst (-1), 1) := by decide +kernel
theorem dX10_laysNobody_67 : decode cX10_laysNobody 67 = .ok (.iastore, 1) := by decide +kernel
theorem dX10_laysNobody_68 : decode cX10_laysNobody 68 = .ok (.iinc 1 1, 3) := by decide +kernel
theorem dX10_laysNobody_71 : decode cX10_laysNobody 71 = .ok (.goto (-16), 3) := by decide +kernel
theorem dX10_laysNobody_74 : decode cX10_laysNobody 74 = .ok (.return_, 1) := by decide +kernel
theorem dX10_leaveSet_0 : decode cX10_leaveSet 0 = .ok (.iconst 0, 1) := by decide +kernel
theorem dX10_leaveSet_1 : decode cX10_leaveSet 1 = .ok (.istore_n 1, 1) := by decide +kernel
theorem dX10_leaveSet_2 : decode cX10_leaveSet 2 = .ok (.iconst 0, 1) := by decide +kernel
theorem dX10_leaveSet_3 : decode cX10_leaveSet 3 = .ok (.istore_n 2, 1) := by decide +kernel
theorem dX10_leaveSet_4 : decode cX10_leaveSet 4 = .ok (.iload_n 2, 1) := by decide +kernel
theorem dX10_leaveSet_5 : decode cX10_leaveSet 5 = .ok (.bipush 10, 2) := by decide +kernel
theorem dX10_leaveSet_7 : decode cX10_leaveSet 7 = .ok (.if_icmp .ge 27, 3) := by decide +kernel
theorem dX10_leaveSet_10 : decode cX10_leaveSet 10 = .ok (.iload_n 1, 1) := by decide +kernel
theorem dX10_leaveSet_11 : decode cX10_leaveSet 11 = .ok (.aload_n 0, 1) := by decide +kernel
theorem dX10_leaveSet_12 : decode cX10_leaveSet 12 = .ok (.iload_n 2, 1) := by decide +kernel
theorem dX10_leaveSet_13 : decode cX10_leaveSet 13 = .ok (.invokevirtual 291, 3) := by decide +kernel
theorem dX10_leaveSet_16 : decode cX10_leaveSet 16 = .ok (.ifCond .eq 9, 3) := by decide +kernel
theorem dX10_leaveSet_25 : decode cX10_leaveSet 25 = .ok (.iconst 0, 1) := by decide +kernel
theorem dX10_leaveSet_26 : decode cX10_leaveSet 26 = .ok (.ior, 1) := by decide +kernel
theorem dX10_leaveSet_27 : decode cX10_leaveSet 27 = .ok (.istore_n 1, 1) := by decide +kernel
theorem dX10_leaveSet_28 : decode cX10_leaveSet 28 = .ok (.iinc 2 1, 3) := by decide +kernel
theorem dX10_leaveSet_31 : decode cX10_leaveSet 31 = .ok (.goto (-27), 3) := by decide +kernel
theorem dX10_leaveSet_34 : decode cX10_leaveSet 34 = .ok (.iload_n 1, 1) := by decide +kernel
theorem dX10_leaveSet_35 : decode cX10_leaveSet 35 = .ok (.ireturn, 1) := by decide +kernel
theorem dX10_trial_0 : decode cX10_trial 0 = .ok (.aload_n 0, 1) := by decide +kernel
theorem dX10_trial_1 : decode cX10_trial 1 = .ok (.getfield 7, 3) := by decide +kernel
theorem dX10_trial_4 : decode cX10_trial 4 = .ok (.aload_n 0, 1) := by decide +kernel
theorem dX10_trial_5 : decode cX10_trial 5 = .ok (.getfield 13, 3) := by decide +kernel
theorem dX10_trial_8 : decode cX10_trial 8 = .ok (.bipush 15, 2) := by decide +kernel
theorem dX10_trial_10 : decode cX10_trial 10 = .ok (.invokestatic 359, 3) := by decide +kernel
theorem dX10_trial_13 : decode cX10_trial 13 = .ok (.aload_n 0, 1) := by decide +kernel
theorem dX10_trial_14 : decode cX10_trial 14 = .ok (.iload_n 1, 1) := by decide +kernel
theorem dX10_trial_15 : decode cX10_trial 15 = .ok (.invokevirtual 363, 3) := by decide +kernel
theorem dX10_trial_18 : decode cX10_trial 18 = .ok (.aload_n 0, 1) := by decide +kernel
theorem dX10_trial_19 : decode cX10_trial 19 = .ok (.getfield 7, 3) := by decide +kernel
theorem dX10_trial_22 : decode cX10_trial 22 = .ok (.bipush 12, 2) := by decide +kernel
theorem dX10_trial_24 : decode cX10_trial 24 = .ok (.iaload, 1) := by decide +kernel
theorem dX10_trial_25 : decode cX10_trial 25 = .ok (.aload_n 0, 1) := by decide +kernel
theorem dX10_trial_26 : decode cX10_trial 26 = .ok (.getfield 13, 3) := by decide +kernel
theorem dX10_trial_29 : decode cX10_trial 29 = .ok (.bipush 12, 2) := by decide +kernel
theorem dX10_trial_31 : decode cX10_trial 31 = .ok (.iaload, 1) := by decide +kernel
theorem dX10_trial_32 : decode cX10_trial 32 = .ok (.isub, 1) := by decide +kernel
theorem dX10_trial_33 : decode cX10_trial 33 = .ok (.istore_n 2, 1) := by decide +kernel
theorem dX10_trial_34 : decode cX10_trial 34 = .ok (.aload_n 0, 1) := by decide +kernel
theorem dX10_trial_35 : decode cX10_trial 35 = .ok (.getfield 13, 3) := by decide +kernel
theorem dX10_trial_38 : decode cX10_trial 38 = .ok (.aload_n 0, 1) := by decide +kernel
theorem dX10_trial_39 : decode cX10_trial 39 = .ok (.getfield 7, 3) := by decide +kernel
theorem dX10_trial_42 : decode cX10_trial 42 = .ok (.bipush 15, 2) := by decide +kernel
theorem dX10_trial_44 : decode cX10_trial 44 = .ok (.invokestatic 359, 3) := by decide +kernel
theorem dX10_trial_47 : decode cX10_trial 47 = .ok (.iload_n 2, 1) := by decide +kernel
theorem dX10_trial_48 : decode cX10_trial 48 = .ok (.ireturn, 1) := by decide +kernel
theorem dX10_undoneAll_0 : decode cX10_undoneAll 0 = .ok (.iconst 0, 1) := by decide +kernel
theorem dX10_undoneAll_1 : decode cX10_undoneAll 1 = .ok (.istore_n 1, 1) := by decide +kernel
theorem dX10_undoneAll_2 : decode cX10_undoneAll 2 = .ok (.iconst 0, 1) := by decide +kernel
theorem dX10_undoneAll_3 : decode cX10_undoneAll 3 = .ok (.istore_n 2, 1) := by decide +kernel
theorem dX10_undoneAll_4 : decode cX10_undoneAll 4 = .ok (.iload_n 2, 1) := by decide +kernel
theorem dX10_undoneAll_5 : decode cX10_undoneAll 5 = .ok (.bipush 12, 2) := by decide +kernel
theorem dX10_undoneAll_7 : decode cX10_undoneAll 7 = .ok (.if_icmp .ge 30, 3) := by decide +kernel
theorem dX10_undoneAll_10 : decode cX10_undoneAll 10 = .ok (.iload_n 1, 1) := by decide +kernel
theorem dX10_undoneAll_11 : decode cX10_undoneAll 11 = .ok (.aload_n 0, 1) := by decide +kernel
theorem dX10_undoneAll_12 : decode cX10_undoneAll 12 = .ok (.iload_n 2, 1) := by decide +kernel
theorem dX10_undoneAll_13 : decode cX10_undoneAll 13 = .ok (.invokevirtual 331, 3) := by decide +kernel
theorem dX10_undoneAll_16 : decode cX10_undoneAll 16 = .ok (.ifCond .eq 12, 3) := by decide +kernel
theorem dX10_undoneAll_28 : decode cX10_undoneAll 28 = .ok (.iconst 0, 1) := by decide +kernel
theorem dX10_undoneAll_29 : decode cX10_undoneAll 29 = .ok (.iadd, 1) := by decide +kernel
theorem dX10_undoneAll_30 : decode cX10_undoneAll 30 = .ok (.istore_n 1, 1) := by decide +kernel
theorem dX10_undoneAll_31 : decode cX10_undoneAll 31 = .ok (.iinc 2 1, 3) := by decide +kernel
theorem dX10_undoneAll_34 : decode cX10_undoneAll 34 = .ok (.goto (-30), 3) := by decide +kernel
theorem dX10_undoneAll_37 : decode cX10_undoneAll 37 = .ok (.iload_n 1, 1) := by decide +kernel
theorem dX10_undoneAll_38 : decode cX10_undoneAll 38 = .ok (.ireturn, 1) := by decide +kernel
theorem dX10_unitsOf_0 : decode cX10_unitsOf 0 = .ok (.aload_n 0, 1) := by decide +kernel
theorem dX10_unitsOf_1 : decode cX10_unitsOf 1 = .ok (.iload_n 1, 1) := by decide +kernel
theorem dX10_unitsOf_2 : decode cX10_unitsOf 2 = .ok (.invokevirtual 307, 3) := by decide +kernel
theorem dX10_unitsOf_5 : decode cX10_unitsOf 5 = .ok (.ifCond .eq 43, 3) := by decide +kernel
theorem dX10_unitsOf_48 : decode cX10_unitsOf 48 = .ok (.iconst 0, 1) := by decide +kernel
theorem dX10_unitsOf_49 : decode cX10_unitsOf 49 = .ok (.ireturn, 1) := by decide +kernel
theorem dX1_setDay_0 : decode cX1_setDay 0 = .ok (.aload_n 0, 1) := by decide +kernel
theorem dX1_setDay_1 : decode cX1_setDay 1 = .ok (.getfield 27, 3) := by decide +kernel
theorem dX1_setDay_4 : decode cX1_setDay 4 = .ok (.iconst 3, 1) := by decide +kernel
theorem dX1_setDay_5 : decode cX1_setDay 5 = .ok (.iload_n 1, 1) := by decide +kernel
theorem dX1_setDay_6 : decode cX1_setDay 6 = .ok (.iastore, 1) := by decide +kernel
theorem dX1_setDay_7 : decode cX1_setDay 7 = .ok (.aload_n 0, 1) := by decide +kernel
theorem dX1_setDay_8 : decode cX1_setDay 8 = .ok (.getfield 27, 3) := by decide +kernel
theorem dX1_setDay_11 : decode cX1_setDay 11 = .ok (.iconst 4, 1) := by decide +kernel
theorem dX1_setDay_12 : decode cX1_setDay 12 = .ok (.iload_n 1, 1) := by decide +kernel
theorem dX1_setDay_13 : decode cX1_setDay 13 = .ok (.bipush 7, 2) := by decide +kernel
theorem dX1_setDay_15 : decode cX1_setDay 15 = .ok (.irem, 1) := by decide +kernel
theorem dX1_setDay_16 : decode cX1_setDay 16 = .ok (.iastore, 1) := by decide +kernel
theorem dX1_setDay_17 : decode cX1_setDay 17 = .ok (.aload_n 0, 1) := by decide +kernel
theorem dX1_setDay_18 : decode cX1_setDay 18 = .ok (.getfield 27, 3) := by decide +kernel
theorem dX1_setDay_21 : decode cX1_setDay 21 = .ok (.iconst 5, 1) := by decide +kernel
theorem dX1_setDay_22 : decode cX1_setDay 22 = .ok (.iload_n 2, 1) := by decide +kernel
