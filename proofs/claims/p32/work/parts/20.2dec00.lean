theorem dJ6_bitCount_0f7a4_0 : decode cJ6_bitCount_0f7a4 0 = .ok (.iload_n 0, 1) := by decide +kernel
theorem dJ6_bitCount_0f7a4_1 : decode cJ6_bitCount_0f7a4 1 = .ok (.iload_n 0, 1) := by decide +kernel
theorem dJ6_bitCount_0f7a4_2 : decode cJ6_bitCount_0f7a4 2 = .ok (.iconst 1, 1) := by decide +kernel
theorem dJ6_bitCount_0f7a4_3 : decode cJ6_bitCount_0f7a4 3 = .ok (.iushr, 1) := by decide +kernel
theorem dJ6_bitCount_0f7a4_4 : decode cJ6_bitCount_0f7a4 4 = .ok (.ldc_w 265, 3) := by decide +kernel
theorem dJ6_bitCount_0f7a4_7 : decode cJ6_bitCount_0f7a4 7 = .ok (.iand, 1) := by decide +kernel
theorem dJ6_bitCount_0f7a4_8 : decode cJ6_bitCount_0f7a4 8 = .ok (.isub, 1) := by decide +kernel
theorem dJ6_bitCount_0f7a4_9 : decode cJ6_bitCount_0f7a4 9 = .ok (.istore_n 0, 1) := by decide +kernel
theorem dJ6_bitCount_0f7a4_10 : decode cJ6_bitCount_0f7a4 10 = .ok (.iload_n 0, 1) := by decide +kernel
theorem dJ6_bitCount_0f7a4_11 : decode cJ6_bitCount_0f7a4 11 = .ok (.ldc_w 266, 3) := by decide +kernel
theorem dJ6_bitCount_0f7a4_14 : decode cJ6_bitCount_0f7a4 14 = .ok (.iand, 1) := by decide +kernel
theorem dJ6_bitCount_0f7a4_15 : decode cJ6_bitCount_0f7a4 15 = .ok (.iload_n 0, 1) := by decide +kernel
theorem dJ6_bitCount_0f7a4_16 : decode cJ6_bitCount_0f7a4 16 = .ok (.iconst 2, 1) := by decide +kernel
theorem dJ6_bitCount_0f7a4_17 : decode cJ6_bitCount_0f7a4 17 = .ok (.iushr, 1) := by decide +kernel
theorem dJ6_bitCount_0f7a4_18 : decode cJ6_bitCount_0f7a4 18 = .ok (.ldc_w 266, 3) := by decide +kernel
theorem dJ6_bitCount_0f7a4_21 : decode cJ6_bitCount_0f7a4 21 = .ok (.iand, 1) := by decide +kernel
theorem dJ6_bitCount_0f7a4_22 : decode cJ6_bitCount_0f7a4 22 = .ok (.iadd, 1) := by decide +kernel
theorem dJ6_bitCount_0f7a4_23 : decode cJ6_bitCount_0f7a4 23 = .ok (.istore_n 0, 1) := by decide +kernel
theorem dJ6_bitCount_0f7a4_24 : decode cJ6_bitCount_0f7a4 24 = .ok (.iload_n 0, 1) := by decide +kernel
theorem dJ6_bitCount_0f7a4_25 : decode cJ6_bitCount_0f7a4 25 = .ok (.iload_n 0, 1) := by decide +kernel
theorem dJ6_bitCount_0f7a4_26 : decode cJ6_bitCount_0f7a4 26 = .ok (.iconst 4, 1) := by decide +kernel
theorem dJ6_bitCount_0f7a4_27 : decode cJ6_bitCount_0f7a4 27 = .ok (.iushr, 1) := by decide +kernel
theorem dJ6_bitCount_0f7a4_28 : decode cJ6_bitCount_0f7a4 28 = .ok (.iadd, 1) := by decide +kernel
theorem dJ6_bitCount_0f7a4_29 : decode cJ6_bitCount_0f7a4 29 = .ok (.ldc_w 267, 3) := by decide +kernel
theorem dJ6_bitCount_0f7a4_32 : decode cJ6_bitCount_0f7a4 32 = .ok (.iand, 1) := by decide +kernel
theorem dJ6_bitCount_0f7a4_33 : decode cJ6_bitCount_0f7a4 33 = .ok (.istore_n 0, 1) := by decide +kernel
theorem dJ6_bitCount_0f7a4_34 : decode cJ6_bitCount_0f7a4 34 = .ok (.iload_n 0, 1) := by decide +kernel
theorem dJ6_bitCount_0f7a4_35 : decode cJ6_bitCount_0f7a4 35 = .ok (.iload_n 0, 1) := by decide +kernel
theorem dJ6_bitCount_0f7a4_36 : decode cJ6_bitCount_0f7a4 36 = .ok (.bipush 8, 2) := by decide +kernel
theorem dJ6_bitCount_0f7a4_38 : decode cJ6_bitCount_0f7a4 38 = .ok (.iushr, 1) := by decide +kernel
theorem dJ6_bitCount_0f7a4_39 : decode cJ6_bitCount_0f7a4 39 = .ok (.iadd, 1) := by decide +kernel
theorem dJ6_bitCount_0f7a4_40 : decode cJ6_bitCount_0f7a4 40 = .ok (.istore_n 0, 1) := by decide +kernel
theorem dJ6_bitCount_0f7a4_41 : decode cJ6_bitCount_0f7a4 41 = .ok (.iload_n 0, 1) := by decide +kernel
theorem dJ6_bitCount_0f7a4_42 : decode cJ6_bitCount_0f7a4 42 = .ok (.iload_n 0, 1) := by decide +kernel
theorem dJ6_bitCount_0f7a4_43 : decode cJ6_bitCount_0f7a4 43 = .ok (.bipush 16, 2) := by decide +kernel
theorem dJ6_bitCount_0f7a4_45 : decode cJ6_bitCount_0f7a4 45 = .ok (.iushr, 1) := by decide +kernel
theorem dJ6_bitCount_0f7a4_46 : decode cJ6_bitCount_0f7a4 46 = .ok (.iadd, 1) := by decide +kernel
theorem dJ6_bitCount_0f7a4_47 : decode cJ6_bitCount_0f7a4 47 = .ok (.istore_n 0, 1) := by decide +kernel
theorem dJ6_bitCount_0f7a4_48 : decode cJ6_bitCount_0f7a4 48 = .ok (.iload_n 0, 1) := by decide +kernel
theorem dJ6_bitCount_0f7a4_49 : decode cJ6_bitCount_0f7a4 49 = .ok (.bipush 63, 2) := by decide +kernel
theorem dJ6_bitCount_0f7a4_51 : decode cJ6_bitCount_0f7a4 51 = .ok (.iand, 1) := by decide +kernel
theorem dJ6_bitCount_0f7a4_52 : decode cJ6_bitCount_0f7a4 52 = .ok (.ireturn, 1) := by decide +kernel
theorem dJ7_fill_53178_0 : decode cJ7_fill_53178 0 = .ok (.iconst 0, 1) := by decide +kernel
theorem dJ7_fill_53178_1 : decode cJ7_fill_53178 1 = .ok (.istore_n 2, 1) := by decide +kernel
theorem dJ7_fill_53178_2 : decode cJ7_fill_53178 2 = .ok (.aload_n 0, 1) := by decide +kernel
theorem dJ7_fill_53178_3 : decode cJ7_fill_53178 3 = .ok (.arraylength, 1) := by decide +kernel
theorem dJ7_fill_53178_4 : decode cJ7_fill_53178 4 = .ok (.istore_n 3, 1) := by decide +kernel
theorem dJ7_fill_53178_5 : decode cJ7_fill_53178 5 = .ok (.iload_n 2, 1) := by decide +kernel
theorem dJ7_fill_53178_6 : decode cJ7_fill_53178 6 = .ok (.iload_n 3, 1) := by decide +kernel
theorem dJ7_fill_53178_7 : decode cJ7_fill_53178 7 = .ok (.if_icmp .ge 13, 3) := by decide +kernel
theorem dJ7_fill_53178_10 : decode cJ7_fill_53178 10 = .ok (.aload_n 0, 1) := by decide +kernel
theorem dJ7_fill_53178_11 : decode cJ7_fill_53178 11 = .ok (.iload_n 2, 1) := by decide +kernel
theorem dJ7_fill_53178_12 : decode cJ7_fill_53178 12 = .ok (.iload_n 1, 1) := by decide +kernel
theorem dJ7_fill_53178_13 : decode cJ7_fill_53178 13 = .ok (.iastore, 1) := by decide +kernel
theorem dJ7_fill_53178_14 : decode cJ7_fill_53178 14 = .ok (.iinc 2 1, 3) := by decide +kernel
theorem dJ7_fill_53178_17 : decode cJ7_fill_53178 17 = .ok (.goto (-12), 3) := by decide +kernel
theorem dJ7_fill_53178_20 : decode cJ7_fill_53178 20 = .ok (.return_, 1) := by decide +kernel
theorem dX10_has_0 : decode cX10_has 0 = .ok (.iload_n 0, 1) := by decide +kernel
theorem dX10_has_1 : decode cX10_has 1 = .ok (.iload_n 1, 1) := by decide +kernel
theorem dX10_has_2 : decode cX10_has 2 = .ok (.ishr, 1) := by decide +kernel
theorem dX10_has_3 : decode cX10_has 3 = .ok (.iconst 1, 1) := by decide +kernel
theorem dX10_has_4 : decode cX10_has 4 = .ok (.iand, 1) := by decide +kernel
theorem dX10_has_5 : decode cX10_has 5 = .ok (.iconst 1, 1) := by decide +kernel
theorem dX10_has_6 : decode cX10_has 6 = .ok (.if_icmp .ne 7, 3) := by decide +kernel
theorem dX10_has_9 : decode cX10_has 9 = .ok (.iconst 1, 1) := by decide +kernel
theorem dX10_has_10 : decode cX10_has 10 = .ok (.goto 4, 3) := by decide +kernel
theorem dX10_has_13 : decode cX10_has 13 = .ok (.iconst 0, 1) := by decide +kernel
theorem dX10_has_14 : decode cX10_has 14 = .ok (.ireturn, 1) := by decide +kernel
theorem dX10_in_0 : decode cX10_in 0 = .ok (.iload_n 0, 1) := by decide +kernel
theorem dX10_in_1 : decode cX10_in 1 = .ok (.iload_n 1, 1) := by decide +kernel
theorem dX10_in_2 : decode cX10_in 2 = .ok (.if_icmp .lt 12, 3) := by decide +kernel
theorem dX10_in_5 : decode cX10_in 5 = .ok (.iload_n 0, 1) := by decide +kernel
theorem dX10_in_6 : decode cX10_in 6 = .ok (.iload_n 2, 1) := by decide +kernel
theorem dX10_in_7 : decode cX10_in 7 = .ok (.if_icmp .gt 7, 3) := by decide +kernel
theorem dX10_in_10 : decode cX10_in 10 = .ok (.iconst 1, 1) := by decide +kernel
theorem dX10_in_11 : decode cX10_in 11 = .ok (.goto 4, 3) := by decide +kernel
theorem dX10_in_14 : decode cX10_in 14 = .ok (.iconst 0, 1) := by decide +kernel
theorem dX10_in_15 : decode cX10_in 15 = .ok (.ireturn, 1) := by decide +kernel
theorem dX1_joined_0 : decode cX1_joined 0 = .ok (.iload_n 0, 1) := by decide +kernel
theorem dX1_joined_1 : decode cX1_joined 1 = .ok (.tableswitch 101 5 11 #[43, 47, 51, 55, 67, 79, 90], 43) := by decide +kernel
theorem dX1_joined_44 : decode cX1_joined 44 = .ok (.iload_n 1, 1) := by decide +kernel
theorem dX1_joined_45 : decode cX1_joined 45 = .ok (.iload_n 2, 1) := by decide +kernel
theorem dX1_joined_46 : decode cX1_joined 46 = .ok (.iadd, 1) := by decide +kernel
theorem dX1_joined_47 : decode cX1_joined 47 = .ok (.ireturn, 1) := by decide +kernel
theorem dX1_joined_48 : decode cX1_joined 48 = .ok (.iload_n 1, 1) := by decide +kernel
theorem dX1_joined_49 : decode cX1_joined 49 = .ok (.iload_n 2, 1) := by decide +kernel
theorem dX1_joined_50 : decode cX1_joined 50 = .ok (.isub, 1) := by decide +kernel
theorem dX1_joined_51 : decode cX1_joined 51 = .ok (.ireturn, 1) := by decide +kernel
theorem dX1_joined_52 : decode cX1_joined 52 = .ok (.iload_n 1, 1) := by decide +kernel
theorem dX1_joined_53 : decode cX1_joined 53 = .ok (.iload_n 2, 1) := by decide +kernel
theorem dX1_joined_54 : decode cX1_joined 54 = .ok (.imul, 1) := by decide +kernel
theorem dX1_joined_55 : decode cX1_joined 55 = .ok (.ireturn, 1) := by decide +kernel
theorem dX1_joined_56 : decode cX1_joined 56 = .ok (.iload_n 2, 1) := by decide +kernel
theorem dX1_joined_57 : decode cX1_joined 57 = .ok (.ifCond .ne 7, 3) := by decide +kernel
theorem dX1_joined_60 : decode cX1_joined 60 = .ok (.iconst 0, 1) := by decide +kernel
theorem dX1_joined_61 : decode cX1_joined 61 = .ok (.goto 6, 3) := by decide +kernel
theorem dX1_joined_64 : decode cX1_joined 64 = .ok (.iload_n 1, 1) := by decide +kernel
theorem dX1_joined_65 : decode cX1_joined 65 = .ok (.iload_n 2, 1) := by decide +kernel
theorem dX1_joined_66 : decode cX1_joined 66 = .ok (.idiv, 1) := by decide +kernel
theorem dX1_joined_67 : decode cX1_joined 67 = .ok (.ireturn, 1) := by decide +kernel
theorem dX1_joined_68 : decode cX1_joined 68 = .ok (.iload_n 2, 1) := by decide +kernel
theorem dX1_joined_69 : decode cX1_joined 69 = .ok (.ifCond .ne 7, 3) := by decide +kernel
theorem dX1_joined_72 : decode cX1_joined 72 = .ok (.iconst 0, 1) := by decide +kernel
theorem dX1_joined_73 : decode cX1_joined 73 = .ok (.goto 6, 3) := by decide +kernel
theorem dX1_joined_76 : decode cX1_joined 76 = .ok (.iload_n 1, 1) := by decide +kernel
theorem dX1_joined_77 : decode cX1_joined 77 = .ok (.iload_n 2, 1) := by decide +kernel
theorem dX1_joined_78 : decode cX1_joined 78 = .ok (.irem, 1) := by decide +kernel
theorem dX1_joined_79 : decode cX1_joined 79 = .ok (.ireturn, 1) := by decide +kernel
theorem dX1_joined_80 : decode cX1_joined 80 = .ok (.iload_n 1, 1) := by decide +kernel
theorem dX1_joined_81 : decode cX1_joined 81 = .ok (.iload_n 2, 1) := by decide +kernel
theorem dX1_joined_82 : decode cX1_joined 82 = .ok (.if_icmp .ge 7, 3) := by decide +kernel
theorem dX1_joined_85 : decode cX1_joined 85 = .ok (.iconst 1, 1) := by decide +kernel
theorem dX1_joined_86 : decode cX1_joined 86 = .ok (.goto 4, 3) := by decide +kernel
theorem dX1_joined_89 : decode cX1_joined 89 = .ok (.iconst 0, 1) := by decide +kernel
theorem dX1_joined_90 : decode cX1_joined 90 = .ok (.ireturn, 1) := by decide +kernel
theorem dX1_joined_91 : decode cX1_joined 91 = .ok (.iload_n 1, 1) := by decide +kernel
theorem dX1_joined_92 : decode cX1_joined 92 = .ok (.iload_n 2, 1) := by decide +kernel
theorem dX1_joined_93 : decode cX1_joined 93 = .ok (.if_icmp .le 7, 3) := by decide +kernel
theorem dX1_joined_96 : decode cX1_joined 96 = .ok (.iconst 1, 1) := by decide +kernel
theorem dX1_joined_97 : decode cX1_joined 97 = .ok (.goto 4, 3) := by decide +kernel
theorem dX1_joined_100 : decode cX1_joined 100 = .ok (.iconst 0, 1) := by decide +kernel
theorem dX1_joined_101 : decode cX1_joined 101 = .ok (.ireturn, 1) := by decide +kernel
theorem dX1_joined_102 : decode cX1_joined 102 = .ok (.iload_n 1, 1) := by decide +kernel
theorem dX1_joined_103 : decode cX1_joined 103 = .ok (.iload_n 2, 1) := by decide +kernel
theorem dX1_joined_104 : decode cX1_joined 104 = .ok (.if_icmp .ne 7, 3) := by decide +kernel
theorem dX1_joined_107 : decode cX1_joined 107 = .ok (.iconst 1, 1) := by decide +kernel
theorem dX1_joined_108 : decode cX1_joined 108 = .ok (.goto 4, 3) := by decide +kernel
theorem dX1_joined_111 : decode cX1_joined 111 = .ok (.iconst 0, 1) := by decide +kernel
theorem dX1_joined_112 : decode cX1_joined 112 = .ok (.ireturn, 1) := by decide +kernel
theorem dX4_allUndone_0 : decode cX4_allUndone 0 = .ok (.iconst 0, 1) := by decide +kernel
theorem dX4_allUndone_1 : decode cX4_allUndone 1 = .ok (.istore_n 1, 1) := by decide +kernel
theorem dX4_allUndone_2 : decode cX4_allUndone 2 = .ok (.iconst 0, 1) := by decide +kernel
theorem dX4_allUndone_3 : decode cX4_allUndone 3 = .ok (.istore_n 2, 1) := by decide +kernel
theorem dX4_allUndone_4 : decode cX4_allUndone 4 = .ok (.iload_n 2, 1) := by decide +kernel
theorem dX4_allUndone_5 : decode cX4_allUndone 5 = .ok (.bipush 12, 2) := by decide +kernel
theorem dX4_allUndone_7 : decode cX4_allUndone 7 = .ok (.if_icmp .ge 18, 3) := by decide +kernel
theorem dX4_allUndone_10 : decode cX4_allUndone 10 = .ok (.iload_n 1, 1) := by decide +kernel
theorem dX4_allUndone_11 : decode cX4_allUndone 11 = .ok (.aload_n 0, 1) := by decide +kernel
theorem dX4_allUndone_12 : decode cX4_allUndone 12 = .ok (.getfield 9, 3) := by decide +kernel
theorem dX4_allUndone_15 : decode cX4_allUndone 15 = .ok (.iload_n 2, 1) := by decide +kernel
theorem dX4_allUndone_16 : decode cX4_allUndone 16 = .ok (.iaload, 1) := by decide +kernel
theorem dX4_allUndone_17 : decode cX4_allUndone 17 = .ok (.iadd, 1) := by decide +kernel
theorem dX4_allUndone_18 : decode cX4_allUndone 18 = .ok (.istore_n 1, 1) := by decide +kernel
theorem dX4_allUndone_19 : decode cX4_allUndone 19 = .ok (.iinc 2 1, 3) := by decide +kernel
theorem dX4_allUndone_22 : decode cX4_allUndone 22 = .ok (.goto (-18), 3) := by decide +kernel
theorem dX4_allUndone_25 : decode cX4_allUndone 25 = .ok (.iload_n 1, 1) := by decide +kernel
theorem dX4_allUndone_26 : decode cX4_allUndone 26 = .ok (.ireturn, 1) := by decide +kernel
theorem dX4_awayBits_0 : decode cX4_awayBits 0 = .ok (.iconst 0, 1) := by decide +kernel
theorem dX4_awayBits_1 : decode cX4_awayBits 1 = .ok (.istore_n 1, 1) := by decide +kernel
theorem dX4_awayBits_2 : decode cX4_awayBits 2 = .ok (.iconst 0, 1) := by decide +kernel
theorem dX4_awayBits_3 : decode cX4_awayBits 3 = .ok (.istore_n 2, 1) := by decide +kernel
theorem dX4_awayBits_4 : decode cX4_awayBits 4 = .ok (.iload_n 2, 1) := by decide +kernel
theorem dX4_awayBits_5 : decode cX4_awayBits 5 = .ok (.bipush 10, 2) := by decide +kernel
theorem dX4_awayBits_7 : decode cX4_awayBits 7 = .ok (.if_icmp .ge 27, 3) := by decide +kernel
theorem dX4_awayBits_10 : decode cX4_awayBits 10 = .ok (.iload_n 1, 1) := by decide +kernel
theorem dX4_awayBits_11 : decode cX4_awayBits 11 = .ok (.aload_n 0, 1) := by decide +kernel
theorem dX4_awayBits_12 : decode cX4_awayBits 12 = .ok (.iload_n 2, 1) := by decide +kernel
theorem dX4_awayBits_13 : decode cX4_awayBits 13 = .ok (.invokevirtual 51, 3) := by decide +kernel
theorem dX4_awayBits_16 : decode cX4_awayBits 16 = .ok (.ifCond .eq 9, 3) := by decide +kernel
theorem dX4_awayBits_19 : decode cX4_awayBits 19 = .ok (.iconst 1, 1) := by decide +kernel
theorem dX4_awayBits_20 : decode cX4_awayBits 20 = .ok (.iload_n 2, 1) := by decide +kernel
theorem dX4_awayBits_21 : decode cX4_awayBits 21 = .ok (.ishl, 1) := by decide +kernel
theorem dX4_awayBits_22 : decode cX4_awayBits 22 = .ok (.goto 4, 3) := by decide +kernel
theorem dX4_awayBits_25 : decode cX4_awayBits 25 = .ok (.iconst 0, 1) := by decide +kernel
theorem dX4_awayBits_26 : decode cX4_awayBits 26 = .ok (.ior, 1) := by decide +kernel
theorem dX4_awayBits_27 : decode cX4_awayBits 27 = .ok (.istore_n 1, 1) := by decide +kernel
theorem dX4_awayBits_28 : decode cX4_awayBits 28 = .ok (.iinc 2 1, 3) := by decide +kernel
theorem dX4_awayBits_31 : decode cX4_awayBits 31 = .ok (.goto (-27), 3) := by decide +kernel
theorem dX4_awayBits_34 : decode cX4_awayBits 34 = .ok (.iload_n 1, 1) := by decide +kernel
theorem dX4_awayBits_35 : decode cX4_awayBits 35 = .ok (.ireturn, 1) := by decide +kernel
theorem dX4_copy_0 : decode cX4_copy 0 = .ok (.aload_n 1, 1) := by decide +kernel
theorem dX4_copy_1 : decode cX4_copy 1 = .ok (.getfield 9, 3) := by decide +kernel
theorem dX4_copy_4 : decode cX4_copy 4 = .ok (.iconst 0, 1) := by decide +kernel
theorem dX4_copy_5 : decode cX4_copy 5 = .ok (.aload_n 0, 1) := by decide +kernel
theorem dX4_copy_6 : decode cX4_copy 6 = .ok (.getfield 9, 3) := by decide +kernel
theorem dX4_copy_9 : decode cX4_copy 9 = .ok (.iconst 0, 1) := by decide +kernel
theorem dX4_copy_10 : decode cX4_copy 10 = .ok (.bipush 12, 2) := by decide +kernel
theorem dX4_copy_12 : decode cX4_copy 12 = .ok (.invokestatic 31, 3) := by decide +kernel
theorem dX4_copy_15 : decode cX4_copy 15 = .ok (.aload_n 1, 1) := by decide +kernel
theorem dX4_copy_16 : decode cX4_copy 16 = .ok (.getfield 15, 3) := by decide +kernel
theorem dX4_copy_19 : decode cX4_copy 19 = .ok (.iconst 0, 1) := by decide +kernel
theorem dX4_copy_20 : decode cX4_copy 20 = .ok (.aload_n 0, 1) := by decide +kernel
theorem dX4_copy_21 : decode cX4_copy 21 = .ok (.getfield 15, 3) := by decide +kernel
theorem dX4_copy_24 : decode cX4_copy 24 = .ok (.iconst 0, 1) := by decide +kernel
theorem dX4_copy_25 : decode cX4_copy 25 = .ok (.bipush 10, 2) := by decide +kernel
theorem dX4_copy_27 : decode cX4_copy 27 = .ok (.invokestatic 31, 3) := by decide +kernel
theorem dX4_copy_30 : decode cX4_copy 30 = .ok (.aload_n 1, 1) := by decide +kernel
theorem dX4_copy_31 : decode cX4_copy 31 = .ok (.getfield 18, 3) := by decide +kernel
theorem dX4_copy_34 : decode cX4_copy 34 = .ok (.iconst 0, 1) := by decide +kernel
theorem dX4_copy_35 : decode cX4_copy 35 = .ok (.aload_n 0, 1) := by decide +kernel
theorem dX4_copy_36 : decode cX4_copy 36 = .ok (.getfield 18, 3) := by decide +kernel
theorem dX4_copy_39 : decode cX4_copy 39 = .ok (.iconst 0, 1) := by decide +kernel
theorem dX4_copy_40 : decode cX4_copy 40 = .ok (.bipush 10, 2) := by decide +kernel
theorem dX4_copy_42 : decode cX4_copy 42 = .ok (.invokestatic 31, 3) := by decide +kernel
theorem dX4_copy_45 : decode cX4_copy 45 = .ok (.aload_n 0, 1) := by decide +kernel
theorem dX4_copy_46 : decode cX4_copy 46 = .ok (.aload_n 1, 1) := by decide +kernel
theorem dX4_copy_47 : decode cX4_copy 47 = .ok (.getfield 37, 3) := by decide +kernel
theorem dX4_copy_50 : decode cX4_copy 50 = .ok (.putfield 37, 3) := by decide +kernel
theorem dX4_copy_53 : decode cX4_copy 53 = .ok (.aload_n 0, 1) := by decide +kernel
theorem dX4_copy_54 : decode cX4_copy 54 = .ok (.aload_n 1, 1) := by decide +kernel
theorem dX4_copy_55 : decode cX4_copy 55 = .ok (.getfield 40, 3) := by decide +kernel
theorem dX4_copy_58 : decode cX4_copy 58 = .ok (.putfield 40, 3) := by decide +kernel
theorem dX4_copy_61 : decode cX4_copy 61 = .ok (.aload_n 0, 1) := by decide +kernel
theorem dX4_copy_62 : decode cX4_copy 62 = .ok (.aload_n 1, 1) := by decide +kernel
theorem dX4_copy_63 : decode cX4_copy 63 = .ok (.getfield 21, 3) := by decide +kernel
theorem dX4_copy_66 : decode cX4_copy 66 = .ok (.putfield 21, 3) := by decide +kernel
theorem dX4_copy_69 : decode cX4_copy 69 = .ok (.return_, 1) := by decide +kernel
theorem dX4_endLeaves_0 : decode cX4_endLeaves 0 = .ok (.iconst 0, 1) := by decide +kernel
theorem dX4_endLeaves_1 : decode cX4_endLeaves 1 = .ok (.istore_n 2, 1) := by decide +kernel
theorem dX4_endLeaves_2 : decode cX4_endLeaves 2 = .ok (.iload_n 2, 1) := by decide +kernel
theorem dX4_endLeaves_3 : decode cX4_endLeaves 3 = .ok (.bipush 10, 2) := by decide +kernel
theorem dX4_endLeaves_5 : decode cX4_endLeaves 5 = .ok (.if_icmp .ge 33, 3) := by decide +kernel
theorem dX4_endLeaves_8 : decode cX4_endLeaves 8 = .ok (.iload_n 1, 1) := by decide +kernel
theorem dX4_endLeaves_9 : decode cX4_endLeaves 9 = .ok (.iload_n 2, 1) := by decide +kernel
theorem dX4_endLeaves_10 : decode cX4_endLeaves 10 = .ok (.invokestatic 43, 3) := by decide +kernel
theorem dX4_endLeaves_13 : decode cX4_endLeaves 13 = .ok (.ifCond .eq 19, 3) := by decide +kernel
theorem dX4_endLeaves_16 : decode cX4_endLeaves 16 = .ok (.aload_n 0, 1) := by decide +kernel
theorem dX4_endLeaves_17 : decode cX4_endLeaves 17 = .ok (.getfield 15, 3) := by decide +kernel
theorem dX4_endLeaves_20 : decode cX4_endLeaves 20 = .ok (.iload_n 2, 1) := by decide +kernel
theorem dX4_endLeaves_21 : decode cX4_endLeaves 21 = .ok (.bipush (-2), 2) := by decide +kernel
theorem dX4_endLeaves_23 : decode cX4_endLeaves 23 = .ok (.iastore, 1) := by decide +kernel
theorem dX4_endLeaves_24 : decode cX4_endLeaves 24 = .ok (.aload_n 0, 1) := by decide +kernel
theorem dX4_endLeaves_25 : decode cX4_endLeaves 25 = .ok (.getfield 18, 3) := by decide +kernel
theorem dX4_endLeaves_28 : decode cX4_endLeaves 28 = .ok (.iload_n 2, 1) := by decide +kernel
theorem dX4_endLeaves_29 : decode cX4_endLeaves 29 = .ok (.bipush (-2), 2) := by decide +kernel
theorem dX4_endLeaves_31 : decode cX4_endLeaves 31 = .ok (.iastore, 1) := by decide +kernel
theorem dX4_endLeaves_32 : decode cX4_endLeaves 32 = .ok (.iinc 2 1, 3) := by decide +kernel
theorem dX4_endLeaves_35 : decode cX4_endLeaves 35 = .ok (.goto (-33), 3) := by decide +kernel
theorem dX4_endLeaves_38 : decode cX4_endLeaves 38 = .ok (.return_, 1) := by decide +kernel
theorem dX4_giveLeave_0 : decode cX4_giveLeave 0 = .ok (.iload_n 1, 1) := by decide +kernel
theorem dX4_giveLeave_1 : decode cX4_giveLeave 1 = .ok (.ifCond .lt 23, 3) := by decide +kernel
theorem dX4_giveLeave_4 : decode cX4_giveLeave 4 = .ok (.iload_n 1, 1) := by decide +kernel
theorem dX4_giveLeave_5 : decode cX4_giveLeave 5 = .ok (.bipush 10, 2) := by decide +kernel
theorem dX4_giveLeave_7 : decode cX4_giveLeave 7 = .ok (.if_icmp .ge 17, 3) := by decide +kernel
theorem dX4_giveLeave_10 : decode cX4_giveLeave 10 = .ok (.aload_n 0, 1) := by decide +kernel
theorem dX4_giveLeave_11 : decode cX4_giveLeave 11 = .ok (.getfield 15, 3) := by decide +kernel
theorem dX4_giveLeave_14 : decode cX4_giveLeave 14 = .ok (.iload_n 1, 1) := by decide +kernel
theorem dX4_giveLeave_15 : decode cX4_giveLeave 15 = .ok (.iload_n 2, 1) := by decide +kernel
theorem dX4_giveLeave_16 : decode cX4_giveLeave 16 = .ok (.iastore, 1) := by decide +kernel
theorem dX4_giveLeave_17 : decode cX4_giveLeave 17 = .ok (.aload_n 0, 1) := by decide +kernel
theorem dX4_giveLeave_18 : decode cX4_giveLeave 18 = .ok (.getfield 18, 3) := by decide +kernel
theorem dX4_giveLeave_21 : decode cX4_giveLeave 21 = .ok (.iload_n 1, 1) := by decide +kernel
theorem dX4_giveLeave_22 : decode cX4_giveLeave 22 = .ok (.iload_n 3, 1) := by decide +kernel
theorem dX4_giveLeave_23 : decode cX4_giveLeave 23 = .ok (.iastore, 1) := by decide +kernel
theorem dX4_giveLeave_24 : decode cX4_giveLeave 24 = .ok (.return_, 1) := by decide +kernel
theorem dX4_hasLeave_0 : decode cX4_hasLeave 0 = .ok (.iload_n 1, 1) := by decide +kernel
theorem dX4_hasLeave_1 : decode cX4_hasLeave 1 = .ok (.ifCond .lt 24, 3) := by decide +kernel
theorem dX4_hasLeave_4 : decode cX4_hasLeave 4 = .ok (.iload_n 1, 1) := by decide +kernel
theorem dX4_hasLeave_5 : decode cX4_hasLeave 5 = .ok (.bipush 10, 2) := by decide +kernel
theorem dX4_hasLeave_7 : decode cX4_hasLeave 7 = .ok (.if_icmp .ge 18, 3) := by decide +kernel
theorem dX4_hasLeave_10 : decode cX4_hasLeave 10 = .ok (.aload_n 0, 1) := by decide +kernel
theorem dX4_hasLeave_11 : decode cX4_hasLeave 11 = .ok (.getfield 15, 3) := by decide +kernel
theorem dX4_hasLeave_14 : decode cX4_hasLeave 14 = .ok (.iload_n 1, 1) := by decide +kernel
theorem dX4_hasLeave_15 : decode cX4_hasLeave 15 = .ok (.iaload, 1) := by decide +kernel
theorem dX4_hasLeave_16 : decode cX4_hasLeave 16 = .ok (.bipush (-2), 2) := by decide +kernel
theorem dX4_hasLeave_18 : decode cX4_hasLeave 18 = .ok (.if_icmp .eq 7, 3) := by decide +kernel
theorem dX4_hasLeave_21 : decode cX4_hasLeave 21 = .ok (.iconst 1, 1) := by decide +kernel
theorem dX4_hasLeave_22 : decode cX4_hasLeave 22 = .ok (.goto 4, 3) := by decide +kernel
theorem dX4_hasLeave_25 : decode cX4_hasLeave 25 = .ok (.iconst 0, 1) := by decide +kernel
theorem dX4_hasLeave_26 : decode cX4_hasLeave 26 = .ok (.ireturn, 1) := by decide +kernel
theorem dX4_isAway_0 : decode cX4_isAway 0 = .ok (.iload_n 1, 1) := by decide +kernel
theorem dX4_isAway_1 : decode cX4_isAway 1 = .ok (.ifCond .lt 39, 3) := by decide +kernel
theorem dX4_isAway_4 : decode cX4_isAway 4 = .ok (.iload_n 1, 1) := by decide +kernel
theorem dX4_isAway_5 : decode cX4_isAway 5 = .ok (.bipush 10, 2) := by decide +kernel
theorem dX4_isAway_7 : decode cX4_isAway 7 = .ok (.if_icmp .ge 33, 3) := by decide +kernel
theorem dX4_isAway_10 : decode cX4_isAway 10 = .ok (.aload_n 0, 1) := by decide +kernel
theorem dX4_isAway_11 : decode cX4_isAway 11 = .ok (.getfield 15, 3) := by decide +kernel
theorem dX4_isAway_14 : decode cX4_isAway 14 = .ok (.iload_n 1, 1) := by decide +kernel
theorem dX4_isAway_15 : decode cX4_isAway 15 = .ok (.iaload, 1) := by decide +kernel
theorem dX4_isAway_16 : decode cX4_isAway 16 = .ok (.aload_n 0, 1) := by decide +kernel
theorem dX4_isAway_17 : decode cX4_isAway 17 = .ok (.getfield 40, 3) := by decide +kernel
theorem dX4_isAway_20 : decode cX4_isAway 20 = .ok (.if_icmp .gt 20, 3) := by decide +kernel
theorem dX4_isAway_23 : decode cX4_isAway 23 = .ok (.aload_n 0, 1) := by decide +kernel
theorem dX4_isAway_24 : decode cX4_isAway 24 = .ok (.getfield 40, 3) := by decide +kernel
theorem dX4_isAway_27 : decode cX4_isAway 27 = .ok (.aload_n 0, 1) := by decide +kernel
theorem dX4_isAway_28 : decode cX4_isAway 28 = .ok (.getfield 18, 3) := by decide +kernel
theorem dX4_isAway_31 : decode cX4_isAway 31 = .ok (.iload_n 1, 1) := by decide +kernel
theorem dX4_isAway_32 : decode cX4_isAway 32 = .ok (.iaload, 1) := by decide +kernel
theorem dX4_isAway_33 : decode cX4_isAway 33 = .ok (.if_icmp .gt 7, 3) := by decide +kernel
theorem dX4_isAway_36 : decode cX4_isAway 36 = .ok (.iconst 1, 1) := by decide +kernel
theorem dX4_isAway_37 : decode cX4_isAway 37 = .ok (.goto 4, 3) := by decide +kernel
theorem dX4_isAway_40 : decode cX4_isAway 40 = .ok (.iconst 0, 1) := by decide +kernel
theorem dX4_isAway_41 : decode cX4_isAway 41 = .ok (.ireturn, 1) := by decide +kernel
theorem dX4_leaveBits_0 : decode cX4_leaveBits 0 = .ok (.iconst 0, 1) := by decide +kernel
theorem dX4_leaveBits_1 : decode cX4_leaveBits 1 = .ok (.istore_n 1, 1) := by decide +kernel
theorem dX4_leaveBits_2 : decode cX4_leaveBits 2 = .ok (.iconst 0, 1) := by decide +kernel
theorem dX4_leaveBits_3 : decode cX4_leaveBits 3 = .ok (.istore_n 2, 1) := by decide +kernel
theorem dX4_leaveBits_4 : decode cX4_leaveBits 4 = .ok (.iload_n 2, 1) := by decide +kernel
theorem dX4_leaveBits_5 : decode cX4_leaveBits 5 = .ok (.bipush 10, 2) := by decide +kernel
theorem dX4_leaveBits_7 : decode cX4_leaveBits 7 = .ok (.if_icmp .ge 27, 3) := by decide +kernel
theorem dX4_leaveBits_10 : decode cX4_leaveBits 10 = .ok (.iload_n 1, 1) := by decide +kernel
theorem dX4_leaveBits_11 : decode cX4_leaveBits 11 = .ok (.aload_n 0, 1) := by decide +kernel
theorem dX4_leaveBits_12 : decode cX4_leaveBits 12 = .ok (.iload_n 2, 1) := by decide +kernel
theorem dX4_leaveBits_13 : decode cX4_leaveBits 13 = .ok (.invokevirtual 47, 3) := by decide +kernel
theorem dX4_leaveBits_16 : decode cX4_leaveBits 16 = .ok (.ifCond .eq 9, 3) := by decide +kernel
theorem dX4_leaveBits_19 : decode cX4_leaveBits 19 = .ok (.iconst 1, 1) := by decide +kernel
theorem dX4_leaveBits_20 : decode cX4_leaveBits 20 = .ok (.iload_n 2, 1) := by decide +kernel
theorem dX4_leaveBits_21 : decode cX4_leaveBits 21 = .ok (.ishl, 1) := by decide +kernel
theorem dX4_leaveBits_22 : decode cX4_leaveBits 22 = .ok (.goto 4, 3) := by decide +kernel
theorem dX4_leaveBits_25 : decode cX4_leaveBits 25 = .ok (.iconst 0, 1) := by decide +kernel
theorem dX4_leaveBits_26 : decode cX4_leaveBits 26 = .ok (.ior, 1) := by decide +kernel
theorem dX4_leaveBits_27 : decode cX4_leaveBits 27 = .ok (.istore_n 1, 1) := by decide +kernel
theorem dX4_leaveBits_28 : decode cX4_leaveBits 28 = .ok (.iinc 2 1, 3) := by decide +kernel
theorem dX4_leaveBits_31 : decode cX4_leaveBits 31 = .ok (.goto (-27), 3) := by decide +kernel
theorem dX4_leaveBits_34 : decode cX4_leaveBits 34 = .ok (.iload_n 1, 1) := by decide +kernel
theorem dX4_leaveBits_35 : decode cX4_leaveBits 35 = .ok (.ireturn, 1) := by decide +kernel
theorem dX7_hasChore_0 : decode cX7_hasChore 0 = .ok (.iload_n 1, 1) := by decide +kernel
theorem dX7_hasChore_1 : decode cX7_hasChore 1 = .ok (.ifCond .lt 24, 3) := by decide +kernel
theorem dX7_hasChore_4 : decode cX7_hasChore 4 = .ok (.iload_n 1, 1) := by decide +kernel
theorem dX7_hasChore_5 : decode cX7_hasChore 5 = .ok (.bipush 12, 2) := by decide +kernel
theorem dX7_hasChore_7 : decode cX7_hasChore 7 = .ok (.if_icmp .ge 18, 3) := by decide +kernel
theorem dX7_hasChore_10 : decode cX7_hasChore 10 = .ok (.aload_n 0, 1) := by decide +kernel
theorem dX7_hasChore_11 : decode cX7_hasChore 11 = .ok (.getfield 32, 3) := by decide +kernel
theorem dX7_hasChore_14 : decode cX7_hasChore 14 = .ok (.iload_n 1, 1) := by decide +kernel
theorem dX7_hasChore_15 : decode cX7_hasChore 15 = .ok (.invokestatic 28, 3) := by decide +kernel
theorem dX7_hasChore_18 : decode cX7_hasChore 18 = .ok (.ifCond .eq 7, 3) := by decide +kernel
theorem dX7_hasChore_21 : decode cX7_hasChore 21 = .ok (.iconst 1, 1) := by decide +kernel
theorem dX7_hasChore_22 : decode cX7_hasChore 22 = .ok (.goto 4, 3) := by decide +kernel
theorem dX7_hasChore_25 : decode cX7_hasChore 25 = .ok (.iconst 0, 1) := by decide +kernel
theorem dX7_hasChore_26 : decode cX7_hasChore 26 = .ok (.ireturn, 1) := by decide +kernel
theorem dX7_hasPerson_0 : decode cX7_hasPerson 0 = .ok (.iload_n 1, 1) := by decide +kernel
theorem dX7_hasPerson_1 : decode cX7_hasPerson 1 = .ok (.ifCond .lt 24, 3) := by decide +kernel
theorem dX7_hasPerson_4 : decode cX7_hasPerson 4 = .ok (.iload_n 1, 1) := by decide +kernel
theorem dX7_hasPerson_5 : decode cX7_hasPerson 5 = .ok (.bipush 10, 2) := by decide +kernel
theorem dX7_hasPerson_7 : decode cX7_hasPerson 7 = .ok (.if_icmp .ge 18, 3) := by decide +kernel
theorem dX7_hasPerson_10 : decode cX7_hasPerson 10 = .ok (.aload_n 0, 1) := by decide +kernel
theorem dX7_hasPerson_11 : decode cX7_hasPerson 11 = .ok (.getfield 24, 3) := by decide +kernel
theorem dX7_hasPerson_14 : decode cX7_hasPerson 14 = .ok (.iload_n 1, 1) := by decide +kernel
theorem dX7_hasPerson_15 : decode cX7_hasPerson 15 = .ok (.invokestatic 28, 3) := by decide +kernel
theorem dX7_hasPerson_18 : decode cX7_hasPerson 18 = .ok (.ifCond .eq 7, 3) := by decide +kernel
theorem dX7_hasPerson_21 : decode cX7_hasPerson 21 = .ok (.iconst 1, 1) := by decide +kernel
theorem dX7_hasPerson_22 : decode cX7_hasPerson 22 = .ok (.goto 4, 3) := by decide +kernel
theorem dX7_hasPerson_25 : decode cX7_hasPerson 25 = .ok (.iconst 0, 1) := by decide +kernel
theorem dX7_hasPerson_26 : decode cX7_hasPerson 26 = .ok (.ireturn, 1) := by decide +kernel
theorem dX9_isDayCount_0 : decode cX9_isDayCount 0 = .ok (.iload_n 0, 1) := by decide +kernel
theorem dX9_isDayCount_1 : decode cX9_isDayCount 1 = .ok (.iconst 1, 1) := by decide +kernel
theorem dX9_isDayCount_2 : decode cX9_isDayCount 2 = .ok (.if_icmp .lt 13, 3) := by decide +kernel
theorem dX9_isDayCount_5 : decode cX9_isDayCount 5 = .ok (.iload_n 0, 1) := by decide +kernel
theorem dX9_isDayCount_6 : decode cX9_isDayCount 6 = .ok (.bipush 60, 2) := by decide +kernel
theorem dX9_isDayCount_8 : decode cX9_isDayCount 8 = .ok (.if_icmp .gt 7, 3) := by decide +kernel
theorem dX9_isDayCount_11 : decode cX9_isDayCount 11 = .ok (.iconst 1, 1) := by decide +kernel
theorem dX9_isDayCount_12 : decode cX9_isDayCount 12 = .ok (.goto 4, 3) := by decide +kernel
theorem dX9_isDayCount_15 : decode cX9_isDayCount 15 = .ok (.iconst 0, 1) := by decide +kernel
theorem dX9_isDayCount_16 : decode cX9_isDayCount 16 = .ok (.ireturn, 1) := by decide +kernel
theorem dX9_isIn_0 : decode cX9_isIn 0 = .ok (.iload_n 1, 1) := by decide +kernel
theorem dX9_isIn_1 : decode cX9_isIn 1 = .ok (.ifCond .lt 22, 3) := by decide +kernel
theorem dX9_isIn_4 : decode cX9_isIn 4 = .ok (.iload_n 1, 1) := by decide +kernel
theorem dX9_isIn_5 : decode cX9_isIn 5 = .ok (.bipush 31, 2) := by decide +kernel
theorem dX9_isIn_7 : decode cX9_isIn 7 = .ok (.if_icmp .ge 16, 3) := by decide +kernel
theorem dX9_isIn_10 : decode cX9_isIn 10 = .ok (.iload_n 0, 1) := by decide +kernel
theorem dX9_isIn_11 : decode cX9_isIn 11 = .ok (.iload_n 1, 1) := by decide +kernel
theorem dX9_isIn_12 : decode cX9_isIn 12 = .ok (.ishr, 1) := by decide +kernel
theorem dX9_isIn_13 : decode cX9_isIn 13 = .ok (.iconst 1, 1) := by decide +kernel
theorem dX9_isIn_14 : decode cX9_isIn 14 = .ok (.iand, 1) := by decide +kernel
theorem dX9_isIn_15 : decode cX9_isIn 15 = .ok (.iconst 1, 1) := by decide +kernel
theorem dX9_isIn_16 : decode cX9_isIn 16 = .ok (.if_icmp .ne 7, 3) := by decide +kernel
theorem dX9_isIn_19 : decode cX9_isIn 19 = .ok (.iconst 1, 1) := by decide +kernel
theorem dX9_isIn_20 : decode cX9_isIn 20 = .ok (.goto 4, 3) := by decide +kernel
theorem dX9_isIn_23 : decode cX9_isIn 23 = .ok (.iconst 0, 1) := by decide +kernel
theorem dX9_isIn_24 : decode cX9_isIn 24 = .ok (.ireturn, 1) := by decide +kernel
theorem dX9_within_0 : decode cX9_within 0 = .ok (.iload_n 0, 1) := by decide +kernel
theorem dX9_within_1 : decode cX9_within 1 = .ok (.iload_n 1, 1) := by decide +kernel
theorem dX9_within_2 : decode cX9_within 2 = .ok (.if_icmp .lt 12, 3) := by decide +kernel
theorem dX9_within_5 : decode cX9_within 5 = .ok (.iload_n 0, 1) := by decide +kernel
theorem dX9_within_6 : decode cX9_within 6 = .ok (.iload_n 2, 1) := by decide +kernel
theorem dX9_within_7 : decode cX9_within 7 = .ok (.if_icmp .gt 7, 3) := by decide +kernel
theorem dX9_within_10 : decode cX9_within 10 = .ok (.iconst 1, 1) := by decide +kernel
theorem dX9_within_11 : decode cX9_within 11 = .ok (.goto 4, 3) := by decide +kernel
theorem dX9_within_14 : decode cX9_within 14 = .ok (.iconst 0, 1) := by decide +kernel
theorem dX9_within_15 : decode cX9_within 15 = .ok (.ireturn, 1) := by decide +kernel
