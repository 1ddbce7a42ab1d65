theorem dJ6_bitCount_0f7a4_0 : decode cJ6_bitCount_0f7a4 0 = .ok (.iload_n 0, 1) := by decide +kernel
theorem dJ6_bitCount_0f7a4_1 : decode cJ6_bitCount_0f7a4 1 = .ok (.iload_n 0, 1) := by decide +kernel
theorem dJ6_bitCount_0f7a4_2 : decode cJ6_bitCount_0f7a4 2 = .ok (.iconst 1, 1) := by decide +kernel
theorem dJ6_bitCount_0f7a4_3 : decode cJ6_bitCount_0f7a4 3 = .ok (.iushr, 1) := by decide +kernel
theorem dJ6_bitCount_0f7a4_4 : decode cJ6_bitCount_0f7a4 4 = .ok (.ldc_w 265, 3) := by decide +kernel
theorem dJ6_bitCount_0f7a4_7 : decode cJ6_bitCount_0f7a4 7 = .ok (.iand, 1) := by decide +kernel
theorem dJ6_bitCount_0f7a4_8 : decode cJ6_bitCount_0f7a4 8 = .ok (.isub, 1) := by decide +kernel
theorem dJ6_bitCount_0f7a4_9 : decode cJ6_bitCount_0f7a4 9 = .ok (.istore_n 0, 1) := by decide +kernel
theorem dJ6_bitCount_0f7a4_10 : decode cJ6_bitCount_0f7a4 10 = .ok (.iload_n 0, 1) := by decide +kernel
theorem dJ6_bitCount_0f7a4_11 : decode cJ6_bitCount_0f7a4 11 = .ok (.ldc_w 266, 3) := by decide +kernel
theorem dJ6_bitCount_0f7a4_14 : decode cJ6_bitCount_0f7a4 14 = .ok (.iand, 1) := by decide +kernel
theorem dJ6_bitCount_0f7a4_15 : decode cJ6_bitCount_0f7a4 15 = .ok (.iload_n 0, 1) := by decide +kernel
theorem dJ6_bitCount_0f7a4_16 : decode cJ6_bitCount_0f7a4 16 = .ok (.iconst 2, 1) := by decide +kernel
theorem dJ6_bitCount_0f7a4_17 : decode cJ6_bitCount_0f7a4 17 = .ok (.iushr, 1) := by decide +kernel
theorem dJ6_bitCount_0f7a4_18 : decode cJ6_bitCount_0f7a4 18 = .ok (.ldc_w 266, 3) := by decide +kernel
theorem dJ6_bitCount_0f7a4_21 : decode cJ6_bitCount_0f7a4 21 = .ok (.iand, 1) := by decide +kernel
theorem dJ6_bitCount_0f7a4_22 : decode cJ6_bitCount_0f7a4 22 = .ok (.iadd, 1) := by decide +kernel
theorem dJ6_bitCount_0f7a4_23 : decode cJ6_bitCount_0f7a4 23 = .ok (.istore_n 0, 1) := by decide +kernel
theorem dJ6_bitCount_0f7a4_24 : decode cJ6_bitCount_0f7a4 24 = .ok (.iload_n 0, 1) := by decide +kernel
theorem dJ6_bitCount_0f7a4_25 : decode cJ6_bitCount_0f7a4 25 = .ok (.iload_n 0, 1) := by decide +kernel
theorem dJ6_bitCount_0f7a4_26 : decode cJ6_bitCount_0f7a4 26 = .ok (.iconst 4, 1) := by decide +kernel
theorem dJ6_bitCount_0f7a4_27 : decode cJ6_bitCount_0f7a4 27 = .ok (.iushr, 1) := by decide +kernel
theorem dJ6_bitCount_0f7a4_28 : decode cJ6_bitCount_0f7a4 28 = .ok (.iadd, 1) := by decide +kernel
theorem dJ6_bitCount_0f7a4_29 : decode cJ6_bitCount_0f7a4 29 = .ok (.ldc_w 267, 3) := by decide +kernel
theorem dJ6_bitCount_0f7a4_32 : decode cJ6_bitCount_0f7a4 32 = .ok (.iand, 1) := by decide +kernel
theorem dJ6_bitCount_0f7a4_33 : decode cJ6_bitCount_0f7a4 33 = .ok (.istore_n 0, 1) := by decide +kernel
theorem dJ6_bitCount_0f7a4_34 : decode cJ6_bitCount_0f7a4 34 = .ok (.iload_n 0, 1) := by decide +kernel
theorem dJ6_bitCount_0f7a4_35 : decode cJ6_bitCount_0f7a4 35 = .ok (.iload_n 0, 1) := by decide +kernel
theorem dJ6_bitCount_0f7a4_36 : decode cJ6_bitCount_0f7a4 36 = .ok (.bipush 8, 2) := by decide +kernel
theorem dJ6_bitCount_0f7a4_38 : decode cJ6_bitCount_0f7a4 38 = .ok (.iushr, 1) := by decide +kernel
theorem dJ6_bitCount_0f7a4_39 : decode cJ6_bitCount_0f7a4 39 = .ok (.iadd, 1) := by decide +kernel
theorem dJ6_bitCount_0f7a4_40 : decode cJ6_bitCount_0f7a4 40 = .ok (.istore_n 0, 1) := by decide +kernel
theorem dJ6_bitCount_0f7a4_41 : decode cJ6_bitCount_0f7a4 41 = .ok (.iload_n 0, 1) := by decide +kernel
theorem dJ6_bitCount_0f7a4_42 : decode cJ6_bitCount_0f7a4 42 = .ok (.iload_n 0, 1) := by decide +kernel
theorem dJ6_bitCount_0f7a4_43 : decode cJ6_bitCount_0f7a4 43 = .ok (.bipush 16, 2) := by decide +kernel
theorem dJ6_bitCount_0f7a4_45 : decode cJ6_bitCount_0f7a4 45 = .ok (.iushr, 1) := by decide +kernel
theorem dJ6_bitCount_0f7a4_46 : decode cJ6_bitCount_0f7a4 46 = .ok (.iadd, 1) := by decide +kernel
theorem dJ6_bitCount_0f7a4_47 : decode cJ6_bitCount_0f7a4 47 = .ok (.istore_n 0, 1) := by decide +kernel
theorem dJ6_bitCount_0f7a4_48 : decode cJ6_bitCount_0f7a4 48 = .ok (.iload_n 0, 1) := by decide +kernel
theorem dJ6_bitCount_0f7a4_49 : decode cJ6_bitCount_0f7a4 49 = .ok (.bipush 63, 2) := by decide +kernel
theorem dJ6_bitCount_0f7a4_51 : decode cJ6_bitCount_0f7a4 51 = .ok (.iand, 1) := by decide +kernel
theorem dJ6_bitCount_0f7a4_52 : decode cJ6_bitCount_0f7a4 52 = .ok (.ireturn, 1) := by decide +kernel
theorem dJ7_fill_53178_0 : decode cJ7_fill_53178 0 = .ok (.iconst 0, 1) := by decide +kernel
theorem dJ7_fill_53178_1 : decode cJ7_fill_53178 1 = .ok (.istore_n 2, 1) := by decide +kernel
theorem dJ7_fill_53178_2 : decode cJ7_fill_53178 2 = .ok (.aload_n 0, 1) := by decide +kernel
theorem dJ7_fill_53178_3 : decode cJ7_fill_53178 3 = .ok (.arraylength, 1) := by decide +kernel
theorem dJ7_fill_53178_4 : decode cJ7_fill_53178 4 = .ok (.istore_n 3, 1) := by decide +kernel
theorem dJ7_fill_53178_5 : decode cJ7_fill_53178 5 = .ok (.iload_n 2, 1) := by decide +kernel
theorem dJ7_fill_53178_6 : decode cJ7_fill_53178 6 = .ok (.iload_n 3, 1) := by decide +kernel
theorem dJ7_fill_53178_7 : decode cJ7_fill_53178 7 = .ok (.if_icmp .ge 13, 3) := by decide +kernel
theorem dJ7_fill_53178_10 : decode cJ7_fill_53178 10 = .ok (.aload_n 0, 1) := by decide +kernel
theorem dJ7_fill_53178_11 : decode cJ7_fill_53178 11 = .ok (.iload_n 2, 1) := by decide +kernel
theorem dJ7_fill_53178_12 : decode cJ7_fill_53178 12 = .ok (.iload_n 1, 1) := by decide +kernel
theorem dJ7_fill_53178_13 : decode cJ7_fill_53178 13 = .ok (.iastore, 1) := by decide +kernel
theorem dJ7_fill_53178_14 : decode cJ7_fill_53178 14 = .ok (.iinc 2 1, 3) := by decide +kernel
theorem dJ7_fill_53178_17 : decode cJ7_fill_53178 17 = .ok (.goto (-12), 3) := by decide +kernel
theorem dJ7_fill_53178_20 : decode cJ7_fill_53178 20 = .ok (.return_, 1) := by decide +kernel
theorem dX0_init_0 : decode cX0_init 0 = .ok (.aload_n 0, 1) := by decide +kernel
theorem dX0_init_1 : decode cX0_init 1 = .ok (.invokespecial 3, 3) := by decide +kernel
theorem dX0_init_4 : decode cX0_init 4 = .ok (.aload_n 0, 1) := by decide +kernel
theorem dX0_init_5 : decode cX0_init 5 = .ok (.bipush 120, 2) := by decide +kernel
theorem dX0_init_7 : decode cX0_init 7 = .ok (.newarray .int, 2) := by decide +kernel
theorem dX0_init_9 : decode cX0_init 9 = .ok (.putfield 9, 3) := by decide +kernel
theorem dX0_init_12 : decode cX0_init 12 = .ok (.aload_n 0, 1) := by decide +kernel
theorem dX0_init_13 : decode cX0_init 13 = .ok (.bipush 12, 2) := by decide +kernel
theorem dX0_init_15 : decode cX0_init 15 = .ok (.newarray .int, 2) := by decide +kernel
theorem dX0_init_17 : decode cX0_init 17 = .ok (.putfield 15, 3) := by decide +kernel
theorem dX0_init_20 : decode cX0_init 20 = .ok (.aload_n 0, 1) := by decide +kernel
theorem dX0_init_21 : decode cX0_init 21 = .ok (.aload_n 1, 1) := by decide +kernel
theorem dX0_init_22 : decode cX0_init 22 = .ok (.putfield 18, 3) := by decide +kernel
theorem dX0_init_25 : decode cX0_init 25 = .ok (.return_, 1) := by decide +kernel
theorem dX10_against_0 : decode cX10_against 0 = .ok (.aload_n 0, 1) := by decide +kernel
theorem dX10_against_1 : decode cX10_against 1 = .ok (.iload_n 1, 1) := by decide +kernel
theorem dX10_against_2 : decode cX10_against 2 = .ok (.invokevirtual 307, 3) := by decide +kernel
theorem dX10_against_5 : decode cX10_against 5 = .ok (.ifCond .eq 46, 3) := by decide +kernel
theorem dX10_against_51 : decode cX10_against 51 = .ok (.ldc_w 384, 3) := by decide +kernel
theorem dX10_against_54 : decode cX10_against 54 = .ok (.ireturn, 1) := by decide +kernel
theorem dX10_areDays_0 : decode cX10_areDays 0 = .ok (.iload_n 0, 1) := by decide +kernel
theorem dX10_areDays_1 : decode cX10_areDays 1 = .ok (.iconst 1, 1) := by decide +kernel
theorem dX10_areDays_2 : decode cX10_areDays 2 = .ok (.bipush 60, 2) := by decide +kernel
theorem dX10_areDays_4 : decode cX10_areDays 4 = .ok (.invokestatic 157, 3) := by decide +kernel
theorem dX10_areDays_7 : decode cX10_areDays 7 = .ok (.ireturn, 1) := by decide +kernel
theorem dX10_areGoers_0 : decode cX10_areGoers 0 = .ok (.iconst 0, 1) := by decide +kernel
theorem dX10_areGoers_1 : decode cX10_areGoers 1 = .ok (.istore_n 2, 1) := by decide +kernel
theorem dX10_areGoers_2 : decode cX10_areGoers 2 = .ok (.iload_n 2, 1) := by decide +kernel
theorem dX10_areGoers_3 : decode cX10_areGoers 3 = .ok (.bipush 10, 2) := by decide +kernel
theorem dX10_areGoers_5 : decode cX10_areGoers 5 = .ok (.if_icmp .ge 27, 3) := by decide +kernel
theorem dX10_areGoers_8 : decode cX10_areGoers 8 = .ok (.iload_n 1, 1) := by decide +kernel
theorem dX10_areGoers_9 : decode cX10_areGoers 9 = .ok (.iload_n 2, 1) := by decide +kernel
theorem dX10_areGoers_10 : decode cX10_areGoers 10 = .ok (.invokestatic 150, 3) := by decide +kernel
theorem dX10_areGoers_13 : decode cX10_areGoers 13 = .ok (.ifCond .eq 13, 3) := by decide +kernel
theorem dX10_areGoers_16 : decode cX10_areGoers 16 = .ok (.aload_n 0, 1) := by decide +kernel
theorem dX10_areGoers_17 : decode cX10_areGoers 17 = .ok (.iload_n 2, 1) := by decide +kernel
theorem dX10_areGoers_18 : decode cX10_areGoers 18 = .ok (.invokevirtual 381, 3) := by decide +kernel
theorem dX10_areGoers_21 : decode cX10_areGoers 21 = .ok (.ifCond .ne 5, 3) := by decide +kernel
theorem dX10_areGoers_24 : decode cX10_areGoers 24 = .ok (.iconst 0, 1) := by decide +kernel
theorem dX10_areGoers_25 : decode cX10_areGoers 25 = .ok (.ireturn, 1) := by decide +kernel
theorem dX10_areGoers_26 : decode cX10_areGoers 26 = .ok (.iinc 2 1, 3) := by decide +kernel
theorem dX10_areGoers_29 : decode cX10_areGoers 29 = .ok (.goto (-27), 3) := by decide +kernel
theorem dX10_areGoers_32 : decode cX10_areGoers 32 = .ok (.iconst 1, 1) := by decide +kernel
theorem dX10_areGoers_33 : decode cX10_areGoers 33 = .ok (.ireturn, 1) := by decide +kernel
theorem dX10_awayOn_0 : decode cX10_awayOn 0 = .ok (.iconst 0, 1) := by decide +kernel
theorem dX10_awayOn_1 : decode cX10_awayOn 1 = .ok (.istore_n 2, 1) := by decide +kernel
theorem dX10_awayOn_2 : decode cX10_awayOn 2 = .ok (.iconst 0, 1) := by decide +kernel
theorem dX10_awayOn_3 : decode cX10_awayOn 3 = .ok (.istore_n 3, 1) := by decide +kernel
theorem dX10_awayOn_4 : decode cX10_awayOn 4 = .ok (.iload_n 3, 1) := by decide +kernel
theorem dX10_awayOn_5 : decode cX10_awayOn 5 = .ok (.bipush 10, 2) := by decide +kernel
theorem dX10_awayOn_7 : decode cX10_awayOn 7 = .ok (.if_icmp .ge 36, 3) := by decide +kernel
theorem dX10_awayOn_10 : decode cX10_awayOn 10 = .ok (.iload_n 2, 1) := by decide +kernel
theorem dX10_awayOn_11 : decode cX10_awayOn 11 = .ok (.aload_n 0, 1) := by decide +kernel
theorem dX10_awayOn_12 : decode cX10_awayOn 12 = .ok (.iload_n 3, 1) := by decide +kernel
theorem dX10_awayOn_13 : decode cX10_awayOn 13 = .ok (.invokevirtual 307, 3) := by decide +kernel
theorem dX10_awayOn_16 : decode cX10_awayOn 16 = .ok (.ifCond .eq 18, 3) := by decide +kernel
theorem dX10_awayOn_34 : decode cX10_awayOn 34 = .ok (.iconst 0, 1) := by decide +kernel
theorem dX10_awayOn_35 : decode cX10_awayOn 35 = .ok (.ior, 1) := by decide +kernel
theorem dX10_awayOn_36 : decode cX10_awayOn 36 = .ok (.istore_n 2, 1) := by decide +kernel
theorem dX10_awayOn_37 : decode cX10_awayOn 37 = .ok (.iinc 3 1, 3) := by decide +kernel
theorem dX10_awayOn_40 : decode cX10_awayOn 40 = .ok (.goto (-36), 3) := by decide +kernel
theorem dX10_awayOn_43 : decode cX10_awayOn 43 = .ok (.iload_n 2, 1) := by decide +kernel
theorem dX10_awayOn_44 : decode cX10_awayOn 44 = .ok (.ireturn, 1) := by decide +kernel
theorem dX10_bits_0 : decode cX10_bits 0 = .ok (.iconst 0, 1) := by decide +kernel
theorem dX10_bits_1 : decode cX10_bits 1 = .ok (.istore_n 1, 1) := by decide +kernel
theorem dX10_bits_2 : decode cX10_bits 2 = .ok (.iconst 0, 1) := by decide +kernel
theorem dX10_bits_3 : decode cX10_bits 3 = .ok (.istore_n 2, 1) := by decide +kernel
theorem dX10_bits_4 : decode cX10_bits 4 = .ok (.iload_n 2, 1) := by decide +kernel
theorem dX10_bits_5 : decode cX10_bits 5 = .ok (.bipush 12, 2) := by decide +kernel
theorem dX10_bits_7 : decode cX10_bits 7 = .ok (.if_icmp .ge 17, 3) := by decide +kernel
theorem dX10_bits_10 : decode cX10_bits 10 = .ok (.iload_n 1, 1) := by decide +kernel
theorem dX10_bits_11 : decode cX10_bits 11 = .ok (.iload_n 0, 1) := by decide +kernel
theorem dX10_bits_12 : decode cX10_bits 12 = .ok (.iload_n 2, 1) := by decide +kernel
theorem dX10_bits_13 : decode cX10_bits 13 = .ok (.ishr, 1) := by decide +kernel
theorem dX10_bits_14 : decode cX10_bits 14 = .ok (.iconst 1, 1) := by decide +kernel
theorem dX10_bits_15 : decode cX10_bits 15 = .ok (.iand, 1) := by decide +kernel
theorem dX10_bits_16 : decode cX10_bits 16 = .ok (.iadd, 1) := by decide +kernel
theorem dX10_bits_17 : decode cX10_bits 17 = .ok (.istore_n 1, 1) := by decide +kernel
theorem dX10_bits_18 : decode cX10_bits 18 = .ok (.iinc 2 1, 3) := by decide +kernel
theorem dX10_bits_21 : decode cX10_bits 21 = .ok (.goto (-17), 3) := by decide +kernel
theorem dX10_bits_24 : decode cX10_bits 24 = .ok (.iload_n 1, 1) := by decide +kernel
theorem dX10_bits_25 : decode cX10_bits 25 = .ok (.ireturn, 1) := by decide +kernel
theorem dX10_byTurns_0 : decode cX10_byTurns 0 = .ok (.iload_n 1, 1) := by decide +kernel
theorem dX10_byTurns_1 : decode cX10_byTurns 1 = .ok (.iconst 1, 1) := by decide +kernel
theorem dX10_byTurns_2 : decode cX10_byTurns 2 = .ok (.sipush 1023, 3) := by decide +kernel
theorem dX10_byTurns_5 : decode cX10_byTurns 5 = .ok (.invokestatic 157, 3) := by decide +kernel
theorem dX10_byTurns_8 : decode cX10_byTurns 8 = .ok (.ifCond .eq 56, 3) := by decide +kernel
theorem dX10_byTurns_11 : decode cX10_byTurns 11 = .ok (.iload_n 1, 1) := by decide +kernel
theorem dX10_byTurns_12 : decode cX10_byTurns 12 = .ok (.aload_n 0, 1) := by decide +kernel
theorem dX10_byTurns_13 : decode cX10_byTurns 13 = .ok (.getfield 146, 3) := by decide +kernel
theorem dX10_byTurns_16 : decode cX10_byTurns 16 = .ok (.iconst (-1), 1) := by decide +kernel
theorem dX10_byTurns_17 : decode cX10_byTurns 17 = .ok (.ixor, 1) := by decide +kernel
theorem dX10_byTurns_18 : decode cX10_byTurns 18 = .ok (.iand, 1) := by decide +kernel
theorem dX10_byTurns_19 : decode cX10_byTurns 19 = .ok (.ifCond .ne 45, 3) := by decide +kernel
theorem dX10_byTurns_64 : decode cX10_byTurns 64 = .ok (.iconst (-1), 1) := by decide +kernel
theorem dX10_byTurns_65 : decode cX10_byTurns 65 = .ok (.ireturn, 1) := by decide +kernel
theorem dX10_check_0 : decode cX10_check 0 = .ok (.iload_n 1, 1) := by decide +kernel
theorem dX10_check_1 : decode cX10_check 1 = .ok (.iconst 0, 1) := by decide +kernel
theorem dX10_check_2 : decode cX10_check 2 = .ok (.bipush 12, 2) := by decide +kernel
theorem dX10_check_4 : decode cX10_check 4 = .ok (.invokestatic 157, 3) := by decide +kernel
theorem dX10_check_7 : decode cX10_check 7 = .ok (.ifCond .eq 11, 3) := by decide +kernel
theorem dX10_check_10 : decode cX10_check 10 = .ok (.iload_n 1, 1) := by decide +kernel
theorem dX10_check_11 : decode cX10_check 11 = .ok (.aload_n 0, 1) := by decide +kernel
theorem dX10_check_12 : decode cX10_check 12 = .ok (.getfield 164, 3) := by decide +kernel
theorem dX10_check_15 : decode cX10_check 15 = .ok (.if_icmp .le 6, 3) := by decide +kernel
theorem dX10_check_18 : decode cX10_check 18 = .ok (.bipush (-2), 2) := by decide +kernel
theorem dX10_check_20 : decode cX10_check 20 = .ok (.ireturn, 1) := by decide +kernel
theorem dX10_check_21 : decode cX10_check 21 = .ok (.aload_n 0, 1) := by decide +kernel
theorem dX10_check_22 : decode cX10_check 22 = .ok (.iconst 0, 1) := by decide +kernel
theorem dX10_check_23 : decode cX10_check 23 = .ok (.putfield 164, 3) := by decide +kernel
theorem dX10_check_26 : decode cX10_check 26 = .ok (.iconst 0, 1) := by decide +kernel
theorem dX10_check_27 : decode cX10_check 27 = .ok (.istore_n 2, 1) := by decide +kernel
theorem dX10_check_28 : decode cX10_check 28 = .ok (.iload_n 2, 1) := by decide +kernel
theorem dX10_check_29 : decode cX10_check 29 = .ok (.iload_n 1, 1) := by decide +kernel
theorem dX10_check_30 : decode cX10_check 30 = .ok (.if_icmp .ge 42, 3) := by decide +kernel
theorem dX10_check_72 : decode cX10_check 72 = .ok (.iconst (-1), 1) := by decide +kernel
theorem dX10_check_73 : decode cX10_check 73 = .ok (.ireturn, 1) := by decide +kernel
theorem dX10_chore_0 : decode cX10_chore 0 = .ok (.iload_n 1, 1) := by decide +kernel
theorem dX10_chore_1 : decode cX10_chore 1 = .ok (.iconst 0, 1) := by decide +kernel
theorem dX10_chore_2 : decode cX10_chore 2 = .ok (.bipush 11, 2) := by decide +kernel
theorem dX10_chore_4 : decode cX10_chore 4 = .ok (.invokestatic 157, 3) := by decide +kernel
theorem dX10_chore_7 : decode cX10_chore 7 = .ok (.ifCond .eq 13, 3) := by decide +kernel
theorem dX10_chore_10 : decode cX10_chore 10 = .ok (.iload_n 2, 1) := by decide +kernel
theorem dX10_chore_11 : decode cX10_chore 11 = .ok (.iconst 0, 1) := by decide +kernel
theorem dX10_chore_12 : decode cX10_chore 12 = .ok (.bipush 20, 2) := by decide +kernel
theorem dX10_chore_14 : decode cX10_chore 14 = .ok (.invokestatic 157, 3) := by decide +kernel
theorem dX10_chore_17 : decode cX10_chore 17 = .ok (.ifCond .ne 5, 3) := by decide +kernel
theorem dX10_chore_20 : decode cX10_chore 20 = .ok (.iconst 0, 1) := by decide +kernel
theorem dX10_chore_21 : decode cX10_chore 21 = .ok (.ireturn, 1) := by decide +kernel
theorem dX10_chore_22 : decode cX10_chore 22 = .ok (.aload_n 0, 1) := by decide +kernel
theorem dX10_chore_23 : decode cX10_chore 23 = .ok (.aload_n 0, 1) := by decide +kernel
theorem dX10_chore_24 : decode cX10_chore 24 = .ok (.getfield 154, 3) := by decide +kernel
theorem dX10_chore_27 : decode cX10_chore 27 = .ok (.iconst 1, 1) := by decide +kernel
theorem dX10_chore_28 : decode cX10_chore 28 = .ok (.iload_n 1, 1) := by decide +kernel
theorem dX10_chore_29 : decode cX10_chore 29 = .ok (.ishl, 1) := by decide +kernel
theorem dX10_chore_30 : decode cX10_chore 30 = .ok (.ior, 1) := by decide +kernel
theorem dX10_chore_31 : decode cX10_chore 31 = .ok (.putfield 154, 3) := by decide +kernel
theorem dX10_chore_34 : decode cX10_chore 34 = .ok (.aload_n 0, 1) := by decide +kernel
theorem dX10_chore_35 : decode cX10_chore 35 = .ok (.getfield 34, 3) := by decide +kernel
theorem dX10_chore_38 : decode cX10_chore 38 = .ok (.iload_n 1, 1) := by decide +kernel
theorem dX10_chore_39 : decode cX10_chore 39 = .ok (.iload_n 2, 1) := by decide +kernel
theorem dX10_chore_40 : decode cX10_chore 40 = .ok (.iastore, 1) := by decide +kernel
theorem dX10_chore_41 : decode cX10_chore 41 = .ok (.aload_n 0, 1) := by decide +kernel
theorem dX10_chore_42 : decode cX10_chore 42 = .ok (.getfield 7, 3) := by decide +kernel
theorem dX10_chore_45 : decode cX10_chore 45 = .ok (.iload_n 1, 1) := by decide +kernel
theorem dX10_chore_46 : decode cX10_chore 46 = .ok (.iconst 0, 1) := by decide +kernel
theorem dX10_chore_47 : decode cX10_chore 47 = .ok (.iastore, 1) := by decide +kernel
theorem dX10_chore_48 : decode cX10_chore 48 = .ok (.iconst 1, 1) := by decide +kernel
theorem dX10_chore_49 : decode cX10_chore 49 = .ok (.ireturn, 1) := by decide +kernel
theorem dX10_choreIs_0 : decode cX10_choreIs 0 = .ok (.aload_n 0, 1) := by decide +kernel
theorem dX10_choreIs_1 : decode cX10_choreIs 1 = .ok (.iload_n 1, 1) := by decide +kernel
theorem dX10_choreIs_2 : decode cX10_choreIs 2 = .ok (.invokevirtual 331, 3) := by decide +kernel
theorem dX10_choreIs_5 : decode cX10_choreIs 5 = .ok (.ifCond .ne 5, 3) := by decide +kernel
theorem dX10_choreIs_8 : decode cX10_choreIs 8 = .ok (.iconst (-1), 1) := by decide +kernel
theorem dX10_choreIs_9 : decode cX10_choreIs 9 = .ok (.ireturn, 1) := by decide +kernel
theorem dX10_copies_0 : decode cX10_copies 0 = .ok (.iconst 0, 1) := by decide +kernel
theorem dX10_copies_1 : decode cX10_copies 1 = .ok (.istore_n 3, 1) := by decide +kernel
theorem dX10_copies_2 : decode cX10_copies 2 = .ok (.iload_n 3, 1) := by decide +kernel
theorem dX10_copies_3 : decode cX10_copies 3 = .ok (.iload_n 2, 1) := by decide +kernel
theorem dX10_copies_4 : decode cX10_copies 4 = .ok (.if_icmp .ge 15, 3) := by decide +kernel
theorem dX10_copies_7 : decode cX10_copies 7 = .ok (.aload_n 1, 1) := by decide +kernel
theorem dX10_copies_8 : decode cX10_copies 8 = .ok (.iload_n 3, 1) := by decide +kernel
theorem dX10_copies_9 : decode cX10_copies 9 = .ok (.aload_n 0, 1) := by decide +kernel
theorem dX10_copies_10 : decode cX10_copies 10 = .ok (.iload_n 3, 1) := by decide +kernel
theorem dX10_copies_11 : decode cX10_copies 11 = .ok (.iaload, 1) := by decide +kernel
theorem dX10_copies_12 : decode cX10_copies 12 = .ok (.iastore, 1) := by decide +kernel
theorem dX10_copies_13 : decode cX10_copies 13 = .ok (.iinc 3 1, 3) := by decide +kernel
theorem dX10_copies_16 : decode cX10_copies 16 = .ok (.goto (-14), 3) := by decide +kernel
theorem dX10_copies_19 : decode cX10_copies 19 = .ok (.return_, 1) := by decide +kernel
theorem dX10_cost_0 : decode cX10_cost 0 = .ok (.iload_n 1, 1) := by decide +kernel
theorem dX10_cost_1 : decode cX10_cost 1 = .ok (.iconst 0, 1) := by decide +kernel
theorem dX10_cost_2 : decode cX10_cost 2 = .ok (.sipush 1023, 3) := by decide +kernel
theorem dX10_cost_5 : decode cX10_cost 5 = .ok (.invokestatic 157, 3) := by decide +kernel
theorem dX10_cost_8 : decode cX10_cost 8 = .ok (.ifCond .eq 21, 3) := by decide +kernel
theorem dX10_cost_11 : decode cX10_cost 11 = .ok (.iload_n 1, 1) := by decide +kernel
theorem dX10_cost_12 : decode cX10_cost 12 = .ok (.aload_n 0, 1) := by decide +kernel
theorem dX10_cost_13 : decode cX10_cost 13 = .ok (.getfield 146, 3) := by decide +kernel
theorem dX10_cost_16 : decode cX10_cost 16 = .ok (.iconst (-1), 1) := by decide +kernel
theorem dX10_cost_17 : decode cX10_cost 17 = .ok (.ixor, 1) := by decide +kernel
theorem dX10_cost_18 : decode cX10_cost 18 = .ok (.iand, 1) := by decide +kernel
theorem dX10_cost_19 : decode cX10_cost 19 = .ok (.ifCond .ne 10, 3) := by decide +kernel
theorem dX10_cost_22 : decode cX10_cost 22 = .ok (.iload_n 2, 1) := by decide +kernel
theorem dX10_cost_23 : decode cX10_cost 23 = .ok (.invokestatic 366, 3) := by decide +kernel
theorem dX10_cost_26 : decode cX10_cost 26 = .ok (.ifCond .ne 5, 3) := by decide +kernel
theorem dX10_cost_29 : decode cX10_cost 29 = .ok (.iconst (-1), 1) := by decide +kernel
theorem dX10_cost_30 : decode cX10_cost 30 = .ok (.ireturn, 1) := by decide +kernel
theorem dX10_cost_31 : decode cX10_cost 31 = .ok (.aload_n 0, 1) := by decide +kernel
theorem dX10_cost_32 : decode cX10_cost 32 = .ok (.iload_n 1, 1) := by decide +kernel
theorem dX10_cost_33 : decode cX10_cost 33 = .ok (.iload_n 2, 1) := by decide +kernel
theorem dX10_cost_34 : decode cX10_cost 34 = .ok (.invokevirtual 378, 3) := by decide +kernel
theorem dX10_cost_37 : decode cX10_cost 37 = .ok (.ireturn, 1) := by decide +kernel
theorem dX10_costOf_0 : decode cX10_costOf 0 = .ok (.aload_n 0, 1) := by decide +kernel
theorem dX10_costOf_1 : decode cX10_costOf 1 = .ok (.iload_n 1, 1) := by decide +kernel
theorem dX10_costOf_2 : decode cX10_costOf 2 = .ok (.invokevirtual 369, 3) := by decide +kernel
theorem dX10_costOf_5 : decode cX10_costOf 5 = .ok (.aload_n 0, 1) := by decide +kernel
theorem dX10_costOf_6 : decode cX10_costOf 6 = .ok (.iload_n 2, 1) := by decide +kernel
theorem dX10_costOf_7 : decode cX10_costOf 7 = .ok (.invokevirtual 375, 3) := by decide +kernel
theorem dX10_costOf_10 : decode cX10_costOf 10 = .ok (.ireturn, 1) := by decide +kernel
theorem dX10_count_0 : decode cX10_count 0 = .ok (.iload_n 1, 1) := by decide +kernel
theorem dX10_count_1 : decode cX10_count 1 = .ok (.tableswitch 128 0 9 #[55, 63, 71, 76, 81, 100, 105, 110, 118, 123], 55) := by decide +kernel
theorem dX10_count_56 : decode cX10_count 56 = .ok (.aload_n 0, 1) := by decide +kernel
theorem dX10_count_57 : decode cX10_count 57 = .ok (.getfield 7, 3) := by decide +kernel
theorem dX10_count_60 : decode cX10_count 60 = .ok (.bipush 13, 2) := by decide +kernel
theorem dX10_count_62 : decode cX10_count 62 = .ok (.iaload, 1) := by decide +kernel
theorem dX10_count_63 : decode cX10_count 63 = .ok (.ireturn, 1) := by decide +kernel
theorem dX10_count_64 : decode cX10_count 64 = .ok (.aload_n 0, 1) := by decide +kernel
theorem dX10_count_65 : decode cX10_count 65 = .ok (.getfield 7, 3) := by decide +kernel
theorem dX10_count_68 : decode cX10_count 68 = .ok (.bipush 12, 2) := by decide +kernel
theorem dX10_count_70 : decode cX10_count 70 = .ok (.iaload, 1) := by decide +kernel
theorem dX10_count_71 : decode cX10_count 71 = .ok (.ireturn, 1) := by decide +kernel
theorem dX10_count_72 : decode cX10_count 72 = .ok (.aload_n 0, 1) := by decide +kernel
theorem dX10_count_73 : decode cX10_count 73 = .ok (.getfield 146, 3) := by decide +kernel
theorem dX10_count_76 : decode cX10_count 76 = .ok (.ireturn, 1) := by decide +kernel
theorem dX10_count_77 : decode cX10_count 77 = .ok (.aload_n 0, 1) := by decide +kernel
theorem dX10_count_78 : decode cX10_count 78 = .ok (.getfield 154, 3) := by decide +kernel
theorem dX10_count_81 : decode cX10_count 81 = .ok (.ireturn, 1) := by decide +kernel
theorem dX10_count_82 : decode cX10_count 82 = .ok (.aload_n 0, 1) := by decide +kernel
theorem dX10_count_83 : decode cX10_count 83 = .ok (.sipush 1023, 3) := by decide +kernel
theorem dX10_count_86 : decode cX10_count 86 = .ok (.invokevirtual 369, 3) := by decide +kernel
theorem dX10_count_89 : decode cX10_count 89 = .ok (.aload_n 0, 1) := by decide +kernel
theorem dX10_count_90 : decode cX10_count 90 = .ok (.aload_n 0, 1) := by decide +kernel
theorem dX10_count_91 : decode cX10_count 91 = .ok (.getfield 7, 3) := by decide +kernel
theorem dX10_count_94 : decode cX10_count 94 = .ok (.bipush 13, 2) := by decide +kernel
theorem dX10_count_96 : decode cX10_count 96 = .ok (.iaload, 1) := by decide +kernel
theorem dX10_count_97 : decode cX10_count 97 = .ok (.invokevirtual 313, 3) := by decide +kernel
theorem dX10_count_100 : decode cX10_count 100 = .ok (.ireturn, 1) := by decide +kernel
theorem dX10_count_101 : decode cX10_count 101 = .ok (.aload_n 0, 1) := by decide +kernel
theorem dX10_count_102 : decode cX10_count 102 = .ok (.getfield 265, 3) := by decide +kernel
theorem dX10_count_105 : decode cX10_count 105 = .ok (.ireturn, 1) := by decide +kernel
theorem dX10_count_106 : decode cX10_count 106 = .ok (.aload_n 0, 1) := by decide +kernel
theorem dX10_count_107 : decode cX10_count 107 = .ok (.getfield 164, 3) := by decide +kernel
theorem dX10_count_110 : decode cX10_count 110 = .ok (.ireturn, 1) := by decide +kernel
theorem dX10_count_111 : decode cX10_count 111 = .ok (.aload_n 0, 1) := by decide +kernel
theorem dX10_count_112 : decode cX10_count 112 = .ok (.getfield 7, 3) := by decide +kernel
theorem dX10_count_115 : decode cX10_count 115 = .ok (.bipush 14, 2) := by decide +kernel
theorem dX10_count_117 : decode cX10_count 117 = .ok (.iaload, 1) := by decide +kernel
theorem dX10_count_118 : decode cX10_count 118 = .ok (.ireturn, 1) := by decide +kernel
theorem dX10_count_119 : decode cX10_count 119 = .ok (.aload_n 0, 1) := by decide +kernel
theorem dX10_count_120 : decode cX10_count 120 = .ok (.getfield 161, 3) := by decide +kernel
theorem dX10_count_123 : decode cX10_count 123 = .ok (.ireturn, 1) := by decide +kernel
theorem dX10_count_124 : decode cX10_count 124 = .ok (.aload_n 0, 1) := by decide +kernel
theorem dX10_count_125 : decode cX10_count 125 = .ok (.invokevirtual 294, 3) := by decide +kernel
theorem dX10_count_128 : decode cX10_count 128 = .ok (.ireturn, 1) := by decide +kernel
theorem dX10_count_129 : decode cX10_count 129 = .ok (.iconst (-1), 1) := by decide +kernel
theorem dX10_count_130 : decode cX10_count 130 = .ok (.ireturn, 1) := by decide +kernel
theorem dX10_dayGoes_0 : decode cX10_dayGoes 0 = .ok (.aload_n 0, 1) := by decide +kernel
theorem dX10_dayGoes_1 : decode cX10_dayGoes 1 = .ok (.getfield 7, 3) := by decide +kernel
theorem dX10_dayGoes_4 : decode cX10_dayGoes 4 = .ok (.bipush 14, 2) := by decide +kernel
theorem dX10_dayGoes_6 : decode cX10_dayGoes 6 = .ok (.sipush 25173, 3) := by decide +kernel
theorem dX10_dayGoes_9 : decode cX10_dayGoes 9 = .ok (.aload_n 0, 1) := by decide +kernel
theorem dX10_dayGoes_10 : decode cX10_dayGoes 10 = .ok (.getfield 7, 3) := by decide +kernel
theorem dX10_dayGoes_13 : decode cX10_dayGoes 13 = .ok (.bipush 14, 2) := by decide +kernel
theorem dX10_dayGoes_15 : decode cX10_dayGoes 15 = .ok (.iaload, 1) := by decide +kernel
theorem dX10_dayGoes_16 : decode cX10_dayGoes 16 = .ok (.imul, 1) := by decide +kernel
theorem dX10_dayGoes_17 : decode cX10_dayGoes 17 = .ok (.sipush 13849, 3) := by decide +kernel
theorem dX10_dayGoes_20 : decode cX10_dayGoes 20 = .ok (.iadd, 1) := by decide +kernel
theorem dX10_dayGoes_21 : decode cX10_dayGoes 21 = .ok (.ldc_w 334, 3) := by decide +kernel
theorem dX10_dayGoes_24 : decode cX10_dayGoes 24 = .ok (.irem, 1) := by decide +kernel
theorem dX10_dayGoes_25 : decode cX10_dayGoes 25 = .ok (.iastore, 1) := by decide +kernel
theorem dX10_dayGoes_26 : decode cX10_dayGoes 26 = .ok (.aload_n 0, 1) := by decide +kernel
theorem dX10_dayGoes_27 : decode cX10_dayGoes 27 = .ok (.getfield 7, 3) := by decide +kernel
theorem dX10_dayGoes_30 : decode cX10_dayGoes 30 = .ok (.bipush 14, 2) := by decide +kernel
theorem dX10_dayGoes_32 : decode cX10_dayGoes 32 = .ok (.iaload, 1) := by decide +kernel
theorem dX10_dayGoes_33 : decode cX10_dayGoes 33 = .ok (.bipush 10, 2) := by decide +kernel
theorem dX10_dayGoes_35 : decode cX10_dayGoes 35 = .ok (.irem, 1) := by decide +kernel
theorem dX10_dayGoes_36 : decode cX10_dayGoes 36 = .ok (.aload_n 0, 1) := by decide +kernel
theorem dX10_dayGoes_37 : decode cX10_dayGoes 37 = .ok (.getfield 161, 3) := by decide +kernel
theorem dX10_dayGoes_40 : decode cX10_dayGoes 40 = .ok (.if_icmp .ge 7, 3) := by decide +kernel
theorem dX10_dayGoes_47 : decode cX10_dayGoes 47 = .ok (.iconst 0, 1) := by decide +kernel
theorem dX10_dayGoes_48 : decode cX10_dayGoes 48 = .ok (.istore_n 1, 1) := by decide +kernel
theorem dX10_dayGoes_49 : decode cX10_dayGoes 49 = .ok (.aload_n 0, 1) := by decide +kernel
theorem dX10_dayGoes_50 : decode cX10_dayGoes 50 = .ok (.aload_n 0, 1) := by decide +kernel
theorem dX10_dayGoes_51 : decode cX10_dayGoes 51 = .ok (.getfield 335, 3) := by decide +kernel
theorem dX10_dayGoes_54 : decode cX10_dayGoes 54 = .ok (.iload_n 1, 1) := by decide +kernel
theorem dX10_dayGoes_55 : decode cX10_dayGoes 55 = .ok (.ifCond .eq 7, 3) := by decide +kernel
theorem dX10_dayGoes_62 : decode cX10_dayGoes 62 = .ok (.iconst 0, 1) := by decide +kernel
theorem dX10_dayGoes_63 : decode cX10_dayGoes 63 = .ok (.iadd, 1) := by decide +kernel
theorem dX10_dayGoes_64 : decode cX10_dayGoes 64 = .ok (.putfield 335, 3) := by decide +kernel
theorem dX10_dayGoes_67 : decode cX10_dayGoes 67 = .ok (.aload_n 0, 1) := by decide +kernel
theorem dX10_dayGoes_68 : decode cX10_dayGoes 68 = .ok (.iload_n 1, 1) := by decide +kernel
theorem dX10_dayGoes_69 : decode cX10_dayGoes 69 = .ok (.invokevirtual 338, 3) := by decide +kernel
theorem dX10_dayGoes_72 : decode cX10_dayGoes 72 = .ok (.iconst 0, 1) := by decide +kernel
theorem dX10_dayGoes_73 : decode cX10_dayGoes 73 = .ok (.istore_n 2, 1) := by decide +kernel
theorem dX10_dayGoes_74 : decode cX10_dayGoes 74 = .ok (.iload_n 2, 1) := by decide +kernel
theorem dX10_dayGoes_75 : decode cX10_dayGoes 75 = .ok (.bipush 10, 2) := by decide +kernel
theorem dX10_dayGoes_77 : decode cX10_dayGoes 77 = .ok (.if_icmp .ge 20, 3) := by decide +kernel
theorem dX10_dayGoes_80 : decode cX10_dayGoes 80 = .ok (.aload_n 0, 1) := by decide +kernel
theorem dX10_dayGoes_81 : decode cX10_dayGoes 81 = .ok (.getfield 119, 3) := by decide +kernel
theorem dX10_dayGoes_84 : decode cX10_dayGoes 84 = .ok (.iload_n 2, 1) := by decide +kernel
theorem dX10_dayGoes_85 : decode cX10_dayGoes 85 = .ok (.aload_n 0, 1) := by decide +kernel
theorem dX10_dayGoes_86 : decode cX10_dayGoes 86 = .ok (.iload_n 2, 1) := by decide +kernel
theorem dX10_dayGoes_87 : decode cX10_dayGoes 87 = .ok (.invokevirtual 341, 3) := by decide +kernel
theorem dX10_dayGoes_90 : decode cX10_dayGoes 90 = .ok (.iastore, 1) := by decide +kernel
theorem dX10_dayGoes_91 : decode cX10_dayGoes 91 = .ok (.iinc 2 1, 3) := by decide +kernel
theorem dX10_dayGoes_94 : decode cX10_dayGoes 94 = .ok (.goto (-20), 3) := by decide +kernel
theorem dX10_dayGoes_97 : decode cX10_dayGoes 97 = .ok (.iconst 0, 1) := by decide +kernel
theorem dX10_dayGoes_98 : decode cX10_dayGoes 98 = .ok (.istore_n 2, 1) := by decide +kernel
theorem dX10_dayGoes_99 : decode cX10_dayGoes 99 = .ok (.iload_n 2, 1) := by decide +kernel
theorem dX10_dayGoes_100 : decode cX10_dayGoes 100 = .ok (.bipush 12, 2) := by decide +kernel
theorem dX10_dayGoes_102 : decode cX10_dayGoes 102 = .ok (.if_icmp .ge 22, 3) := by decide +kernel
theorem dX10_dayGoes_105 : decode cX10_dayGoes 105 = .ok (.aload_n 0, 1) := by decide +kernel
theorem dX10_dayGoes_106 : decode cX10_dayGoes 106 = .ok (.iload_n 2, 1) := by decide +kernel
theorem dX10_dayGoes_107 : decode cX10_dayGoes 107 = .ok (.invokevirtual 331, 3) := by decide +kernel
theorem dX10_dayGoes_110 : decode cX10_dayGoes 110 = .ok (.ifCond .eq 8, 3) := by decide +kernel
theorem dX10_dayGoes_118 : decode cX10_dayGoes 118 = .ok (.iinc 2 1, 3) := by decide +kernel
theorem dX10_dayGoes_121 : decode cX10_dayGoes 121 = .ok (.goto (-22), 3) := by decide +kernel
theorem dX10_dayGoes_124 : decode cX10_dayGoes 124 = .ok (.aload_n 0, 1) := by decide +kernel
theorem dX10_dayGoes_125 : decode cX10_dayGoes 125 = .ok (.aload_n 0, 1) := by decide +kernel
theorem dX10_dayGoes_126 : decode cX10_dayGoes 126 = .ok (.getfield 347, 3) := by decide +kernel
theorem dX10_dayGoes_129 : decode cX10_dayGoes 129 = .ok (.aload_n 0, 1) := by decide +kernel
theorem dX10_dayGoes_130 : decode cX10_dayGoes 130 = .ok (.invokevirtual 350, 3) := by decide +kernel
theorem dX10_dayGoes_133 : decode cX10_dayGoes 133 = .ok (.ifCond .ne 7, 3) := by decide +kernel
theorem dX10_dayGoes_136 : decode cX10_dayGoes 136 = .ok (.iconst 1, 1) := by decide +kernel
theorem dX10_dayGoes_137 : decode cX10_dayGoes 137 = .ok (.goto 4, 3) := by decide +kernel
theorem dX10_dayGoes_141 : decode cX10_dayGoes 141 = .ok (.iadd, 1) := by decide +kernel
theorem dX10_dayGoes_142 : decode cX10_dayGoes 142 = .ok (.putfield 347, 3) := by decide +kernel
theorem dX10_dayGoes_145 : decode cX10_dayGoes 145 = .ok (.aload_n 0, 1) := by decide +kernel
theorem dX10_dayGoes_146 : decode cX10_dayGoes 146 = .ok (.getfield 7, 3) := by decide +kernel
theorem dX10_dayGoes_149 : decode cX10_dayGoes 149 = .ok (.bipush 13, 2) := by decide +kernel
theorem dX10_dayGoes_151 : decode cX10_dayGoes 151 = .ok (.aload_n 0, 1) := by decide +kernel
theorem dX10_dayGoes_152 : decode cX10_dayGoes 152 = .ok (.getfield 7, 3) := by decide +kernel
theorem dX10_dayGoes_155 : decode cX10_dayGoes 155 = .ok (.bipush 13, 2) := by decide +kernel
theorem dX10_dayGoes_157 : decode cX10_dayGoes 157 = .ok (.iaload, 1) := by decide +kernel
theorem dX10_dayGoes_158 : decode cX10_dayGoes 158 = .ok (.iconst 1, 1) := by decide +kernel
theorem dX10_dayGoes_159 : decode cX10_dayGoes 159 = .ok (.iadd, 1) := by decide +kernel
theorem dX10_dayGoes_160 : decode cX10_dayGoes 160 = .ok (.iastore, 1) := by decide +kernel
theorem dX10_dayGoes_161 : decode cX10_dayGoes 161 = .ok (.return_, 1) := by decide +kernel
theorem dX10_days_0 : decode cX10_days 0 = .ok (.iload_n 1, 1) := by decide +kernel
theorem dX10_days_1 : decode cX10_days 1 = .ok (.invokestatic 366, 3) := by decide +kernel
theorem dX10_days_4 : decode cX10_days 4 = .ok (.ifCond .ne 5, 3) := by decide +kernel
theorem dX10_days_7 : decode cX10_days 7 = .ok (.iconst (-1), 1) := by decide +kernel
theorem dX10_days_8 : decode cX10_days 8 = .ok (.ireturn, 1) := by decide +kernel
theorem dX10_days_9 : decode cX10_days 9 = .ok (.aload_n 0, 1) := by decide +kernel
theorem dX10_days_10 : decode cX10_days 10 = .ok (.sipush 1023, 3) := by decide +kernel
theorem dX10_days_13 : decode cX10_days 13 = .ok (.invokevirtual 369, 3) := by decide +kernel
theorem dX10_days_16 : decode cX10_days 16 = .ok (.aload_n 0, 1) := by decide +kernel
theorem dX10_days_17 : decode cX10_days 17 = .ok (.getfield 7, 3) := by decide +kernel
theorem dX10_days_20 : decode cX10_days 20 = .ok (.bipush 12, 2) := by decide +kernel
theorem dX10_days_22 : decode cX10_days 22 = .ok (.iaload, 1) := by decide +kernel
theorem dX10_days_23 : decode cX10_days 23 = .ok (.istore_n 2, 1) := by decide +kernel
theorem dX10_days_24 : decode cX10_days 24 = .ok (.aload_n 0, 1) := by decide +kernel
theorem dX10_days_25 : decode cX10_days 25 = .ok (.iload_n 1, 1) := by decide +kernel
theorem dX10_days_26 : decode cX10_days 26 = .ok (.invokevirtual 363, 3) := by decide +kernel
theorem dX10_days_29 : decode cX10_days 29 = .ok (.aload_n 0, 1) := by decide +kernel
theorem dX10_days_30 : decode cX10_days 30 = .ok (.getfield 7, 3) := by decide +kernel
theorem dX10_days_33 : decode cX10_days 33 = .ok (.bipush 12, 2) := by decide +kernel
theorem dX10_days_35 : decode cX10_days 35 = .ok (.iaload, 1) := by decide +kernel
theorem dX10_days_36 : decode cX10_days 36 = .ok (.iload_n 2, 1) := by decide +kernel
theorem dX10_days_37 : decode cX10_days 37 = .ok (.isub, 1) := by decide +kernel
theorem dX10_days_38 : decode cX10_days 38 = .ok (.ireturn, 1) := by decide +kernel
theorem dX10_daysGo_0 : decode cX10_daysGo 0 = .ok (.aload_n 0, 1) := by decide +kernel
theorem dX10_daysGo_1 : decode cX10_daysGo 1 = .ok (.iconst 0, 1) := by decide +kernel
theorem dX10_daysGo_2 : decode cX10_daysGo 2 = .ok (.putfield 335, 3) := by decide +kernel
theorem dX10_daysGo_5 : decode cX10_daysGo 5 = .ok (.aload_n 0, 1) := by decide +kernel
theorem dX10_daysGo_6 : decode cX10_daysGo 6 = .ok (.iconst 0, 1) := by decide +kernel
theorem dX10_daysGo_7 : decode cX10_daysGo 7 = .ok (.putfield 322, 3) := by decide +kernel
theorem dX10_daysGo_10 : decode cX10_daysGo 10 = .ok (.aload_n 0, 1) := by decide +kernel
theorem dX10_daysGo_11 : decode cX10_daysGo 11 = .ok (.iconst 0, 1) := by decide +kernel
theorem dX10_daysGo_12 : decode cX10_daysGo 12 = .ok (.putfield 347, 3) := by decide +kernel
theorem dX10_daysGo_15 : decode cX10_daysGo 15 = .ok (.aload_n 0, 1) := by decide +kernel
theorem dX10_daysGo_16 : decode cX10_daysGo 16 = .ok (.iconst 0, 1) := by decide +kernel
theorem dX10_daysGo_17 : decode cX10_daysGo 17 = .ok (.putfield 353, 3) := by decide +kernel
theorem dX10_daysGo_20 : decode cX10_daysGo 20 = .ok (.iconst 0, 1) := by decide +kernel
theorem dX10_daysGo_21 : decode cX10_daysGo 21 = .ok (.istore_n 2, 1) := by decide +kernel
theorem dX10_daysGo_22 : decode cX10_daysGo 22 = .ok (.iload_n 2, 1) := by decide +kernel
theorem dX10_daysGo_23 : decode cX10_daysGo 23 = .ok (.bipush 10, 2) := by decide +kernel
theorem dX10_daysGo_25 : decode cX10_daysGo 25 = .ok (.if_icmp .ge 16, 3) := by decide +kernel
theorem dX10_daysGo_28 : decode cX10_daysGo 28 = .ok (.aload_n 0, 1) := by decide +kernel
theorem dX10_daysGo_29 : decode cX10_daysGo 29 = .ok (.getfield 122, 3) := by decide +kernel
theorem dX10_daysGo_32 : decode cX10_daysGo 32 = .ok (.iload_n 2, 1) := by decide +kernel
theorem dX10_daysGo_33 : decode cX10_daysGo 33 = .ok (.iconst 0, 1) := by decide +kernel
theorem dX10_daysGo_34 : decode cX10_daysGo 34 = .ok (.iastore, 1) := by decide +kernel
theorem dX10_daysGo_35 : decode cX10_daysGo 35 = .ok (.iinc 2 1, 3) := by decide +kernel
theorem dX10_daysGo_38 : decode cX10_daysGo 38 = .ok (.goto (-16), 3) := by decide +kernel
theorem dX10_daysGo_41 : decode cX10_daysGo 41 = .ok (.iconst 0, 1) := by decide +kernel
theorem dX10_daysGo_42 : decode cX10_daysGo 42 = .ok (.istore_n 2, 1) := by decide +kernel
theorem dX10_daysGo_43 : decode cX10_daysGo 43 = .ok (.iload_n 2, 1) := by decide +kernel
theorem dX10_daysGo_44 : decode cX10_daysGo 44 = .ok (.iload_n 1, 1) := by decide +kernel
theorem dX10_daysGo_45 : decode cX10_daysGo 45 = .ok (.if_icmp .ge 36, 3) := by decide +kernel
theorem dX10_daysGo_48 : decode cX10_daysGo 48 = .ok (.aload_n 0, 1) := by decide +kernel
theorem dX10_daysGo_49 : decode cX10_daysGo 49 = .ok (.getfield 7, 3) := by decide +kernel
theorem dX10_daysGo_52 : decode cX10_daysGo 52 = .ok (.bipush 13, 2) := by decide +kernel
theorem dX10_daysGo_54 : decode cX10_daysGo 54 = .ok (.iaload, 1) := by decide +kernel
theorem dX10_daysGo_55 : decode cX10_daysGo 55 = .ok (.sipush 9999, 3) := by decide +kernel
theorem dX10_daysGo_58 : decode cX10_daysGo 58 = .ok (.if_icmp .ge 23, 3) := by decide +kernel
theorem dX10_daysGo_61 : decode cX10_daysGo 61 = .ok (.aload_n 0, 1) := by decide +kernel
theorem dX10_daysGo_62 : decode cX10_daysGo 62 = .ok (.invokevirtual 356, 3) := by decide +kernel
theorem dX10_daysGo_65 : decode cX10_daysGo 65 = .ok (.aload_n 0, 1) := by decide +kernel
theorem dX10_daysGo_66 : decode cX10_daysGo 66 = .ok (.aload_n 0, 1) := by decide +kernel
theorem dX10_daysGo_67 : decode cX10_daysGo 67 = .ok (.getfield 353, 3) := by decide +kernel
theorem dX10_daysGo_70 : decode cX10_daysGo 70 = .ok (.iconst 1, 1) := by decide +kernel
theorem dX10_daysGo_71 : decode cX10_daysGo 71 = .ok (.iadd, 1) := by decide +kernel
theorem dX10_daysGo_72 : decode cX10_daysGo 72 = .ok (.putfield 353, 3) := by decide +kernel
theorem dX10_daysGo_75 : decode cX10_daysGo 75 = .ok (.iinc 2 1, 3) := by decide +kernel
theorem dX10_daysGo_78 : decode cX10_daysGo 78 = .ok (.goto (-35), 3) := by decide +kernel
theorem dX10_daysGo_81 : decode cX10_daysGo 81 = .ok (.return_, 1) := by decide +kernel
theorem dX10_doers_0 : decode cX10_doers 0 = .ok (.iload_n 1, 1) := by decide +kernel
theorem dX10_doers_1 : decode cX10_doers 1 = .ok (.iconst 1, 1) := by decide +kernel
theorem dX10_doers_2 : decode cX10_doers 2 = .ok (.bipush 120, 2) := by decide +kernel
theorem dX10_doers_4 : decode cX10_doers 4 = .ok (.invokestatic 157, 3) := by decide +kernel
theorem dX10_doers_7 : decode cX10_doers 7 = .ok (.ifCond .eq 11, 3) := by decide +kernel
theorem dX10_doers_10 : decode cX10_doers 10 = .ok (.iload_n 1, 1) := by decide +kernel
theorem dX10_doers_11 : decode cX10_doers 11 = .ok (.aload_n 0, 1) := by decide +kernel
theorem dX10_doers_12 : decode cX10_doers 12 = .ok (.getfield 164, 3) := by decide +kernel
theorem dX10_doers_15 : decode cX10_doers 15 = .ok (.if_icmp .le 5, 3) := by decide +kernel
theorem dX10_doers_18 : decode cX10_doers 18 = .ok (.iconst (-1), 1) := by decide +kernel
theorem dX10_doers_19 : decode cX10_doers 19 = .ok (.ireturn, 1) := by decide +kernel
theorem dX10_feed_0 : decode cX10_feed 0 = .ok (.aload_n 0, 1) := by decide +kernel
theorem dX10_feed_1 : decode cX10_feed 1 = .ok (.getfield 164, 3) := by decide +kernel
theorem dX10_feed_4 : decode cX10_feed 4 = .ok (.bipush 20, 2) := by decide +kernel
theorem dX10_feed_6 : decode cX10_feed 6 = .ok (.iadd, 1) := by decide +kernel
theorem dX10_feed_7 : decode cX10_feed 7 = .ok (.sipush 260, 3) := by decide +kernel
theorem dX10_feed_10 : decode cX10_feed 10 = .ok (.if_icmp .le 5, 3) := by decide +kernel
theorem dX10_feed_15 : decode cX10_feed 15 = .ok (.aload_n 0, 1) := by decide +kernel
theorem dX10_feed_16 : decode cX10_feed 16 = .ok (.iload_n 1, 1) := by decide +kernel
theorem dX10_feed_17 : decode cX10_feed 17 = .ok (.invokevirtual 167, 3) := by decide +kernel
theorem dX10_feed_20 : decode cX10_feed 20 = .ok (.aload_n 0, 1) := by decide +kernel
theorem dX10_feed_21 : decode cX10_feed 21 = .ok (.iload_n 2, 1) := by decide +kernel
theorem dX10_feed_22 : decode cX10_feed 22 = .ok (.invokevirtual 167, 3) := by decide +kernel
theorem dX10_feed_25 : decode cX10_feed 25 = .ok (.aload_n 0, 1) := by decide +kernel
theorem dX10_feed_26 : decode cX10_feed 26 = .ok (.iload_n 3, 1) := by decide +kernel
theorem dX10_feed_27 : decode cX10_feed 27 = .ok (.invokevirtual 167, 3) := by decide +kernel
theorem dX10_feed_30 : decode cX10_feed 30 = .ok (.aload_n 0, 1) := by decide +kernel
theorem dX10_feed_31 : decode cX10_feed 31 = .ok (.iload 4, 2) := by decide +kernel
theorem dX10_feed_33 : decode cX10_feed 33 = .ok (.invokevirtual 167, 3) := by decide +kernel
theorem dX10_feed_36 : decode cX10_feed 36 = .ok (.aload_n 0, 1) := by decide +kernel
theorem dX10_feed_37 : decode cX10_feed 37 = .ok (.iload 5, 2) := by decide +kernel
theorem dX10_feed_39 : decode cX10_feed 39 = .ok (.invokevirtual 167, 3) := by decide +kernel
theorem dX10_feed_42 : decode cX10_feed 42 = .ok (.aload_n 0, 1) := by decide +kernel
theorem dX10_feed_43 : decode cX10_feed 43 = .ok (.getfield 164, 3) := by decide +kernel
theorem dX10_feed_46 : decode cX10_feed 46 = .ok (.ireturn, 1) := by decide +kernel
theorem dX10_feels_0 : decode cX10_feels 0 = .ok (.iconst 0, 1) := by decide +kernel
theorem dX10_feels_1 : decode cX10_feels 1 = .ok (.istore_n 2, 1) := by decide +kernel
theorem dX10_feels_2 : decode cX10_feels 2 = .ok (.iload_n 2, 1) := by decide +kernel
theorem dX10_feels_3 : decode cX10_feels 3 = .ok (.bipush 8, 2) := by decide +kernel
theorem dX10_feels_5 : decode cX10_feels 5 = .ok (.if_icmp .ge 16, 3) := by decide +kernel
theorem dX10_feels_8 : decode cX10_feels 8 = .ok (.aload_n 0, 1) := by decide +kernel
theorem dX10_feels_9 : decode cX10_feels 9 = .ok (.getfield 83, 3) := by decide +kernel
theorem dX10_feels_12 : decode cX10_feels 12 = .ok (.iload_n 2, 1) := by decide +kernel
theorem dX10_feels_13 : decode cX10_feels 13 = .ok (.iconst 0, 1) := by decide +kernel
theorem dX10_feels_14 : decode cX10_feels 14 = .ok (.iastore, 1) := by decide +kernel
theorem dX10_feels_15 : decode cX10_feels 15 = .ok (.iinc 2 1, 3) := by decide +kernel
theorem dX10_feels_18 : decode cX10_feels 18 = .ok (.goto (-16), 3) := by decide +kernel
