theorem dX2_comparison_0 : decode cX2_comparison 0 = .ok (.aload_n 0, 1) := by decide +kernel
theorem dX2_comparison_1 : decode cX2_comparison 1 = .ok (.getfield 18, 3) := by decide +kernel
theorem dX2_comparison_4 : decode cX2_comparison 4 = .ok (.bipush 60, 2) := by decide +kernel
theorem dX2_comparison_6 : decode cX2_comparison 6 = .ok (.invokevirtual 92, 3) := by decide +kernel
theorem dX2_comparison_9 : decode cX2_comparison 9 = .ok (.ifCond .eq 6, 3) := by decide +kernel
theorem dX2_comparison_12 : decode cX2_comparison 12 = .ok (.bipush 10, 2) := by decide +kernel
theorem dX2_comparison_14 : decode cX2_comparison 14 = .ok (.ireturn, 1) := by decide +kernel
theorem dX2_comparison_15 : decode cX2_comparison 15 = .ok (.aload_n 0, 1) := by decide +kernel
theorem dX2_comparison_16 : decode cX2_comparison 16 = .ok (.getfield 18, 3) := by decide +kernel
theorem dX2_comparison_19 : decode cX2_comparison 19 = .ok (.bipush 62, 2) := by decide +kernel
theorem dX2_comparison_21 : decode cX2_comparison 21 = .ok (.invokevirtual 92, 3) := by decide +kernel
theorem dX2_comparison_24 : decode cX2_comparison 24 = .ok (.ifCond .eq 6, 3) := by decide +kernel
theorem dX2_comparison_27 : decode cX2_comparison 27 = .ok (.bipush 11, 2) := by decide +kernel
theorem dX2_comparison_29 : decode cX2_comparison 29 = .ok (.ireturn, 1) := by decide +kernel
theorem dX2_comparison_30 : decode cX2_comparison 30 = .ok (.aload_n 0, 1) := by decide +kernel
theorem dX2_comparison_31 : decode cX2_comparison 31 = .ok (.getfield 18, 3) := by decide +kernel
theorem dX2_comparison_34 : decode cX2_comparison 34 = .ok (.bipush 61, 2) := by decide +kernel
theorem dX2_comparison_36 : decode cX2_comparison 36 = .ok (.invokevirtual 38, 3) := by decide +kernel
theorem dX2_comparison_39 : decode cX2_comparison 39 = .ok (.bipush 12, 2) := by decide +kernel
theorem dX2_comparison_41 : decode cX2_comparison 41 = .ok (.ireturn, 1) := by decide +kernel
theorem dX2_factorStep_0 : decode cX2_factorStep 0 = .ok (.aload_n 0, 1) := by decide +kernel
theorem dX2_factorStep_1 : decode cX2_factorStep 1 = .ok (.getfield 18, 3) := by decide +kernel
theorem dX2_factorStep_4 : decode cX2_factorStep 4 = .ok (.invokevirtual 79, 3) := by decide +kernel
theorem dX2_factorStep_7 : decode cX2_factorStep 7 = .ok (.lookupswitch 42 #[(37, 39), (42, 33), (47, 36)], 33) := by decide +kernel
theorem dX2_factorStep_40 : decode cX2_factorStep 40 = .ok (.bipush 7, 2) := by decide +kernel
theorem dX2_factorStep_42 : decode cX2_factorStep 42 = .ok (.ireturn, 1) := by decide +kernel
theorem dX2_factorStep_43 : decode cX2_factorStep 43 = .ok (.bipush 8, 2) := by decide +kernel
theorem dX2_factorStep_45 : decode cX2_factorStep 45 = .ok (.ireturn, 1) := by decide +kernel
theorem dX2_factorStep_46 : decode cX2_factorStep 46 = .ok (.bipush 9, 2) := by decide +kernel
theorem dX2_factorStep_48 : decode cX2_factorStep 48 = .ok (.ireturn, 1) := by decide +kernel
theorem dX2_factorStep_49 : decode cX2_factorStep 49 = .ok (.iconst (-1), 1) := by decide +kernel
theorem dX2_factorStep_50 : decode cX2_factorStep 50 = .ok (.ireturn, 1) := by decide +kernel
theorem dX2_opens_0 : decode cX2_opens 0 = .ok (.iload_n 1, 1) := by decide +kernel
theorem dX2_opens_1 : decode cX2_opens 1 = .ok (.bipush 6, 2) := by decide +kernel
theorem dX2_opens_3 : decode cX2_opens 3 = .ok (.if_icmp .lt 20, 3) := by decide +kernel
theorem dX2_opens_6 : decode cX2_opens 6 = .ok (.aload_n 0, 1) := by decide +kernel
theorem dX2_opens_7 : decode cX2_opens 7 = .ok (.getfield 18, 3) := by decide +kernel
theorem dX2_opens_10 : decode cX2_opens 10 = .ok (.iconst 5, 1) := by decide +kernel
theorem dX2_opens_11 : decode cX2_opens 11 = .ok (.aload_n 0, 1) := by decide +kernel
theorem dX2_opens_12 : decode cX2_opens 12 = .ok (.getfield 18, 3) := by decide +kernel
theorem dX2_opens_15 : decode cX2_opens 15 = .ok (.getfield 57, 3) := by decide +kernel
theorem dX2_opens_18 : decode cX2_opens 18 = .ok (.invokevirtual 60, 3) := by decide +kernel
theorem dX2_opens_21 : decode cX2_opens 21 = .ok (.iconst 0, 1) := by decide +kernel
theorem dX2_opens_22 : decode cX2_opens 22 = .ok (.ireturn, 1) := by decide +kernel
theorem dX2_opens_23 : decode cX2_opens 23 = .ok (.aload_n 0, 1) := by decide +kernel
theorem dX2_opens_24 : decode cX2_opens 24 = .ok (.getfield 18, 3) := by decide +kernel
theorem dX2_opens_27 : decode cX2_opens 27 = .ok (.dup, 1) := by decide +kernel
theorem dX2_opens_28 : decode cX2_opens 28 = .ok (.getfield 57, 3) := by decide +kernel
theorem dX2_opens_31 : decode cX2_opens 31 = .ok (.iconst 1, 1) := by decide +kernel
theorem dX2_opens_32 : decode cX2_opens 32 = .ok (.iadd, 1) := by decide +kernel
theorem dX2_opens_33 : decode cX2_opens 33 = .ok (.putfield 57, 3) := by decide +kernel
theorem dX2_opens_36 : decode cX2_opens 36 = .ok (.iconst 1, 1) := by decide +kernel
theorem dX2_opens_37 : decode cX2_opens 37 = .ok (.ireturn, 1) := by decide +kernel
theorem dX2_placeIn_0 : decode cX2_placeIn 0 = .ok (.aload_n 0, 1) := by decide +kernel
theorem dX2_placeIn_1 : decode cX2_placeIn 1 = .ok (.getfield 18, 3) := by decide +kernel
theorem dX2_placeIn_4 : decode cX2_placeIn 4 = .ok (.invokevirtual 79, 3) := by decide +kernel
theorem dX2_placeIn_7 : decode cX2_placeIn 7 = .ok (.istore_n 2, 1) := by decide +kernel
theorem dX2_placeIn_8 : decode cX2_placeIn 8 = .ok (.iload_n 2, 1) := by decide +kernel
theorem dX2_placeIn_9 : decode cX2_placeIn 9 = .ok (.ifCond .ge 7, 3) := by decide +kernel
theorem dX2_placeIn_12 : decode cX2_placeIn 12 = .ok (.iconst (-1), 1) := by decide +kernel
theorem dX2_placeIn_13 : decode cX2_placeIn 13 = .ok (.goto 9, 3) := by decide +kernel
theorem dX2_placeIn_16 : decode cX2_placeIn 16 = .ok (.aload_n 1, 1) := by decide +kernel
theorem dX2_placeIn_17 : decode cX2_placeIn 17 = .ok (.iload_n 2, 1) := by decide +kernel
theorem dX2_placeIn_18 : decode cX2_placeIn 18 = .ok (.i2c, 1) := by decide +kernel
theorem dX2_placeIn_19 : decode cX2_placeIn 19 = .ok (.invokevirtual 83, 3) := by decide +kernel
theorem dX2_placeIn_22 : decode cX2_placeIn 22 = .ok (.ireturn, 1) := by decide +kernel
theorem dX2_readChoice_0 : decode cX2_readChoice 0 = .ok (.aload_n 0, 1) := by decide +kernel
theorem dX2_readChoice_1 : decode cX2_readChoice 1 = .ok (.iload_n 1, 1) := by decide +kernel
theorem dX2_readChoice_2 : decode cX2_readChoice 2 = .ok (.invokevirtual 89, 3) := by decide +kernel
theorem dX2_readChoice_5 : decode cX2_readChoice 5 = .ok (.iconst 0, 1) := by decide +kernel
theorem dX2_readChoice_6 : decode cX2_readChoice 6 = .ok (.istore_n 2, 1) := by decide +kernel
theorem dX2_readChoice_7 : decode cX2_readChoice 7 = .ok (.iload_n 2, 1) := by decide +kernel
theorem dX2_readChoice_8 : decode cX2_readChoice 8 = .ok (.sipush 240, 3) := by decide +kernel
theorem dX2_readChoice_11 : decode cX2_readChoice 11 = .ok (.if_icmp .ge 51, 3) := by decide +kernel
theorem dX2_readChoice_14 : decode cX2_readChoice 14 = .ok (.aload_n 0, 1) := by decide +kernel
theorem dX2_readChoice_15 : decode cX2_readChoice 15 = .ok (.getfield 18, 3) := by decide +kernel
theorem dX2_readChoice_18 : decode cX2_readChoice 18 = .ok (.bipush 124, 2) := by decide +kernel
theorem dX2_readChoice_20 : decode cX2_readChoice 20 = .ok (.invokevirtual 92, 3) := by decide +kernel
theorem dX2_readChoice_23 : decode cX2_readChoice 23 = .ok (.ifCond .eq 39, 3) := by decide +kernel
theorem dX2_readChoice_26 : decode cX2_readChoice 26 = .ok (.aload_n 0, 1) := by decide +kernel
theorem dX2_readChoice_27 : decode cX2_readChoice 27 = .ok (.getfield 12, 3) := by decide +kernel
theorem dX2_readChoice_30 : decode cX2_readChoice 30 = .ok (.getfield 96, 3) := by decide +kernel
theorem dX2_readChoice_33 : decode cX2_readChoice 33 = .ok (.istore_n 3, 1) := by decide +kernel
theorem dX2_readChoice_34 : decode cX2_readChoice 34 = .ok (.aload_n 0, 1) := by decide +kernel
theorem dX2_readChoice_35 : decode cX2_readChoice 35 = .ok (.getfield 12, 3) := by decide +kernel
theorem dX2_readChoice_38 : decode cX2_readChoice 38 = .ok (.iconst 3, 1) := by decide +kernel
theorem dX2_readChoice_39 : decode cX2_readChoice 39 = .ok (.iconst 0, 1) := by decide +kernel
theorem dX2_readChoice_40 : decode cX2_readChoice 40 = .ok (.invokevirtual 99, 3) := by decide +kernel
theorem dX2_readChoice_43 : decode cX2_readChoice 43 = .ok (.aload_n 0, 1) := by decide +kernel
theorem dX2_readChoice_44 : decode cX2_readChoice 44 = .ok (.iload_n 1, 1) := by decide +kernel
theorem dX2_readChoice_45 : decode cX2_readChoice 45 = .ok (.invokevirtual 89, 3) := by decide +kernel
theorem dX2_readChoice_48 : decode cX2_readChoice 48 = .ok (.aload_n 0, 1) := by decide +kernel
theorem dX2_readChoice_49 : decode cX2_readChoice 49 = .ok (.getfield 12, 3) := by decide +kernel
theorem dX2_readChoice_52 : decode cX2_readChoice 52 = .ok (.iload_n 3, 1) := by decide +kernel
theorem dX2_readChoice_53 : decode cX2_readChoice 53 = .ok (.invokevirtual 102, 3) := by decide +kernel
theorem dX2_readChoice_56 : decode cX2_readChoice 56 = .ok (.iinc 2 1, 3) := by decide +kernel
theorem dX2_readChoice_59 : decode cX2_readChoice 59 = .ok (.goto (-52), 3) := by decide +kernel
theorem dX2_readChoice_62 : decode cX2_readChoice 62 = .ok (.return_, 1) := by decide +kernel
theorem dX2_readFactor_0 : decode cX2_readFactor 0 = .ok (.aload_n 0, 1) := by decide +kernel
theorem dX2_readFactor_1 : decode cX2_readFactor 1 = .ok (.ldc 123, 2) := by decide +kernel
theorem dX2_readFactor_3 : decode cX2_readFactor 3 = .ok (.invokevirtual 53, 3) := by decide +kernel
theorem dX2_readFactor_6 : decode cX2_readFactor 6 = .ok (.istore_n 2, 1) := by decide +kernel
theorem dX2_readFactor_7 : decode cX2_readFactor 7 = .ok (.iload_n 2, 1) := by decide +kernel
theorem dX2_readFactor_8 : decode cX2_readFactor 8 = .ok (.ifCond .lt 28, 3) := by decide +kernel
theorem dX2_readFactor_11 : decode cX2_readFactor 11 = .ok (.aload_n 0, 1) := by decide +kernel
theorem dX2_readFactor_12 : decode cX2_readFactor 12 = .ok (.getfield 18, 3) := by decide +kernel
theorem dX2_readFactor_15 : decode cX2_readFactor 15 = .ok (.dup, 1) := by decide +kernel
theorem dX2_readFactor_16 : decode cX2_readFactor 16 = .ok (.getfield 57, 3) := by decide +kernel
theorem dX2_readFactor_19 : decode cX2_readFactor 19 = .ok (.iconst 1, 1) := by decide +kernel
theorem dX2_readFactor_20 : decode cX2_readFactor 20 = .ok (.iadd, 1) := by decide +kernel
theorem dX2_readFactor_21 : decode cX2_readFactor 21 = .ok (.putfield 57, 3) := by decide +kernel
theorem dX2_readFactor_24 : decode cX2_readFactor 24 = .ok (.aload_n 0, 1) := by decide +kernel
theorem dX2_readFactor_25 : decode cX2_readFactor 25 = .ok (.getfield 12, 3) := by decide +kernel
theorem dX2_readFactor_28 : decode cX2_readFactor 28 = .ok (.iconst 1, 1) := by decide +kernel
theorem dX2_readFactor_29 : decode cX2_readFactor 29 = .ok (.iload_n 2, 1) := by decide +kernel
theorem dX2_readFactor_30 : decode cX2_readFactor 30 = .ok (.invokevirtual 99, 3) := by decide +kernel
theorem dX2_readFactor_33 : decode cX2_readFactor 33 = .ok (.goto 59, 3) := by decide +kernel
theorem dX2_readFactor_36 : decode cX2_readFactor 36 = .ok (.aload_n 0, 1) := by decide +kernel
theorem dX2_readFactor_37 : decode cX2_readFactor 37 = .ok (.getfield 18, 3) := by decide +kernel
theorem dX2_readFactor_40 : decode cX2_readFactor 40 = .ok (.invokevirtual 79, 3) := by decide +kernel
theorem dX2_readFactor_43 : decode cX2_readFactor 43 = .ok (.bipush 91, 2) := by decide +kernel
theorem dX2_readFactor_45 : decode cX2_readFactor 45 = .ok (.if_icmp .ne 30, 3) := by decide +kernel
theorem dX2_readFactor_48 : decode cX2_readFactor 48 = .ok (.aload_n 0, 1) := by decide +kernel
theorem dX2_readFactor_49 : decode cX2_readFactor 49 = .ok (.iload_n 1, 1) := by decide +kernel
theorem dX2_readFactor_50 : decode cX2_readFactor 50 = .ok (.invokevirtual 108, 3) := by decide +kernel
theorem dX2_readFactor_53 : decode cX2_readFactor 53 = .ok (.ifCond .eq 39, 3) := by decide +kernel
theorem dX2_readFactor_56 : decode cX2_readFactor 56 = .ok (.aload_n 0, 1) := by decide +kernel
theorem dX2_readFactor_57 : decode cX2_readFactor 57 = .ok (.iload_n 1, 1) := by decide +kernel
theorem dX2_readFactor_58 : decode cX2_readFactor 58 = .ok (.iconst 1, 1) := by decide +kernel
theorem dX2_readFactor_59 : decode cX2_readFactor 59 = .ok (.iadd, 1) := by decide +kernel
theorem dX2_readFactor_60 : decode cX2_readFactor 60 = .ok (.invokevirtual 67, 3) := by decide +kernel
theorem dX2_readFactor_63 : decode cX2_readFactor 63 = .ok (.aload_n 0, 1) := by decide +kernel
theorem dX2_readFactor_64 : decode cX2_readFactor 64 = .ok (.getfield 18, 3) := by decide +kernel
theorem dX2_readFactor_67 : decode cX2_readFactor 67 = .ok (.bipush 93, 2) := by decide +kernel
theorem dX2_readFactor_69 : decode cX2_readFactor 69 = .ok (.invokevirtual 38, 3) := by decide +kernel
theorem dX2_readFactor_72 : decode cX2_readFactor 72 = .ok (.goto 20, 3) := by decide +kernel
theorem dX2_readFactor_75 : decode cX2_readFactor 75 = .ok (.aload_n 0, 1) := by decide +kernel
theorem dX2_readFactor_76 : decode cX2_readFactor 76 = .ok (.getfield 12, 3) := by decide +kernel
theorem dX2_readFactor_79 : decode cX2_readFactor 79 = .ok (.iconst 0, 1) := by decide +kernel
theorem dX2_readFactor_80 : decode cX2_readFactor 80 = .ok (.aload_n 0, 1) := by decide +kernel
theorem dX2_readFactor_81 : decode cX2_readFactor 81 = .ok (.getfield 18, 3) := by decide +kernel
theorem dX2_readFactor_84 : decode cX2_readFactor 84 = .ok (.iconst 5, 1) := by decide +kernel
theorem dX2_readFactor_85 : decode cX2_readFactor 85 = .ok (.iconst 2, 1) := by decide +kernel
theorem dX2_readFactor_86 : decode cX2_readFactor 86 = .ok (.invokevirtual 125, 3) := by decide +kernel
theorem dX2_readFactor_89 : decode cX2_readFactor 89 = .ok (.invokevirtual 99, 3) := by decide +kernel
theorem dX2_readFactor_92 : decode cX2_readFactor 92 = .ok (.return_, 1) := by decide +kernel
theorem dX2_readPart_0 : decode cX2_readPart 0 = .ok (.aload_n 0, 1) := by decide +kernel
theorem dX2_readPart_1 : decode cX2_readPart 1 = .ok (.iload_n 1, 1) := by decide +kernel
theorem dX2_readPart_2 : decode cX2_readPart 2 = .ok (.invokevirtual 105, 3) := by decide +kernel
theorem dX2_readPart_5 : decode cX2_readPart 5 = .ok (.iconst 0, 1) := by decide +kernel
theorem dX2_readPart_6 : decode cX2_readPart 6 = .ok (.istore_n 2, 1) := by decide +kernel
theorem dX2_readPart_7 : decode cX2_readPart 7 = .ok (.iload_n 2, 1) := by decide +kernel
theorem dX2_readPart_8 : decode cX2_readPart 8 = .ok (.sipush 240, 3) := by decide +kernel
theorem dX2_readPart_11 : decode cX2_readPart 11 = .ok (.if_icmp .ge 51, 3) := by decide +kernel
theorem dX2_readPart_14 : decode cX2_readPart 14 = .ok (.aload_n 0, 1) := by decide +kernel
theorem dX2_readPart_15 : decode cX2_readPart 15 = .ok (.getfield 18, 3) := by decide +kernel
theorem dX2_readPart_18 : decode cX2_readPart 18 = .ok (.bipush 38, 2) := by decide +kernel
theorem dX2_readPart_20 : decode cX2_readPart 20 = .ok (.invokevirtual 92, 3) := by decide +kernel
theorem dX2_readPart_23 : decode cX2_readPart 23 = .ok (.ifCond .eq 39, 3) := by decide +kernel
theorem dX2_readPart_26 : decode cX2_readPart 26 = .ok (.aload_n 0, 1) := by decide +kernel
theorem dX2_readPart_27 : decode cX2_readPart 27 = .ok (.getfield 12, 3) := by decide +kernel
theorem dX2_readPart_30 : decode cX2_readPart 30 = .ok (.getfield 96, 3) := by decide +kernel
theorem dX2_readPart_33 : decode cX2_readPart 33 = .ok (.istore_n 3, 1) := by decide +kernel
theorem dX2_readPart_34 : decode cX2_readPart 34 = .ok (.aload_n 0, 1) := by decide +kernel
theorem dX2_readPart_35 : decode cX2_readPart 35 = .ok (.getfield 12, 3) := by decide +kernel
theorem dX2_readPart_38 : decode cX2_readPart 38 = .ok (.iconst 4, 1) := by decide +kernel
theorem dX2_readPart_39 : decode cX2_readPart 39 = .ok (.iconst 0, 1) := by decide +kernel
theorem dX2_readPart_40 : decode cX2_readPart 40 = .ok (.invokevirtual 99, 3) := by decide +kernel
theorem dX2_readPart_43 : decode cX2_readPart 43 = .ok (.aload_n 0, 1) := by decide +kernel
theorem dX2_readPart_44 : decode cX2_readPart 44 = .ok (.iload_n 1, 1) := by decide +kernel
theorem dX2_readPart_45 : decode cX2_readPart 45 = .ok (.invokevirtual 105, 3) := by decide +kernel
theorem dX2_readPart_48 : decode cX2_readPart 48 = .ok (.aload_n 0, 1) := by decide +kernel
theorem dX2_readPart_49 : decode cX2_readPart 49 = .ok (.getfield 12, 3) := by decide +kernel
theorem dX2_readPart_52 : decode cX2_readPart 52 = .ok (.iload_n 3, 1) := by decide +kernel
theorem dX2_readPart_53 : decode cX2_readPart 53 = .ok (.invokevirtual 102, 3) := by decide +kernel
theorem dX2_readPart_56 : decode cX2_readPart 56 = .ok (.iinc 2 1, 3) := by decide +kernel
theorem dX2_readPart_59 : decode cX2_readPart 59 = .ok (.goto (-52), 3) := by decide +kernel
theorem dX2_readPart_62 : decode cX2_readPart 62 = .ok (.return_, 1) := by decide +kernel
theorem dX2_readPiece_0 : decode cX2_readPiece 0 = .ok (.aload_n 0, 1) := by decide +kernel
theorem dX2_readPiece_1 : decode cX2_readPiece 1 = .ok (.getfield 18, 3) := by decide +kernel
theorem dX2_readPiece_4 : decode cX2_readPiece 4 = .ok (.invokevirtual 79, 3) := by decide +kernel
theorem dX2_readPiece_7 : decode cX2_readPiece 7 = .ok (.istore_n 2, 1) := by decide +kernel
theorem dX2_readPiece_8 : decode cX2_readPiece 8 = .ok (.iload_n 2, 1) := by decide +kernel
theorem dX2_readPiece_9 : decode cX2_readPiece 9 = .ok (.bipush 33, 2) := by decide +kernel
theorem dX2_readPiece_11 : decode cX2_readPiece 11 = .ok (.if_icmp .ne 30, 3) := by decide +kernel
theorem dX2_readPiece_14 : decode cX2_readPiece 14 = .ok (.aload_n 0, 1) := by decide +kernel
theorem dX2_readPiece_15 : decode cX2_readPiece 15 = .ok (.iload_n 1, 1) := by decide +kernel
theorem dX2_readPiece_16 : decode cX2_readPiece 16 = .ok (.invokevirtual 108, 3) := by decide +kernel
theorem dX2_readPiece_19 : decode cX2_readPiece 19 = .ok (.ifCond .eq 79, 3) := by decide +kernel
theorem dX2_readPiece_22 : decode cX2_readPiece 22 = .ok (.aload_n 0, 1) := by decide +kernel
theorem dX2_readPiece_23 : decode cX2_readPiece 23 = .ok (.iload_n 1, 1) := by decide +kernel
theorem dX2_readPiece_24 : decode cX2_readPiece 24 = .ok (.iconst 1, 1) := by decide +kernel
theorem dX2_readPiece_25 : decode cX2_readPiece 25 = .ok (.iadd, 1) := by decide +kernel
theorem dX2_readPiece_26 : decode cX2_readPiece 26 = .ok (.invokevirtual 105, 3) := by decide +kernel
theorem dX2_readPiece_29 : decode cX2_readPiece 29 = .ok (.aload_n 0, 1) := by decide +kernel
theorem dX2_readPiece_30 : decode cX2_readPiece 30 = .ok (.getfield 12, 3) := by decide +kernel
theorem dX2_readPiece_33 : decode cX2_readPiece 33 = .ok (.iconst 2, 1) := by decide +kernel
theorem dX2_readPiece_34 : decode cX2_readPiece 34 = .ok (.iconst 0, 1) := by decide +kernel
theorem dX2_readPiece_35 : decode cX2_readPiece 35 = .ok (.invokevirtual 99, 3) := by decide +kernel
theorem dX2_readPiece_38 : decode cX2_readPiece 38 = .ok (.goto 60, 3) := by decide +kernel
theorem dX2_readPiece_41 : decode cX2_readPiece 41 = .ok (.iload_n 2, 1) := by decide +kernel
theorem dX2_readPiece_42 : decode cX2_readPiece 42 = .ok (.bipush 40, 2) := by decide +kernel
theorem dX2_readPiece_44 : decode cX2_readPiece 44 = .ok (.if_icmp .ne 30, 3) := by decide +kernel
theorem dX2_readPiece_47 : decode cX2_readPiece 47 = .ok (.aload_n 0, 1) := by decide +kernel
theorem dX2_readPiece_48 : decode cX2_readPiece 48 = .ok (.iload_n 1, 1) := by decide +kernel
theorem dX2_readPiece_49 : decode cX2_readPiece 49 = .ok (.invokevirtual 108, 3) := by decide +kernel
theorem dX2_readPiece_52 : decode cX2_readPiece 52 = .ok (.ifCond .eq 46, 3) := by decide +kernel
theorem dX2_readPiece_55 : decode cX2_readPiece 55 = .ok (.aload_n 0, 1) := by decide +kernel
theorem dX2_readPiece_56 : decode cX2_readPiece 56 = .ok (.iload_n 1, 1) := by decide +kernel
theorem dX2_readPiece_57 : decode cX2_readPiece 57 = .ok (.iconst 1, 1) := by decide +kernel
theorem dX2_readPiece_58 : decode cX2_readPiece 58 = .ok (.iadd, 1) := by decide +kernel
theorem dX2_readPiece_59 : decode cX2_readPiece 59 = .ok (.invokevirtual 73, 3) := by decide +kernel
theorem dX2_readPiece_62 : decode cX2_readPiece 62 = .ok (.aload_n 0, 1) := by decide +kernel
theorem dX2_readPiece_63 : decode cX2_readPiece 63 = .ok (.getfield 18, 3) := by decide +kernel
theorem dX2_readPiece_66 : decode cX2_readPiece 66 = .ok (.bipush 41, 2) := by decide +kernel
theorem dX2_readPiece_68 : decode cX2_readPiece 68 = .ok (.invokevirtual 38, 3) := by decide +kernel
theorem dX2_readPiece_71 : decode cX2_readPiece 71 = .ok (.goto 27, 3) := by decide +kernel
theorem dX2_readPiece_74 : decode cX2_readPiece 74 = .ok (.aload_n 0, 1) := by decide +kernel
theorem dX2_readPiece_75 : decode cX2_readPiece 75 = .ok (.iload_n 1, 1) := by decide +kernel
theorem dX2_readPiece_76 : decode cX2_readPiece 76 = .ok (.invokevirtual 67, 3) := by decide +kernel
theorem dX2_readPiece_79 : decode cX2_readPiece 79 = .ok (.aload_n 0, 1) := by decide +kernel
theorem dX2_readPiece_80 : decode cX2_readPiece 80 = .ok (.invokevirtual 111, 3) := by decide +kernel
theorem dX2_readPiece_83 : decode cX2_readPiece 83 = .ok (.istore_n 3, 1) := by decide +kernel
theorem dX2_readPiece_84 : decode cX2_readPiece 84 = .ok (.aload_n 0, 1) := by decide +kernel
theorem dX2_readPiece_85 : decode cX2_readPiece 85 = .ok (.iload_n 1, 1) := by decide +kernel
theorem dX2_readPiece_86 : decode cX2_readPiece 86 = .ok (.invokevirtual 67, 3) := by decide +kernel
theorem dX2_readPiece_89 : decode cX2_readPiece 89 = .ok (.aload_n 0, 1) := by decide +kernel
theorem dX2_readPiece_90 : decode cX2_readPiece 90 = .ok (.getfield 12, 3) := by decide +kernel
theorem dX2_readPiece_93 : decode cX2_readPiece 93 = .ok (.iload_n 3, 1) := by decide +kernel
theorem dX2_readPiece_94 : decode cX2_readPiece 94 = .ok (.iconst 0, 1) := by decide +kernel
theorem dX2_readPiece_95 : decode cX2_readPiece 95 = .ok (.invokevirtual 99, 3) := by decide +kernel
theorem dX2_readPiece_98 : decode cX2_readPiece 98 = .ok (.return_, 1) := by decide +kernel
theorem dX2_readSum_0 : decode cX2_readSum 0 = .ok (.aload_n 0, 1) := by decide +kernel
theorem dX2_readSum_1 : decode cX2_readSum 1 = .ok (.iload_n 1, 1) := by decide +kernel
theorem dX2_readSum_2 : decode cX2_readSum 2 = .ok (.invokevirtual 114, 3) := by decide +kernel
theorem dX2_readSum_5 : decode cX2_readSum 5 = .ok (.iconst 0, 1) := by decide +kernel
theorem dX2_readSum_6 : decode cX2_readSum 6 = .ok (.istore_n 2, 1) := by decide +kernel
theorem dX2_readSum_7 : decode cX2_readSum 7 = .ok (.iload_n 2, 1) := by decide +kernel
theorem dX2_readSum_8 : decode cX2_readSum 8 = .ok (.sipush 240, 3) := by decide +kernel
theorem dX2_readSum_11 : decode cX2_readSum 11 = .ok (.if_icmp .ge 79, 3) := by decide +kernel
theorem dX2_readSum_14 : decode cX2_readSum 14 = .ok (.aload_n 0, 1) := by decide +kernel
theorem dX2_readSum_15 : decode cX2_readSum 15 = .ok (.getfield 18, 3) := by decide +kernel
theorem dX2_readSum_18 : decode cX2_readSum 18 = .ok (.invokevirtual 79, 3) := by decide +kernel
theorem dX2_readSum_21 : decode cX2_readSum 21 = .ok (.bipush 43, 2) := by decide +kernel
theorem dX2_readSum_23 : decode cX2_readSum 23 = .ok (.if_icmp .eq 15, 3) := by decide +kernel
theorem dX2_readSum_26 : decode cX2_readSum 26 = .ok (.aload_n 0, 1) := by decide +kernel
theorem dX2_readSum_27 : decode cX2_readSum 27 = .ok (.getfield 18, 3) := by decide +kernel
theorem dX2_readSum_30 : decode cX2_readSum 30 = .ok (.invokevirtual 79, 3) := by decide +kernel
theorem dX2_readSum_33 : decode cX2_readSum 33 = .ok (.bipush 45, 2) := by decide +kernel
theorem dX2_readSum_35 : decode cX2_readSum 35 = .ok (.if_icmp .ne 55, 3) := by decide +kernel
theorem dX2_readSum_38 : decode cX2_readSum 38 = .ok (.aload_n 0, 1) := by decide +kernel
theorem dX2_readSum_39 : decode cX2_readSum 39 = .ok (.getfield 18, 3) := by decide +kernel
theorem dX2_readSum_42 : decode cX2_readSum 42 = .ok (.invokevirtual 79, 3) := by decide +kernel
theorem dX2_readSum_45 : decode cX2_readSum 45 = .ok (.bipush 43, 2) := by decide +kernel
theorem dX2_readSum_47 : decode cX2_readSum 47 = .ok (.if_icmp .ne 7, 3) := by decide +kernel
theorem dX2_readSum_50 : decode cX2_readSum 50 = .ok (.iconst 5, 1) := by decide +kernel
theorem dX2_readSum_51 : decode cX2_readSum 51 = .ok (.goto 5, 3) := by decide +kernel
theorem dX2_readSum_54 : decode cX2_readSum 54 = .ok (.bipush 6, 2) := by decide +kernel
theorem dX2_readSum_56 : decode cX2_readSum 56 = .ok (.istore_n 3, 1) := by decide +kernel
theorem dX2_readSum_57 : decode cX2_readSum 57 = .ok (.aload_n 0, 1) := by decide +kernel
theorem dX2_readSum_58 : decode cX2_readSum 58 = .ok (.getfield 18, 3) := by decide +kernel
theorem dX2_readSum_61 : decode cX2_readSum 61 = .ok (.dup, 1) := by decide +kernel
theorem dX2_readSum_62 : decode cX2_readSum 62 = .ok (.getfield 57, 3) := by decide +kernel
theorem dX2_readSum_65 : decode cX2_readSum 65 = .ok (.iconst 1, 1) := by decide +kernel
theorem dX2_readSum_66 : decode cX2_readSum 66 = .ok (.iadd, 1) := by decide +kernel
theorem dX2_readSum_67 : decode cX2_readSum 67 = .ok (.putfield 57, 3) := by decide +kernel
theorem dX2_readSum_70 : decode cX2_readSum 70 = .ok (.aload_n 0, 1) := by decide +kernel
theorem dX2_readSum_71 : decode cX2_readSum 71 = .ok (.iload_n 1, 1) := by decide +kernel
theorem dX2_readSum_72 : decode cX2_readSum 72 = .ok (.invokevirtual 114, 3) := by decide +kernel
theorem dX2_readSum_75 : decode cX2_readSum 75 = .ok (.aload_n 0, 1) := by decide +kernel
theorem dX2_readSum_76 : decode cX2_readSum 76 = .ok (.getfield 12, 3) := by decide +kernel
theorem dX2_readSum_79 : decode cX2_readSum 79 = .ok (.iload_n 3, 1) := by decide +kernel
theorem dX2_readSum_80 : decode cX2_readSum 80 = .ok (.iconst 0, 1) := by decide +kernel
theorem dX2_readSum_81 : decode cX2_readSum 81 = .ok (.invokevirtual 99, 3) := by decide +kernel
theorem dX2_readSum_84 : decode cX2_readSum 84 = .ok (.iinc 2 1, 3) := by decide +kernel
theorem dX2_readSum_87 : decode cX2_readSum 87 = .ok (.goto (-80), 3) := by decide +kernel
theorem dX2_readSum_90 : decode cX2_readSum 90 = .ok (.return_, 1) := by decide +kernel
theorem dX2_readTerm_0 : decode cX2_readTerm 0 = .ok (.aload_n 0, 1) := by decide +kernel
theorem dX2_readTerm_1 : decode cX2_readTerm 1 = .ok (.iload_n 1, 1) := by decide +kernel
theorem dX2_readTerm_2 : decode cX2_readTerm 2 = .ok (.invokevirtual 117, 3) := by decide +kernel
theorem dX2_readTerm_5 : decode cX2_readTerm 5 = .ok (.iconst 0, 1) := by decide +kernel
theorem dX2_readTerm_6 : decode cX2_readTerm 6 = .ok (.istore_n 2, 1) := by decide +kernel
theorem dX2_readTerm_7 : decode cX2_readTerm 7 = .ok (.iload_n 2, 1) := by decide +kernel
theorem dX2_readTerm_8 : decode cX2_readTerm 8 = .ok (.sipush 240, 3) := by decide +kernel
theorem dX2_readTerm_11 : decode cX2_readTerm 11 = .ok (.if_icmp .ge 49, 3) := by decide +kernel
theorem dX2_readTerm_14 : decode cX2_readTerm 14 = .ok (.aload_n 0, 1) := by decide +kernel
theorem dX2_readTerm_15 : decode cX2_readTerm 15 = .ok (.invokevirtual 120, 3) := by decide +kernel
theorem dX2_readTerm_18 : decode cX2_readTerm 18 = .ok (.iconst (-1), 1) := by decide +kernel
theorem dX2_readTerm_19 : decode cX2_readTerm 19 = .ok (.if_icmp .eq 41, 3) := by decide +kernel
theorem dX2_readTerm_22 : decode cX2_readTerm 22 = .ok (.aload_n 0, 1) := by decide +kernel
theorem dX2_readTerm_23 : decode cX2_readTerm 23 = .ok (.invokevirtual 120, 3) := by decide +kernel
theorem dX2_readTerm_26 : decode cX2_readTerm 26 = .ok (.istore_n 3, 1) := by decide +kernel
theorem dX2_readTerm_27 : decode cX2_readTerm 27 = .ok (.aload_n 0, 1) := by decide +kernel
theorem dX2_readTerm_28 : decode cX2_readTerm 28 = .ok (.getfield 18, 3) := by decide +kernel
theorem dX2_readTerm_31 : decode cX2_readTerm 31 = .ok (.dup, 1) := by decide +kernel
theorem dX2_readTerm_32 : decode cX2_readTerm 32 = .ok (.getfield 57, 3) := by decide +kernel
theorem dX2_readTerm_35 : decode cX2_readTerm 35 = .ok (.iconst 1, 1) := by decide +kernel
theorem dX2_readTerm_36 : decode cX2_readTerm 36 = .ok (.iadd, 1) := by decide +kernel
theorem dX2_readTerm_37 : decode cX2_readTerm 37 = .ok (.putfield 57, 3) := by decide +kernel
theorem dX2_readTerm_40 : decode cX2_readTerm 40 = .ok (.aload_n 0, 1) := by decide +kernel
theorem dX2_readTerm_41 : decode cX2_readTerm 41 = .ok (.iload_n 1, 1) := by decide +kernel
theorem dX2_readTerm_42 : decode cX2_readTerm 42 = .ok (.invokevirtual 117, 3) := by decide +kernel
theorem dX2_readTerm_45 : decode cX2_readTerm 45 = .ok (.aload_n 0, 1) := by decide +kernel
theorem dX2_readTerm_46 : decode cX2_readTerm 46 = .ok (.getfield 12, 3) := by decide +kernel
theorem dX2_readTerm_49 : decode cX2_readTerm 49 = .ok (.iload_n 3, 1) := by decide +kernel
theorem dX2_readTerm_50 : decode cX2_readTerm 50 = .ok (.iconst 0, 1) := by decide +kernel
theorem dX2_readTerm_51 : decode cX2_readTerm 51 = .ok (.invokevirtual 99, 3) := by decide +kernel
theorem dX2_readTerm_54 : decode cX2_readTerm 54 = .ok (.iinc 2 1, 3) := by decide +kernel
theorem dX2_readTerm_57 : decode cX2_readTerm 57 = .ok (.goto (-50), 3) := by decide +kernel
theorem dX2_readTerm_60 : decode cX2_readTerm 60 = .ok (.return_, 1) := by decide +kernel
