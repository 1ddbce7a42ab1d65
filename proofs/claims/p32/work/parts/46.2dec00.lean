theorem dX10_isHire_0 : decode cX10_isHire 0 = .ok (.aload_n 0, 1) := by decide +kernel
theorem dX10_isHire_1 : decode cX10_isHire 1 = .ok (.getfield 131, 3) := by decide +kernel
theorem dX10_isHire_4 : decode cX10_isHire 4 = .ok (.iconst 0, 1) := by decide +kernel
theorem dX10_isHire_5 : decode cX10_isHire 5 = .ok (.iload_n 1, 1) := by decide +kernel
theorem dX10_isHire_6 : decode cX10_isHire 6 = .ok (.bipush 100, 2) := by decide +kernel
theorem dX10_isHire_8 : decode cX10_isHire 8 = .ok (.idiv, 1) := by decide +kernel
theorem dX10_isHire_9 : decode cX10_isHire 9 = .ok (.iastore, 1) := by decide +kernel
theorem dX10_isHire_10 : decode cX10_isHire 10 = .ok (.aload_n 0, 1) := by decide +kernel
theorem dX10_isHire_11 : decode cX10_isHire 11 = .ok (.getfield 131, 3) := by decide +kernel
theorem dX10_isHire_14 : decode cX10_isHire 14 = .ok (.iconst 1, 1) := by decide +kernel
theorem dX10_isHire_15 : decode cX10_isHire 15 = .ok (.iload_n 1, 1) := by decide +kernel
theorem dX10_isHire_16 : decode cX10_isHire 16 = .ok (.bipush 10, 2) := by decide +kernel
theorem dX10_isHire_18 : decode cX10_isHire 18 = .ok (.idiv, 1) := by decide +kernel
theorem dX10_isHire_19 : decode cX10_isHire 19 = .ok (.bipush 10, 2) := by decide +kernel
theorem dX10_isHire_21 : decode cX10_isHire 21 = .ok (.irem, 1) := by decide +kernel
theorem dX10_isHire_22 : decode cX10_isHire 22 = .ok (.iastore, 1) := by decide +kernel
theorem dX10_isHire_23 : decode cX10_isHire 23 = .ok (.aload_n 0, 1) := by decide +kernel
theorem dX10_isHire_24 : decode cX10_isHire 24 = .ok (.getfield 131, 3) := by decide +kernel
theorem dX10_isHire_27 : decode cX10_isHire 27 = .ok (.iconst 2, 1) := by decide +kernel
theorem dX10_isHire_28 : decode cX10_isHire 28 = .ok (.iload_n 1, 1) := by decide +kernel
theorem dX10_isHire_29 : decode cX10_isHire 29 = .ok (.bipush 10, 2) := by decide +kernel
theorem dX10_isHire_31 : decode cX10_isHire 31 = .ok (.irem, 1) := by decide +kernel
theorem dX10_isHire_32 : decode cX10_isHire 32 = .ok (.iastore, 1) := by decide +kernel
theorem dX10_isHire_33 : decode cX10_isHire 33 = .ok (.iload_n 2, 1) := by decide +kernel
theorem dX10_isHire_34 : decode cX10_isHire 34 = .ok (.iconst 3, 1) := by decide +kernel
theorem dX10_isHire_35 : decode cX10_isHire 35 = .ok (.if_icmp .ge 12, 3) := by decide +kernel
theorem dX10_isHire_38 : decode cX10_isHire 38 = .ok (.aload_n 0, 1) := by decide +kernel
theorem dX10_isHire_39 : decode cX10_isHire 39 = .ok (.getfield 131, 3) := by decide +kernel
theorem dX10_isHire_42 : decode cX10_isHire 42 = .ok (.iconst 2, 1) := by decide +kernel
theorem dX10_isHire_43 : decode cX10_isHire 43 = .ok (.iaload, 1) := by decide +kernel
theorem dX10_isHire_44 : decode cX10_isHire 44 = .ok (.ifCond .gt 17, 3) := by decide +kernel
theorem dX10_isHire_47 : decode cX10_isHire 47 = .ok (.iload_n 2, 1) := by decide +kernel
theorem dX10_isHire_48 : decode cX10_isHire 48 = .ok (.iconst 2, 1) := by decide +kernel
theorem dX10_isHire_49 : decode cX10_isHire 49 = .ok (.if_icmp .ge 14, 3) := by decide +kernel
theorem dX10_isHire_52 : decode cX10_isHire 52 = .ok (.aload_n 0, 1) := by decide +kernel
theorem dX10_isHire_53 : decode cX10_isHire 53 = .ok (.getfield 131, 3) := by decide +kernel
theorem dX10_isHire_56 : decode cX10_isHire 56 = .ok (.iconst 1, 1) := by decide +kernel
theorem dX10_isHire_57 : decode cX10_isHire 57 = .ok (.iaload, 1) := by decide +kernel
theorem dX10_isHire_58 : decode cX10_isHire 58 = .ok (.ifCond .le 5, 3) := by decide +kernel
theorem dX10_isHire_61 : decode cX10_isHire 61 = .ok (.iconst 0, 1) := by decide +kernel
theorem dX10_isHire_62 : decode cX10_isHire 62 = .ok (.ireturn, 1) := by decide +kernel
theorem dX10_isHire_63 : decode cX10_isHire 63 = .ok (.aload_n 0, 1) := by decide +kernel
theorem dX10_isHire_64 : decode cX10_isHire 64 = .ok (.getfield 131, 3) := by decide +kernel
theorem dX10_isHire_67 : decode cX10_isHire 67 = .ok (.iconst 0, 1) := by decide +kernel
theorem dX10_isHire_68 : decode cX10_isHire 68 = .ok (.iaload, 1) := by decide +kernel
theorem dX10_isHire_69 : decode cX10_isHire 69 = .ok (.aload_n 0, 1) := by decide +kernel
theorem dX10_isHire_70 : decode cX10_isHire 70 = .ok (.getfield 131, 3) := by decide +kernel
theorem dX10_isHire_73 : decode cX10_isHire 73 = .ok (.iconst 1, 1) := by decide +kernel
theorem dX10_isHire_74 : decode cX10_isHire 74 = .ok (.iaload, 1) := by decide +kernel
theorem dX10_isHire_75 : decode cX10_isHire 75 = .ok (.iadd, 1) := by decide +kernel
theorem dX10_isHire_76 : decode cX10_isHire 76 = .ok (.aload_n 0, 1) := by decide +kernel
theorem dX10_isHire_77 : decode cX10_isHire 77 = .ok (.getfield 131, 3) := by decide +kernel
theorem dX10_isHire_80 : decode cX10_isHire 80 = .ok (.iconst 2, 1) := by decide +kernel
theorem dX10_isHire_81 : decode cX10_isHire 81 = .ok (.iaload, 1) := by decide +kernel
theorem dX10_isHire_82 : decode cX10_isHire 82 = .ok (.iadd, 1) := by decide +kernel
theorem dX10_isHire_83 : decode cX10_isHire 83 = .ok (.iload_n 3, 1) := by decide +kernel
theorem dX10_isHire_84 : decode cX10_isHire 84 = .ok (.if_icmp .ne 7, 3) := by decide +kernel
theorem dX10_isHire_87 : decode cX10_isHire 87 = .ok (.iconst 1, 1) := by decide +kernel
theorem dX10_isHire_88 : decode cX10_isHire 88 = .ok (.goto 4, 3) := by decide +kernel
theorem dX10_isHire_91 : decode cX10_isHire 91 = .ok (.iconst 0, 1) := by decide +kernel
theorem dX10_isHire_92 : decode cX10_isHire 92 = .ok (.ireturn, 1) := by decide +kernel
theorem dX10_isSo_0 : decode cX10_isSo 0 = .ok (.aload_n 0, 1) := by decide +kernel
theorem dX10_isSo_1 : decode cX10_isSo 1 = .ok (.invokevirtual 300, 3) := by decide +kernel
theorem dX10_isSo_4 : decode cX10_isSo 4 = .ok (.iload_n 2, 1) := by decide +kernel
theorem dX10_isSo_5 : decode cX10_isSo 5 = .ok (.bipush 10, 2) := by decide +kernel
theorem dX10_isSo_7 : decode cX10_isSo 7 = .ok (.if_icmp .ge 22, 3) := by decide +kernel
theorem dX10_isSo_10 : decode cX10_isSo 10 = .ok (.aload_n 0, 1) := by decide +kernel
theorem dX10_isSo_11 : decode cX10_isSo 11 = .ok (.iload_n 2, 1) := by decide +kernel
theorem dX10_isSo_12 : decode cX10_isSo 12 = .ok (.aload_n 0, 1) := by decide +kernel
theorem dX10_isSo_13 : decode cX10_isSo 13 = .ok (.getfield 7, 3) := by decide +kernel
theorem dX10_isSo_16 : decode cX10_isSo 16 = .ok (.bipush 13, 2) := by decide +kernel
theorem dX10_isSo_18 : decode cX10_isSo 18 = .ok (.iaload, 1) := by decide +kernel
theorem dX10_isSo_19 : decode cX10_isSo 19 = .ok (.aload_n 0, 1) := by decide +kernel
theorem dX10_isSo_20 : decode cX10_isSo 20 = .ok (.getfield 7, 3) := by decide +kernel
theorem dX10_isSo_23 : decode cX10_isSo 23 = .ok (.bipush 13, 2) := by decide +kernel
theorem dX10_isSo_25 : decode cX10_isSo 25 = .ok (.iaload, 1) := by decide +kernel
theorem dX10_isSo_26 : decode cX10_isSo 26 = .ok (.invokevirtual 303, 3) := by decide +kernel
theorem dX10_isSo_29 : decode cX10_isSo 29 = .ok (.aload_n 0, 1) := by decide +kernel
theorem dX10_isSo_30 : decode cX10_isSo 30 = .ok (.getfield 7, 3) := by decide +kernel
theorem dX10_isSo_33 : decode cX10_isSo 33 = .ok (.aload_n 0, 1) := by decide +kernel
theorem dX10_isSo_34 : decode cX10_isSo 34 = .ok (.getfield 13, 3) := by decide +kernel
theorem dX10_isSo_37 : decode cX10_isSo 37 = .ok (.bipush 15, 2) := by decide +kernel
theorem dX10_isSo_39 : decode cX10_isSo 39 = .ok (.invokestatic 359, 3) := by decide +kernel
theorem dX10_isSo_42 : decode cX10_isSo 42 = .ok (.aload_n 0, 1) := by decide +kernel
theorem dX10_isSo_43 : decode cX10_isSo 43 = .ok (.iconst 1, 1) := by decide +kernel
theorem dX10_isSo_44 : decode cX10_isSo 44 = .ok (.invokevirtual 363, 3) := by decide +kernel
theorem dX10_isSo_47 : decode cX10_isSo 47 = .ok (.iconst 1, 1) := by decide +kernel
theorem dX10_isSo_48 : decode cX10_isSo 48 = .ok (.istore_n 3, 1) := by decide +kernel
theorem dX10_isSo_49 : decode cX10_isSo 49 = .ok (.iconst 0, 1) := by decide +kernel
theorem dX10_isSo_50 : decode cX10_isSo 50 = .ok (.istore 4, 2) := by decide +kernel
theorem dX10_isSo_52 : decode cX10_isSo 52 = .ok (.iload 4, 2) := by decide +kernel
theorem dX10_isSo_54 : decode cX10_isSo 54 = .ok (.iload_n 1, 1) := by decide +kernel
theorem dX10_isSo_55 : decode cX10_isSo 55 = .ok (.if_icmp .ge 53, 3) := by decide +kernel
theorem dX10_isSo_58 : decode cX10_isSo 58 = .ok (.iload_n 3, 1) := by decide +kernel
theorem dX10_isSo_59 : decode cX10_isSo 59 = .ok (.ifCond .eq 41, 3) := by decide +kernel
theorem dX10_isSo_62 : decode cX10_isSo 62 = .ok (.aload_n 0, 1) := by decide +kernel
theorem dX10_isSo_63 : decode cX10_isSo 63 = .ok (.getfield 43, 3) := by decide +kernel
theorem dX10_isSo_66 : decode cX10_isSo 66 = .ok (.iload 4, 2) := by decide +kernel
theorem dX10_isSo_68 : decode cX10_isSo 68 = .ok (.baload, 1) := by decide +kernel
theorem dX10_isSo_69 : decode cX10_isSo 69 = .ok (.sipush 255, 3) := by decide +kernel
theorem dX10_isSo_72 : decode cX10_isSo 72 = .ok (.iand, 1) := by decide +kernel
theorem dX10_isSo_73 : decode cX10_isSo 73 = .ok (.aload_n 0, 1) := by decide +kernel
theorem dX10_isSo_74 : decode cX10_isSo 74 = .ok (.iload 4, 2) := by decide +kernel
theorem dX10_isSo_76 : decode cX10_isSo 76 = .ok (.invokevirtual 331, 3) := by decide +kernel
theorem dX10_isSo_79 : decode cX10_isSo 79 = .ok (.ifCond .eq 13, 3) := by decide +kernel
theorem dX10_isSo_82 : decode cX10_isSo 82 = .ok (.aload_n 0, 1) := by decide +kernel
theorem dX10_isSo_83 : decode cX10_isSo 83 = .ok (.getfield 7, 3) := by decide +kernel
theorem dX10_isSo_86 : decode cX10_isSo 86 = .ok (.iload 4, 2) := by decide +kernel
theorem dX10_isSo_88 : decode cX10_isSo 88 = .ok (.iaload, 1) := by decide +kernel
theorem dX10_isSo_89 : decode cX10_isSo 89 = .ok (.goto 4, 3) := by decide +kernel
theorem dX10_isSo_92 : decode cX10_isSo 92 = .ok (.iconst 0, 1) := by decide +kernel
theorem dX10_isSo_93 : decode cX10_isSo 93 = .ok (.if_icmp .ne 7, 3) := by decide +kernel
theorem dX10_isSo_96 : decode cX10_isSo 96 = .ok (.iconst 1, 1) := by decide +kernel
theorem dX10_isSo_97 : decode cX10_isSo 97 = .ok (.goto 4, 3) := by decide +kernel
theorem dX10_isSo_100 : decode cX10_isSo 100 = .ok (.iconst 0, 1) := by decide +kernel
theorem dX10_isSo_101 : decode cX10_isSo 101 = .ok (.istore_n 3, 1) := by decide +kernel
theorem dX10_isSo_102 : decode cX10_isSo 102 = .ok (.iinc 4 1, 3) := by decide +kernel
theorem dX10_isSo_105 : decode cX10_isSo 105 = .ok (.goto (-53), 3) := by decide +kernel
theorem dX10_isSo_108 : decode cX10_isSo 108 = .ok (.aload_n 0, 1) := by decide +kernel
theorem dX10_isSo_109 : decode cX10_isSo 109 = .ok (.getfield 13, 3) := by decide +kernel
theorem dX10_isSo_112 : decode cX10_isSo 112 = .ok (.aload_n 0, 1) := by decide +kernel
theorem dX10_isSo_113 : decode cX10_isSo 113 = .ok (.getfield 7, 3) := by decide +kernel
theorem dX10_isSo_116 : decode cX10_isSo 116 = .ok (.bipush 15, 2) := by decide +kernel
theorem dX10_isSo_118 : decode cX10_isSo 118 = .ok (.invokestatic 359, 3) := by decide +kernel
theorem dX10_isSo_121 : decode cX10_isSo 121 = .ok (.iload_n 3, 1) := by decide +kernel
theorem dX10_isSo_122 : decode cX10_isSo 122 = .ok (.ireturn, 1) := by decide +kernel
theorem dX10_orders_0 : decode cX10_orders 0 = .ok (.iconst 1, 1) := by decide +kernel
theorem dX10_orders_1 : decode cX10_orders 1 = .ok (.istore_n 1, 1) := by decide +kernel
theorem dX10_orders_2 : decode cX10_orders 2 = .ok (.iconst 2, 1) := by decide +kernel
theorem dX10_orders_3 : decode cX10_orders 3 = .ok (.istore_n 2, 1) := by decide +kernel
theorem dX10_orders_4 : decode cX10_orders 4 = .ok (.iload_n 2, 1) := by decide +kernel
theorem dX10_orders_5 : decode cX10_orders 5 = .ok (.iload_n 0, 1) := by decide +kernel
theorem dX10_orders_6 : decode cX10_orders 6 = .ok (.if_icmp .gt 13, 3) := by decide +kernel
theorem dX10_orders_9 : decode cX10_orders 9 = .ok (.iload_n 1, 1) := by decide +kernel
theorem dX10_orders_10 : decode cX10_orders 10 = .ok (.iload_n 2, 1) := by decide +kernel
theorem dX10_orders_11 : decode cX10_orders 11 = .ok (.imul, 1) := by decide +kernel
theorem dX10_orders_12 : decode cX10_orders 12 = .ok (.istore_n 1, 1) := by decide +kernel
theorem dX10_orders_13 : decode cX10_orders 13 = .ok (.iinc 2 1, 3) := by decide +kernel
theorem dX10_orders_16 : decode cX10_orders 16 = .ok (.goto (-12), 3) := by decide +kernel
theorem dX10_orders_19 : decode cX10_orders 19 = .ok (.iload_n 1, 1) := by decide +kernel
theorem dX10_orders_20 : decode cX10_orders 20 = .ok (.ireturn, 1) := by decide +kernel
theorem dX10_stopped_0 : decode cX10_stopped 0 = .ok (.iload_n 1, 1) := by decide +kernel
theorem dX10_stopped_1 : decode cX10_stopped 1 = .ok (.iconst 1, 1) := by decide +kernel
theorem dX10_stopped_2 : decode cX10_stopped 2 = .ok (.bipush 12, 2) := by decide +kernel
theorem dX10_stopped_4 : decode cX10_stopped 4 = .ok (.invokestatic 157, 3) := by decide +kernel
theorem dX10_stopped_7 : decode cX10_stopped 7 = .ok (.ifCond .eq 11, 3) := by decide +kernel
theorem dX10_stopped_10 : decode cX10_stopped 10 = .ok (.iload_n 1, 1) := by decide +kernel
theorem dX10_stopped_11 : decode cX10_stopped 11 = .ok (.aload_n 0, 1) := by decide +kernel
theorem dX10_stopped_12 : decode cX10_stopped 12 = .ok (.getfield 164, 3) := by decide +kernel
theorem dX10_stopped_15 : decode cX10_stopped 15 = .ok (.if_icmp .le 5, 3) := by decide +kernel
theorem dX10_stopped_18 : decode cX10_stopped 18 = .ok (.iconst (-1), 1) := by decide +kernel
theorem dX10_stopped_19 : decode cX10_stopped 19 = .ok (.ireturn, 1) := by decide +kernel
theorem dX10_stopped_20 : decode cX10_stopped 20 = .ok (.aload_n 0, 1) := by decide +kernel
theorem dX10_stopped_21 : decode cX10_stopped 21 = .ok (.iconst 0, 1) := by decide +kernel
theorem dX10_stopped_22 : decode cX10_stopped 22 = .ok (.putfield 164, 3) := by decide +kernel
theorem dX10_stopped_25 : decode cX10_stopped 25 = .ok (.iconst 0, 1) := by decide +kernel
theorem dX10_stopped_26 : decode cX10_stopped 26 = .ok (.istore_n 2, 1) := by decide +kernel
theorem dX10_stopped_27 : decode cX10_stopped 27 = .ok (.iconst 0, 1) := by decide +kernel
theorem dX10_stopped_28 : decode cX10_stopped 28 = .ok (.istore_n 3, 1) := by decide +kernel
theorem dX10_stopped_29 : decode cX10_stopped 29 = .ok (.iload_n 3, 1) := by decide +kernel
theorem dX10_stopped_30 : decode cX10_stopped 30 = .ok (.bipush 10, 2) := by decide +kernel
theorem dX10_stopped_32 : decode cX10_stopped 32 = .ok (.if_icmp .gt 38, 3) := by decide +kernel
theorem dX10_stopped_35 : decode cX10_stopped 35 = .ok (.iload_n 3, 1) := by decide +kernel
theorem dX10_stopped_36 : decode cX10_stopped 36 = .ok (.bipush 10, 2) := by decide +kernel
theorem dX10_stopped_38 : decode cX10_stopped 38 = .ok (.if_icmp .eq 11, 3) := by decide +kernel
theorem dX10_stopped_41 : decode cX10_stopped 41 = .ok (.aload_n 0, 1) := by decide +kernel
theorem dX10_stopped_42 : decode cX10_stopped 42 = .ok (.iload_n 3, 1) := by decide +kernel
theorem dX10_stopped_43 : decode cX10_stopped 43 = .ok (.invokevirtual 307, 3) := by decide +kernel
theorem dX10_stopped_46 : decode cX10_stopped 46 = .ok (.ifCond .eq 18, 3) := by decide +kernel
theorem dX10_stopped_49 : decode cX10_stopped 49 = .ok (.aload_n 0, 1) := by decide +kernel
theorem dX10_stopped_50 : decode cX10_stopped 50 = .ok (.iload_n 1, 1) := by decide +kernel
theorem dX10_stopped_51 : decode cX10_stopped 51 = .ok (.iload_n 3, 1) := by decide +kernel
theorem dX10_stopped_52 : decode cX10_stopped 52 = .ok (.invokevirtual 414, 3) := by decide +kernel
theorem dX10_stopped_55 : decode cX10_stopped 55 = .ok (.ifCond .eq 9, 3) := by decide +kernel
theorem dX10_stopped_58 : decode cX10_stopped 58 = .ok (.iload_n 2, 1) := by decide +kernel
theorem dX10_stopped_59 : decode cX10_stopped 59 = .ok (.iconst 1, 1) := by decide +kernel
theorem dX10_stopped_60 : decode cX10_stopped 60 = .ok (.iload_n 3, 1) := by decide +kernel
theorem dX10_stopped_61 : decode cX10_stopped 61 = .ok (.ishl, 1) := by decide +kernel
theorem dX10_stopped_62 : decode cX10_stopped 62 = .ok (.ior, 1) := by decide +kernel
theorem dX10_stopped_63 : decode cX10_stopped 63 = .ok (.istore_n 2, 1) := by decide +kernel
theorem dX10_stopped_64 : decode cX10_stopped 64 = .ok (.iinc 3 1, 3) := by decide +kernel
theorem dX10_stopped_67 : decode cX10_stopped 67 = .ok (.goto (-38), 3) := by decide +kernel
theorem dX10_stopped_70 : decode cX10_stopped 70 = .ok (.iload_n 2, 1) := by decide +kernel
theorem dX10_stopped_71 : decode cX10_stopped 71 = .ok (.ireturn, 1) := by decide +kernel
