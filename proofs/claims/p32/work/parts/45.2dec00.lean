theorem dX10_check_0 : decode cX10_check 0 = .ok (.iload_n 1, 1) := by decide +kernel
theorem dX10_check_1 : decode cX10_check 1 = .ok (.iconst 0, 1) := by decide +kernel
theorem dX10_check_2 : decode cX10_check 2 = .ok (.bipush 12, 2) := by decide +kernel
theorem dX10_check_4 : decode cX10_check 4 = .ok (.invokestatic 157, 3) := by decide +kernel
theorem dX10_check_7 : decode cX10_check 7 = .ok (.ifCond .eq 11, 3) := by decide +kernel
theorem dX10_check_10 : decode cX10_check 10 = .ok (.iload_n 1, 1) := by decide +kernel
theorem dX10_check_11 : decode cX10_check 11 = .ok (.aload_n 0, 1) := by decide +kernel
theorem dX10_check_12 : decode cX10_check 12 = .ok (.getfield 164, 3) := by decide +kernel
theorem dX10_check_15 : decode cX10_check 15 = .ok (.if_icmp .le 6, 3) := by decide +kernel
theorem dX10_check_18 : decode cX10_check 18 = .ok (.bipush (-2), 2) := by decide +kernel
theorem dX10_check_20 : decode cX10_check 20 = .ok (.ireturn, 1) := by decide +kernel
theorem dX10_check_21 : decode cX10_check 21 = .ok (.aload_n 0, 1) := by decide +kernel
theorem dX10_check_22 : decode cX10_check 22 = .ok (.iconst 0, 1) := by decide +kernel
theorem dX10_check_23 : decode cX10_check 23 = .ok (.putfield 164, 3) := by decide +kernel
theorem dX10_check_26 : decode cX10_check 26 = .ok (.iconst 0, 1) := by decide +kernel
theorem dX10_check_27 : decode cX10_check 27 = .ok (.istore_n 2, 1) := by decide +kernel
theorem dX10_check_28 : decode cX10_check 28 = .ok (.iload_n 2, 1) := by decide +kernel
theorem dX10_check_29 : decode cX10_check 29 = .ok (.iload_n 1, 1) := by decide +kernel
theorem dX10_check_30 : decode cX10_check 30 = .ok (.if_icmp .ge 42, 3) := by decide +kernel
theorem dX10_check_33 : decode cX10_check 33 = .ok (.aload_n 0, 1) := by decide +kernel
theorem dX10_check_34 : decode cX10_check 34 = .ok (.getfield 43, 3) := by decide +kernel
theorem dX10_check_37 : decode cX10_check 37 = .ok (.iload_n 2, 1) := by decide +kernel
theorem dX10_check_38 : decode cX10_check 38 = .ok (.baload, 1) := by decide +kernel
theorem dX10_check_39 : decode cX10_check 39 = .ok (.sipush 255, 3) := by decide +kernel
theorem dX10_check_42 : decode cX10_check 42 = .ok (.iand, 1) := by decide +kernel
theorem dX10_check_43 : decode cX10_check 43 = .ok (.aload_n 0, 1) := by decide +kernel
theorem dX10_check_44 : decode cX10_check 44 = .ok (.iload_n 2, 1) := by decide +kernel
theorem dX10_check_45 : decode cX10_check 45 = .ok (.invokevirtual 331, 3) := by decide +kernel
theorem dX10_check_48 : decode cX10_check 48 = .ok (.ifCond .eq 12, 3) := by decide +kernel
theorem dX10_check_51 : decode cX10_check 51 = .ok (.aload_n 0, 1) := by decide +kernel
theorem dX10_check_52 : decode cX10_check 52 = .ok (.getfield 7, 3) := by decide +kernel
theorem dX10_check_55 : decode cX10_check 55 = .ok (.iload_n 2, 1) := by decide +kernel
theorem dX10_check_56 : decode cX10_check 56 = .ok (.iaload, 1) := by decide +kernel
theorem dX10_check_57 : decode cX10_check 57 = .ok (.goto 4, 3) := by decide +kernel
theorem dX10_check_60 : decode cX10_check 60 = .ok (.iconst 0, 1) := by decide +kernel
theorem dX10_check_61 : decode cX10_check 61 = .ok (.if_icmp .eq 5, 3) := by decide +kernel
theorem dX10_check_64 : decode cX10_check 64 = .ok (.iload_n 2, 1) := by decide +kernel
theorem dX10_check_65 : decode cX10_check 65 = .ok (.ireturn, 1) := by decide +kernel
theorem dX10_check_66 : decode cX10_check 66 = .ok (.iinc 2 1, 3) := by decide +kernel
theorem dX10_check_69 : decode cX10_check 69 = .ok (.goto (-41), 3) := by decide +kernel
theorem dX10_check_72 : decode cX10_check 72 = .ok (.iconst (-1), 1) := by decide +kernel
theorem dX10_check_73 : decode cX10_check 73 = .ok (.ireturn, 1) := by decide +kernel
theorem dX10_choreIs_0 : decode cX10_choreIs 0 = .ok (.aload_n 0, 1) := by decide +kernel
theorem dX10_choreIs_1 : decode cX10_choreIs 1 = .ok (.iload_n 1, 1) := by decide +kernel
theorem dX10_choreIs_2 : decode cX10_choreIs 2 = .ok (.invokevirtual 331, 3) := by decide +kernel
theorem dX10_choreIs_5 : decode cX10_choreIs 5 = .ok (.ifCond .ne 5, 3) := by decide +kernel
theorem dX10_choreIs_8 : decode cX10_choreIs 8 = .ok (.iconst (-1), 1) := by decide +kernel
theorem dX10_choreIs_9 : decode cX10_choreIs 9 = .ok (.ireturn, 1) := by decide +kernel
theorem dX10_choreIs_10 : decode cX10_choreIs 10 = .ok (.iload_n 2, 1) := by decide +kernel
theorem dX10_choreIs_11 : decode cX10_choreIs 11 = .ok (.tableswitch 46 0 2 #[25, 32, 39], 25) := by decide +kernel
theorem dX10_choreIs_36 : decode cX10_choreIs 36 = .ok (.aload_n 0, 1) := by decide +kernel
theorem dX10_choreIs_37 : decode cX10_choreIs 37 = .ok (.getfield 34, 3) := by decide +kernel
theorem dX10_choreIs_40 : decode cX10_choreIs 40 = .ok (.iload_n 1, 1) := by decide +kernel
theorem dX10_choreIs_41 : decode cX10_choreIs 41 = .ok (.iaload, 1) := by decide +kernel
theorem dX10_choreIs_42 : decode cX10_choreIs 42 = .ok (.ireturn, 1) := by decide +kernel
theorem dX10_choreIs_43 : decode cX10_choreIs 43 = .ok (.aload_n 0, 1) := by decide +kernel
theorem dX10_choreIs_44 : decode cX10_choreIs 44 = .ok (.getfield 7, 3) := by decide +kernel
theorem dX10_choreIs_47 : decode cX10_choreIs 47 = .ok (.iload_n 1, 1) := by decide +kernel
theorem dX10_choreIs_48 : decode cX10_choreIs 48 = .ok (.iaload, 1) := by decide +kernel
theorem dX10_choreIs_49 : decode cX10_choreIs 49 = .ok (.ireturn, 1) := by decide +kernel
theorem dX10_choreIs_50 : decode cX10_choreIs 50 = .ok (.aload_n 0, 1) := by decide +kernel
theorem dX10_choreIs_51 : decode cX10_choreIs 51 = .ok (.getfield 37, 3) := by decide +kernel
theorem dX10_choreIs_54 : decode cX10_choreIs 54 = .ok (.iload_n 1, 1) := by decide +kernel
theorem dX10_choreIs_55 : decode cX10_choreIs 55 = .ok (.iaload, 1) := by decide +kernel
theorem dX10_choreIs_56 : decode cX10_choreIs 56 = .ok (.ireturn, 1) := by decide +kernel
theorem dX10_choreIs_57 : decode cX10_choreIs 57 = .ok (.iload_n 2, 1) := by decide +kernel
theorem dX10_choreIs_58 : decode cX10_choreIs 58 = .ok (.bipush 10, 2) := by decide +kernel
theorem dX10_choreIs_60 : decode cX10_choreIs 60 = .ok (.bipush 9, 2) := by decide +kernel
theorem dX10_choreIs_62 : decode cX10_choreIs 62 = .ok (.aload_n 0, 1) := by decide +kernel
theorem dX10_choreIs_63 : decode cX10_choreIs 63 = .ok (.getfield 37, 3) := by decide +kernel
theorem dX10_choreIs_66 : decode cX10_choreIs 66 = .ok (.iload_n 1, 1) := by decide +kernel
theorem dX10_choreIs_67 : decode cX10_choreIs 67 = .ok (.iaload, 1) := by decide +kernel
theorem dX10_choreIs_68 : decode cX10_choreIs 68 = .ok (.iadd, 1) := by decide +kernel
theorem dX10_choreIs_69 : decode cX10_choreIs 69 = .ok (.invokestatic 157, 3) := by decide +kernel
theorem dX10_choreIs_72 : decode cX10_choreIs 72 = .ok (.ifCond .eq 20, 3) := by decide +kernel
theorem dX10_choreIs_75 : decode cX10_choreIs 75 = .ok (.aload_n 0, 1) := by decide +kernel
theorem dX10_choreIs_76 : decode cX10_choreIs 76 = .ok (.getfield 40, 3) := by decide +kernel
theorem dX10_choreIs_79 : decode cX10_choreIs 79 = .ok (.bipush 10, 2) := by decide +kernel
theorem dX10_choreIs_81 : decode cX10_choreIs 81 = .ok (.iload_n 1, 1) := by decide +kernel
theorem dX10_choreIs_82 : decode cX10_choreIs 82 = .ok (.imul, 1) := by decide +kernel
theorem dX10_choreIs_83 : decode cX10_choreIs 83 = .ok (.iload_n 2, 1) := by decide +kernel
theorem dX10_choreIs_84 : decode cX10_choreIs 84 = .ok (.iadd, 1) := by decide +kernel
theorem dX10_choreIs_85 : decode cX10_choreIs 85 = .ok (.bipush 10, 2) := by decide +kernel
theorem dX10_choreIs_87 : decode cX10_choreIs 87 = .ok (.isub, 1) := by decide +kernel
theorem dX10_choreIs_88 : decode cX10_choreIs 88 = .ok (.iaload, 1) := by decide +kernel
theorem dX10_choreIs_89 : decode cX10_choreIs 89 = .ok (.goto 4, 3) := by decide +kernel
theorem dX10_choreIs_92 : decode cX10_choreIs 92 = .ok (.iconst (-1), 1) := by decide +kernel
theorem dX10_choreIs_93 : decode cX10_choreIs 93 = .ok (.ireturn, 1) := by decide +kernel
theorem dX10_choresOf_0 : decode cX10_choresOf 0 = .ok (.iconst 0, 1) := by decide +kernel
theorem dX10_choresOf_1 : decode cX10_choresOf 1 = .ok (.istore_n 2, 1) := by decide +kernel
theorem dX10_choresOf_2 : decode cX10_choresOf 2 = .ok (.iconst 0, 1) := by decide +kernel
theorem dX10_choresOf_3 : decode cX10_choresOf 3 = .ok (.istore_n 3, 1) := by decide +kernel
theorem dX10_choresOf_4 : decode cX10_choresOf 4 = .ok (.iload_n 3, 1) := by decide +kernel
theorem dX10_choresOf_5 : decode cX10_choresOf 5 = .ok (.bipush 12, 2) := by decide +kernel
theorem dX10_choresOf_7 : decode cX10_choresOf 7 = .ok (.if_icmp .ge 59, 3) := by decide +kernel
theorem dX10_choresOf_10 : decode cX10_choresOf 10 = .ok (.iconst 0, 1) := by decide +kernel
theorem dX10_choresOf_11 : decode cX10_choresOf 11 = .ok (.istore 4, 2) := by decide +kernel
theorem dX10_choresOf_13 : decode cX10_choresOf 13 = .ok (.iload 4, 2) := by decide +kernel
theorem dX10_choresOf_15 : decode cX10_choresOf 15 = .ok (.aload_n 0, 1) := by decide +kernel
theorem dX10_choresOf_16 : decode cX10_choresOf 16 = .ok (.getfield 37, 3) := by decide +kernel
theorem dX10_choresOf_19 : decode cX10_choresOf 19 = .ok (.iload_n 3, 1) := by decide +kernel
theorem dX10_choresOf_20 : decode cX10_choresOf 20 = .ok (.iaload, 1) := by decide +kernel
theorem dX10_choresOf_21 : decode cX10_choresOf 21 = .ok (.if_icmp .ge 39, 3) := by decide +kernel
theorem dX10_choresOf_24 : decode cX10_choresOf 24 = .ok (.aload_n 0, 1) := by decide +kernel
theorem dX10_choresOf_25 : decode cX10_choresOf 25 = .ok (.iload_n 3, 1) := by decide +kernel
theorem dX10_choresOf_26 : decode cX10_choresOf 26 = .ok (.invokevirtual 331, 3) := by decide +kernel
theorem dX10_choresOf_29 : decode cX10_choresOf 29 = .ok (.ifCond .eq 25, 3) := by decide +kernel
theorem dX10_choresOf_32 : decode cX10_choresOf 32 = .ok (.aload_n 0, 1) := by decide +kernel
theorem dX10_choresOf_33 : decode cX10_choresOf 33 = .ok (.getfield 40, 3) := by decide +kernel
theorem dX10_choresOf_36 : decode cX10_choresOf 36 = .ok (.bipush 10, 2) := by decide +kernel
theorem dX10_choresOf_38 : decode cX10_choresOf 38 = .ok (.iload_n 3, 1) := by decide +kernel
theorem dX10_choresOf_39 : decode cX10_choresOf 39 = .ok (.imul, 1) := by decide +kernel
theorem dX10_choresOf_40 : decode cX10_choresOf 40 = .ok (.iload 4, 2) := by decide +kernel
theorem dX10_choresOf_42 : decode cX10_choresOf 42 = .ok (.iadd, 1) := by decide +kernel
theorem dX10_choresOf_43 : decode cX10_choresOf 43 = .ok (.iaload, 1) := by decide +kernel
theorem dX10_choresOf_44 : decode cX10_choresOf 44 = .ok (.iload_n 1, 1) := by decide +kernel
theorem dX10_choresOf_45 : decode cX10_choresOf 45 = .ok (.if_icmp .ne 9, 3) := by decide +kernel
theorem dX10_choresOf_48 : decode cX10_choresOf 48 = .ok (.iload_n 2, 1) := by decide +kernel
theorem dX10_choresOf_49 : decode cX10_choresOf 49 = .ok (.iconst 1, 1) := by decide +kernel
theorem dX10_choresOf_50 : decode cX10_choresOf 50 = .ok (.iload_n 3, 1) := by decide +kernel
theorem dX10_choresOf_51 : decode cX10_choresOf 51 = .ok (.ishl, 1) := by decide +kernel
theorem dX10_choresOf_52 : decode cX10_choresOf 52 = .ok (.ior, 1) := by decide +kernel
theorem dX10_choresOf_53 : decode cX10_choresOf 53 = .ok (.istore_n 2, 1) := by decide +kernel
theorem dX10_choresOf_54 : decode cX10_choresOf 54 = .ok (.iinc 4 1, 3) := by decide +kernel
theorem dX10_choresOf_57 : decode cX10_choresOf 57 = .ok (.goto (-44), 3) := by decide +kernel
theorem dX10_choresOf_60 : decode cX10_choresOf 60 = .ok (.iinc 3 1, 3) := by decide +kernel
theorem dX10_choresOf_63 : decode cX10_choresOf 63 = .ok (.goto (-59), 3) := by decide +kernel
theorem dX10_choresOf_66 : decode cX10_choresOf 66 = .ok (.iload_n 2, 1) := by decide +kernel
theorem dX10_choresOf_67 : decode cX10_choresOf 67 = .ok (.ireturn, 1) := by decide +kernel
theorem dX10_count_0 : decode cX10_count 0 = .ok (.iload_n 1, 1) := by decide +kernel
theorem dX10_count_1 : decode cX10_count 1 = .ok (.tableswitch 128 0 9 #[55, 63, 71, 76, 81, 100, 105, 110, 118, 123], 55) := by decide +kernel
theorem dX10_count_56 : decode cX10_count 56 = .ok (.aload_n 0, 1) := by decide +kernel
theorem dX10_count_57 : decode cX10_count 57 = .ok (.getfield 7, 3) := by decide +kernel
theorem dX10_count_60 : decode cX10_count 60 = .ok (.bipush 13, 2) := by decide +kernel
theorem dX10_count_62 : decode cX10_count 62 = .ok (.iaload, 1) := by decide +kernel
theorem dX10_count_63 : decode cX10_count 63 = .ok (.ireturn, 1) := by decide +kernel
theorem dX10_count_64 : decode cX10_count 64 = .ok (.aload_n 0, 1) := by decide +kernel
theorem dX10_count_65 : decode cX10_count 65 = .ok (.getfield 7, 3) := by decide +kernel
theorem dX10_count_68 : decode cX10_count 68 = .ok (.bipush 12, 2) := by decide +kernel
theorem dX10_count_70 : decode cX10_count 70 = .ok (.iaload, 1) := by decide +kernel
theorem dX10_count_71 : decode cX10_count 71 = .ok (.ireturn, 1) := by decide +kernel
theorem dX10_count_72 : decode cX10_count 72 = .ok (.aload_n 0, 1) := by decide +kernel
theorem dX10_count_73 : decode cX10_count 73 = .ok (.getfield 146, 3) := by decide +kernel
theorem dX10_count_76 : decode cX10_count 76 = .ok (.ireturn, 1) := by decide +kernel
theorem dX10_count_77 : decode cX10_count 77 = .ok (.aload_n 0, 1) := by decide +kernel
theorem dX10_count_78 : decode cX10_count 78 = .ok (.getfield 154, 3) := by decide +kernel
theorem dX10_count_81 : decode cX10_count 81 = .ok (.ireturn, 1) := by decide +kernel
theorem dX10_count_82 : decode cX10_count 82 = .ok (.aload_n 0, 1) := by decide +kernel
theorem dX10_count_83 : decode cX10_count 83 = .ok (.sipush 1023, 3) := by decide +kernel
theorem dX10_count_86 : decode cX10_count 86 = .ok (.invokevirtual 369, 3) := by decide +kernel
theorem dX10_count_89 : decode cX10_count 89 = .ok (.aload_n 0, 1) := by decide +kernel
theorem dX10_count_90 : decode cX10_count 90 = .ok (.aload_n 0, 1) := by decide +kernel
theorem dX10_count_91 : decode cX10_count 91 = .ok (.getfield 7, 3) := by decide +kernel
theorem dX10_count_94 : decode cX10_count 94 = .ok (.bipush 13, 2) := by decide +kernel
theorem dX10_count_96 : decode cX10_count 96 = .ok (.iaload, 1) := by decide +kernel
theorem dX10_count_97 : decode cX10_count 97 = .ok (.invokevirtual 313, 3) := by decide +kernel
theorem dX10_count_100 : decode cX10_count 100 = .ok (.ireturn, 1) := by decide +kernel
theorem dX10_count_101 : decode cX10_count 101 = .ok (.aload_n 0, 1) := by decide +kernel
theorem dX10_count_102 : decode cX10_count 102 = .ok (.getfield 265, 3) := by decide +kernel
theorem dX10_count_105 : decode cX10_count 105 = .ok (.ireturn, 1) := by decide +kernel
theorem dX10_count_106 : decode cX10_count 106 = .ok (.aload_n 0, 1) := by decide +kernel
theorem dX10_count_107 : decode cX10_count 107 = .ok (.getfield 164, 3) := by decide +kernel
theorem dX10_count_110 : decode cX10_count 110 = .ok (.ireturn, 1) := by decide +kernel
theorem dX10_count_111 : decode cX10_count 111 = .ok (.aload_n 0, 1) := by decide +kernel
theorem dX10_count_112 : decode cX10_count 112 = .ok (.getfield 7, 3) := by decide +kernel
theorem dX10_count_115 : decode cX10_count 115 = .ok (.bipush 14, 2) := by decide +kernel
theorem dX10_count_117 : decode cX10_count 117 = .ok (.iaload, 1) := by decide +kernel
theorem dX10_count_118 : decode cX10_count 118 = .ok (.ireturn, 1) := by decide +kernel
theorem dX10_count_119 : decode cX10_count 119 = .ok (.aload_n 0, 1) := by decide +kernel
theorem dX10_count_120 : decode cX10_count 120 = .ok (.getfield 161, 3) := by decide +kernel
theorem dX10_count_123 : decode cX10_count 123 = .ok (.ireturn, 1) := by decide +kernel
theorem dX10_count_124 : decode cX10_count 124 = .ok (.aload_n 0, 1) := by decide +kernel
theorem dX10_count_125 : decode cX10_count 125 = .ok (.invokevirtual 294, 3) := by decide +kernel
theorem dX10_count_128 : decode cX10_count 128 = .ok (.ireturn, 1) := by decide +kernel
theorem dX10_count_129 : decode cX10_count 129 = .ok (.iconst (-1), 1) := by decide +kernel
theorem dX10_count_130 : decode cX10_count 130 = .ok (.ireturn, 1) := by decide +kernel
theorem dX10_personIs_0 : decode cX10_personIs 0 = .ok (.aload_n 0, 1) := by decide +kernel
theorem dX10_personIs_1 : decode cX10_personIs 1 = .ok (.iload_n 1, 1) := by decide +kernel
theorem dX10_personIs_2 : decode cX10_personIs 2 = .ok (.invokevirtual 307, 3) := by decide +kernel
theorem dX10_personIs_5 : decode cX10_personIs 5 = .ok (.ifCond .ne 5, 3) := by decide +kernel
theorem dX10_personIs_8 : decode cX10_personIs 8 = .ok (.iconst (-1), 1) := by decide +kernel
theorem dX10_personIs_9 : decode cX10_personIs 9 = .ok (.ireturn, 1) := by decide +kernel
theorem dX10_personIs_10 : decode cX10_personIs 10 = .ok (.iload_n 2, 1) := by decide +kernel
theorem dX10_personIs_11 : decode cX10_personIs 11 = .ok (.tableswitch 112 0 4 #[33, 40, 47, 67, 106], 33) := by decide +kernel
theorem dX10_personIs_44 : decode cX10_personIs 44 = .ok (.aload_n 0, 1) := by decide +kernel
theorem dX10_personIs_45 : decode cX10_personIs 45 = .ok (.getfield 25, 3) := by decide +kernel
theorem dX10_personIs_48 : decode cX10_personIs 48 = .ok (.iload_n 1, 1) := by decide +kernel
theorem dX10_personIs_49 : decode cX10_personIs 49 = .ok (.iaload, 1) := by decide +kernel
theorem dX10_personIs_50 : decode cX10_personIs 50 = .ok (.ireturn, 1) := by decide +kernel
theorem dX10_personIs_51 : decode cX10_personIs 51 = .ok (.aload_n 0, 1) := by decide +kernel
theorem dX10_personIs_52 : decode cX10_personIs 52 = .ok (.getfield 28, 3) := by decide +kernel
theorem dX10_personIs_55 : decode cX10_personIs 55 = .ok (.iload_n 1, 1) := by decide +kernel
theorem dX10_personIs_56 : decode cX10_personIs 56 = .ok (.iaload, 1) := by decide +kernel
theorem dX10_personIs_57 : decode cX10_personIs 57 = .ok (.ireturn, 1) := by decide +kernel
theorem dX10_personIs_58 : decode cX10_personIs 58 = .ok (.aload_n 0, 1) := by decide +kernel
theorem dX10_personIs_59 : decode cX10_personIs 59 = .ok (.iload_n 1, 1) := by decide +kernel
theorem dX10_personIs_60 : decode cX10_personIs 60 = .ok (.invokevirtual 291, 3) := by decide +kernel
theorem dX10_personIs_63 : decode cX10_personIs 63 = .ok (.ifCond .eq 12, 3) := by decide +kernel
theorem dX10_personIs_66 : decode cX10_personIs 66 = .ok (.aload_n 0, 1) := by decide +kernel
theorem dX10_personIs_67 : decode cX10_personIs 67 = .ok (.getfield 31, 3) := by decide +kernel
theorem dX10_personIs_70 : decode cX10_personIs 70 = .ok (.iload_n 1, 1) := by decide +kernel
theorem dX10_personIs_71 : decode cX10_personIs 71 = .ok (.iaload, 1) := by decide +kernel
theorem dX10_personIs_72 : decode cX10_personIs 72 = .ok (.goto 5, 3) := by decide +kernel
theorem dX10_personIs_75 : decode cX10_personIs 75 = .ok (.bipush (-2), 2) := by decide +kernel
theorem dX10_personIs_77 : decode cX10_personIs 77 = .ok (.ireturn, 1) := by decide +kernel
theorem dX10_personIs_78 : decode cX10_personIs 78 = .ok (.aload_n 0, 1) := by decide +kernel
theorem dX10_personIs_79 : decode cX10_personIs 79 = .ok (.iload_n 1, 1) := by decide +kernel
theorem dX10_personIs_80 : decode cX10_personIs 80 = .ok (.invokevirtual 291, 3) := by decide +kernel
theorem dX10_personIs_83 : decode cX10_personIs 83 = .ok (.ifCond .eq 32, 3) := by decide +kernel
theorem dX10_personIs_86 : decode cX10_personIs 86 = .ok (.aload_n 0, 1) := by decide +kernel
theorem dX10_personIs_87 : decode cX10_personIs 87 = .ok (.getfield 7, 3) := by decide +kernel
theorem dX10_personIs_90 : decode cX10_personIs 90 = .ok (.bipush 13, 2) := by decide +kernel
theorem dX10_personIs_92 : decode cX10_personIs 92 = .ok (.iaload, 1) := by decide +kernel
theorem dX10_personIs_93 : decode cX10_personIs 93 = .ok (.aload_n 0, 1) := by decide +kernel
theorem dX10_personIs_94 : decode cX10_personIs 94 = .ok (.getfield 28, 3) := by decide +kernel
theorem dX10_personIs_97 : decode cX10_personIs 97 = .ok (.iload_n 1, 1) := by decide +kernel
theorem dX10_personIs_98 : decode cX10_personIs 98 = .ok (.iaload, 1) := by decide +kernel
theorem dX10_personIs_99 : decode cX10_personIs 99 = .ok (.aload_n 0, 1) := by decide +kernel
theorem dX10_personIs_100 : decode cX10_personIs 100 = .ok (.getfield 31, 3) := by decide +kernel
theorem dX10_personIs_103 : decode cX10_personIs 103 = .ok (.iload_n 1, 1) := by decide +kernel
theorem dX10_personIs_104 : decode cX10_personIs 104 = .ok (.iaload, 1) := by decide +kernel
theorem dX10_personIs_105 : decode cX10_personIs 105 = .ok (.invokestatic 157, 3) := by decide +kernel
theorem dX10_personIs_108 : decode cX10_personIs 108 = .ok (.ifCond .eq 7, 3) := by decide +kernel
theorem dX10_personIs_111 : decode cX10_personIs 111 = .ok (.iconst 1, 1) := by decide +kernel
theorem dX10_personIs_112 : decode cX10_personIs 112 = .ok (.goto 4, 3) := by decide +kernel
theorem dX10_personIs_115 : decode cX10_personIs 115 = .ok (.iconst 0, 1) := by decide +kernel
theorem dX10_personIs_116 : decode cX10_personIs 116 = .ok (.ireturn, 1) := by decide +kernel
theorem dX10_personIs_117 : decode cX10_personIs 117 = .ok (.aload_n 0, 1) := by decide +kernel
theorem dX10_personIs_118 : decode cX10_personIs 118 = .ok (.iload_n 1, 1) := by decide +kernel
theorem dX10_personIs_119 : decode cX10_personIs 119 = .ok (.invokevirtual 372, 3) := by decide +kernel
theorem dX10_personIs_122 : decode cX10_personIs 122 = .ok (.ireturn, 1) := by decide +kernel
theorem dX10_personIs_123 : decode cX10_personIs 123 = .ok (.iconst (-1), 1) := by decide +kernel
theorem dX10_personIs_124 : decode cX10_personIs 124 = .ok (.ireturn, 1) := by decide +kernel
theorem dX10_tried_0 : decode cX10_tried 0 = .ok (.iload_n 2, 1) := by decide +kernel
theorem dX10_tried_1 : decode cX10_tried 1 = .ok (.iconst 0, 1) := by decide +kernel
theorem dX10_tried_2 : decode cX10_tried 2 = .ok (.iconst 4, 1) := by decide +kernel
theorem dX10_tried_3 : decode cX10_tried 3 = .ok (.invokestatic 157, 3) := by decide +kernel
theorem dX10_tried_6 : decode cX10_tried 6 = .ok (.ifCond .ne 47, 3) := by decide +kernel
theorem dX10_tried_9 : decode cX10_tried 9 = .ok (.iload_n 2, 1) := by decide +kernel
theorem dX10_tried_10 : decode cX10_tried 10 = .ok (.bipush 10, 2) := by decide +kernel
theorem dX10_tried_12 : decode cX10_tried 12 = .ok (.bipush 21, 2) := by decide +kernel
theorem dX10_tried_14 : decode cX10_tried 14 = .ok (.invokestatic 157, 3) := by decide +kernel
theorem dX10_tried_17 : decode cX10_tried 17 = .ok (.ifCond .eq 14, 3) := by decide +kernel
theorem dX10_tried_20 : decode cX10_tried 20 = .ok (.aload_n 0, 1) := by decide +kernel
theorem dX10_tried_21 : decode cX10_tried 21 = .ok (.iload_n 2, 1) := by decide +kernel
theorem dX10_tried_22 : decode cX10_tried 22 = .ok (.bipush 10, 2) := by decide +kernel
theorem dX10_tried_24 : decode cX10_tried 24 = .ok (.isub, 1) := by decide +kernel
theorem dX10_tried_25 : decode cX10_tried 25 = .ok (.invokevirtual 331, 3) := by decide +kernel
theorem dX10_tried_28 : decode cX10_tried 28 = .ok (.ifCond .ne 25, 3) := by decide +kernel
theorem dX10_tried_31 : decode cX10_tried 31 = .ok (.iload_n 2, 1) := by decide +kernel
theorem dX10_tried_32 : decode cX10_tried 32 = .ok (.bipush 30, 2) := by decide +kernel
theorem dX10_tried_34 : decode cX10_tried 34 = .ok (.bipush 39, 2) := by decide +kernel
theorem dX10_tried_36 : decode cX10_tried 36 = .ok (.invokestatic 157, 3) := by decide +kernel
theorem dX10_tried_39 : decode cX10_tried 39 = .ok (.ifCond .eq 18, 3) := by decide +kernel
theorem dX10_tried_42 : decode cX10_tried 42 = .ok (.aload_n 0, 1) := by decide +kernel
theorem dX10_tried_43 : decode cX10_tried 43 = .ok (.iload_n 2, 1) := by decide +kernel
theorem dX10_tried_44 : decode cX10_tried 44 = .ok (.bipush 30, 2) := by decide +kernel
theorem dX10_tried_46 : decode cX10_tried 46 = .ok (.isub, 1) := by decide +kernel
theorem dX10_tried_47 : decode cX10_tried 47 = .ok (.invokevirtual 307, 3) := by decide +kernel
theorem dX10_tried_50 : decode cX10_tried 50 = .ok (.ifCond .eq 7, 3) := by decide +kernel
theorem dX10_tried_53 : decode cX10_tried 53 = .ok (.iconst 1, 1) := by decide +kernel
theorem dX10_tried_54 : decode cX10_tried 54 = .ok (.goto 4, 3) := by decide +kernel
theorem dX10_tried_57 : decode cX10_tried 57 = .ok (.iconst 0, 1) := by decide +kernel
theorem dX10_tried_58 : decode cX10_tried 58 = .ok (.istore_n 3, 1) := by decide +kernel
theorem dX10_tried_59 : decode cX10_tried 59 = .ok (.iload_n 1, 1) := by decide +kernel
theorem dX10_tried_60 : decode cX10_tried 60 = .ok (.invokestatic 366, 3) := by decide +kernel
theorem dX10_tried_63 : decode cX10_tried 63 = .ok (.ifCond .eq 7, 3) := by decide +kernel
theorem dX10_tried_66 : decode cX10_tried 66 = .ok (.iload_n 3, 1) := by decide +kernel
theorem dX10_tried_67 : decode cX10_tried 67 = .ok (.ifCond .ne 5, 3) := by decide +kernel
theorem dX10_tried_70 : decode cX10_tried 70 = .ok (.iconst (-1), 1) := by decide +kernel
theorem dX10_tried_71 : decode cX10_tried 71 = .ok (.ireturn, 1) := by decide +kernel
theorem dX10_tried_72 : decode cX10_tried 72 = .ok (.aload_n 0, 1) := by decide +kernel
theorem dX10_tried_73 : decode cX10_tried 73 = .ok (.sipush 1023, 3) := by decide +kernel
theorem dX10_tried_76 : decode cX10_tried 76 = .ok (.invokevirtual 369, 3) := by decide +kernel
theorem dX10_tried_79 : decode cX10_tried 79 = .ok (.aload_n 0, 1) := by decide +kernel
theorem dX10_tried_80 : decode cX10_tried 80 = .ok (.getfield 7, 3) := by decide +kernel
theorem dX10_tried_83 : decode cX10_tried 83 = .ok (.aload_n 0, 1) := by decide +kernel
theorem dX10_tried_84 : decode cX10_tried 84 = .ok (.getfield 13, 3) := by decide +kernel
theorem dX10_tried_87 : decode cX10_tried 87 = .ok (.bipush 15, 2) := by decide +kernel
theorem dX10_tried_89 : decode cX10_tried 89 = .ok (.invokestatic 359, 3) := by decide +kernel
theorem dX10_tried_92 : decode cX10_tried 92 = .ok (.aload_n 0, 1) := by decide +kernel
theorem dX10_tried_93 : decode cX10_tried 93 = .ok (.iload_n 1, 1) := by decide +kernel
theorem dX10_tried_94 : decode cX10_tried 94 = .ok (.invokevirtual 363, 3) := by decide +kernel
theorem dX10_tried_97 : decode cX10_tried 97 = .ok (.iload_n 2, 1) := by decide +kernel
theorem dX10_tried_98 : decode cX10_tried 98 = .ok (.tableswitch 90 0 4 #[34, 54, 63, 72, 81], 34) := by decide +kernel
theorem dX10_tried_132 : decode cX10_tried 132 = .ok (.aload_n 0, 1) := by decide +kernel
theorem dX10_tried_133 : decode cX10_tried 133 = .ok (.getfield 7, 3) := by decide +kernel
theorem dX10_tried_136 : decode cX10_tried 136 = .ok (.bipush 12, 2) := by decide +kernel
theorem dX10_tried_138 : decode cX10_tried 138 = .ok (.iaload, 1) := by decide +kernel
theorem dX10_tried_139 : decode cX10_tried 139 = .ok (.aload_n 0, 1) := by decide +kernel
theorem dX10_tried_140 : decode cX10_tried 140 = .ok (.getfield 13, 3) := by decide +kernel
theorem dX10_tried_143 : decode cX10_tried 143 = .ok (.bipush 12, 2) := by decide +kernel
theorem dX10_tried_145 : decode cX10_tried 145 = .ok (.iaload, 1) := by decide +kernel
theorem dX10_tried_146 : decode cX10_tried 146 = .ok (.isub, 1) := by decide +kernel
theorem dX10_tried_147 : decode cX10_tried 147 = .ok (.istore 4, 2) := by decide +kernel
theorem dX10_tried_149 : decode cX10_tried 149 = .ok (.goto 68, 3) := by decide +kernel
theorem dX10_tried_152 : decode cX10_tried 152 = .ok (.aload_n 0, 1) := by decide +kernel
theorem dX10_tried_153 : decode cX10_tried 153 = .ok (.getfield 335, 3) := by decide +kernel
theorem dX10_tried_156 : decode cX10_tried 156 = .ok (.istore 4, 2) := by decide +kernel
theorem dX10_tried_158 : decode cX10_tried 158 = .ok (.goto 59, 3) := by decide +kernel
theorem dX10_tried_161 : decode cX10_tried 161 = .ok (.aload_n 0, 1) := by decide +kernel
theorem dX10_tried_162 : decode cX10_tried 162 = .ok (.invokevirtual 350, 3) := by decide +kernel
theorem dX10_tried_165 : decode cX10_tried 165 = .ok (.istore 4, 2) := by decide +kernel
theorem dX10_tried_167 : decode cX10_tried 167 = .ok (.goto 50, 3) := by decide +kernel
theorem dX10_tried_170 : decode cX10_tried 170 = .ok (.aload_n 0, 1) := by decide +kernel
theorem dX10_tried_171 : decode cX10_tried 171 = .ok (.getfield 322, 3) := by decide +kernel
theorem dX10_tried_174 : decode cX10_tried 174 = .ok (.istore 4, 2) := by decide +kernel
theorem dX10_tried_176 : decode cX10_tried 176 = .ok (.goto 41, 3) := by decide +kernel
theorem dX10_tried_179 : decode cX10_tried 179 = .ok (.aload_n 0, 1) := by decide +kernel
theorem dX10_tried_180 : decode cX10_tried 180 = .ok (.getfield 347, 3) := by decide +kernel
theorem dX10_tried_183 : decode cX10_tried 183 = .ok (.istore 4, 2) := by decide +kernel
theorem dX10_tried_185 : decode cX10_tried 185 = .ok (.goto 32, 3) := by decide +kernel
theorem dX10_tried_188 : decode cX10_tried 188 = .ok (.iload_n 2, 1) := by decide +kernel
theorem dX10_tried_189 : decode cX10_tried 189 = .ok (.bipush 30, 2) := by decide +kernel
theorem dX10_tried_191 : decode cX10_tried 191 = .ok (.if_icmp .ge 15, 3) := by decide +kernel
theorem dX10_tried_194 : decode cX10_tried 194 = .ok (.aload_n 0, 1) := by decide +kernel
theorem dX10_tried_195 : decode cX10_tried 195 = .ok (.getfield 7, 3) := by decide +kernel
theorem dX10_tried_198 : decode cX10_tried 198 = .ok (.iload_n 2, 1) := by decide +kernel
theorem dX10_tried_199 : decode cX10_tried 199 = .ok (.bipush 10, 2) := by decide +kernel
theorem dX10_tried_201 : decode cX10_tried 201 = .ok (.isub, 1) := by decide +kernel
theorem dX10_tried_202 : decode cX10_tried 202 = .ok (.iaload, 1) := by decide +kernel
theorem dX10_tried_203 : decode cX10_tried 203 = .ok (.goto 12, 3) := by decide +kernel
theorem dX10_tried_206 : decode cX10_tried 206 = .ok (.aload_n 0, 1) := by decide +kernel
theorem dX10_tried_207 : decode cX10_tried 207 = .ok (.getfield 122, 3) := by decide +kernel
theorem dX10_tried_210 : decode cX10_tried 210 = .ok (.iload_n 2, 1) := by decide +kernel
theorem dX10_tried_211 : decode cX10_tried 211 = .ok (.bipush 30, 2) := by decide +kernel
theorem dX10_tried_213 : decode cX10_tried 213 = .ok (.isub, 1) := by decide +kernel
theorem dX10_tried_214 : decode cX10_tried 214 = .ok (.iaload, 1) := by decide +kernel
theorem dX10_tried_215 : decode cX10_tried 215 = .ok (.istore 4, 2) := by decide +kernel
theorem dX10_tried_217 : decode cX10_tried 217 = .ok (.aload_n 0, 1) := by decide +kernel
theorem dX10_tried_218 : decode cX10_tried 218 = .ok (.getfield 13, 3) := by decide +kernel
theorem dX10_tried_221 : decode cX10_tried 221 = .ok (.aload_n 0, 1) := by decide +kernel
theorem dX10_tried_222 : decode cX10_tried 222 = .ok (.getfield 7, 3) := by decide +kernel
theorem dX10_tried_225 : decode cX10_tried 225 = .ok (.bipush 15, 2) := by decide +kernel
theorem dX10_tried_227 : decode cX10_tried 227 = .ok (.invokestatic 359, 3) := by decide +kernel
theorem dX10_tried_230 : decode cX10_tried 230 = .ok (.iload 4, 2) := by decide +kernel
theorem dX10_tried_232 : decode cX10_tried 232 = .ok (.ireturn, 1) := by decide +kernel
