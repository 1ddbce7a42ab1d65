theorem dX7_choresOf_0 : decode cX7_choresOf 0 = .ok (.iconst 0, 1) := by decide +kernel
theorem dX7_choresOf_1 : decode cX7_choresOf 1 = .ok (.istore_n 2, 1) := by decide +kernel
theorem dX7_choresOf_2 : decode cX7_choresOf 2 = .ok (.iconst 0, 1) := by decide +kernel
theorem dX7_choresOf_3 : decode cX7_choresOf 3 = .ok (.istore_n 3, 1) := by decide +kernel
theorem dX7_choresOf_4 : decode cX7_choresOf 4 = .ok (.iload_n 3, 1) := by decide +kernel
theorem dX7_choresOf_5 : decode cX7_choresOf 5 = .ok (.bipush 12, 2) := by decide +kernel
theorem dX7_choresOf_7 : decode cX7_choresOf 7 = .ok (.if_icmp .ge 69, 3) := by decide +kernel
theorem dX7_choresOf_10 : decode cX7_choresOf 10 = .ok (.iconst 0, 1) := by decide +kernel
theorem dX7_choresOf_11 : decode cX7_choresOf 11 = .ok (.istore 4, 2) := by decide +kernel
theorem dX7_choresOf_13 : decode cX7_choresOf 13 = .ok (.iload 4, 2) := by decide +kernel
theorem dX7_choresOf_15 : decode cX7_choresOf 15 = .ok (.aload_n 0, 1) := by decide +kernel
theorem dX7_choresOf_16 : decode cX7_choresOf 16 = .ok (.getfield 21, 3) := by decide +kernel
theorem dX7_choresOf_19 : decode cX7_choresOf 19 = .ok (.iload_n 3, 1) := by decide +kernel
theorem dX7_choresOf_20 : decode cX7_choresOf 20 = .ok (.iaload, 1) := by decide +kernel
theorem dX7_choresOf_21 : decode cX7_choresOf 21 = .ok (.if_icmp .ge 49, 3) := by decide +kernel
theorem dX7_choresOf_24 : decode cX7_choresOf 24 = .ok (.iload 4, 2) := by decide +kernel
theorem dX7_choresOf_26 : decode cX7_choresOf 26 = .ok (.bipush 10, 2) := by decide +kernel
theorem dX7_choresOf_28 : decode cX7_choresOf 28 = .ok (.if_icmp .ge 42, 3) := by decide +kernel
theorem dX7_choresOf_31 : decode cX7_choresOf 31 = .ok (.aload_n 0, 1) := by decide +kernel
theorem dX7_choresOf_32 : decode cX7_choresOf 32 = .ok (.getfield 18, 3) := by decide +kernel
theorem dX7_choresOf_35 : decode cX7_choresOf 35 = .ok (.iload_n 3, 1) := by decide +kernel
theorem dX7_choresOf_36 : decode cX7_choresOf 36 = .ok (.bipush 10, 2) := by decide +kernel
theorem dX7_choresOf_38 : decode cX7_choresOf 38 = .ok (.imul, 1) := by decide +kernel
theorem dX7_choresOf_39 : decode cX7_choresOf 39 = .ok (.iload 4, 2) := by decide +kernel
theorem dX7_choresOf_41 : decode cX7_choresOf 41 = .ok (.iadd, 1) := by decide +kernel
theorem dX7_choresOf_42 : decode cX7_choresOf 42 = .ok (.iaload, 1) := by decide +kernel
theorem dX7_choresOf_43 : decode cX7_choresOf 43 = .ok (.iload_n 1, 1) := by decide +kernel
theorem dX7_choresOf_44 : decode cX7_choresOf 44 = .ok (.if_icmp .ne 20, 3) := by decide +kernel
theorem dX7_choresOf_47 : decode cX7_choresOf 47 = .ok (.aload_n 0, 1) := by decide +kernel
theorem dX7_choresOf_48 : decode cX7_choresOf 48 = .ok (.getfield 32, 3) := by decide +kernel
theorem dX7_choresOf_51 : decode cX7_choresOf 51 = .ok (.iload_n 3, 1) := by decide +kernel
theorem dX7_choresOf_52 : decode cX7_choresOf 52 = .ok (.invokestatic 28, 3) := by decide +kernel
theorem dX7_choresOf_55 : decode cX7_choresOf 55 = .ok (.ifCond .eq 9, 3) := by decide +kernel
theorem dX7_choresOf_58 : decode cX7_choresOf 58 = .ok (.iload_n 2, 1) := by decide +kernel
theorem dX7_choresOf_59 : decode cX7_choresOf 59 = .ok (.iconst 1, 1) := by decide +kernel
theorem dX7_choresOf_60 : decode cX7_choresOf 60 = .ok (.iload_n 3, 1) := by decide +kernel
theorem dX7_choresOf_61 : decode cX7_choresOf 61 = .ok (.ishl, 1) := by decide +kernel
theorem dX7_choresOf_62 : decode cX7_choresOf 62 = .ok (.ior, 1) := by decide +kernel
theorem dX7_choresOf_63 : decode cX7_choresOf 63 = .ok (.istore_n 2, 1) := by decide +kernel
theorem dX7_choresOf_64 : decode cX7_choresOf 64 = .ok (.iinc 4 1, 3) := by decide +kernel
theorem dX7_choresOf_67 : decode cX7_choresOf 67 = .ok (.goto (-54), 3) := by decide +kernel
theorem dX7_choresOf_70 : decode cX7_choresOf 70 = .ok (.iinc 3 1, 3) := by decide +kernel
theorem dX7_choresOf_73 : decode cX7_choresOf 73 = .ok (.goto (-69), 3) := by decide +kernel
theorem dX7_choresOf_76 : decode cX7_choresOf 76 = .ok (.iload_n 2, 1) := by decide +kernel
theorem dX7_choresOf_77 : decode cX7_choresOf 77 = .ok (.ireturn, 1) := by decide +kernel
theorem dX9_against_0 : decode cX9_against 0 = .ok (.aload_n 0, 1) := by decide +kernel
theorem dX9_against_1 : decode cX9_against 1 = .ok (.getfield 19, 3) := by decide +kernel
theorem dX9_against_4 : decode cX9_against 4 = .ok (.iload_n 1, 1) := by decide +kernel
theorem dX9_against_5 : decode cX9_against 5 = .ok (.invokevirtual 173, 3) := by decide +kernel
theorem dX9_against_8 : decode cX9_against 8 = .ok (.ifCond .eq 23, 3) := by decide +kernel
theorem dX9_against_11 : decode cX9_against 11 = .ok (.aload_n 0, 1) := by decide +kernel
theorem dX9_against_12 : decode cX9_against 12 = .ok (.getfield 19, 3) := by decide +kernel
theorem dX9_against_15 : decode cX9_against 15 = .ok (.iload_n 2, 1) := by decide +kernel
theorem dX9_against_16 : decode cX9_against 16 = .ok (.invokevirtual 173, 3) := by decide +kernel
theorem dX9_against_19 : decode cX9_against 19 = .ok (.ifCond .eq 12, 3) := by decide +kernel
theorem dX9_against_22 : decode cX9_against 22 = .ok (.iload_n 1, 1) := by decide +kernel
theorem dX9_against_23 : decode cX9_against 23 = .ok (.iload_n 2, 1) := by decide +kernel
theorem dX9_against_24 : decode cX9_against 24 = .ok (.if_icmp .eq 7, 3) := by decide +kernel
theorem dX9_against_27 : decode cX9_against 27 = .ok (.iconst 1, 1) := by decide +kernel
theorem dX9_against_28 : decode cX9_against 28 = .ok (.goto 4, 3) := by decide +kernel
theorem dX9_against_31 : decode cX9_against 31 = .ok (.iconst 0, 1) := by decide +kernel
theorem dX9_against_32 : decode cX9_against 32 = .ok (.istore 6, 2) := by decide +kernel
theorem dX9_against_34 : decode cX9_against 34 = .ok (.iload 6, 2) := by decide +kernel
theorem dX9_against_36 : decode cX9_against 36 = .ok (.ifCond .eq 33, 3) := by decide +kernel
theorem dX9_against_39 : decode cX9_against 39 = .ok (.iload_n 3, 1) := by decide +kernel
theorem dX9_against_40 : decode cX9_against 40 = .ok (.iconst 2, 1) := by decide +kernel
theorem dX9_against_41 : decode cX9_against 41 = .ok (.iconst 5, 1) := by decide +kernel
theorem dX9_against_42 : decode cX9_against 42 = .ok (.invokestatic 81, 3) := by decide +kernel
theorem dX9_against_45 : decode cX9_against 45 = .ok (.ifCond .eq 24, 3) := by decide +kernel
theorem dX9_against_48 : decode cX9_against 48 = .ok (.iload 4, 2) := by decide +kernel
theorem dX9_against_50 : decode cX9_against 50 = .ok (.iconst 1, 1) := by decide +kernel
theorem dX9_against_51 : decode cX9_against 51 = .ok (.bipush 10, 2) := by decide +kernel
theorem dX9_against_53 : decode cX9_against 53 = .ok (.invokestatic 81, 3) := by decide +kernel
theorem dX9_against_56 : decode cX9_against 56 = .ok (.ifCond .eq 13, 3) := by decide +kernel
theorem dX9_against_59 : decode cX9_against 59 = .ok (.iload 5, 2) := by decide +kernel
theorem dX9_against_61 : decode cX9_against 61 = .ok (.iconst 0, 1) := by decide +kernel
theorem dX9_against_62 : decode cX9_against 62 = .ok (.iconst 2, 1) := by decide +kernel
theorem dX9_against_63 : decode cX9_against 63 = .ok (.invokestatic 81, 3) := by decide +kernel
theorem dX9_against_66 : decode cX9_against 66 = .ok (.ifCond .ne 6, 3) := by decide +kernel
theorem dX9_against_69 : decode cX9_against 69 = .ok (.ldc 231, 2) := by decide +kernel
theorem dX9_against_71 : decode cX9_against 71 = .ok (.ireturn, 1) := by decide +kernel
theorem dX9_against_72 : decode cX9_against 72 = .ok (.aload_n 0, 1) := by decide +kernel
theorem dX9_against_73 : decode cX9_against 73 = .ok (.iload_n 1, 1) := by decide +kernel
theorem dX9_against_74 : decode cX9_against 74 = .ok (.iload_n 2, 1) := by decide +kernel
theorem dX9_against_75 : decode cX9_against 75 = .ok (.iload_n 3, 1) := by decide +kernel
theorem dX9_against_76 : decode cX9_against 76 = .ok (.iload 4, 2) := by decide +kernel
theorem dX9_against_78 : decode cX9_against 78 = .ok (.invokevirtual 263, 3) := by decide +kernel
theorem dX9_against_81 : decode cX9_against 81 = .ok (.istore 7, 2) := by decide +kernel
theorem dX9_against_83 : decode cX9_against 83 = .ok (.aload_n 0, 1) := by decide +kernel
theorem dX9_against_84 : decode cX9_against 84 = .ok (.iload_n 2, 1) := by decide +kernel
theorem dX9_against_85 : decode cX9_against 85 = .ok (.iload_n 1, 1) := by decide +kernel
theorem dX9_against_86 : decode cX9_against 86 = .ok (.iload_n 3, 1) := by decide +kernel
theorem dX9_against_87 : decode cX9_against 87 = .ok (.iload 4, 2) := by decide +kernel
theorem dX9_against_89 : decode cX9_against 89 = .ok (.invokevirtual 263, 3) := by decide +kernel
theorem dX9_against_92 : decode cX9_against 92 = .ok (.istore 8, 2) := by decide +kernel
theorem dX9_against_94 : decode cX9_against 94 = .ok (.iload 5, 2) := by decide +kernel
theorem dX9_against_96 : decode cX9_against 96 = .ok (.lookupswitch 47 #[(0, 28), (1, 40)], 28) := by decide +kernel
theorem dX9_against_124 : decode cX9_against 124 = .ok (.iload 7, 2) := by decide +kernel
theorem dX9_against_126 : decode cX9_against 126 = .ok (.invokestatic 142, 3) := by decide +kernel
theorem dX9_against_129 : decode cX9_against 129 = .ok (.iload 8, 2) := by decide +kernel
theorem dX9_against_131 : decode cX9_against 131 = .ok (.invokestatic 142, 3) := by decide +kernel
theorem dX9_against_134 : decode cX9_against 134 = .ok (.imul, 1) := by decide +kernel
theorem dX9_against_135 : decode cX9_against 135 = .ok (.ireturn, 1) := by decide +kernel
theorem dX9_against_136 : decode cX9_against 136 = .ok (.iload 7, 2) := by decide +kernel
theorem dX9_against_138 : decode cX9_against 138 = .ok (.iconst 0, 1) := by decide +kernel
theorem dX9_against_139 : decode cX9_against 139 = .ok (.invokestatic 242, 3) := by decide +kernel
theorem dX9_against_142 : decode cX9_against 142 = .ok (.ireturn, 1) := by decide +kernel
theorem dX9_against_143 : decode cX9_against 143 = .ok (.iload 8, 2) := by decide +kernel
theorem dX9_against_145 : decode cX9_against 145 = .ok (.iconst 0, 1) := by decide +kernel
theorem dX9_against_146 : decode cX9_against 146 = .ok (.invokestatic 242, 3) := by decide +kernel
theorem dX9_against_149 : decode cX9_against 149 = .ok (.ireturn, 1) := by decide +kernel
theorem dX9_choreIs_0 : decode cX9_choreIs 0 = .ok (.aload_n 0, 1) := by decide +kernel
theorem dX9_choreIs_1 : decode cX9_choreIs 1 = .ok (.getfield 19, 3) := by decide +kernel
theorem dX9_choreIs_4 : decode cX9_choreIs 4 = .ok (.iload_n 1, 1) := by decide +kernel
theorem dX9_choreIs_5 : decode cX9_choreIs 5 = .ok (.invokevirtual 170, 3) := by decide +kernel
theorem dX9_choreIs_8 : decode cX9_choreIs 8 = .ok (.ifCond .ne 5, 3) := by decide +kernel
theorem dX9_choreIs_11 : decode cX9_choreIs 11 = .ok (.iconst (-1), 1) := by decide +kernel
theorem dX9_choreIs_12 : decode cX9_choreIs 12 = .ok (.ireturn, 1) := by decide +kernel
theorem dX9_choreIs_13 : decode cX9_choreIs 13 = .ok (.iload_n 2, 1) := by decide +kernel
theorem dX9_choreIs_14 : decode cX9_choreIs 14 = .ok (.tableswitch 56 0 2 #[26, 36, 46], 26) := by decide +kernel
theorem dX9_choreIs_40 : decode cX9_choreIs 40 = .ok (.aload_n 0, 1) := by decide +kernel
theorem dX9_choreIs_41 : decode cX9_choreIs 41 = .ok (.getfield 19, 3) := by decide +kernel
theorem dX9_choreIs_44 : decode cX9_choreIs 44 = .ok (.getfield 95, 3) := by decide +kernel
theorem dX9_choreIs_47 : decode cX9_choreIs 47 = .ok (.iload_n 1, 1) := by decide +kernel
theorem dX9_choreIs_48 : decode cX9_choreIs 48 = .ok (.iaload, 1) := by decide +kernel
theorem dX9_choreIs_49 : decode cX9_choreIs 49 = .ok (.ireturn, 1) := by decide +kernel
theorem dX9_choreIs_50 : decode cX9_choreIs 50 = .ok (.aload_n 0, 1) := by decide +kernel
theorem dX9_choreIs_51 : decode cX9_choreIs 51 = .ok (.getfield 26, 3) := by decide +kernel
theorem dX9_choreIs_54 : decode cX9_choreIs 54 = .ok (.getfield 98, 3) := by decide +kernel
theorem dX9_choreIs_57 : decode cX9_choreIs 57 = .ok (.iload_n 1, 1) := by decide +kernel
theorem dX9_choreIs_58 : decode cX9_choreIs 58 = .ok (.iaload, 1) := by decide +kernel
theorem dX9_choreIs_59 : decode cX9_choreIs 59 = .ok (.ireturn, 1) := by decide +kernel
theorem dX9_choreIs_60 : decode cX9_choreIs 60 = .ok (.aload_n 0, 1) := by decide +kernel
theorem dX9_choreIs_61 : decode cX9_choreIs 61 = .ok (.getfield 19, 3) := by decide +kernel
theorem dX9_choreIs_64 : decode cX9_choreIs 64 = .ok (.getfield 203, 3) := by decide +kernel
theorem dX9_choreIs_67 : decode cX9_choreIs 67 = .ok (.iload_n 1, 1) := by decide +kernel
theorem dX9_choreIs_68 : decode cX9_choreIs 68 = .ok (.iaload, 1) := by decide +kernel
theorem dX9_choreIs_69 : decode cX9_choreIs 69 = .ok (.ireturn, 1) := by decide +kernel
theorem dX9_choreIs_70 : decode cX9_choreIs 70 = .ok (.iload_n 2, 1) := by decide +kernel
theorem dX9_choreIs_71 : decode cX9_choreIs 71 = .ok (.bipush 10, 2) := by decide +kernel
theorem dX9_choreIs_73 : decode cX9_choreIs 73 = .ok (.isub, 1) := by decide +kernel
theorem dX9_choreIs_74 : decode cX9_choreIs 74 = .ok (.iconst 0, 1) := by decide +kernel
theorem dX9_choreIs_75 : decode cX9_choreIs 75 = .ok (.aload_n 0, 1) := by decide +kernel
theorem dX9_choreIs_76 : decode cX9_choreIs 76 = .ok (.getfield 19, 3) := by decide +kernel
theorem dX9_choreIs_79 : decode cX9_choreIs 79 = .ok (.getfield 203, 3) := by decide +kernel
theorem dX9_choreIs_82 : decode cX9_choreIs 82 = .ok (.iload_n 1, 1) := by decide +kernel
theorem dX9_choreIs_83 : decode cX9_choreIs 83 = .ok (.iaload, 1) := by decide +kernel
theorem dX9_choreIs_84 : decode cX9_choreIs 84 = .ok (.iconst 1, 1) := by decide +kernel
theorem dX9_choreIs_85 : decode cX9_choreIs 85 = .ok (.isub, 1) := by decide +kernel
theorem dX9_choreIs_86 : decode cX9_choreIs 86 = .ok (.invokestatic 81, 3) := by decide +kernel
theorem dX9_choreIs_89 : decode cX9_choreIs 89 = .ok (.ifCond .eq 23, 3) := by decide +kernel
theorem dX9_choreIs_92 : decode cX9_choreIs 92 = .ok (.aload_n 0, 1) := by decide +kernel
theorem dX9_choreIs_93 : decode cX9_choreIs 93 = .ok (.getfield 19, 3) := by decide +kernel
theorem dX9_choreIs_96 : decode cX9_choreIs 96 = .ok (.getfield 206, 3) := by decide +kernel
theorem dX9_choreIs_99 : decode cX9_choreIs 99 = .ok (.iload_n 1, 1) := by decide +kernel
theorem dX9_choreIs_100 : decode cX9_choreIs 100 = .ok (.bipush 10, 2) := by decide +kernel
theorem dX9_choreIs_102 : decode cX9_choreIs 102 = .ok (.imul, 1) := by decide +kernel
theorem dX9_choreIs_103 : decode cX9_choreIs 103 = .ok (.iload_n 2, 1) := by decide +kernel
theorem dX9_choreIs_104 : decode cX9_choreIs 104 = .ok (.iadd, 1) := by decide +kernel
theorem dX9_choreIs_105 : decode cX9_choreIs 105 = .ok (.bipush 10, 2) := by decide +kernel
theorem dX9_choreIs_107 : decode cX9_choreIs 107 = .ok (.isub, 1) := by decide +kernel
theorem dX9_choreIs_108 : decode cX9_choreIs 108 = .ok (.iaload, 1) := by decide +kernel
theorem dX9_choreIs_109 : decode cX9_choreIs 109 = .ok (.goto 4, 3) := by decide +kernel
theorem dX9_choreIs_112 : decode cX9_choreIs 112 = .ok (.iconst (-1), 1) := by decide +kernel
theorem dX9_choreIs_113 : decode cX9_choreIs 113 = .ok (.ireturn, 1) := by decide +kernel
theorem dX9_cost_0 : decode cX9_cost 0 = .ok (.iload_n 2, 1) := by decide +kernel
theorem dX9_cost_1 : decode cX9_cost 1 = .ok (.invokestatic 154, 3) := by decide +kernel
theorem dX9_cost_4 : decode cX9_cost 4 = .ok (.ifCond .eq 23, 3) := by decide +kernel
theorem dX9_cost_7 : decode cX9_cost 7 = .ok (.aload_n 0, 1) := by decide +kernel
theorem dX9_cost_8 : decode cX9_cost 8 = .ok (.iload_n 1, 1) := by decide +kernel
theorem dX9_cost_9 : decode cX9_cost 9 = .ok (.invokevirtual 221, 3) := by decide +kernel
theorem dX9_cost_12 : decode cX9_cost 12 = .ok (.ifCond .eq 15, 3) := by decide +kernel
theorem dX9_cost_15 : decode cX9_cost 15 = .ok (.aload_n 0, 1) := by decide +kernel
theorem dX9_cost_16 : decode cX9_cost 16 = .ok (.iload_n 1, 1) := by decide +kernel
theorem dX9_cost_17 : decode cX9_cost 17 = .ok (.iload_n 2, 1) := by decide +kernel
theorem dX9_cost_18 : decode cX9_cost 18 = .ok (.iconst (-1), 1) := by decide +kernel
theorem dX9_cost_19 : decode cX9_cost 19 = .ok (.iconst (-1), 1) := by decide +kernel
theorem dX9_cost_20 : decode cX9_cost 20 = .ok (.iconst (-1), 1) := by decide +kernel
theorem dX9_cost_21 : decode cX9_cost 21 = .ok (.invokevirtual 224, 3) := by decide +kernel
theorem dX9_cost_24 : decode cX9_cost 24 = .ok (.goto 4, 3) := by decide +kernel
theorem dX9_cost_27 : decode cX9_cost 27 = .ok (.iconst (-1), 1) := by decide +kernel
theorem dX9_cost_28 : decode cX9_cost 28 = .ok (.ireturn, 1) := by decide +kernel
theorem dX9_count_0 : decode cX9_count 0 = .ok (.iload_n 1, 1) := by decide +kernel
theorem dX9_count_1 : decode cX9_count 1 = .ok (.tableswitch 135 0 9 #[55, 63, 71, 79, 87, 95, 103, 111, 119, 127], 55) := by decide +kernel
theorem dX9_count_56 : decode cX9_count 56 = .ok (.aload_n 0, 1) := by decide +kernel
theorem dX9_count_57 : decode cX9_count 57 = .ok (.getfield 26, 3) := by decide +kernel
theorem dX9_count_60 : decode cX9_count 60 = .ok (.getfield 209, 3) := by decide +kernel
theorem dX9_count_63 : decode cX9_count 63 = .ok (.ireturn, 1) := by decide +kernel
theorem dX9_count_64 : decode cX9_count 64 = .ok (.aload_n 0, 1) := by decide +kernel
theorem dX9_count_65 : decode cX9_count 65 = .ok (.getfield 26, 3) := by decide +kernel
theorem dX9_count_68 : decode cX9_count 68 = .ok (.getfield 212, 3) := by decide +kernel
theorem dX9_count_71 : decode cX9_count 71 = .ok (.ireturn, 1) := by decide +kernel
theorem dX9_count_72 : decode cX9_count 72 = .ok (.aload_n 0, 1) := by decide +kernel
theorem dX9_count_73 : decode cX9_count 73 = .ok (.getfield 19, 3) := by decide +kernel
theorem dX9_count_76 : decode cX9_count 76 = .ok (.getfield 85, 3) := by decide +kernel
theorem dX9_count_79 : decode cX9_count 79 = .ok (.ireturn, 1) := by decide +kernel
theorem dX9_count_80 : decode cX9_count 80 = .ok (.aload_n 0, 1) := by decide +kernel
theorem dX9_count_81 : decode cX9_count 81 = .ok (.getfield 19, 3) := by decide +kernel
theorem dX9_count_84 : decode cX9_count 84 = .ok (.getfield 92, 3) := by decide +kernel
theorem dX9_count_87 : decode cX9_count 87 = .ok (.ireturn, 1) := by decide +kernel
theorem dX9_count_88 : decode cX9_count 88 = .ok (.aload_n 0, 1) := by decide +kernel
theorem dX9_count_89 : decode cX9_count 89 = .ok (.getfield 26, 3) := by decide +kernel
theorem dX9_count_92 : decode cX9_count 92 = .ok (.invokevirtual 215, 3) := by decide +kernel
theorem dX9_count_95 : decode cX9_count 95 = .ok (.ireturn, 1) := by decide +kernel
theorem dX9_count_96 : decode cX9_count 96 = .ok (.aload_n 0, 1) := by decide +kernel
theorem dX9_count_97 : decode cX9_count 97 = .ok (.getfield 36, 3) := by decide +kernel
theorem dX9_count_100 : decode cX9_count 100 = .ok (.getfield 218, 3) := by decide +kernel
theorem dX9_count_103 : decode cX9_count 103 = .ok (.ireturn, 1) := by decide +kernel
theorem dX9_count_104 : decode cX9_count 104 = .ok (.aload_n 0, 1) := by decide +kernel
theorem dX9_count_105 : decode cX9_count 105 = .ok (.getfield 10, 3) := by decide +kernel
theorem dX9_count_108 : decode cX9_count 108 = .ok (.getfield 112, 3) := by decide +kernel
theorem dX9_count_111 : decode cX9_count 111 = .ok (.ireturn, 1) := by decide +kernel
theorem dX9_count_112 : decode cX9_count 112 = .ok (.aload_n 0, 1) := by decide +kernel
theorem dX9_count_113 : decode cX9_count 113 = .ok (.getfield 26, 3) := by decide +kernel
theorem dX9_count_116 : decode cX9_count 116 = .ok (.getfield 151, 3) := by decide +kernel
theorem dX9_count_119 : decode cX9_count 119 = .ok (.ireturn, 1) := by decide +kernel
theorem dX9_count_120 : decode cX9_count 120 = .ok (.aload_n 0, 1) := by decide +kernel
theorem dX9_count_121 : decode cX9_count 121 = .ok (.getfield 19, 3) := by decide +kernel
theorem dX9_count_124 : decode cX9_count 124 = .ok (.getfield 101, 3) := by decide +kernel
theorem dX9_count_127 : decode cX9_count 127 = .ok (.ireturn, 1) := by decide +kernel
theorem dX9_count_128 : decode cX9_count 128 = .ok (.aload_n 0, 1) := by decide +kernel
theorem dX9_count_129 : decode cX9_count 129 = .ok (.getfield 26, 3) := by decide +kernel
theorem dX9_count_132 : decode cX9_count 132 = .ok (.invokevirtual 138, 3) := by decide +kernel
theorem dX9_count_135 : decode cX9_count 135 = .ok (.ireturn, 1) := by decide +kernel
theorem dX9_count_136 : decode cX9_count 136 = .ok (.iconst (-1), 1) := by decide +kernel
theorem dX9_count_137 : decode cX9_count 137 = .ok (.ireturn, 1) := by decide +kernel
theorem dX9_days_0 : decode cX9_days 0 = .ok (.iload_n 1, 1) := by decide +kernel
theorem dX9_days_1 : decode cX9_days 1 = .ok (.invokestatic 154, 3) := by decide +kernel
theorem dX9_days_4 : decode cX9_days 4 = .ok (.ifCond .ne 5, 3) := by decide +kernel
theorem dX9_days_7 : decode cX9_days 7 = .ok (.iconst (-1), 1) := by decide +kernel
theorem dX9_days_8 : decode cX9_days 8 = .ok (.ireturn, 1) := by decide +kernel
theorem dX9_days_9 : decode cX9_days 9 = .ok (.aload_n 0, 1) := by decide +kernel
theorem dX9_days_10 : decode cX9_days 10 = .ok (.getfield 73, 3) := by decide +kernel
theorem dX9_days_13 : decode cX9_days 13 = .ok (.aload_n 0, 1) := by decide +kernel
theorem dX9_days_14 : decode cX9_days 14 = .ok (.getfield 26, 3) := by decide +kernel
theorem dX9_days_17 : decode cX9_days 17 = .ok (.invokevirtual 157, 3) := by decide +kernel
theorem dX9_days_20 : decode cX9_days 20 = .ok (.aload_n 0, 1) := by decide +kernel
theorem dX9_days_21 : decode cX9_days 21 = .ok (.getfield 73, 3) := by decide +kernel
theorem dX9_days_24 : decode cX9_days 24 = .ok (.iload_n 1, 1) := by decide +kernel
theorem dX9_days_25 : decode cX9_days 25 = .ok (.ldc 160, 2) := by decide +kernel
theorem dX9_days_27 : decode cX9_days 27 = .ok (.invokevirtual 161, 3) := by decide +kernel
theorem dX9_days_30 : decode cX9_days 30 = .ok (.istore_n 2, 1) := by decide +kernel
theorem dX9_days_31 : decode cX9_days 31 = .ok (.aload_n 0, 1) := by decide +kernel
theorem dX9_days_32 : decode cX9_days 32 = .ok (.getfield 26, 3) := by decide +kernel
theorem dX9_days_35 : decode cX9_days 35 = .ok (.aload_n 0, 1) := by decide +kernel
theorem dX9_days_36 : decode cX9_days 36 = .ok (.getfield 73, 3) := by decide +kernel
theorem dX9_days_39 : decode cX9_days 39 = .ok (.getfield 165, 3) := by decide +kernel
theorem dX9_days_42 : decode cX9_days 42 = .ok (.invokevirtual 168, 3) := by decide +kernel
theorem dX9_days_45 : decode cX9_days 45 = .ok (.iload_n 2, 1) := by decide +kernel
theorem dX9_days_46 : decode cX9_days 46 = .ok (.ireturn, 1) := by decide +kernel
theorem dX9_missed_0 : decode cX9_missed 0 = .ok (.iload_n 2, 1) := by decide +kernel
theorem dX9_missed_1 : decode cX9_missed 1 = .ok (.invokestatic 154, 3) := by decide +kernel
theorem dX9_missed_4 : decode cX9_missed 4 = .ok (.ifCond .eq 11, 3) := by decide +kernel
theorem dX9_missed_7 : decode cX9_missed 7 = .ok (.aload_n 0, 1) := by decide +kernel
theorem dX9_missed_8 : decode cX9_missed 8 = .ok (.iload_n 1, 1) := by decide +kernel
theorem dX9_missed_9 : decode cX9_missed 9 = .ok (.invokevirtual 228, 3) := by decide +kernel
theorem dX9_missed_12 : decode cX9_missed 12 = .ok (.ifCond .ne 6, 3) := by decide +kernel
theorem dX9_missed_15 : decode cX9_missed 15 = .ok (.ldc 231, 2) := by decide +kernel
theorem dX9_missed_17 : decode cX9_missed 17 = .ok (.ireturn, 1) := by decide +kernel
theorem dX9_missed_18 : decode cX9_missed 18 = .ok (.aload_n 0, 1) := by decide +kernel
theorem dX9_missed_19 : decode cX9_missed 19 = .ok (.iconst 1, 1) := by decide +kernel
theorem dX9_missed_20 : decode cX9_missed 20 = .ok (.iload_n 1, 1) := by decide +kernel
theorem dX9_missed_21 : decode cX9_missed 21 = .ok (.ishl, 1) := by decide +kernel
theorem dX9_missed_22 : decode cX9_missed 22 = .ok (.iload_n 2, 1) := by decide +kernel
theorem dX9_missed_23 : decode cX9_missed 23 = .ok (.iconst (-1), 1) := by decide +kernel
theorem dX9_missed_24 : decode cX9_missed 24 = .ok (.iconst (-1), 1) := by decide +kernel
theorem dX9_missed_25 : decode cX9_missed 25 = .ok (.iconst (-1), 1) := by decide +kernel
theorem dX9_missed_26 : decode cX9_missed 26 = .ok (.invokevirtual 224, 3) := by decide +kernel
theorem dX9_missed_29 : decode cX9_missed 29 = .ok (.aload_n 0, 1) := by decide +kernel
theorem dX9_missed_30 : decode cX9_missed 30 = .ok (.iconst 0, 1) := by decide +kernel
theorem dX9_missed_31 : decode cX9_missed 31 = .ok (.iload_n 2, 1) := by decide +kernel
theorem dX9_missed_32 : decode cX9_missed 32 = .ok (.iconst (-1), 1) := by decide +kernel
theorem dX9_missed_33 : decode cX9_missed 33 = .ok (.iconst (-1), 1) := by decide +kernel
theorem dX9_missed_34 : decode cX9_missed 34 = .ok (.iconst (-1), 1) := by decide +kernel
theorem dX9_missed_35 : decode cX9_missed 35 = .ok (.invokevirtual 224, 3) := by decide +kernel
theorem dX9_missed_38 : decode cX9_missed 38 = .ok (.isub, 1) := by decide +kernel
theorem dX9_missed_39 : decode cX9_missed 39 = .ok (.ireturn, 1) := by decide +kernel
theorem dX9_personIs_0 : decode cX9_personIs 0 = .ok (.aload_n 0, 1) := by decide +kernel
theorem dX9_personIs_1 : decode cX9_personIs 1 = .ok (.getfield 19, 3) := by decide +kernel
theorem dX9_personIs_4 : decode cX9_personIs 4 = .ok (.iload_n 1, 1) := by decide +kernel
theorem dX9_personIs_5 : decode cX9_personIs 5 = .ok (.invokevirtual 173, 3) := by decide +kernel
theorem dX9_personIs_8 : decode cX9_personIs 8 = .ok (.ifCond .ne 5, 3) := by decide +kernel
theorem dX9_personIs_11 : decode cX9_personIs 11 = .ok (.iconst (-1), 1) := by decide +kernel
theorem dX9_personIs_12 : decode cX9_personIs 12 = .ok (.ireturn, 1) := by decide +kernel
theorem dX9_personIs_13 : decode cX9_personIs 13 = .ok (.iload_n 2, 1) := by decide +kernel
theorem dX9_personIs_14 : decode cX9_personIs 14 = .ok (.tableswitch 90 0 4 #[34, 44, 54, 64, 81], 34) := by decide +kernel
theorem dX9_personIs_48 : decode cX9_personIs 48 = .ok (.aload_n 0, 1) := by decide +kernel
theorem dX9_personIs_49 : decode cX9_personIs 49 = .ok (.getfield 19, 3) := by decide +kernel
theorem dX9_personIs_52 : decode cX9_personIs 52 = .ok (.getfield 89, 3) := by decide +kernel
theorem dX9_personIs_55 : decode cX9_personIs 55 = .ok (.iload_n 1, 1) := by decide +kernel
theorem dX9_personIs_56 : decode cX9_personIs 56 = .ok (.iaload, 1) := by decide +kernel
theorem dX9_personIs_57 : decode cX9_personIs 57 = .ok (.ireturn, 1) := by decide +kernel
theorem dX9_personIs_58 : decode cX9_personIs 58 = .ok (.aload_n 0, 1) := by decide +kernel
theorem dX9_personIs_59 : decode cX9_personIs 59 = .ok (.getfield 26, 3) := by decide +kernel
theorem dX9_personIs_62 : decode cX9_personIs 62 = .ok (.getfield 191, 3) := by decide +kernel
theorem dX9_personIs_65 : decode cX9_personIs 65 = .ok (.iload_n 1, 1) := by decide +kernel
theorem dX9_personIs_66 : decode cX9_personIs 66 = .ok (.iaload, 1) := by decide +kernel
theorem dX9_personIs_67 : decode cX9_personIs 67 = .ok (.ireturn, 1) := by decide +kernel
theorem dX9_personIs_68 : decode cX9_personIs 68 = .ok (.aload_n 0, 1) := by decide +kernel
theorem dX9_personIs_69 : decode cX9_personIs 69 = .ok (.getfield 26, 3) := by decide +kernel
theorem dX9_personIs_72 : decode cX9_personIs 72 = .ok (.getfield 194, 3) := by decide +kernel
theorem dX9_personIs_75 : decode cX9_personIs 75 = .ok (.iload_n 1, 1) := by decide +kernel
theorem dX9_personIs_76 : decode cX9_personIs 76 = .ok (.iaload, 1) := by decide +kernel
theorem dX9_personIs_77 : decode cX9_personIs 77 = .ok (.ireturn, 1) := by decide +kernel
theorem dX9_personIs_78 : decode cX9_personIs 78 = .ok (.aload_n 0, 1) := by decide +kernel
theorem dX9_personIs_79 : decode cX9_personIs 79 = .ok (.getfield 26, 3) := by decide +kernel
theorem dX9_personIs_82 : decode cX9_personIs 82 = .ok (.iload_n 1, 1) := by decide +kernel
theorem dX9_personIs_83 : decode cX9_personIs 83 = .ok (.invokevirtual 197, 3) := by decide +kernel
theorem dX9_personIs_86 : decode cX9_personIs 86 = .ok (.ifCond .eq 7, 3) := by decide +kernel
theorem dX9_personIs_89 : decode cX9_personIs 89 = .ok (.iconst 1, 1) := by decide +kernel
theorem dX9_personIs_90 : decode cX9_personIs 90 = .ok (.goto 4, 3) := by decide +kernel
theorem dX9_personIs_93 : decode cX9_personIs 93 = .ok (.iconst 0, 1) := by decide +kernel
theorem dX9_personIs_94 : decode cX9_personIs 94 = .ok (.ireturn, 1) := by decide +kernel
theorem dX9_personIs_95 : decode cX9_personIs 95 = .ok (.aload_n 0, 1) := by decide +kernel
theorem dX9_personIs_96 : decode cX9_personIs 96 = .ok (.getfield 19, 3) := by decide +kernel
theorem dX9_personIs_99 : decode cX9_personIs 99 = .ok (.iload_n 1, 1) := by decide +kernel
theorem dX9_personIs_100 : decode cX9_personIs 100 = .ok (.invokevirtual 200, 3) := by decide +kernel
theorem dX9_personIs_103 : decode cX9_personIs 103 = .ok (.ireturn, 1) := by decide +kernel
theorem dX9_personIs_104 : decode cX9_personIs 104 = .ok (.iconst (-1), 1) := by decide +kernel
theorem dX9_personIs_105 : decode cX9_personIs 105 = .ok (.ireturn, 1) := by decide +kernel
theorem dX9_spoilt_0 : decode cX9_spoilt 0 = .ok (.iload_n 2, 1) := by decide +kernel
theorem dX9_spoilt_1 : decode cX9_spoilt 1 = .ok (.bipush 10, 2) := by decide +kernel
theorem dX9_spoilt_3 : decode cX9_spoilt 3 = .ok (.if_icmp .eq 19, 3) := by decide +kernel
theorem dX9_spoilt_6 : decode cX9_spoilt 6 = .ok (.aload_n 0, 1) := by decide +kernel
theorem dX9_spoilt_7 : decode cX9_spoilt 7 = .ok (.getfield 19, 3) := by decide +kernel
theorem dX9_spoilt_10 : decode cX9_spoilt 10 = .ok (.iload_n 2, 1) := by decide +kernel
theorem dX9_spoilt_11 : decode cX9_spoilt 11 = .ok (.invokevirtual 173, 3) := by decide +kernel
theorem dX9_spoilt_14 : decode cX9_spoilt 14 = .ok (.ifCond .eq 12, 3) := by decide +kernel
theorem dX9_spoilt_17 : decode cX9_spoilt 17 = .ok (.iload_n 2, 1) := by decide +kernel
theorem dX9_spoilt_18 : decode cX9_spoilt 18 = .ok (.iload_n 1, 1) := by decide +kernel
theorem dX9_spoilt_19 : decode cX9_spoilt 19 = .ok (.if_icmp .eq 7, 3) := by decide +kernel
theorem dX9_spoilt_22 : decode cX9_spoilt 22 = .ok (.iconst 1, 1) := by decide +kernel
theorem dX9_spoilt_23 : decode cX9_spoilt 23 = .ok (.goto 4, 3) := by decide +kernel
theorem dX9_spoilt_26 : decode cX9_spoilt 26 = .ok (.iconst 0, 1) := by decide +kernel
theorem dX9_spoilt_27 : decode cX9_spoilt 27 = .ok (.istore 4, 2) := by decide +kernel
theorem dX9_spoilt_29 : decode cX9_spoilt 29 = .ok (.iload_n 3, 1) := by decide +kernel
theorem dX9_spoilt_30 : decode cX9_spoilt 30 = .ok (.invokestatic 154, 3) := by decide +kernel
theorem dX9_spoilt_33 : decode cX9_spoilt 33 = .ok (.ifCond .eq 16, 3) := by decide +kernel
theorem dX9_spoilt_36 : decode cX9_spoilt 36 = .ok (.aload_n 0, 1) := by decide +kernel
theorem dX9_spoilt_37 : decode cX9_spoilt 37 = .ok (.iload_n 1, 1) := by decide +kernel
theorem dX9_spoilt_38 : decode cX9_spoilt 38 = .ok (.invokevirtual 228, 3) := by decide +kernel
theorem dX9_spoilt_41 : decode cX9_spoilt 41 = .ok (.ifCond .eq 8, 3) := by decide +kernel
theorem dX9_spoilt_44 : decode cX9_spoilt 44 = .ok (.iload 4, 2) := by decide +kernel
theorem dX9_spoilt_46 : decode cX9_spoilt 46 = .ok (.ifCond .ne 6, 3) := by decide +kernel
theorem dX9_spoilt_49 : decode cX9_spoilt 49 = .ok (.ldc 231, 2) := by decide +kernel
theorem dX9_spoilt_51 : decode cX9_spoilt 51 = .ok (.ireturn, 1) := by decide +kernel
theorem dX9_spoilt_52 : decode cX9_spoilt 52 = .ok (.aload_n 0, 1) := by decide +kernel
theorem dX9_spoilt_53 : decode cX9_spoilt 53 = .ok (.iconst 1, 1) := by decide +kernel
theorem dX9_spoilt_54 : decode cX9_spoilt 54 = .ok (.iload_n 1, 1) := by decide +kernel
theorem dX9_spoilt_55 : decode cX9_spoilt 55 = .ok (.ishl, 1) := by decide +kernel
theorem dX9_spoilt_56 : decode cX9_spoilt 56 = .ok (.iload_n 3, 1) := by decide +kernel
theorem dX9_spoilt_57 : decode cX9_spoilt 57 = .ok (.iconst (-1), 1) := by decide +kernel
theorem dX9_spoilt_58 : decode cX9_spoilt 58 = .ok (.iconst (-1), 1) := by decide +kernel
theorem dX9_spoilt_59 : decode cX9_spoilt 59 = .ok (.iconst (-1), 1) := by decide +kernel
theorem dX9_spoilt_60 : decode cX9_spoilt 60 = .ok (.invokevirtual 224, 3) := by decide +kernel
theorem dX9_spoilt_63 : decode cX9_spoilt 63 = .ok (.aload_n 0, 1) := by decide +kernel
theorem dX9_spoilt_64 : decode cX9_spoilt 64 = .ok (.iconst 0, 1) := by decide +kernel
theorem dX9_spoilt_65 : decode cX9_spoilt 65 = .ok (.iload_n 3, 1) := by decide +kernel
theorem dX9_spoilt_66 : decode cX9_spoilt 66 = .ok (.iconst (-1), 1) := by decide +kernel
theorem dX9_spoilt_67 : decode cX9_spoilt 67 = .ok (.iconst (-1), 1) := by decide +kernel
theorem dX9_spoilt_68 : decode cX9_spoilt 68 = .ok (.iconst (-1), 1) := by decide +kernel
theorem dX9_spoilt_69 : decode cX9_spoilt 69 = .ok (.invokevirtual 224, 3) := by decide +kernel
theorem dX9_spoilt_72 : decode cX9_spoilt 72 = .ok (.isub, 1) := by decide +kernel
theorem dX9_spoilt_73 : decode cX9_spoilt 73 = .ok (.istore 5, 2) := by decide +kernel
theorem dX9_spoilt_75 : decode cX9_spoilt 75 = .ok (.iload_n 2, 1) := by decide +kernel
theorem dX9_spoilt_76 : decode cX9_spoilt 76 = .ok (.bipush 10, 2) := by decide +kernel
theorem dX9_spoilt_78 : decode cX9_spoilt 78 = .ok (.if_icmp .eq 28, 3) := by decide +kernel
theorem dX9_spoilt_81 : decode cX9_spoilt 81 = .ok (.aload_n 0, 1) := by decide +kernel
theorem dX9_spoilt_82 : decode cX9_spoilt 82 = .ok (.iconst 1, 1) := by decide +kernel
theorem dX9_spoilt_83 : decode cX9_spoilt 83 = .ok (.iload_n 1, 1) := by decide +kernel
theorem dX9_spoilt_84 : decode cX9_spoilt 84 = .ok (.ishl, 1) := by decide +kernel
theorem dX9_spoilt_85 : decode cX9_spoilt 85 = .ok (.iload_n 3, 1) := by decide +kernel
theorem dX9_spoilt_86 : decode cX9_spoilt 86 = .ok (.iload_n 2, 1) := by decide +kernel
theorem dX9_spoilt_87 : decode cX9_spoilt 87 = .ok (.iconst (-1), 1) := by decide +kernel
theorem dX9_spoilt_88 : decode cX9_spoilt 88 = .ok (.iconst (-1), 1) := by decide +kernel
theorem dX9_spoilt_89 : decode cX9_spoilt 89 = .ok (.invokevirtual 224, 3) := by decide +kernel
theorem dX9_spoilt_92 : decode cX9_spoilt 92 = .ok (.aload_n 0, 1) := by decide +kernel
theorem dX9_spoilt_93 : decode cX9_spoilt 93 = .ok (.iconst 0, 1) := by decide +kernel
theorem dX9_spoilt_94 : decode cX9_spoilt 94 = .ok (.iload_n 3, 1) := by decide +kernel
theorem dX9_spoilt_95 : decode cX9_spoilt 95 = .ok (.iload_n 2, 1) := by decide +kernel
theorem dX9_spoilt_96 : decode cX9_spoilt 96 = .ok (.iconst (-1), 1) := by decide +kernel
theorem dX9_spoilt_97 : decode cX9_spoilt 97 = .ok (.iconst (-1), 1) := by decide +kernel
theorem dX9_spoilt_98 : decode cX9_spoilt 98 = .ok (.invokevirtual 224, 3) := by decide +kernel
theorem dX9_spoilt_101 : decode cX9_spoilt 101 = .ok (.isub, 1) := by decide +kernel
theorem dX9_spoilt_102 : decode cX9_spoilt 102 = .ok (.iload 5, 2) := by decide +kernel
theorem dX9_spoilt_104 : decode cX9_spoilt 104 = .ok (.isub, 1) := by decide +kernel
theorem dX9_spoilt_105 : decode cX9_spoilt 105 = .ok (.ireturn, 1) := by decide +kernel
theorem dX9_spoilt_106 : decode cX9_spoilt 106 = .ok (.iload 5, 2) := by decide +kernel
theorem dX9_spoilt_108 : decode cX9_spoilt 108 = .ok (.istore 6, 2) := by decide +kernel
theorem dX9_spoilt_110 : decode cX9_spoilt 110 = .ok (.bipush (-2), 2) := by decide +kernel
theorem dX9_spoilt_112 : decode cX9_spoilt 112 = .ok (.istore 7, 2) := by decide +kernel
theorem dX9_spoilt_114 : decode cX9_spoilt 114 = .ok (.iconst 0, 1) := by decide +kernel
theorem dX9_spoilt_115 : decode cX9_spoilt 115 = .ok (.istore 8, 2) := by decide +kernel
theorem dX9_spoilt_117 : decode cX9_spoilt 117 = .ok (.iload 8, 2) := by decide +kernel
theorem dX9_spoilt_119 : decode cX9_spoilt 119 = .ok (.bipush 10, 2) := by decide +kernel
theorem dX9_spoilt_121 : decode cX9_spoilt 121 = .ok (.if_icmp .ge 67, 3) := by decide +kernel
theorem dX9_spoilt_124 : decode cX9_spoilt 124 = .ok (.iload 8, 2) := by decide +kernel
theorem dX9_spoilt_126 : decode cX9_spoilt 126 = .ok (.iload_n 1, 1) := by decide +kernel
theorem dX9_spoilt_127 : decode cX9_spoilt 127 = .ok (.if_icmp .eq 55, 3) := by decide +kernel
theorem dX9_spoilt_130 : decode cX9_spoilt 130 = .ok (.aload_n 0, 1) := by decide +kernel
