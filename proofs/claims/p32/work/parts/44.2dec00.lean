theorem dX10_firstDoer_0 : decode cX10_firstDoer 0 = .ok (.aload_n 0, 1) := by decide +kernel
theorem dX10_firstDoer_1 : decode cX10_firstDoer 1 = .ok (.iload_n 1, 1) := by decide +kernel
theorem dX10_firstDoer_2 : decode cX10_firstDoer 2 = .ok (.invokevirtual 331, 3) := by decide +kernel
theorem dX10_firstDoer_5 : decode cX10_firstDoer 5 = .ok (.ifCond .eq 19, 3) := by decide +kernel
theorem dX10_firstDoer_8 : decode cX10_firstDoer 8 = .ok (.iload_n 2, 1) := by decide +kernel
theorem dX10_firstDoer_9 : decode cX10_firstDoer 9 = .ok (.invokestatic 366, 3) := by decide +kernel
theorem dX10_firstDoer_12 : decode cX10_firstDoer 12 = .ok (.ifCond .eq 12, 3) := by decide +kernel
theorem dX10_firstDoer_15 : decode cX10_firstDoer 15 = .ok (.iload_n 3, 1) := by decide +kernel
theorem dX10_firstDoer_16 : decode cX10_firstDoer 16 = .ok (.iconst 0, 1) := by decide +kernel
theorem dX10_firstDoer_17 : decode cX10_firstDoer 17 = .ok (.iconst 1, 1) := by decide +kernel
theorem dX10_firstDoer_18 : decode cX10_firstDoer 18 = .ok (.invokestatic 157, 3) := by decide +kernel
theorem dX10_firstDoer_21 : decode cX10_firstDoer 21 = .ok (.ifCond .ne 5, 3) := by decide +kernel
theorem dX10_firstDoer_24 : decode cX10_firstDoer 24 = .ok (.iconst (-1), 1) := by decide +kernel
theorem dX10_firstDoer_25 : decode cX10_firstDoer 25 = .ok (.ireturn, 1) := by decide +kernel
theorem dX10_firstDoer_26 : decode cX10_firstDoer 26 = .ok (.bipush (-2), 2) := by decide +kernel
theorem dX10_firstDoer_28 : decode cX10_firstDoer 28 = .ok (.istore 4, 2) := by decide +kernel
theorem dX10_firstDoer_30 : decode cX10_firstDoer 30 = .ok (.aload_n 0, 1) := by decide +kernel
theorem dX10_firstDoer_31 : decode cX10_firstDoer 31 = .ok (.sipush 1023, 3) := by decide +kernel
theorem dX10_firstDoer_34 : decode cX10_firstDoer 34 = .ok (.iload_n 2, 1) := by decide +kernel
theorem dX10_firstDoer_35 : decode cX10_firstDoer 35 = .ok (.invokevirtual 378, 3) := by decide +kernel
theorem dX10_firstDoer_38 : decode cX10_firstDoer 38 = .ok (.istore 5, 2) := by decide +kernel
theorem dX10_firstDoer_40 : decode cX10_firstDoer 40 = .ok (.iconst 0, 1) := by decide +kernel
theorem dX10_firstDoer_41 : decode cX10_firstDoer 41 = .ok (.istore 6, 2) := by decide +kernel
theorem dX10_firstDoer_43 : decode cX10_firstDoer 43 = .ok (.iload 6, 2) := by decide +kernel
theorem dX10_firstDoer_45 : decode cX10_firstDoer 45 = .ok (.bipush 10, 2) := by decide +kernel
theorem dX10_firstDoer_47 : decode cX10_firstDoer 47 = .ok (.if_icmp .ge 61, 3) := by decide +kernel
theorem dX10_firstDoer_50 : decode cX10_firstDoer 50 = .ok (.aload_n 0, 1) := by decide +kernel
theorem dX10_firstDoer_51 : decode cX10_firstDoer 51 = .ok (.iload 6, 2) := by decide +kernel
theorem dX10_firstDoer_53 : decode cX10_firstDoer 53 = .ok (.invokevirtual 307, 3) := by decide +kernel
theorem dX10_firstDoer_56 : decode cX10_firstDoer 56 = .ok (.ifCond .ne 6, 3) := by decide +kernel
theorem dX10_firstDoer_59 : decode cX10_firstDoer 59 = .ok (.goto 43, 3) := by decide +kernel
theorem dX10_firstDoer_62 : decode cX10_firstDoer 62 = .ok (.aload_n 0, 1) := by decide +kernel
theorem dX10_firstDoer_63 : decode cX10_firstDoer 63 = .ok (.sipush 1023, 3) := by decide +kernel
theorem dX10_firstDoer_66 : decode cX10_firstDoer 66 = .ok (.invokevirtual 369, 3) := by decide +kernel
theorem dX10_firstDoer_69 : decode cX10_firstDoer 69 = .ok (.aload_n 0, 1) := by decide +kernel
theorem dX10_firstDoer_70 : decode cX10_firstDoer 70 = .ok (.getfield 116, 3) := by decide +kernel
theorem dX10_firstDoer_73 : decode cX10_firstDoer 73 = .ok (.iload_n 1, 1) := by decide +kernel
theorem dX10_firstDoer_74 : decode cX10_firstDoer 74 = .ok (.iload 6, 2) := by decide +kernel
theorem dX10_firstDoer_76 : decode cX10_firstDoer 76 = .ok (.iastore, 1) := by decide +kernel
theorem dX10_firstDoer_77 : decode cX10_firstDoer 77 = .ok (.aload_n 0, 1) := by decide +kernel
theorem dX10_firstDoer_78 : decode cX10_firstDoer 78 = .ok (.iload_n 2, 1) := by decide +kernel
theorem dX10_firstDoer_79 : decode cX10_firstDoer 79 = .ok (.invokevirtual 375, 3) := by decide +kernel
theorem dX10_firstDoer_82 : decode cX10_firstDoer 82 = .ok (.istore 7, 2) := by decide +kernel
theorem dX10_firstDoer_84 : decode cX10_firstDoer 84 = .ok (.iload 7, 2) := by decide +kernel
theorem dX10_firstDoer_86 : decode cX10_firstDoer 86 = .ok (.iload 5, 2) := by decide +kernel
theorem dX10_firstDoer_88 : decode cX10_firstDoer 88 = .ok (.if_icmp .lt 6, 3) := by decide +kernel
theorem dX10_firstDoer_91 : decode cX10_firstDoer 91 = .ok (.goto 11, 3) := by decide +kernel
theorem dX10_firstDoer_94 : decode cX10_firstDoer 94 = .ok (.iload 7, 2) := by decide +kernel
theorem dX10_firstDoer_96 : decode cX10_firstDoer 96 = .ok (.istore 5, 2) := by decide +kernel
theorem dX10_firstDoer_98 : decode cX10_firstDoer 98 = .ok (.iload 6, 2) := by decide +kernel
theorem dX10_firstDoer_100 : decode cX10_firstDoer 100 = .ok (.istore 4, 2) := by decide +kernel
theorem dX10_firstDoer_102 : decode cX10_firstDoer 102 = .ok (.iinc 6 1, 3) := by decide +kernel
theorem dX10_firstDoer_105 : decode cX10_firstDoer 105 = .ok (.goto (-62), 3) := by decide +kernel
theorem dX10_firstDoer_108 : decode cX10_firstDoer 108 = .ok (.iload_n 3, 1) := by decide +kernel
theorem dX10_firstDoer_109 : decode cX10_firstDoer 109 = .ok (.ifCond .ne 8, 3) := by decide +kernel
theorem dX10_firstDoer_112 : decode cX10_firstDoer 112 = .ok (.iload 4, 2) := by decide +kernel
theorem dX10_firstDoer_114 : decode cX10_firstDoer 114 = .ok (.goto 5, 3) := by decide +kernel
theorem dX10_firstDoer_117 : decode cX10_firstDoer 117 = .ok (.iload 5, 2) := by decide +kernel
theorem dX10_firstDoer_119 : decode cX10_firstDoer 119 = .ok (.ireturn, 1) := by decide +kernel
theorem dX10_halfDone_0 : decode cX10_halfDone 0 = .ok (.aload_n 0, 1) := by decide +kernel
theorem dX10_halfDone_1 : decode cX10_halfDone 1 = .ok (.iload_n 1, 1) := by decide +kernel
theorem dX10_halfDone_2 : decode cX10_halfDone 2 = .ok (.invokevirtual 381, 3) := by decide +kernel
theorem dX10_halfDone_5 : decode cX10_halfDone 5 = .ok (.ifCond .eq 13, 3) := by decide +kernel
theorem dX10_halfDone_8 : decode cX10_halfDone 8 = .ok (.iload_n 2, 1) := by decide +kernel
theorem dX10_halfDone_9 : decode cX10_halfDone 9 = .ok (.iconst 1, 1) := by decide +kernel
theorem dX10_halfDone_10 : decode cX10_halfDone 10 = .ok (.bipush 20, 2) := by decide +kernel
theorem dX10_halfDone_12 : decode cX10_halfDone 12 = .ok (.invokestatic 157, 3) := by decide +kernel
theorem dX10_halfDone_15 : decode cX10_halfDone 15 = .ok (.ifCond .ne 7, 3) := by decide +kernel
theorem dX10_halfDone_18 : decode cX10_halfDone 18 = .ok (.ldc_w 384, 3) := by decide +kernel
theorem dX10_halfDone_21 : decode cX10_halfDone 21 = .ok (.ireturn, 1) := by decide +kernel
theorem dX10_halfDone_22 : decode cX10_halfDone 22 = .ok (.aload_n 0, 1) := by decide +kernel
theorem dX10_halfDone_23 : decode cX10_halfDone 23 = .ok (.getfield 28, 3) := by decide +kernel
theorem dX10_halfDone_26 : decode cX10_halfDone 26 = .ok (.iload_n 1, 1) := by decide +kernel
theorem dX10_halfDone_27 : decode cX10_halfDone 27 = .ok (.iaload, 1) := by decide +kernel
theorem dX10_halfDone_28 : decode cX10_halfDone 28 = .ok (.iload_n 2, 1) := by decide +kernel
theorem dX10_halfDone_29 : decode cX10_halfDone 29 = .ok (.isub, 1) := by decide +kernel
theorem dX10_halfDone_30 : decode cX10_halfDone 30 = .ok (.aload_n 0, 1) := by decide +kernel
theorem dX10_halfDone_31 : decode cX10_halfDone 31 = .ok (.getfield 7, 3) := by decide +kernel
theorem dX10_halfDone_34 : decode cX10_halfDone 34 = .ok (.bipush 13, 2) := by decide +kernel
theorem dX10_halfDone_36 : decode cX10_halfDone 36 = .ok (.iaload, 1) := by decide +kernel
theorem dX10_halfDone_37 : decode cX10_halfDone 37 = .ok (.if_icmp .ge 6, 3) := by decide +kernel
theorem dX10_halfDone_40 : decode cX10_halfDone 40 = .ok (.bipush (-2), 2) := by decide +kernel
theorem dX10_halfDone_42 : decode cX10_halfDone 42 = .ok (.ireturn, 1) := by decide +kernel
theorem dX10_halfDone_43 : decode cX10_halfDone 43 = .ok (.aload_n 0, 1) := by decide +kernel
theorem dX10_halfDone_44 : decode cX10_halfDone 44 = .ok (.getfield 31, 3) := by decide +kernel
theorem dX10_halfDone_47 : decode cX10_halfDone 47 = .ok (.iload_n 1, 1) := by decide +kernel
theorem dX10_halfDone_48 : decode cX10_halfDone 48 = .ok (.iaload, 1) := by decide +kernel
theorem dX10_halfDone_49 : decode cX10_halfDone 49 = .ok (.aload_n 0, 1) := by decide +kernel
theorem dX10_halfDone_50 : decode cX10_halfDone 50 = .ok (.getfield 7, 3) := by decide +kernel
theorem dX10_halfDone_53 : decode cX10_halfDone 53 = .ok (.bipush 13, 2) := by decide +kernel
theorem dX10_halfDone_55 : decode cX10_halfDone 55 = .ok (.iaload, 1) := by decide +kernel
theorem dX10_halfDone_56 : decode cX10_halfDone 56 = .ok (.isub, 1) := by decide +kernel
theorem dX10_halfDone_57 : decode cX10_halfDone 57 = .ok (.bipush 60, 2) := by decide +kernel
theorem dX10_halfDone_59 : decode cX10_halfDone 59 = .ok (.if_icmp .lt 6, 3) := by decide +kernel
theorem dX10_halfDone_62 : decode cX10_halfDone 62 = .ok (.bipush (-3), 2) := by decide +kernel
theorem dX10_halfDone_64 : decode cX10_halfDone 64 = .ok (.ireturn, 1) := by decide +kernel
theorem dX10_halfDone_65 : decode cX10_halfDone 65 = .ok (.aload_n 0, 1) := by decide +kernel
theorem dX10_halfDone_66 : decode cX10_halfDone 66 = .ok (.iload_n 1, 1) := by decide +kernel
theorem dX10_halfDone_67 : decode cX10_halfDone 67 = .ok (.iload_n 2, 1) := by decide +kernel
theorem dX10_halfDone_68 : decode cX10_halfDone 68 = .ok (.invokevirtual 428, 3) := by decide +kernel
theorem dX10_halfDone_71 : decode cX10_halfDone 71 = .ok (.aload_n 0, 1) := by decide +kernel
theorem dX10_halfDone_72 : decode cX10_halfDone 72 = .ok (.iload_n 1, 1) := by decide +kernel
theorem dX10_halfDone_73 : decode cX10_halfDone 73 = .ok (.iconst 0, 1) := by decide +kernel
theorem dX10_halfDone_74 : decode cX10_halfDone 74 = .ok (.invokevirtual 428, 3) := by decide +kernel
theorem dX10_halfDone_77 : decode cX10_halfDone 77 = .ok (.isub, 1) := by decide +kernel
theorem dX10_halfDone_78 : decode cX10_halfDone 78 = .ok (.ireturn, 1) := by decide +kernel
theorem dX10_holds_0 : decode cX10_holds 0 = .ok (.iload_n 1, 1) := by decide +kernel
theorem dX10_holds_1 : decode cX10_holds 1 = .ok (.iconst 1, 1) := by decide +kernel
theorem dX10_holds_2 : decode cX10_holds 2 = .ok (.bipush 20, 2) := by decide +kernel
theorem dX10_holds_4 : decode cX10_holds 4 = .ok (.invokestatic 157, 3) := by decide +kernel
theorem dX10_holds_7 : decode cX10_holds 7 = .ok (.ifCond .eq 23, 3) := by decide +kernel
theorem dX10_holds_10 : decode cX10_holds 10 = .ok (.iload_n 2, 1) := by decide +kernel
theorem dX10_holds_11 : decode cX10_holds 11 = .ok (.iconst 0, 1) := by decide +kernel
theorem dX10_holds_12 : decode cX10_holds 12 = .ok (.ldc_w 417, 3) := by decide +kernel
theorem dX10_holds_15 : decode cX10_holds 15 = .ok (.invokestatic 157, 3) := by decide +kernel
theorem dX10_holds_18 : decode cX10_holds 18 = .ok (.ifCond .eq 12, 3) := by decide +kernel
theorem dX10_holds_21 : decode cX10_holds 21 = .ok (.iload_n 3, 1) := by decide +kernel
theorem dX10_holds_22 : decode cX10_holds 22 = .ok (.iconst 0, 1) := by decide +kernel
theorem dX10_holds_23 : decode cX10_holds 23 = .ok (.iconst 1, 1) := by decide +kernel
theorem dX10_holds_24 : decode cX10_holds 24 = .ok (.invokestatic 157, 3) := by decide +kernel
theorem dX10_holds_27 : decode cX10_holds 27 = .ok (.ifCond .ne 5, 3) := by decide +kernel
theorem dX10_holds_30 : decode cX10_holds 30 = .ok (.iconst (-1), 1) := by decide +kernel
theorem dX10_holds_31 : decode cX10_holds 31 = .ok (.ireturn, 1) := by decide +kernel
theorem dX10_holds_32 : decode cX10_holds 32 = .ok (.aload_n 0, 1) := by decide +kernel
theorem dX10_holds_33 : decode cX10_holds 33 = .ok (.iconst 0, 1) := by decide +kernel
theorem dX10_holds_34 : decode cX10_holds 34 = .ok (.iload_n 1, 1) := by decide +kernel
theorem dX10_holds_35 : decode cX10_holds 35 = .ok (.invokevirtual 418, 3) := by decide +kernel
theorem dX10_holds_38 : decode cX10_holds 38 = .ok (.istore 4, 2) := by decide +kernel
theorem dX10_holds_40 : decode cX10_holds 40 = .ok (.iconst (-1), 1) := by decide +kernel
theorem dX10_holds_41 : decode cX10_holds 41 = .ok (.istore 5, 2) := by decide +kernel
theorem dX10_holds_43 : decode cX10_holds 43 = .ok (.iconst 0, 1) := by decide +kernel
theorem dX10_holds_44 : decode cX10_holds 44 = .ok (.istore 6, 2) := by decide +kernel
theorem dX10_holds_46 : decode cX10_holds 46 = .ok (.iload 6, 2) := by decide +kernel
theorem dX10_holds_48 : decode cX10_holds 48 = .ok (.sipush 1024, 3) := by decide +kernel
theorem dX10_holds_51 : decode cX10_holds 51 = .ok (.if_icmp .ge 61, 3) := by decide +kernel
theorem dX10_holds_54 : decode cX10_holds 54 = .ok (.iload 6, 2) := by decide +kernel
theorem dX10_holds_56 : decode cX10_holds 56 = .ok (.aload_n 0, 1) := by decide +kernel
theorem dX10_holds_57 : decode cX10_holds 57 = .ok (.getfield 146, 3) := by decide +kernel
theorem dX10_holds_60 : decode cX10_holds 60 = .ok (.iconst (-1), 1) := by decide +kernel
theorem dX10_holds_61 : decode cX10_holds 61 = .ok (.ixor, 1) := by decide +kernel
theorem dX10_holds_62 : decode cX10_holds 62 = .ok (.iand, 1) := by decide +kernel
theorem dX10_holds_63 : decode cX10_holds 63 = .ok (.ifCond .ne 43, 3) := by decide +kernel
theorem dX10_holds_66 : decode cX10_holds 66 = .ok (.iload 5, 2) := by decide +kernel
theorem dX10_holds_68 : decode cX10_holds 68 = .ok (.iconst (-1), 1) := by decide +kernel
theorem dX10_holds_69 : decode cX10_holds 69 = .ok (.if_icmp .eq 19, 3) := by decide +kernel
theorem dX10_holds_72 : decode cX10_holds 72 = .ok (.iload 6, 2) := by decide +kernel
theorem dX10_holds_74 : decode cX10_holds 74 = .ok (.invokestatic 297, 3) := by decide +kernel
theorem dX10_holds_77 : decode cX10_holds 77 = .ok (.iload 5, 2) := by decide +kernel
theorem dX10_holds_79 : decode cX10_holds 79 = .ok (.invokestatic 297, 3) := by decide +kernel
theorem dX10_holds_82 : decode cX10_holds 82 = .ok (.if_icmp .lt 6, 3) := by decide +kernel
theorem dX10_holds_85 : decode cX10_holds 85 = .ok (.goto 21, 3) := by decide +kernel
theorem dX10_holds_88 : decode cX10_holds 88 = .ok (.aload_n 0, 1) := by decide +kernel
theorem dX10_holds_89 : decode cX10_holds 89 = .ok (.iload 6, 2) := by decide +kernel
theorem dX10_holds_91 : decode cX10_holds 91 = .ok (.iload_n 1, 1) := by decide +kernel
theorem dX10_holds_92 : decode cX10_holds 92 = .ok (.invokevirtual 418, 3) := by decide +kernel
theorem dX10_holds_95 : decode cX10_holds 95 = .ok (.iload 4, 2) := by decide +kernel
theorem dX10_holds_97 : decode cX10_holds 97 = .ok (.isub, 1) := by decide +kernel
theorem dX10_holds_98 : decode cX10_holds 98 = .ok (.iload_n 2, 1) := by decide +kernel
theorem dX10_holds_99 : decode cX10_holds 99 = .ok (.if_icmp .lt 7, 3) := by decide +kernel
theorem dX10_holds_102 : decode cX10_holds 102 = .ok (.iload 6, 2) := by decide +kernel
theorem dX10_holds_104 : decode cX10_holds 104 = .ok (.istore 5, 2) := by decide +kernel
theorem dX10_holds_106 : decode cX10_holds 106 = .ok (.iinc 6 1, 3) := by decide +kernel
theorem dX10_holds_109 : decode cX10_holds 109 = .ok (.goto (-63), 3) := by decide +kernel
theorem dX10_holds_112 : decode cX10_holds 112 = .ok (.iload 5, 2) := by decide +kernel
theorem dX10_holds_114 : decode cX10_holds 114 = .ok (.iconst (-1), 1) := by decide +kernel
theorem dX10_holds_115 : decode cX10_holds 115 = .ok (.if_icmp .ne 8, 3) := by decide +kernel
theorem dX10_holds_118 : decode cX10_holds 118 = .ok (.bipush (-2), 2) := by decide +kernel
theorem dX10_holds_120 : decode cX10_holds 120 = .ok (.goto 17, 3) := by decide +kernel
theorem dX10_holds_123 : decode cX10_holds 123 = .ok (.iload_n 3, 1) := by decide +kernel
theorem dX10_holds_124 : decode cX10_holds 124 = .ok (.ifCond .ne 11, 3) := by decide +kernel
theorem dX10_holds_127 : decode cX10_holds 127 = .ok (.iload 5, 2) := by decide +kernel
theorem dX10_holds_129 : decode cX10_holds 129 = .ok (.invokestatic 297, 3) := by decide +kernel
theorem dX10_holds_132 : decode cX10_holds 132 = .ok (.goto 5, 3) := by decide +kernel
theorem dX10_holds_135 : decode cX10_holds 135 = .ok (.iload 5, 2) := by decide +kernel
theorem dX10_holds_137 : decode cX10_holds 137 = .ok (.ireturn, 1) := by decide +kernel
theorem dX10_mayor_0 : decode cX10_mayor 0 = .ok (.iload_n 1, 1) := by decide +kernel
theorem dX10_mayor_1 : decode cX10_mayor 1 = .ok (.invokestatic 366, 3) := by decide +kernel
theorem dX10_mayor_4 : decode cX10_mayor 4 = .ok (.ifCond .eq 34, 3) := by decide +kernel
theorem dX10_mayor_7 : decode cX10_mayor 7 = .ok (.iload_n 2, 1) := by decide +kernel
theorem dX10_mayor_8 : decode cX10_mayor 8 = .ok (.iconst 0, 1) := by decide +kernel
theorem dX10_mayor_9 : decode cX10_mayor 9 = .ok (.iconst 1, 1) := by decide +kernel
theorem dX10_mayor_10 : decode cX10_mayor 10 = .ok (.invokestatic 157, 3) := by decide +kernel
theorem dX10_mayor_13 : decode cX10_mayor 13 = .ok (.ifCond .ne 29, 3) := by decide +kernel
theorem dX10_mayor_16 : decode cX10_mayor 16 = .ok (.iload_n 2, 1) := by decide +kernel
theorem dX10_mayor_17 : decode cX10_mayor 17 = .ok (.bipush 10, 2) := by decide +kernel
theorem dX10_mayor_19 : decode cX10_mayor 19 = .ok (.bipush 19, 2) := by decide +kernel
theorem dX10_mayor_21 : decode cX10_mayor 21 = .ok (.invokestatic 157, 3) := by decide +kernel
theorem dX10_mayor_24 : decode cX10_mayor 24 = .ok (.ifCond .eq 14, 3) := by decide +kernel
theorem dX10_mayor_27 : decode cX10_mayor 27 = .ok (.aload_n 0, 1) := by decide +kernel
theorem dX10_mayor_28 : decode cX10_mayor 28 = .ok (.iload_n 2, 1) := by decide +kernel
theorem dX10_mayor_29 : decode cX10_mayor 29 = .ok (.bipush 10, 2) := by decide +kernel
theorem dX10_mayor_31 : decode cX10_mayor 31 = .ok (.isub, 1) := by decide +kernel
theorem dX10_mayor_32 : decode cX10_mayor 32 = .ok (.invokevirtual 307, 3) := by decide +kernel
theorem dX10_mayor_35 : decode cX10_mayor 35 = .ok (.ifCond .ne 7, 3) := by decide +kernel
theorem dX10_mayor_38 : decode cX10_mayor 38 = .ok (.ldc_w 384, 3) := by decide +kernel
theorem dX10_mayor_41 : decode cX10_mayor 41 = .ok (.ireturn, 1) := by decide +kernel
theorem dX10_mayor_42 : decode cX10_mayor 42 = .ok (.aload_n 0, 1) := by decide +kernel
theorem dX10_mayor_43 : decode cX10_mayor 43 = .ok (.iconst 0, 1) := by decide +kernel
theorem dX10_mayor_44 : decode cX10_mayor 44 = .ok (.iload_n 1, 1) := by decide +kernel
theorem dX10_mayor_45 : decode cX10_mayor 45 = .ok (.invokevirtual 418, 3) := by decide +kernel
theorem dX10_mayor_48 : decode cX10_mayor 48 = .ok (.istore_n 3, 1) := by decide +kernel
theorem dX10_mayor_49 : decode cX10_mayor 49 = .ok (.iload_n 2, 1) := by decide +kernel
theorem dX10_mayor_50 : decode cX10_mayor 50 = .ok (.bipush 10, 2) := by decide +kernel
theorem dX10_mayor_52 : decode cX10_mayor 52 = .ok (.if_icmp .lt 17, 3) := by decide +kernel
theorem dX10_mayor_55 : decode cX10_mayor 55 = .ok (.aload_n 0, 1) := by decide +kernel
theorem dX10_mayor_56 : decode cX10_mayor 56 = .ok (.iconst 1, 1) := by decide +kernel
theorem dX10_mayor_57 : decode cX10_mayor 57 = .ok (.iload_n 2, 1) := by decide +kernel
theorem dX10_mayor_58 : decode cX10_mayor 58 = .ok (.bipush 10, 2) := by decide +kernel
theorem dX10_mayor_60 : decode cX10_mayor 60 = .ok (.isub, 1) := by decide +kernel
theorem dX10_mayor_61 : decode cX10_mayor 61 = .ok (.ishl, 1) := by decide +kernel
theorem dX10_mayor_62 : decode cX10_mayor 62 = .ok (.iload_n 1, 1) := by decide +kernel
theorem dX10_mayor_63 : decode cX10_mayor 63 = .ok (.invokevirtual 418, 3) := by decide +kernel
theorem dX10_mayor_66 : decode cX10_mayor 66 = .ok (.iload_n 3, 1) := by decide +kernel
theorem dX10_mayor_67 : decode cX10_mayor 67 = .ok (.isub, 1) := by decide +kernel
theorem dX10_mayor_68 : decode cX10_mayor 68 = .ok (.ireturn, 1) := by decide +kernel
theorem dX10_mayor_69 : decode cX10_mayor 69 = .ok (.bipush (-2), 2) := by decide +kernel
theorem dX10_mayor_71 : decode cX10_mayor 71 = .ok (.istore 4, 2) := by decide +kernel
theorem dX10_mayor_73 : decode cX10_mayor 73 = .ok (.ldc_w 400, 3) := by decide +kernel
theorem dX10_mayor_76 : decode cX10_mayor 76 = .ok (.istore 5, 2) := by decide +kernel
theorem dX10_mayor_78 : decode cX10_mayor 78 = .ok (.iconst 0, 1) := by decide +kernel
theorem dX10_mayor_79 : decode cX10_mayor 79 = .ok (.istore 6, 2) := by decide +kernel
theorem dX10_mayor_81 : decode cX10_mayor 81 = .ok (.iload 6, 2) := by decide +kernel
theorem dX10_mayor_83 : decode cX10_mayor 83 = .ok (.bipush 10, 2) := by decide +kernel
theorem dX10_mayor_85 : decode cX10_mayor 85 = .ok (.if_icmp .ge 55, 3) := by decide +kernel
theorem dX10_mayor_88 : decode cX10_mayor 88 = .ok (.aload_n 0, 1) := by decide +kernel
theorem dX10_mayor_89 : decode cX10_mayor 89 = .ok (.iload 6, 2) := by decide +kernel
theorem dX10_mayor_91 : decode cX10_mayor 91 = .ok (.invokevirtual 307, 3) := by decide +kernel
theorem dX10_mayor_94 : decode cX10_mayor 94 = .ok (.ifCond .eq 17, 3) := by decide +kernel
theorem dX10_mayor_97 : decode cX10_mayor 97 = .ok (.aload_n 0, 1) := by decide +kernel
theorem dX10_mayor_98 : decode cX10_mayor 98 = .ok (.iconst 1, 1) := by decide +kernel
theorem dX10_mayor_99 : decode cX10_mayor 99 = .ok (.iload 6, 2) := by decide +kernel
theorem dX10_mayor_101 : decode cX10_mayor 101 = .ok (.ishl, 1) := by decide +kernel
theorem dX10_mayor_102 : decode cX10_mayor 102 = .ok (.iload_n 1, 1) := by decide +kernel
theorem dX10_mayor_103 : decode cX10_mayor 103 = .ok (.invokevirtual 418, 3) := by decide +kernel
theorem dX10_mayor_106 : decode cX10_mayor 106 = .ok (.iload_n 3, 1) := by decide +kernel
theorem dX10_mayor_107 : decode cX10_mayor 107 = .ok (.isub, 1) := by decide +kernel
theorem dX10_mayor_108 : decode cX10_mayor 108 = .ok (.goto 6, 3) := by decide +kernel
theorem dX10_mayor_111 : decode cX10_mayor 111 = .ok (.ldc_w 400, 3) := by decide +kernel
theorem dX10_mayor_114 : decode cX10_mayor 114 = .ok (.istore 7, 2) := by decide +kernel
theorem dX10_mayor_116 : decode cX10_mayor 116 = .ok (.iload 7, 2) := by decide +kernel
theorem dX10_mayor_118 : decode cX10_mayor 118 = .ok (.iload 5, 2) := by decide +kernel
theorem dX10_mayor_120 : decode cX10_mayor 120 = .ok (.if_icmp .lt 6, 3) := by decide +kernel
theorem dX10_mayor_123 : decode cX10_mayor 123 = .ok (.goto 11, 3) := by decide +kernel
theorem dX10_mayor_126 : decode cX10_mayor 126 = .ok (.iload 7, 2) := by decide +kernel
theorem dX10_mayor_128 : decode cX10_mayor 128 = .ok (.istore 5, 2) := by decide +kernel
theorem dX10_mayor_130 : decode cX10_mayor 130 = .ok (.iload 6, 2) := by decide +kernel
theorem dX10_mayor_132 : decode cX10_mayor 132 = .ok (.istore 4, 2) := by decide +kernel
theorem dX10_mayor_134 : decode cX10_mayor 134 = .ok (.iinc 6 1, 3) := by decide +kernel
theorem dX10_mayor_137 : decode cX10_mayor 137 = .ok (.goto (-56), 3) := by decide +kernel
theorem dX10_mayor_140 : decode cX10_mayor 140 = .ok (.iload 4, 2) := by decide +kernel
theorem dX10_mayor_142 : decode cX10_mayor 142 = .ok (.bipush (-2), 2) := by decide +kernel
theorem dX10_mayor_144 : decode cX10_mayor 144 = .ok (.if_icmp .eq 7, 3) := by decide +kernel
theorem dX10_mayor_147 : decode cX10_mayor 147 = .ok (.iload_n 2, 1) := by decide +kernel
theorem dX10_mayor_148 : decode cX10_mayor 148 = .ok (.ifCond .ne 8, 3) := by decide +kernel
theorem dX10_mayor_151 : decode cX10_mayor 151 = .ok (.iload 4, 2) := by decide +kernel
theorem dX10_mayor_153 : decode cX10_mayor 153 = .ok (.goto 5, 3) := by decide +kernel
theorem dX10_mayor_156 : decode cX10_mayor 156 = .ok (.iload 5, 2) := by decide +kernel
theorem dX10_mayor_158 : decode cX10_mayor 158 = .ok (.ireturn, 1) := by decide +kernel
theorem dX10_missedBehind_0 : decode cX10_missedBehind 0 = .ok (.aload_n 0, 1) := by decide +kernel
theorem dX10_missedBehind_1 : decode cX10_missedBehind 1 = .ok (.getfield 28, 3) := by decide +kernel
theorem dX10_missedBehind_4 : decode cX10_missedBehind 4 = .ok (.iload_n 1, 1) := by decide +kernel
theorem dX10_missedBehind_5 : decode cX10_missedBehind 5 = .ok (.iaload, 1) := by decide +kernel
theorem dX10_missedBehind_6 : decode cX10_missedBehind 6 = .ok (.aload_n 0, 1) := by decide +kernel
theorem dX10_missedBehind_7 : decode cX10_missedBehind 7 = .ok (.getfield 7, 3) := by decide +kernel
theorem dX10_missedBehind_10 : decode cX10_missedBehind 10 = .ok (.bipush 13, 2) := by decide +kernel
theorem dX10_missedBehind_12 : decode cX10_missedBehind 12 = .ok (.iaload, 1) := by decide +kernel
theorem dX10_missedBehind_13 : decode cX10_missedBehind 13 = .ok (.isub, 1) := by decide +kernel
theorem dX10_missedBehind_14 : decode cX10_missedBehind 14 = .ok (.istore_n 3, 1) := by decide +kernel
theorem dX10_missedBehind_15 : decode cX10_missedBehind 15 = .ok (.aload_n 0, 1) := by decide +kernel
theorem dX10_missedBehind_16 : decode cX10_missedBehind 16 = .ok (.iconst 1, 1) := by decide +kernel
theorem dX10_missedBehind_17 : decode cX10_missedBehind 17 = .ok (.iload_n 1, 1) := by decide +kernel
theorem dX10_missedBehind_18 : decode cX10_missedBehind 18 = .ok (.ishl, 1) := by decide +kernel
theorem dX10_missedBehind_19 : decode cX10_missedBehind 19 = .ok (.invokevirtual 369, 3) := by decide +kernel
theorem dX10_missedBehind_22 : decode cX10_missedBehind 22 = .ok (.aload_n 0, 1) := by decide +kernel
theorem dX10_missedBehind_23 : decode cX10_missedBehind 23 = .ok (.getfield 107, 3) := by decide +kernel
theorem dX10_missedBehind_26 : decode cX10_missedBehind 26 = .ok (.iload_n 1, 1) := by decide +kernel
theorem dX10_missedBehind_27 : decode cX10_missedBehind 27 = .ok (.aload_n 0, 1) := by decide +kernel
theorem dX10_missedBehind_28 : decode cX10_missedBehind 28 = .ok (.getfield 28, 3) := by decide +kernel
theorem dX10_missedBehind_31 : decode cX10_missedBehind 31 = .ok (.iload_n 1, 1) := by decide +kernel
theorem dX10_missedBehind_32 : decode cX10_missedBehind 32 = .ok (.iaload, 1) := by decide +kernel
theorem dX10_missedBehind_33 : decode cX10_missedBehind 33 = .ok (.iload_n 2, 1) := by decide +kernel
theorem dX10_missedBehind_34 : decode cX10_missedBehind 34 = .ok (.isub, 1) := by decide +kernel
theorem dX10_missedBehind_35 : decode cX10_missedBehind 35 = .ok (.iastore, 1) := by decide +kernel
theorem dX10_missedBehind_36 : decode cX10_missedBehind 36 = .ok (.aload_n 0, 1) := by decide +kernel
theorem dX10_missedBehind_37 : decode cX10_missedBehind 37 = .ok (.getfield 110, 3) := by decide +kernel
theorem dX10_missedBehind_40 : decode cX10_missedBehind 40 = .ok (.iload_n 1, 1) := by decide +kernel
theorem dX10_missedBehind_41 : decode cX10_missedBehind 41 = .ok (.aload_n 0, 1) := by decide +kernel
theorem dX10_missedBehind_42 : decode cX10_missedBehind 42 = .ok (.getfield 28, 3) := by decide +kernel
theorem dX10_missedBehind_45 : decode cX10_missedBehind 45 = .ok (.iload_n 1, 1) := by decide +kernel
theorem dX10_missedBehind_46 : decode cX10_missedBehind 46 = .ok (.iaload, 1) := by decide +kernel
theorem dX10_missedBehind_47 : decode cX10_missedBehind 47 = .ok (.iconst 1, 1) := by decide +kernel
theorem dX10_missedBehind_48 : decode cX10_missedBehind 48 = .ok (.isub, 1) := by decide +kernel
theorem dX10_missedBehind_49 : decode cX10_missedBehind 49 = .ok (.iastore, 1) := by decide +kernel
theorem dX10_missedBehind_50 : decode cX10_missedBehind 50 = .ok (.aload_n 0, 1) := by decide +kernel
theorem dX10_missedBehind_51 : decode cX10_missedBehind 51 = .ok (.aload_n 0, 1) := by decide +kernel
theorem dX10_missedBehind_52 : decode cX10_missedBehind 52 = .ok (.getfield 31, 3) := by decide +kernel
theorem dX10_missedBehind_55 : decode cX10_missedBehind 55 = .ok (.iload_n 1, 1) := by decide +kernel
theorem dX10_missedBehind_56 : decode cX10_missedBehind 56 = .ok (.iaload, 1) := by decide +kernel
theorem dX10_missedBehind_57 : decode cX10_missedBehind 57 = .ok (.aload_n 0, 1) := by decide +kernel
theorem dX10_missedBehind_58 : decode cX10_missedBehind 58 = .ok (.getfield 7, 3) := by decide +kernel
theorem dX10_missedBehind_61 : decode cX10_missedBehind 61 = .ok (.bipush 13, 2) := by decide +kernel
theorem dX10_missedBehind_63 : decode cX10_missedBehind 63 = .ok (.iaload, 1) := by decide +kernel
theorem dX10_missedBehind_64 : decode cX10_missedBehind 64 = .ok (.isub, 1) := by decide +kernel
theorem dX10_missedBehind_65 : decode cX10_missedBehind 65 = .ok (.iconst 1, 1) := by decide +kernel
theorem dX10_missedBehind_66 : decode cX10_missedBehind 66 = .ok (.iadd, 1) := by decide +kernel
theorem dX10_missedBehind_67 : decode cX10_missedBehind 67 = .ok (.invokevirtual 375, 3) := by decide +kernel
theorem dX10_missedBehind_70 : decode cX10_missedBehind 70 = .ok (.istore 4, 2) := by decide +kernel
theorem dX10_missedBehind_72 : decode cX10_missedBehind 72 = .ok (.iload_n 3, 1) := by decide +kernel
theorem dX10_missedBehind_73 : decode cX10_missedBehind 73 = .ok (.ifCond .ne 8, 3) := by decide +kernel
theorem dX10_missedBehind_76 : decode cX10_missedBehind 76 = .ok (.iload 4, 2) := by decide +kernel
theorem dX10_missedBehind_78 : decode cX10_missedBehind 78 = .ok (.goto 11, 3) := by decide +kernel
theorem dX10_missedBehind_81 : decode cX10_missedBehind 81 = .ok (.iload 4, 2) := by decide +kernel
theorem dX10_missedBehind_83 : decode cX10_missedBehind 83 = .ok (.aload_n 0, 1) := by decide +kernel
theorem dX10_missedBehind_84 : decode cX10_missedBehind 84 = .ok (.iload_n 3, 1) := by decide +kernel
theorem dX10_missedBehind_85 : decode cX10_missedBehind 85 = .ok (.invokevirtual 375, 3) := by decide +kernel
theorem dX10_missedBehind_88 : decode cX10_missedBehind 88 = .ok (.isub, 1) := by decide +kernel
theorem dX10_missedBehind_89 : decode cX10_missedBehind 89 = .ok (.ireturn, 1) := by decide +kernel
theorem dX10_missedBy_0 : decode cX10_missedBy 0 = .ok (.aload_n 0, 1) := by decide +kernel
theorem dX10_missedBy_1 : decode cX10_missedBy 1 = .ok (.sipush 1023, 3) := by decide +kernel
theorem dX10_missedBy_4 : decode cX10_missedBy 4 = .ok (.iconst 1, 1) := by decide +kernel
theorem dX10_missedBy_5 : decode cX10_missedBy 5 = .ok (.iload_n 1, 1) := by decide +kernel
theorem dX10_missedBy_6 : decode cX10_missedBy 6 = .ok (.ishl, 1) := by decide +kernel
theorem dX10_missedBy_7 : decode cX10_missedBy 7 = .ok (.iconst (-1), 1) := by decide +kernel
theorem dX10_missedBy_8 : decode cX10_missedBy 8 = .ok (.ixor, 1) := by decide +kernel
theorem dX10_missedBy_9 : decode cX10_missedBy 9 = .ok (.iand, 1) := by decide +kernel
theorem dX10_missedBy_10 : decode cX10_missedBy 10 = .ok (.iconst 1, 1) := by decide +kernel
theorem dX10_missedBy_11 : decode cX10_missedBy 11 = .ok (.iload_n 3, 1) := by decide +kernel
theorem dX10_missedBy_12 : decode cX10_missedBy 12 = .ok (.ishl, 1) := by decide +kernel
theorem dX10_missedBy_13 : decode cX10_missedBy 13 = .ok (.iconst (-1), 1) := by decide +kernel
theorem dX10_missedBy_14 : decode cX10_missedBy 14 = .ok (.ixor, 1) := by decide +kernel
theorem dX10_missedBy_15 : decode cX10_missedBy 15 = .ok (.iand, 1) := by decide +kernel
theorem dX10_missedBy_16 : decode cX10_missedBy 16 = .ok (.invokevirtual 369, 3) := by decide +kernel
theorem dX10_missedBy_19 : decode cX10_missedBy 19 = .ok (.iload_n 2, 1) := by decide +kernel
theorem dX10_missedBy_20 : decode cX10_missedBy 20 = .ok (.iconst (-1), 1) := by decide +kernel
theorem dX10_missedBy_21 : decode cX10_missedBy 21 = .ok (.if_icmp .eq 40, 3) := by decide +kernel
theorem dX10_missedBy_24 : decode cX10_missedBy 24 = .ok (.aload_n 0, 1) := by decide +kernel
theorem dX10_missedBy_25 : decode cX10_missedBy 25 = .ok (.iload_n 1, 1) := by decide +kernel
theorem dX10_missedBy_26 : decode cX10_missedBy 26 = .ok (.aload_n 0, 1) := by decide +kernel
theorem dX10_missedBy_27 : decode cX10_missedBy 27 = .ok (.getfield 7, 3) := by decide +kernel
theorem dX10_missedBy_30 : decode cX10_missedBy 30 = .ok (.bipush 13, 2) := by decide +kernel
theorem dX10_missedBy_32 : decode cX10_missedBy 32 = .ok (.iaload, 1) := by decide +kernel
theorem dX10_missedBy_33 : decode cX10_missedBy 33 = .ok (.iload_n 2, 1) := by decide +kernel
theorem dX10_missedBy_34 : decode cX10_missedBy 34 = .ok (.aload_n 0, 1) := by decide +kernel
theorem dX10_missedBy_35 : decode cX10_missedBy 35 = .ok (.getfield 404, 3) := by decide +kernel
theorem dX10_missedBy_38 : decode cX10_missedBy 38 = .ok (.imul, 1) := by decide +kernel
theorem dX10_missedBy_39 : decode cX10_missedBy 39 = .ok (.iadd, 1) := by decide +kernel
theorem dX10_missedBy_40 : decode cX10_missedBy 40 = .ok (.aload_n 0, 1) := by decide +kernel
theorem dX10_missedBy_41 : decode cX10_missedBy 41 = .ok (.getfield 7, 3) := by decide +kernel
theorem dX10_missedBy_44 : decode cX10_missedBy 44 = .ok (.bipush 13, 2) := by decide +kernel
theorem dX10_missedBy_46 : decode cX10_missedBy 46 = .ok (.iaload, 1) := by decide +kernel
theorem dX10_missedBy_47 : decode cX10_missedBy 47 = .ok (.iload_n 2, 1) := by decide +kernel
theorem dX10_missedBy_48 : decode cX10_missedBy 48 = .ok (.iconst 1, 1) := by decide +kernel
theorem dX10_missedBy_49 : decode cX10_missedBy 49 = .ok (.iadd, 1) := by decide +kernel
theorem dX10_missedBy_50 : decode cX10_missedBy 50 = .ok (.aload_n 0, 1) := by decide +kernel
theorem dX10_missedBy_51 : decode cX10_missedBy 51 = .ok (.getfield 404, 3) := by decide +kernel
theorem dX10_missedBy_54 : decode cX10_missedBy 54 = .ok (.imul, 1) := by decide +kernel
theorem dX10_missedBy_55 : decode cX10_missedBy 55 = .ok (.iadd, 1) := by decide +kernel
theorem dX10_missedBy_56 : decode cX10_missedBy 56 = .ok (.iconst 1, 1) := by decide +kernel
theorem dX10_missedBy_57 : decode cX10_missedBy 57 = .ok (.isub, 1) := by decide +kernel
theorem dX10_missedBy_58 : decode cX10_missedBy 58 = .ok (.invokevirtual 303, 3) := by decide +kernel
theorem dX10_missedBy_61 : decode cX10_missedBy 61 = .ok (.iload 4, 2) := by decide +kernel
theorem dX10_missedBy_63 : decode cX10_missedBy 63 = .ok (.iconst (-1), 1) := by decide +kernel
theorem dX10_missedBy_64 : decode cX10_missedBy 64 = .ok (.if_icmp .eq 42, 3) := by decide +kernel
theorem dX10_missedBy_67 : decode cX10_missedBy 67 = .ok (.aload_n 0, 1) := by decide +kernel
theorem dX10_missedBy_68 : decode cX10_missedBy 68 = .ok (.iload_n 3, 1) := by decide +kernel
theorem dX10_missedBy_69 : decode cX10_missedBy 69 = .ok (.aload_n 0, 1) := by decide +kernel
theorem dX10_missedBy_70 : decode cX10_missedBy 70 = .ok (.getfield 7, 3) := by decide +kernel
theorem dX10_missedBy_73 : decode cX10_missedBy 73 = .ok (.bipush 13, 2) := by decide +kernel
theorem dX10_missedBy_75 : decode cX10_missedBy 75 = .ok (.iaload, 1) := by decide +kernel
theorem dX10_missedBy_76 : decode cX10_missedBy 76 = .ok (.iload 4, 2) := by decide +kernel
theorem dX10_missedBy_78 : decode cX10_missedBy 78 = .ok (.aload_n 0, 1) := by decide +kernel
theorem dX10_missedBy_79 : decode cX10_missedBy 79 = .ok (.getfield 404, 3) := by decide +kernel
theorem dX10_missedBy_82 : decode cX10_missedBy 82 = .ok (.imul, 1) := by decide +kernel
theorem dX10_missedBy_83 : decode cX10_missedBy 83 = .ok (.iadd, 1) := by decide +kernel
theorem dX10_missedBy_84 : decode cX10_missedBy 84 = .ok (.aload_n 0, 1) := by decide +kernel
theorem dX10_missedBy_85 : decode cX10_missedBy 85 = .ok (.getfield 7, 3) := by decide +kernel
theorem dX10_missedBy_88 : decode cX10_missedBy 88 = .ok (.bipush 13, 2) := by decide +kernel
theorem dX10_missedBy_90 : decode cX10_missedBy 90 = .ok (.iaload, 1) := by decide +kernel
theorem dX10_missedBy_91 : decode cX10_missedBy 91 = .ok (.iload 4, 2) := by decide +kernel
theorem dX10_missedBy_93 : decode cX10_missedBy 93 = .ok (.iconst 1, 1) := by decide +kernel
theorem dX10_missedBy_94 : decode cX10_missedBy 94 = .ok (.iadd, 1) := by decide +kernel
theorem dX10_missedBy_95 : decode cX10_missedBy 95 = .ok (.aload_n 0, 1) := by decide +kernel
theorem dX10_missedBy_96 : decode cX10_missedBy 96 = .ok (.getfield 404, 3) := by decide +kernel
theorem dX10_missedBy_99 : decode cX10_missedBy 99 = .ok (.imul, 1) := by decide +kernel
theorem dX10_missedBy_100 : decode cX10_missedBy 100 = .ok (.iadd, 1) := by decide +kernel
theorem dX10_missedBy_101 : decode cX10_missedBy 101 = .ok (.iconst 1, 1) := by decide +kernel
theorem dX10_missedBy_102 : decode cX10_missedBy 102 = .ok (.isub, 1) := by decide +kernel
theorem dX10_missedBy_103 : decode cX10_missedBy 103 = .ok (.invokevirtual 303, 3) := by decide +kernel
theorem dX10_missedBy_106 : decode cX10_missedBy 106 = .ok (.aload_n 0, 1) := by decide +kernel
theorem dX10_missedBy_107 : decode cX10_missedBy 107 = .ok (.iload 5, 2) := by decide +kernel
theorem dX10_missedBy_109 : decode cX10_missedBy 109 = .ok (.invokevirtual 375, 3) := by decide +kernel
theorem dX10_missedBy_112 : decode cX10_missedBy 112 = .ok (.ireturn, 1) := by decide +kernel
theorem dX10_missedIdle_0 : decode cX10_missedIdle 0 = .ok (.aload_n 0, 1) := by decide +kernel
theorem dX10_missedIdle_1 : decode cX10_missedIdle 1 = .ok (.iconst 1, 1) := by decide +kernel
theorem dX10_missedIdle_2 : decode cX10_missedIdle 2 = .ok (.iload_n 1, 1) := by decide +kernel
theorem dX10_missedIdle_3 : decode cX10_missedIdle 3 = .ok (.ishl, 1) := by decide +kernel
theorem dX10_missedIdle_4 : decode cX10_missedIdle 4 = .ok (.invokevirtual 369, 3) := by decide +kernel
theorem dX10_missedIdle_7 : decode cX10_missedIdle 7 = .ok (.aload_n 0, 1) := by decide +kernel
theorem dX10_missedIdle_8 : decode cX10_missedIdle 8 = .ok (.getfield 107, 3) := by decide +kernel
theorem dX10_missedIdle_11 : decode cX10_missedIdle 11 = .ok (.iload_n 2, 1) := by decide +kernel
