theorem dX10_missedIdle_12 : decode cX10_missedIdle 12 = .ok (.iconst 0, 1) := by decide +kernel
theorem dX10_missedIdle_13 : decode cX10_missedIdle 13 = .ok (.iastore, 1) := by decide +kernel
theorem dX10_missedIdle_14 : decode cX10_missedIdle 14 = .ok (.aload_n 0, 1) := by decide +kernel
theorem dX10_missedIdle_15 : decode cX10_missedIdle 15 = .ok (.getfield 110, 3) := by decide +kernel
theorem dX10_missedIdle_18 : decode cX10_missedIdle 18 = .ok (.iload_n 2, 1) := by decide +kernel
theorem dX10_missedIdle_19 : decode cX10_missedIdle 19 = .ok (.ldc_w 400, 3) := by decide +kernel
theorem dX10_missedIdle_22 : decode cX10_missedIdle 22 = .ok (.iastore, 1) := by decide +kernel
theorem dX10_missedIdle_23 : decode cX10_missedIdle 23 = .ok (.aload_n 0, 1) := by decide +kernel
theorem dX10_missedIdle_24 : decode cX10_missedIdle 24 = .ok (.iload_n 3, 1) := by decide +kernel
theorem dX10_missedIdle_25 : decode cX10_missedIdle 25 = .ok (.invokevirtual 375, 3) := by decide +kernel
theorem dX10_missedIdle_28 : decode cX10_missedIdle 28 = .ok (.istore 4, 2) := by decide +kernel
theorem dX10_missedIdle_30 : decode cX10_missedIdle 30 = .ok (.aload_n 0, 1) := by decide +kernel
theorem dX10_missedIdle_31 : decode cX10_missedIdle 31 = .ok (.iconst 0, 1) := by decide +kernel
theorem dX10_missedIdle_32 : decode cX10_missedIdle 32 = .ok (.invokevirtual 369, 3) := by decide +kernel
theorem dX10_missedIdle_35 : decode cX10_missedIdle 35 = .ok (.aload_n 0, 1) := by decide +kernel
theorem dX10_missedIdle_36 : decode cX10_missedIdle 36 = .ok (.getfield 107, 3) := by decide +kernel
theorem dX10_missedIdle_39 : decode cX10_missedIdle 39 = .ok (.iload_n 2, 1) := by decide +kernel
theorem dX10_missedIdle_40 : decode cX10_missedIdle 40 = .ok (.iconst 0, 1) := by decide +kernel
theorem dX10_missedIdle_41 : decode cX10_missedIdle 41 = .ok (.iastore, 1) := by decide +kernel
theorem dX10_missedIdle_42 : decode cX10_missedIdle 42 = .ok (.aload_n 0, 1) := by decide +kernel
theorem dX10_missedIdle_43 : decode cX10_missedIdle 43 = .ok (.getfield 110, 3) := by decide +kernel
theorem dX10_missedIdle_46 : decode cX10_missedIdle 46 = .ok (.iload_n 2, 1) := by decide +kernel
theorem dX10_missedIdle_47 : decode cX10_missedIdle 47 = .ok (.ldc_w 400, 3) := by decide +kernel
theorem dX10_missedIdle_50 : decode cX10_missedIdle 50 = .ok (.iastore, 1) := by decide +kernel
theorem dX10_missedIdle_51 : decode cX10_missedIdle 51 = .ok (.iload 4, 2) := by decide +kernel
theorem dX10_missedIdle_53 : decode cX10_missedIdle 53 = .ok (.aload_n 0, 1) := by decide +kernel
theorem dX10_missedIdle_54 : decode cX10_missedIdle 54 = .ok (.iload_n 3, 1) := by decide +kernel
theorem dX10_missedIdle_55 : decode cX10_missedIdle 55 = .ok (.invokevirtual 375, 3) := by decide +kernel
theorem dX10_missedIdle_58 : decode cX10_missedIdle 58 = .ok (.isub, 1) := by decide +kernel
theorem dX10_missedIdle_59 : decode cX10_missedIdle 59 = .ok (.ireturn, 1) := by decide +kernel
theorem dX10_missedWith_0 : decode cX10_missedWith 0 = .ok (.aload_n 0, 1) := by decide +kernel
theorem dX10_missedWith_1 : decode cX10_missedWith 1 = .ok (.iconst 1, 1) := by decide +kernel
theorem dX10_missedWith_2 : decode cX10_missedWith 2 = .ok (.iload_n 1, 1) := by decide +kernel
theorem dX10_missedWith_3 : decode cX10_missedWith 3 = .ok (.ishl, 1) := by decide +kernel
theorem dX10_missedWith_4 : decode cX10_missedWith 4 = .ok (.invokevirtual 369, 3) := by decide +kernel
theorem dX10_missedWith_7 : decode cX10_missedWith 7 = .ok (.aload_n 0, 1) := by decide +kernel
theorem dX10_missedWith_8 : decode cX10_missedWith 8 = .ok (.getfield 116, 3) := by decide +kernel
theorem dX10_missedWith_11 : decode cX10_missedWith 11 = .ok (.iload_n 3, 1) := by decide +kernel
theorem dX10_missedWith_12 : decode cX10_missedWith 12 = .ok (.iload_n 2, 1) := by decide +kernel
theorem dX10_missedWith_13 : decode cX10_missedWith 13 = .ok (.iastore, 1) := by decide +kernel
theorem dX10_missedWith_14 : decode cX10_missedWith 14 = .ok (.aload_n 0, 1) := by decide +kernel
theorem dX10_missedWith_15 : decode cX10_missedWith 15 = .ok (.iload 4, 2) := by decide +kernel
theorem dX10_missedWith_17 : decode cX10_missedWith 17 = .ok (.invokevirtual 375, 3) := by decide +kernel
theorem dX10_missedWith_20 : decode cX10_missedWith 20 = .ok (.istore 5, 2) := by decide +kernel
theorem dX10_missedWith_22 : decode cX10_missedWith 22 = .ok (.aload_n 0, 1) := by decide +kernel
theorem dX10_missedWith_23 : decode cX10_missedWith 23 = .ok (.iconst 0, 1) := by decide +kernel
theorem dX10_missedWith_24 : decode cX10_missedWith 24 = .ok (.invokevirtual 369, 3) := by decide +kernel
theorem dX10_missedWith_27 : decode cX10_missedWith 27 = .ok (.aload_n 0, 1) := by decide +kernel
theorem dX10_missedWith_28 : decode cX10_missedWith 28 = .ok (.getfield 116, 3) := by decide +kernel
theorem dX10_missedWith_31 : decode cX10_missedWith 31 = .ok (.iload_n 3, 1) := by decide +kernel
theorem dX10_missedWith_32 : decode cX10_missedWith 32 = .ok (.iload_n 2, 1) := by decide +kernel
theorem dX10_missedWith_33 : decode cX10_missedWith 33 = .ok (.iastore, 1) := by decide +kernel
theorem dX10_missedWith_34 : decode cX10_missedWith 34 = .ok (.iload 5, 2) := by decide +kernel
theorem dX10_missedWith_36 : decode cX10_missedWith 36 = .ok (.aload_n 0, 1) := by decide +kernel
theorem dX10_missedWith_37 : decode cX10_missedWith 37 = .ok (.iload 4, 2) := by decide +kernel
theorem dX10_missedWith_39 : decode cX10_missedWith 39 = .ok (.invokevirtual 375, 3) := by decide +kernel
theorem dX10_missedWith_42 : decode cX10_missedWith 42 = .ok (.isub, 1) := by decide +kernel
theorem dX10_missedWith_43 : decode cX10_missedWith 43 = .ok (.ireturn, 1) := by decide +kernel
theorem dX10_mustStay_0 : decode cX10_mustStay 0 = .ok (.iload_n 1, 1) := by decide +kernel
theorem dX10_mustStay_1 : decode cX10_mustStay 1 = .ok (.iconst 1, 1) := by decide +kernel
theorem dX10_mustStay_2 : decode cX10_mustStay 2 = .ok (.bipush 20, 2) := by decide +kernel
theorem dX10_mustStay_4 : decode cX10_mustStay 4 = .ok (.invokestatic 157, 3) := by decide +kernel
theorem dX10_mustStay_7 : decode cX10_mustStay 7 = .ok (.ifCond .eq 12, 3) := by decide +kernel
theorem dX10_mustStay_10 : decode cX10_mustStay 10 = .ok (.iload_n 2, 1) := by decide +kernel
theorem dX10_mustStay_11 : decode cX10_mustStay 11 = .ok (.iconst 0, 1) := by decide +kernel
theorem dX10_mustStay_12 : decode cX10_mustStay 12 = .ok (.iconst 1, 1) := by decide +kernel
theorem dX10_mustStay_13 : decode cX10_mustStay 13 = .ok (.invokestatic 157, 3) := by decide +kernel
theorem dX10_mustStay_16 : decode cX10_mustStay 16 = .ok (.ifCond .ne 5, 3) := by decide +kernel
theorem dX10_mustStay_19 : decode cX10_mustStay 19 = .ok (.iconst (-1), 1) := by decide +kernel
theorem dX10_mustStay_20 : decode cX10_mustStay 20 = .ok (.ireturn, 1) := by decide +kernel
theorem dX10_mustStay_21 : decode cX10_mustStay 21 = .ok (.aload_n 0, 1) := by decide +kernel
theorem dX10_mustStay_22 : decode cX10_mustStay 22 = .ok (.invokevirtual 294, 3) := by decide +kernel
theorem dX10_mustStay_25 : decode cX10_mustStay 25 = .ok (.istore_n 3, 1) := by decide +kernel
theorem dX10_mustStay_26 : decode cX10_mustStay 26 = .ok (.iconst (-1), 1) := by decide +kernel
theorem dX10_mustStay_27 : decode cX10_mustStay 27 = .ok (.istore 4, 2) := by decide +kernel
theorem dX10_mustStay_29 : decode cX10_mustStay 29 = .ok (.iconst 0, 1) := by decide +kernel
theorem dX10_mustStay_30 : decode cX10_mustStay 30 = .ok (.istore 5, 2) := by decide +kernel
theorem dX10_mustStay_32 : decode cX10_mustStay 32 = .ok (.iload 5, 2) := by decide +kernel
theorem dX10_mustStay_34 : decode cX10_mustStay 34 = .ok (.sipush 1024, 3) := by decide +kernel
theorem dX10_mustStay_37 : decode cX10_mustStay 37 = .ok (.if_icmp .ge 67, 3) := by decide +kernel
theorem dX10_mustStay_40 : decode cX10_mustStay 40 = .ok (.iload 5, 2) := by decide +kernel
theorem dX10_mustStay_42 : decode cX10_mustStay 42 = .ok (.iload_n 3, 1) := by decide +kernel
theorem dX10_mustStay_43 : decode cX10_mustStay 43 = .ok (.iconst (-1), 1) := by decide +kernel
theorem dX10_mustStay_44 : decode cX10_mustStay 44 = .ok (.ixor, 1) := by decide +kernel
theorem dX10_mustStay_45 : decode cX10_mustStay 45 = .ok (.iand, 1) := by decide +kernel
theorem dX10_mustStay_46 : decode cX10_mustStay 46 = .ok (.ifCond .ne 52, 3) := by decide +kernel
theorem dX10_mustStay_49 : decode cX10_mustStay 49 = .ok (.iload 4, 2) := by decide +kernel
theorem dX10_mustStay_51 : decode cX10_mustStay 51 = .ok (.iconst (-1), 1) := by decide +kernel
theorem dX10_mustStay_52 : decode cX10_mustStay 52 = .ok (.if_icmp .eq 19, 3) := by decide +kernel
theorem dX10_mustStay_55 : decode cX10_mustStay 55 = .ok (.iload 5, 2) := by decide +kernel
theorem dX10_mustStay_57 : decode cX10_mustStay 57 = .ok (.invokestatic 297, 3) := by decide +kernel
theorem dX10_mustStay_60 : decode cX10_mustStay 60 = .ok (.iload 4, 2) := by decide +kernel
theorem dX10_mustStay_62 : decode cX10_mustStay 62 = .ok (.invokestatic 297, 3) := by decide +kernel
theorem dX10_mustStay_65 : decode cX10_mustStay 65 = .ok (.if_icmp .lt 6, 3) := by decide +kernel
theorem dX10_mustStay_68 : decode cX10_mustStay 68 = .ok (.goto 30, 3) := by decide +kernel
theorem dX10_mustStay_71 : decode cX10_mustStay 71 = .ok (.aload_n 0, 1) := by decide +kernel
theorem dX10_mustStay_72 : decode cX10_mustStay 72 = .ok (.iload_n 3, 1) := by decide +kernel
theorem dX10_mustStay_73 : decode cX10_mustStay 73 = .ok (.iload 5, 2) := by decide +kernel
theorem dX10_mustStay_75 : decode cX10_mustStay 75 = .ok (.iconst (-1), 1) := by decide +kernel
theorem dX10_mustStay_76 : decode cX10_mustStay 76 = .ok (.ixor, 1) := by decide +kernel
theorem dX10_mustStay_77 : decode cX10_mustStay 77 = .ok (.iand, 1) := by decide +kernel
theorem dX10_mustStay_78 : decode cX10_mustStay 78 = .ok (.iload_n 1, 1) := by decide +kernel
theorem dX10_mustStay_79 : decode cX10_mustStay 79 = .ok (.invokevirtual 378, 3) := by decide +kernel
theorem dX10_mustStay_82 : decode cX10_mustStay 82 = .ok (.pop, 1) := by decide +kernel
theorem dX10_mustStay_83 : decode cX10_mustStay 83 = .ok (.aload_n 0, 1) := by decide +kernel
theorem dX10_mustStay_84 : decode cX10_mustStay 84 = .ok (.getfield 347, 3) := by decide +kernel
theorem dX10_mustStay_87 : decode cX10_mustStay 87 = .ok (.aload_n 0, 1) := by decide +kernel
theorem dX10_mustStay_88 : decode cX10_mustStay 88 = .ok (.getfield 353, 3) := by decide +kernel
theorem dX10_mustStay_91 : decode cX10_mustStay 91 = .ok (.if_icmp .ne 7, 3) := by decide +kernel
theorem dX10_mustStay_94 : decode cX10_mustStay 94 = .ok (.iload 5, 2) := by decide +kernel
theorem dX10_mustStay_96 : decode cX10_mustStay 96 = .ok (.istore 4, 2) := by decide +kernel
theorem dX10_mustStay_98 : decode cX10_mustStay 98 = .ok (.iinc 5 1, 3) := by decide +kernel
theorem dX10_mustStay_101 : decode cX10_mustStay 101 = .ok (.goto (-69), 3) := by decide +kernel
theorem dX10_mustStay_104 : decode cX10_mustStay 104 = .ok (.iload 4, 2) := by decide +kernel
theorem dX10_mustStay_106 : decode cX10_mustStay 106 = .ok (.iconst (-1), 1) := by decide +kernel
theorem dX10_mustStay_107 : decode cX10_mustStay 107 = .ok (.if_icmp .ne 8, 3) := by decide +kernel
theorem dX10_mustStay_110 : decode cX10_mustStay 110 = .ok (.bipush (-2), 2) := by decide +kernel
theorem dX10_mustStay_112 : decode cX10_mustStay 112 = .ok (.goto 17, 3) := by decide +kernel
theorem dX10_mustStay_115 : decode cX10_mustStay 115 = .ok (.iload_n 2, 1) := by decide +kernel
theorem dX10_mustStay_116 : decode cX10_mustStay 116 = .ok (.ifCond .ne 11, 3) := by decide +kernel
theorem dX10_mustStay_119 : decode cX10_mustStay 119 = .ok (.iload 4, 2) := by decide +kernel
theorem dX10_mustStay_121 : decode cX10_mustStay 121 = .ok (.invokestatic 297, 3) := by decide +kernel
theorem dX10_mustStay_124 : decode cX10_mustStay 124 = .ok (.goto 5, 3) := by decide +kernel
theorem dX10_mustStay_127 : decode cX10_mustStay 127 = .ok (.iload 4, 2) := by decide +kernel
theorem dX10_mustStay_129 : decode cX10_mustStay 129 = .ok (.ireturn, 1) := by decide +kernel
theorem dX10_spoilt_0 : decode cX10_spoilt 0 = .ok (.aload_n 0, 1) := by decide +kernel
theorem dX10_spoilt_1 : decode cX10_spoilt 1 = .ok (.iload_n 1, 1) := by decide +kernel
theorem dX10_spoilt_2 : decode cX10_spoilt 2 = .ok (.invokevirtual 381, 3) := by decide +kernel
theorem dX10_spoilt_5 : decode cX10_spoilt 5 = .ok (.ifCond .eq 29, 3) := by decide +kernel
theorem dX10_spoilt_8 : decode cX10_spoilt 8 = .ok (.iload_n 3, 1) := by decide +kernel
theorem dX10_spoilt_9 : decode cX10_spoilt 9 = .ok (.invokestatic 366, 3) := by decide +kernel
theorem dX10_spoilt_12 : decode cX10_spoilt 12 = .ok (.ifCond .eq 22, 3) := by decide +kernel
theorem dX10_spoilt_15 : decode cX10_spoilt 15 = .ok (.iload_n 1, 1) := by decide +kernel
theorem dX10_spoilt_16 : decode cX10_spoilt 16 = .ok (.iload_n 2, 1) := by decide +kernel
theorem dX10_spoilt_17 : decode cX10_spoilt 17 = .ok (.if_icmp .eq 17, 3) := by decide +kernel
theorem dX10_spoilt_20 : decode cX10_spoilt 20 = .ok (.iload_n 2, 1) := by decide +kernel
theorem dX10_spoilt_21 : decode cX10_spoilt 21 = .ok (.bipush 10, 2) := by decide +kernel
theorem dX10_spoilt_23 : decode cX10_spoilt 23 = .ok (.if_icmp .eq 15, 3) := by decide +kernel
theorem dX10_spoilt_26 : decode cX10_spoilt 26 = .ok (.aload_n 0, 1) := by decide +kernel
theorem dX10_spoilt_27 : decode cX10_spoilt 27 = .ok (.iload_n 2, 1) := by decide +kernel
theorem dX10_spoilt_28 : decode cX10_spoilt 28 = .ok (.invokevirtual 307, 3) := by decide +kernel
theorem dX10_spoilt_31 : decode cX10_spoilt 31 = .ok (.ifCond .ne 7, 3) := by decide +kernel
theorem dX10_spoilt_34 : decode cX10_spoilt 34 = .ok (.ldc_w 384, 3) := by decide +kernel
theorem dX10_spoilt_37 : decode cX10_spoilt 37 = .ok (.ireturn, 1) := by decide +kernel
theorem dX10_spoilt_38 : decode cX10_spoilt 38 = .ok (.aload_n 0, 1) := by decide +kernel
theorem dX10_spoilt_39 : decode cX10_spoilt 39 = .ok (.iconst 1, 1) := by decide +kernel
theorem dX10_spoilt_40 : decode cX10_spoilt 40 = .ok (.iload_n 1, 1) := by decide +kernel
theorem dX10_spoilt_41 : decode cX10_spoilt 41 = .ok (.ishl, 1) := by decide +kernel
theorem dX10_spoilt_42 : decode cX10_spoilt 42 = .ok (.iload_n 3, 1) := by decide +kernel
theorem dX10_spoilt_43 : decode cX10_spoilt 43 = .ok (.invokevirtual 378, 3) := by decide +kernel
theorem dX10_spoilt_46 : decode cX10_spoilt 46 = .ok (.aload_n 0, 1) := by decide +kernel
theorem dX10_spoilt_47 : decode cX10_spoilt 47 = .ok (.iconst 0, 1) := by decide +kernel
theorem dX10_spoilt_48 : decode cX10_spoilt 48 = .ok (.iload_n 3, 1) := by decide +kernel
theorem dX10_spoilt_49 : decode cX10_spoilt 49 = .ok (.invokevirtual 378, 3) := by decide +kernel
theorem dX10_spoilt_52 : decode cX10_spoilt 52 = .ok (.isub, 1) := by decide +kernel
theorem dX10_spoilt_53 : decode cX10_spoilt 53 = .ok (.istore 4, 2) := by decide +kernel
theorem dX10_spoilt_55 : decode cX10_spoilt 55 = .ok (.iload_n 2, 1) := by decide +kernel
theorem dX10_spoilt_56 : decode cX10_spoilt 56 = .ok (.bipush 10, 2) := by decide +kernel
theorem dX10_spoilt_58 : decode cX10_spoilt 58 = .ok (.if_icmp .eq 14, 3) := by decide +kernel
theorem dX10_spoilt_61 : decode cX10_spoilt 61 = .ok (.aload_n 0, 1) := by decide +kernel
theorem dX10_spoilt_62 : decode cX10_spoilt 62 = .ok (.iload_n 1, 1) := by decide +kernel
theorem dX10_spoilt_63 : decode cX10_spoilt 63 = .ok (.iload_n 2, 1) := by decide +kernel
theorem dX10_spoilt_64 : decode cX10_spoilt 64 = .ok (.iload_n 3, 1) := by decide +kernel
theorem dX10_spoilt_65 : decode cX10_spoilt 65 = .ok (.invokevirtual 401, 3) := by decide +kernel
theorem dX10_spoilt_68 : decode cX10_spoilt 68 = .ok (.iload 4, 2) := by decide +kernel
theorem dX10_spoilt_70 : decode cX10_spoilt 70 = .ok (.isub, 1) := by decide +kernel
theorem dX10_spoilt_71 : decode cX10_spoilt 71 = .ok (.ireturn, 1) := by decide +kernel
theorem dX10_spoilt_72 : decode cX10_spoilt 72 = .ok (.bipush (-2), 2) := by decide +kernel
theorem dX10_spoilt_74 : decode cX10_spoilt 74 = .ok (.istore 5, 2) := by decide +kernel
theorem dX10_spoilt_76 : decode cX10_spoilt 76 = .ok (.iconst 0, 1) := by decide +kernel
theorem dX10_spoilt_77 : decode cX10_spoilt 77 = .ok (.istore 6, 2) := by decide +kernel
theorem dX10_spoilt_79 : decode cX10_spoilt 79 = .ok (.iconst 0, 1) := by decide +kernel
theorem dX10_spoilt_80 : decode cX10_spoilt 80 = .ok (.istore 7, 2) := by decide +kernel
theorem dX10_spoilt_82 : decode cX10_spoilt 82 = .ok (.iload 7, 2) := by decide +kernel
theorem dX10_spoilt_84 : decode cX10_spoilt 84 = .ok (.bipush 10, 2) := by decide +kernel
theorem dX10_spoilt_86 : decode cX10_spoilt 86 = .ok (.if_icmp .ge 59, 3) := by decide +kernel
theorem dX10_spoilt_89 : decode cX10_spoilt 89 = .ok (.aload_n 0, 1) := by decide +kernel
theorem dX10_spoilt_90 : decode cX10_spoilt 90 = .ok (.iload 7, 2) := by decide +kernel
theorem dX10_spoilt_92 : decode cX10_spoilt 92 = .ok (.invokevirtual 307, 3) := by decide +kernel
theorem dX10_spoilt_95 : decode cX10_spoilt 95 = .ok (.ifCond .eq 23, 3) := by decide +kernel
theorem dX10_spoilt_98 : decode cX10_spoilt 98 = .ok (.iload 7, 2) := by decide +kernel
theorem dX10_spoilt_100 : decode cX10_spoilt 100 = .ok (.iload_n 1, 1) := by decide +kernel
theorem dX10_spoilt_101 : decode cX10_spoilt 101 = .ok (.if_icmp .eq 17, 3) := by decide +kernel
theorem dX10_spoilt_104 : decode cX10_spoilt 104 = .ok (.aload_n 0, 1) := by decide +kernel
theorem dX10_spoilt_105 : decode cX10_spoilt 105 = .ok (.iload_n 1, 1) := by decide +kernel
theorem dX10_spoilt_106 : decode cX10_spoilt 106 = .ok (.iload 7, 2) := by decide +kernel
theorem dX10_spoilt_108 : decode cX10_spoilt 108 = .ok (.iload_n 3, 1) := by decide +kernel
theorem dX10_spoilt_109 : decode cX10_spoilt 109 = .ok (.invokevirtual 401, 3) := by decide +kernel
theorem dX10_spoilt_112 : decode cX10_spoilt 112 = .ok (.iload 4, 2) := by decide +kernel
theorem dX10_spoilt_114 : decode cX10_spoilt 114 = .ok (.isub, 1) := by decide +kernel
theorem dX10_spoilt_115 : decode cX10_spoilt 115 = .ok (.goto 4, 3) := by decide +kernel
theorem dX10_spoilt_118 : decode cX10_spoilt 118 = .ok (.iconst 0, 1) := by decide +kernel
theorem dX10_spoilt_119 : decode cX10_spoilt 119 = .ok (.istore 8, 2) := by decide +kernel
theorem dX10_spoilt_121 : decode cX10_spoilt 121 = .ok (.iload 8, 2) := by decide +kernel
theorem dX10_spoilt_123 : decode cX10_spoilt 123 = .ok (.iload 6, 2) := by decide +kernel
theorem dX10_spoilt_125 : decode cX10_spoilt 125 = .ok (.if_icmp .gt 6, 3) := by decide +kernel
theorem dX10_spoilt_128 : decode cX10_spoilt 128 = .ok (.goto 11, 3) := by decide +kernel
theorem dX10_spoilt_131 : decode cX10_spoilt 131 = .ok (.iload 8, 2) := by decide +kernel
theorem dX10_spoilt_133 : decode cX10_spoilt 133 = .ok (.istore 6, 2) := by decide +kernel
theorem dX10_spoilt_135 : decode cX10_spoilt 135 = .ok (.iload 7, 2) := by decide +kernel
theorem dX10_spoilt_137 : decode cX10_spoilt 137 = .ok (.istore 5, 2) := by decide +kernel
theorem dX10_spoilt_139 : decode cX10_spoilt 139 = .ok (.iinc 7 1, 3) := by decide +kernel
theorem dX10_spoilt_142 : decode cX10_spoilt 142 = .ok (.goto (-60), 3) := by decide +kernel
theorem dX10_spoilt_145 : decode cX10_spoilt 145 = .ok (.iload 5, 2) := by decide +kernel
theorem dX10_spoilt_147 : decode cX10_spoilt 147 = .ok (.ireturn, 1) := by decide +kernel
theorem dX10_standIn_0 : decode cX10_standIn 0 = .ok (.aload_n 0, 1) := by decide +kernel
theorem dX10_standIn_1 : decode cX10_standIn 1 = .ok (.iload_n 1, 1) := by decide +kernel
theorem dX10_standIn_2 : decode cX10_standIn 2 = .ok (.invokevirtual 381, 3) := by decide +kernel
theorem dX10_standIn_5 : decode cX10_standIn 5 = .ok (.ifCond .eq 45, 3) := by decide +kernel
theorem dX10_standIn_8 : decode cX10_standIn 8 = .ok (.aload_n 0, 1) := by decide +kernel
theorem dX10_standIn_9 : decode cX10_standIn 9 = .ok (.iload_n 2, 1) := by decide +kernel
theorem dX10_standIn_10 : decode cX10_standIn 10 = .ok (.invokevirtual 307, 3) := by decide +kernel
theorem dX10_standIn_13 : decode cX10_standIn 13 = .ok (.ifCond .eq 37, 3) := by decide +kernel
theorem dX10_standIn_16 : decode cX10_standIn 16 = .ok (.iload_n 1, 1) := by decide +kernel
theorem dX10_standIn_17 : decode cX10_standIn 17 = .ok (.iload_n 2, 1) := by decide +kernel
theorem dX10_standIn_18 : decode cX10_standIn 18 = .ok (.if_icmp .eq 32, 3) := by decide +kernel
theorem dX10_standIn_21 : decode cX10_standIn 21 = .ok (.iload 4, 2) := by decide +kernel
theorem dX10_standIn_23 : decode cX10_standIn 23 = .ok (.invokestatic 366, 3) := by decide +kernel
theorem dX10_standIn_26 : decode cX10_standIn 26 = .ok (.ifCond .eq 24, 3) := by decide +kernel
theorem dX10_standIn_29 : decode cX10_standIn 29 = .ok (.iload_n 3, 1) := by decide +kernel
theorem dX10_standIn_30 : decode cX10_standIn 30 = .ok (.bipush 12, 2) := by decide +kernel
theorem dX10_standIn_32 : decode cX10_standIn 32 = .ok (.if_icmp .eq 11, 3) := by decide +kernel
theorem dX10_standIn_35 : decode cX10_standIn 35 = .ok (.aload_n 0, 1) := by decide +kernel
theorem dX10_standIn_36 : decode cX10_standIn 36 = .ok (.iload_n 3, 1) := by decide +kernel
theorem dX10_standIn_37 : decode cX10_standIn 37 = .ok (.invokevirtual 331, 3) := by decide +kernel
theorem dX10_standIn_40 : decode cX10_standIn 40 = .ok (.ifCond .eq 10, 3) := by decide +kernel
theorem dX10_standIn_43 : decode cX10_standIn 43 = .ok (.aload_n 0, 1) := by decide +kernel
theorem dX10_standIn_44 : decode cX10_standIn 44 = .ok (.getfield 154, 3) := by decide +kernel
theorem dX10_standIn_47 : decode cX10_standIn 47 = .ok (.ifCond .ne 7, 3) := by decide +kernel
theorem dX10_standIn_50 : decode cX10_standIn 50 = .ok (.ldc_w 384, 3) := by decide +kernel
theorem dX10_standIn_53 : decode cX10_standIn 53 = .ok (.ireturn, 1) := by decide +kernel
theorem dX10_standIn_54 : decode cX10_standIn 54 = .ok (.aload_n 0, 1) := by decide +kernel
theorem dX10_standIn_55 : decode cX10_standIn 55 = .ok (.iconst 1, 1) := by decide +kernel
theorem dX10_standIn_56 : decode cX10_standIn 56 = .ok (.iload_n 1, 1) := by decide +kernel
theorem dX10_standIn_57 : decode cX10_standIn 57 = .ok (.ishl, 1) := by decide +kernel
theorem dX10_standIn_58 : decode cX10_standIn 58 = .ok (.iload 4, 2) := by decide +kernel
theorem dX10_standIn_60 : decode cX10_standIn 60 = .ok (.invokevirtual 378, 3) := by decide +kernel
theorem dX10_standIn_63 : decode cX10_standIn 63 = .ok (.aload_n 0, 1) := by decide +kernel
theorem dX10_standIn_64 : decode cX10_standIn 64 = .ok (.iconst 0, 1) := by decide +kernel
theorem dX10_standIn_65 : decode cX10_standIn 65 = .ok (.iload 4, 2) := by decide +kernel
theorem dX10_standIn_67 : decode cX10_standIn 67 = .ok (.invokevirtual 378, 3) := by decide +kernel
theorem dX10_standIn_70 : decode cX10_standIn 70 = .ok (.isub, 1) := by decide +kernel
theorem dX10_standIn_71 : decode cX10_standIn 71 = .ok (.istore 5, 2) := by decide +kernel
theorem dX10_standIn_73 : decode cX10_standIn 73 = .ok (.iload_n 3, 1) := by decide +kernel
theorem dX10_standIn_74 : decode cX10_standIn 74 = .ok (.bipush 12, 2) := by decide +kernel
theorem dX10_standIn_76 : decode cX10_standIn 76 = .ok (.if_icmp .eq 16, 3) := by decide +kernel
theorem dX10_standIn_79 : decode cX10_standIn 79 = .ok (.iload 5, 2) := by decide +kernel
theorem dX10_standIn_81 : decode cX10_standIn 81 = .ok (.aload_n 0, 1) := by decide +kernel
theorem dX10_standIn_82 : decode cX10_standIn 82 = .ok (.iload_n 1, 1) := by decide +kernel
theorem dX10_standIn_83 : decode cX10_standIn 83 = .ok (.iload_n 2, 1) := by decide +kernel
theorem dX10_standIn_84 : decode cX10_standIn 84 = .ok (.iload_n 3, 1) := by decide +kernel
theorem dX10_standIn_85 : decode cX10_standIn 85 = .ok (.iload 4, 2) := by decide +kernel
theorem dX10_standIn_87 : decode cX10_standIn 87 = .ok (.invokevirtual 421, 3) := by decide +kernel
theorem dX10_standIn_90 : decode cX10_standIn 90 = .ok (.isub, 1) := by decide +kernel
theorem dX10_standIn_91 : decode cX10_standIn 91 = .ok (.ireturn, 1) := by decide +kernel
theorem dX10_standIn_92 : decode cX10_standIn 92 = .ok (.iconst (-1), 1) := by decide +kernel
theorem dX10_standIn_93 : decode cX10_standIn 93 = .ok (.istore 6, 2) := by decide +kernel
theorem dX10_standIn_95 : decode cX10_standIn 95 = .ok (.iconst 0, 1) := by decide +kernel
theorem dX10_standIn_96 : decode cX10_standIn 96 = .ok (.istore 7, 2) := by decide +kernel
theorem dX10_standIn_98 : decode cX10_standIn 98 = .ok (.iconst 0, 1) := by decide +kernel
theorem dX10_standIn_99 : decode cX10_standIn 99 = .ok (.istore 8, 2) := by decide +kernel
theorem dX10_standIn_101 : decode cX10_standIn 101 = .ok (.iload 8, 2) := by decide +kernel
theorem dX10_standIn_103 : decode cX10_standIn 103 = .ok (.bipush 12, 2) := by decide +kernel
theorem dX10_standIn_105 : decode cX10_standIn 105 = .ok (.if_icmp .ge 60, 3) := by decide +kernel
theorem dX10_standIn_108 : decode cX10_standIn 108 = .ok (.aload_n 0, 1) := by decide +kernel
theorem dX10_standIn_109 : decode cX10_standIn 109 = .ok (.iload 8, 2) := by decide +kernel
theorem dX10_standIn_111 : decode cX10_standIn 111 = .ok (.invokevirtual 331, 3) := by decide +kernel
theorem dX10_standIn_114 : decode cX10_standIn 114 = .ok (.ifCond .ne 6, 3) := by decide +kernel
theorem dX10_standIn_117 : decode cX10_standIn 117 = .ok (.goto 42, 3) := by decide +kernel
theorem dX10_standIn_120 : decode cX10_standIn 120 = .ok (.iload 5, 2) := by decide +kernel
theorem dX10_standIn_122 : decode cX10_standIn 122 = .ok (.aload_n 0, 1) := by decide +kernel
theorem dX10_standIn_123 : decode cX10_standIn 123 = .ok (.iload_n 1, 1) := by decide +kernel
theorem dX10_standIn_124 : decode cX10_standIn 124 = .ok (.iload_n 2, 1) := by decide +kernel
theorem dX10_standIn_125 : decode cX10_standIn 125 = .ok (.iload 8, 2) := by decide +kernel
theorem dX10_standIn_127 : decode cX10_standIn 127 = .ok (.iload 4, 2) := by decide +kernel
theorem dX10_standIn_129 : decode cX10_standIn 129 = .ok (.invokevirtual 421, 3) := by decide +kernel
theorem dX10_standIn_132 : decode cX10_standIn 132 = .ok (.isub, 1) := by decide +kernel
theorem dX10_standIn_133 : decode cX10_standIn 133 = .ok (.istore 9, 2) := by decide +kernel
theorem dX10_standIn_135 : decode cX10_standIn 135 = .ok (.iload 6, 2) := by decide +kernel
theorem dX10_standIn_137 : decode cX10_standIn 137 = .ok (.iconst (-1), 1) := by decide +kernel
theorem dX10_standIn_138 : decode cX10_standIn 138 = .ok (.if_icmp .eq 13, 3) := by decide +kernel
theorem dX10_standIn_141 : decode cX10_standIn 141 = .ok (.iload 9, 2) := by decide +kernel
theorem dX10_standIn_143 : decode cX10_standIn 143 = .ok (.iload 7, 2) := by decide +kernel
theorem dX10_standIn_145 : decode cX10_standIn 145 = .ok (.if_icmp .gt 6, 3) := by decide +kernel
theorem dX10_standIn_148 : decode cX10_standIn 148 = .ok (.goto 11, 3) := by decide +kernel
theorem dX10_standIn_151 : decode cX10_standIn 151 = .ok (.iload 9, 2) := by decide +kernel
theorem dX10_standIn_153 : decode cX10_standIn 153 = .ok (.istore 7, 2) := by decide +kernel
theorem dX10_standIn_155 : decode cX10_standIn 155 = .ok (.iload 8, 2) := by decide +kernel
theorem dX10_standIn_157 : decode cX10_standIn 157 = .ok (.istore 6, 2) := by decide +kernel
theorem dX10_standIn_159 : decode cX10_standIn 159 = .ok (.iinc 8 1, 3) := by decide +kernel
theorem dX10_standIn_162 : decode cX10_standIn 162 = .ok (.goto (-61), 3) := by decide +kernel
theorem dX10_standIn_165 : decode cX10_standIn 165 = .ok (.iload 6, 2) := by decide +kernel
theorem dX10_standIn_167 : decode cX10_standIn 167 = .ok (.ireturn, 1) := by decide +kernel
theorem dX10_when_0 : decode cX10_when 0 = .ok (.aload_n 0, 1) := by decide +kernel
theorem dX10_when_1 : decode cX10_when 1 = .ok (.iload_n 1, 1) := by decide +kernel
theorem dX10_when_2 : decode cX10_when 2 = .ok (.invokevirtual 307, 3) := by decide +kernel
theorem dX10_when_5 : decode cX10_when 5 = .ok (.ifCond .eq 33, 3) := by decide +kernel
theorem dX10_when_8 : decode cX10_when 8 = .ok (.iload_n 2, 1) := by decide +kernel
theorem dX10_when_9 : decode cX10_when 9 = .ok (.iconst 1, 1) := by decide +kernel
theorem dX10_when_10 : decode cX10_when 10 = .ok (.bipush 20, 2) := by decide +kernel
theorem dX10_when_12 : decode cX10_when 12 = .ok (.invokestatic 157, 3) := by decide +kernel
theorem dX10_when_15 : decode cX10_when 15 = .ok (.ifCond .eq 23, 3) := by decide +kernel
theorem dX10_when_18 : decode cX10_when 18 = .ok (.iload_n 3, 1) := by decide +kernel
theorem dX10_when_19 : decode cX10_when 19 = .ok (.iconst 1, 1) := by decide +kernel
theorem dX10_when_20 : decode cX10_when 20 = .ok (.bipush 30, 2) := by decide +kernel
theorem dX10_when_22 : decode cX10_when 22 = .ok (.invokestatic 157, 3) := by decide +kernel
theorem dX10_when_25 : decode cX10_when 25 = .ok (.ifCond .eq 13, 3) := by decide +kernel
theorem dX10_when_28 : decode cX10_when 28 = .ok (.iload 4, 2) := by decide +kernel
theorem dX10_when_30 : decode cX10_when 30 = .ok (.iconst 0, 1) := by decide +kernel
theorem dX10_when_31 : decode cX10_when 31 = .ok (.iconst 1, 1) := by decide +kernel
theorem dX10_when_32 : decode cX10_when 32 = .ok (.invokestatic 157, 3) := by decide +kernel
theorem dX10_when_35 : decode cX10_when 35 = .ok (.ifCond .ne 7, 3) := by decide +kernel
theorem dX10_when_38 : decode cX10_when 38 = .ok (.ldc_w 384, 3) := by decide +kernel
theorem dX10_when_41 : decode cX10_when 41 = .ok (.ireturn, 1) := by decide +kernel
theorem dX10_when_42 : decode cX10_when 42 = .ok (.aload_n 0, 1) := by decide +kernel
theorem dX10_when_43 : decode cX10_when 43 = .ok (.sipush 1023, 3) := by decide +kernel
theorem dX10_when_46 : decode cX10_when 46 = .ok (.iconst 1, 1) := by decide +kernel
theorem dX10_when_47 : decode cX10_when 47 = .ok (.iload_n 1, 1) := by decide +kernel
theorem dX10_when_48 : decode cX10_when 48 = .ok (.ishl, 1) := by decide +kernel
theorem dX10_when_49 : decode cX10_when 49 = .ok (.iconst (-1), 1) := by decide +kernel
theorem dX10_when_50 : decode cX10_when 50 = .ok (.ixor, 1) := by decide +kernel
theorem dX10_when_51 : decode cX10_when 51 = .ok (.iand, 1) := by decide +kernel
theorem dX10_when_52 : decode cX10_when 52 = .ok (.iload_n 3, 1) := by decide +kernel
theorem dX10_when_53 : decode cX10_when 53 = .ok (.iload_n 2, 1) := by decide +kernel
theorem dX10_when_54 : decode cX10_when 54 = .ok (.iadd, 1) := by decide +kernel
theorem dX10_when_55 : decode cX10_when 55 = .ok (.invokevirtual 378, 3) := by decide +kernel
theorem dX10_when_58 : decode cX10_when 58 = .ok (.istore 5, 2) := by decide +kernel
theorem dX10_when_60 : decode cX10_when 60 = .ok (.iconst (-1), 1) := by decide +kernel
theorem dX10_when_61 : decode cX10_when 61 = .ok (.istore 6, 2) := by decide +kernel
theorem dX10_when_63 : decode cX10_when 63 = .ok (.iconst 0, 1) := by decide +kernel
theorem dX10_when_64 : decode cX10_when 64 = .ok (.istore 7, 2) := by decide +kernel
theorem dX10_when_66 : decode cX10_when 66 = .ok (.iconst 0, 1) := by decide +kernel
theorem dX10_when_67 : decode cX10_when 67 = .ok (.istore 8, 2) := by decide +kernel
theorem dX10_when_69 : decode cX10_when 69 = .ok (.iload 8, 2) := by decide +kernel
theorem dX10_when_71 : decode cX10_when 71 = .ok (.iload_n 3, 1) := by decide +kernel
theorem dX10_when_72 : decode cX10_when 72 = .ok (.if_icmp .ge 78, 3) := by decide +kernel
theorem dX10_when_75 : decode cX10_when 75 = .ok (.aload_n 0, 1) := by decide +kernel
theorem dX10_when_76 : decode cX10_when 76 = .ok (.sipush 1023, 3) := by decide +kernel
theorem dX10_when_79 : decode cX10_when 79 = .ok (.invokevirtual 369, 3) := by decide +kernel
theorem dX10_when_82 : decode cX10_when 82 = .ok (.aload_n 0, 1) := by decide +kernel
theorem dX10_when_83 : decode cX10_when 83 = .ok (.iload_n 1, 1) := by decide +kernel
theorem dX10_when_84 : decode cX10_when 84 = .ok (.aload_n 0, 1) := by decide +kernel
theorem dX10_when_85 : decode cX10_when 85 = .ok (.getfield 7, 3) := by decide +kernel
theorem dX10_when_88 : decode cX10_when 88 = .ok (.bipush 13, 2) := by decide +kernel
theorem dX10_when_90 : decode cX10_when 90 = .ok (.iaload, 1) := by decide +kernel
theorem dX10_when_91 : decode cX10_when 91 = .ok (.iload 8, 2) := by decide +kernel
theorem dX10_when_93 : decode cX10_when 93 = .ok (.iadd, 1) := by decide +kernel
theorem dX10_when_94 : decode cX10_when 94 = .ok (.aload_n 0, 1) := by decide +kernel
theorem dX10_when_95 : decode cX10_when 95 = .ok (.getfield 7, 3) := by decide +kernel
theorem dX10_when_98 : decode cX10_when 98 = .ok (.bipush 13, 2) := by decide +kernel
theorem dX10_when_100 : decode cX10_when 100 = .ok (.iaload, 1) := by decide +kernel
theorem dX10_when_101 : decode cX10_when 101 = .ok (.iload 8, 2) := by decide +kernel
theorem dX10_when_103 : decode cX10_when 103 = .ok (.iadd, 1) := by decide +kernel
theorem dX10_when_104 : decode cX10_when 104 = .ok (.iload_n 2, 1) := by decide +kernel
theorem dX10_when_105 : decode cX10_when 105 = .ok (.iadd, 1) := by decide +kernel
theorem dX10_when_106 : decode cX10_when 106 = .ok (.iconst 1, 1) := by decide +kernel
theorem dX10_when_107 : decode cX10_when 107 = .ok (.isub, 1) := by decide +kernel
theorem dX10_when_108 : decode cX10_when 108 = .ok (.invokevirtual 303, 3) := by decide +kernel
theorem dX10_when_111 : decode cX10_when 111 = .ok (.aload_n 0, 1) := by decide +kernel
theorem dX10_when_112 : decode cX10_when 112 = .ok (.iload_n 3, 1) := by decide +kernel
theorem dX10_when_113 : decode cX10_when 113 = .ok (.iload_n 2, 1) := by decide +kernel
theorem dX10_when_114 : decode cX10_when 114 = .ok (.iadd, 1) := by decide +kernel
theorem dX10_when_115 : decode cX10_when 115 = .ok (.invokevirtual 375, 3) := by decide +kernel
theorem dX10_when_118 : decode cX10_when 118 = .ok (.istore 9, 2) := by decide +kernel
theorem dX10_when_120 : decode cX10_when 120 = .ok (.iload 6, 2) := by decide +kernel
theorem dX10_when_122 : decode cX10_when 122 = .ok (.iconst (-1), 1) := by decide +kernel
theorem dX10_when_123 : decode cX10_when 123 = .ok (.if_icmp .eq 13, 3) := by decide +kernel
theorem dX10_when_126 : decode cX10_when 126 = .ok (.iload 9, 2) := by decide +kernel
theorem dX10_when_128 : decode cX10_when 128 = .ok (.iload 7, 2) := by decide +kernel
theorem dX10_when_130 : decode cX10_when 130 = .ok (.if_icmp .gt 6, 3) := by decide +kernel
theorem dX10_when_133 : decode cX10_when 133 = .ok (.goto 11, 3) := by decide +kernel
theorem dX10_when_136 : decode cX10_when 136 = .ok (.iload 9, 2) := by decide +kernel
theorem dX10_when_138 : decode cX10_when 138 = .ok (.istore 7, 2) := by decide +kernel
theorem dX10_when_140 : decode cX10_when 140 = .ok (.iload 8, 2) := by decide +kernel
theorem dX10_when_142 : decode cX10_when 142 = .ok (.istore 6, 2) := by decide +kernel
theorem dX10_when_144 : decode cX10_when 144 = .ok (.iinc 8 1, 3) := by decide +kernel
theorem dX10_when_147 : decode cX10_when 147 = .ok (.goto (-78), 3) := by decide +kernel
theorem dX10_when_150 : decode cX10_when 150 = .ok (.iload 4, 2) := by decide +kernel
theorem dX10_when_152 : decode cX10_when 152 = .ok (.ifCond .ne 16, 3) := by decide +kernel
theorem dX10_when_155 : decode cX10_when 155 = .ok (.aload_n 0, 1) := by decide +kernel
theorem dX10_when_156 : decode cX10_when 156 = .ok (.getfield 7, 3) := by decide +kernel
theorem dX10_when_159 : decode cX10_when 159 = .ok (.bipush 13, 2) := by decide +kernel
theorem dX10_when_161 : decode cX10_when 161 = .ok (.iaload, 1) := by decide +kernel
theorem dX10_when_162 : decode cX10_when 162 = .ok (.iload 6, 2) := by decide +kernel
theorem dX10_when_164 : decode cX10_when 164 = .ok (.iadd, 1) := by decide +kernel
theorem dX10_when_165 : decode cX10_when 165 = .ok (.goto 8, 3) := by decide +kernel
theorem dX10_when_168 : decode cX10_when 168 = .ok (.iload 7, 2) := by decide +kernel
theorem dX10_when_170 : decode cX10_when 170 = .ok (.iload 5, 2) := by decide +kernel
theorem dX10_when_172 : decode cX10_when 172 = .ok (.isub, 1) := by decide +kernel
theorem dX10_when_173 : decode cX10_when 173 = .ok (.ireturn, 1) := by decide +kernel
