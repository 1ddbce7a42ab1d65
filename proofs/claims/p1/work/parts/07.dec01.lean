theorem dX10_feels_21 : decode cX10_feels 21 = .ok (.aload_n 0, 1) := by decide +kernel
theorem dX10_feels_22 : decode cX10_feels 22 = .ok (.getfield 83, 3) := by decide +kernel
theorem dX10_feels_25 : decode cX10_feels 25 = .ok (.iconst 3, 1) := by decide +kernel
theorem dX10_feels_26 : decode cX10_feels 26 = .ok (.aload_n 0, 1) := by decide +kernel
theorem dX10_feels_27 : decode cX10_feels 27 = .ok (.getfield 7, 3) := by decide +kernel
theorem dX10_feels_30 : decode cX10_feels 30 = .ok (.bipush 13, 2) := by decide +kernel
theorem dX10_feels_32 : decode cX10_feels 32 = .ok (.iaload, 1) := by decide +kernel
theorem dX10_feels_33 : decode cX10_feels 33 = .ok (.iastore, 1) := by decide +kernel
theorem dX10_feels_34 : decode cX10_feels 34 = .ok (.aload_n 0, 1) := by decide +kernel
theorem dX10_feels_35 : decode cX10_feels 35 = .ok (.getfield 83, 3) := by decide +kernel
theorem dX10_feels_38 : decode cX10_feels 38 = .ok (.iconst 4, 1) := by decide +kernel
theorem dX10_feels_39 : decode cX10_feels 39 = .ok (.aload_n 0, 1) := by decide +kernel
theorem dX10_feels_40 : decode cX10_feels 40 = .ok (.getfield 7, 3) := by decide +kernel
theorem dX10_feels_43 : decode cX10_feels 43 = .ok (.bipush 13, 2) := by decide +kernel
theorem dX10_feels_45 : decode cX10_feels 45 = .ok (.iaload, 1) := by decide +kernel
theorem dX10_feels_46 : decode cX10_feels 46 = .ok (.bipush 7, 2) := by decide +kernel
theorem dX10_feels_48 : decode cX10_feels 48 = .ok (.irem, 1) := by decide +kernel
theorem dX10_feels_49 : decode cX10_feels 49 = .ok (.iastore, 1) := by decide +kernel
theorem dX10_feels_50 : decode cX10_feels 50 = .ok (.aload_n 0, 1) := by decide +kernel
theorem dX10_feels_51 : decode cX10_feels 51 = .ok (.getfield 83, 3) := by decide +kernel
theorem dX10_feels_54 : decode cX10_feels 54 = .ok (.iconst 5, 1) := by decide +kernel
theorem dX10_feels_55 : decode cX10_feels 55 = .ok (.iload_n 1, 1) := by decide +kernel
theorem dX10_feels_56 : decode cX10_feels 56 = .ok (.ifCond .eq 7, 3) := by decide +kernel
theorem dX10_feels_63 : decode cX10_feels 63 = .ok (.iconst 0, 1) := by decide +kernel
theorem dX10_feels_64 : decode cX10_feels 64 = .ok (.iastore, 1) := by decide +kernel
theorem dX10_feels_65 : decode cX10_feels 65 = .ok (.aload_n 0, 1) := by decide +kernel
theorem dX10_feels_66 : decode cX10_feels 66 = .ok (.getfield 83, 3) := by decide +kernel
theorem dX10_feels_69 : decode cX10_feels 69 = .ok (.bipush 6, 2) := by decide +kernel
theorem dX10_feels_71 : decode cX10_feels 71 = .ok (.aload_n 0, 1) := by decide +kernel
theorem dX10_feels_72 : decode cX10_feels 72 = .ok (.aload_n 0, 1) := by decide +kernel
theorem dX10_feels_73 : decode cX10_feels 73 = .ok (.getfield 7, 3) := by decide +kernel
theorem dX10_feels_76 : decode cX10_feels 76 = .ok (.bipush 13, 2) := by decide +kernel
theorem dX10_feels_78 : decode cX10_feels 78 = .ok (.iaload, 1) := by decide +kernel
theorem dX10_feels_79 : decode cX10_feels 79 = .ok (.invokevirtual 313, 3) := by decide +kernel
theorem dX10_feels_82 : decode cX10_feels 82 = .ok (.invokestatic 297, 3) := by decide +kernel
theorem dX10_feels_85 : decode cX10_feels 85 = .ok (.iastore, 1) := by decide +kernel
theorem dX10_feels_86 : decode cX10_feels 86 = .ok (.return_, 1) := by decide +kernel
theorem dX10_firstDoer_0 : decode cX10_firstDoer 0 = .ok (.aload_n 0, 1) := by decide +kernel
theorem dX10_firstDoer_1 : decode cX10_firstDoer 1 = .ok (.iload_n 1, 1) := by decide +kernel
theorem dX10_firstDoer_2 : decode cX10_firstDoer 2 = .ok (.invokevirtual 331, 3) := by decide +kernel
theorem dX10_firstDoer_5 : decode cX10_firstDoer 5 = .ok (.ifCond .eq 19, 3) := by decide +kernel
theorem dX10_firstDoer_24 : decode cX10_firstDoer 24 = .ok (.iconst (-1), 1) := by decide +kernel
theorem dX10_firstDoer_25 : decode cX10_firstDoer 25 = .ok (.ireturn, 1) := by decide +kernel
theorem dX10_halfDone_0 : decode cX10_halfDone 0 = .ok (.aload_n 0, 1) := by decide +kernel
theorem dX10_halfDone_1 : decode cX10_halfDone 1 = .ok (.iload_n 1, 1) := by decide +kernel
theorem dX10_halfDone_2 : decode cX10_halfDone 2 = .ok (.invokevirtual 381, 3) := by decide +kernel
theorem dX10_halfDone_5 : decode cX10_halfDone 5 = .ok (.ifCond .eq 13, 3) := by decide +kernel
theorem dX10_halfDone_18 : decode cX10_halfDone 18 = .ok (.ldc_w 384, 3) := by decide +kernel
theorem dX10_halfDone_21 : decode cX10_halfDone 21 = .ok (.ireturn, 1) := by decide +kernel
theorem dX10_has_0 : decode cX10_has 0 = .ok (.iload_n 0, 1) := by decide +kernel
theorem dX10_has_1 : decode cX10_has 1 = .ok (.iload_n 1, 1) := by decide +kernel
theorem dX10_has_2 : decode cX10_has 2 = .ok (.ishr, 1) := by decide +kernel
theorem dX10_has_3 : decode cX10_has 3 = .ok (.iconst 1, 1) := by decide +kernel
theorem dX10_has_4 : decode cX10_has 4 = .ok (.iand, 1) := by decide +kernel
theorem dX10_has_5 : decode cX10_has 5 = .ok (.iconst 1, 1) := by decide +kernel
theorem dX10_has_6 : decode cX10_has 6 = .ok (.if_icmp .ne 7, 3) := by decide +kernel
theorem dX10_has_9 : decode cX10_has 9 = .ok (.iconst 1, 1) := by decide +kernel
theorem dX10_has_10 : decode cX10_has 10 = .ok (.goto 4, 3) := by decide +kernel
theorem dX10_has_13 : decode cX10_has 13 = .ok (.iconst 0, 1) := by decide +kernel
theorem dX10_has_14 : decode cX10_has 14 = .ok (.ireturn, 1) := by decide +kernel
theorem dX10_hasLeave_0 : decode cX10_hasLeave 0 = .ok (.aload_n 0, 1) := by decide +kernel
theorem dX10_hasLeave_1 : decode cX10_hasLeave 1 = .ok (.getfield 28, 3) := by decide +kernel
theorem dX10_hasLeave_4 : decode cX10_hasLeave 4 = .ok (.iload_n 1, 1) := by decide +kernel
theorem dX10_hasLeave_5 : decode cX10_hasLeave 5 = .ok (.iaload, 1) := by decide +kernel
theorem dX10_hasLeave_6 : decode cX10_hasLeave 6 = .ok (.bipush (-2), 2) := by decide +kernel
theorem dX10_hasLeave_8 : decode cX10_hasLeave 8 = .ok (.if_icmp .eq 7, 3) := by decide +kernel
theorem dX10_hasLeave_15 : decode cX10_hasLeave 15 = .ok (.iconst 0, 1) := by decide +kernel
theorem dX10_hasLeave_16 : decode cX10_hasLeave 16 = .ok (.ireturn, 1) := by decide +kernel
theorem dX10_hired_0 : decode cX10_hired 0 = .ok (.iload_n 1, 1) := by decide +kernel
theorem dX10_hired_1 : decode cX10_hired 1 = .ok (.iconst 1, 1) := by decide +kernel
theorem dX10_hired_2 : decode cX10_hired 2 = .ok (.bipush 9, 2) := by decide +kernel
theorem dX10_hired_4 : decode cX10_hired 4 = .ok (.invokestatic 157, 3) := by decide +kernel
theorem dX10_hired_7 : decode cX10_hired 7 = .ok (.ifCond .eq 40, 3) := by decide +kernel
theorem dX10_hired_10 : decode cX10_hired 10 = .ok (.iload_n 2, 1) := by decide +kernel
theorem dX10_hired_11 : decode cX10_hired 11 = .ok (.iconst 1, 1) := by decide +kernel
theorem dX10_hired_12 : decode cX10_hired 12 = .ok (.sipush 1023, 3) := by decide +kernel
theorem dX10_hired_15 : decode cX10_hired 15 = .ok (.invokestatic 157, 3) := by decide +kernel
theorem dX10_hired_18 : decode cX10_hired 18 = .ok (.ifCond .eq 29, 3) := by decide +kernel
theorem dX10_hired_21 : decode cX10_hired 21 = .ok (.iload_n 2, 1) := by decide +kernel
theorem dX10_hired_22 : decode cX10_hired 22 = .ok (.aload_n 0, 1) := by decide +kernel
theorem dX10_hired_23 : decode cX10_hired 23 = .ok (.getfield 146, 3) := by decide +kernel
theorem dX10_hired_26 : decode cX10_hired 26 = .ok (.iconst (-1), 1) := by decide +kernel
theorem dX10_hired_27 : decode cX10_hired 27 = .ok (.ixor, 1) := by decide +kernel
theorem dX10_hired_28 : decode cX10_hired 28 = .ok (.iand, 1) := by decide +kernel
theorem dX10_hired_29 : decode cX10_hired 29 = .ok (.ifCond .ne 18, 3) := by decide +kernel
theorem dX10_hired_47 : decode cX10_hired 47 = .ok (.iconst (-1), 1) := by decide +kernel
theorem dX10_hired_48 : decode cX10_hired 48 = .ok (.ireturn, 1) := by decide +kernel
theorem dX10_holds_0 : decode cX10_holds 0 = .ok (.iload_n 1, 1) := by decide +kernel
theorem dX10_holds_1 : decode cX10_holds 1 = .ok (.iconst 1, 1) := by decide +kernel
theorem dX10_holds_2 : decode cX10_holds 2 = .ok (.bipush 20, 2) := by decide +kernel
theorem dX10_holds_4 : decode cX10_holds 4 = .ok (.invokestatic 157, 3) := by decide +kernel
theorem dX10_holds_7 : decode cX10_holds 7 = .ok (.ifCond .eq 23, 3) := by decide +kernel
theorem dX10_holds_10 : decode cX10_holds 10 = .ok (.iload_n 2, 1) := by decide +kernel
theorem dX10_holds_11 : decode cX10_holds 11 = .ok (.iconst 0, 1) := by decide +kernel
theorem dX10_holds_12 : decode cX10_holds 12 = .ok (.ldc_w 417, 3) := by decide +kernel
theorem dX10_holds_15 : decode cX10_holds 15 = .ok (.invokestatic 157, 3) := by decide +kernel
theorem dX10_holds_18 : decode cX10_holds 18 = .ok (.ifCond .eq 12, 3) := by decide +kernel
theorem dX10_holds_21 : decode cX10_holds 21 = .ok (.iload_n 3, 1) := by decide +kernel
theorem dX10_holds_22 : decode cX10_holds 22 = .ok (.iconst 0, 1) := by decide +kernel
theorem dX10_holds_23 : decode cX10_holds 23 = .ok (.iconst 1, 1) := by decide +kernel
theorem dX10_holds_24 : decode cX10_holds 24 = .ok (.invokestatic 157, 3) := by decide +kernel
theorem dX10_holds_27 : decode cX10_holds 27 = .ok (.ifCond .ne 5, 3) := by decide +kernel
theorem dX10_holds_30 : decode cX10_holds 30 = .ok (.iconst (-1), 1) := by decide +kernel
theorem dX10_holds_31 : decode cX10_holds 31 = .ok (.ireturn, 1) := by decide +kernel
theorem dX10_holds_32 : decode cX10_holds 32 = .ok (.aload_n 0, 1) := by decide +kernel
theorem dX10_holds_33 : decode cX10_holds 33 = .ok (.iconst 0, 1) := by decide +kernel
theorem dX10_holds_34 : decode cX10_holds 34 = .ok (.iload_n 1, 1) := by decide +kernel
theorem dX10_holds_35 : decode cX10_holds 35 = .ok (.invokevirtual 418, 3) := by decide +kernel
theorem dX10_holds_38 : decode cX10_holds 38 = .ok (.istore 4, 2) := by decide +kernel
theorem dX10_holds_40 : decode cX10_holds 40 = .ok (.iconst (-1), 1) := by decide +kernel
theorem dX10_holds_41 : decode cX10_holds 41 = .ok (.istore 5, 2) := by decide +kernel
theorem dX10_holds_43 : decode cX10_holds 43 = .ok (.iconst 0, 1) := by decide +kernel
theorem dX10_holds_44 : decode cX10_holds 44 = .ok (.istore 6, 2) := by decide +kernel
theorem dX10_holds_46 : decode cX10_holds 46 = .ok (.iload 6, 2) := by decide +kernel
theorem dX10_holds_48 : decode cX10_holds 48 = .ok (.sipush 1024, 3) := by decide +kernel
theorem dX10_holds_51 : decode cX10_holds 51 = .ok (.if_icmp .ge 61, 3) := by decide +kernel
theorem dX10_holds_54 : decode cX10_holds 54 = .ok (.iload 6, 2) := by decide +kernel
theorem dX10_holds_56 : decode cX10_holds 56 = .ok (.aload_n 0, 1) := by decide +kernel
theorem dX10_holds_57 : decode cX10_holds 57 = .ok (.getfield 146, 3) := by decide +kernel
theorem dX10_holds_60 : decode cX10_holds 60 = .ok (.iconst (-1), 1) := by decide +kernel
theorem dX10_holds_61 : decode cX10_holds 61 = .ok (.ixor, 1) := by decide +kernel
theorem dX10_holds_62 : decode cX10_holds 62 = .ok (.iand, 1) := by decide +kernel
theorem dX10_holds_63 : decode cX10_holds 63 = .ok (.ifCond .ne 43, 3) := by decide +kernel
theorem dX10_holds_66 : decode cX10_holds 66 = .ok (.iload 5, 2) := by decide +kernel
theorem dX10_holds_68 : decode cX10_holds 68 = .ok (.iconst (-1), 1) := by decide +kernel
theorem dX10_holds_69 : decode cX10_holds 69 = .ok (.if_icmp .eq 19, 3) := by decide +kernel
theorem dX10_holds_88 : decode cX10_holds 88 = .ok (.aload_n 0, 1) := by decide +kernel
theorem dX10_holds_89 : decode cX10_holds 89 = .ok (.iload 6, 2) := by decide +kernel
theorem dX10_holds_91 : decode cX10_holds 91 = .ok (.iload_n 1, 1) := by decide +kernel
theorem dX10_holds_92 : decode cX10_holds 92 = .ok (.invokevirtual 418, 3) := by decide +kernel
theorem dX10_holds_95 : decode cX10_holds 95 = .ok (.iload 4, 2) := by decide +kernel
theorem dX10_holds_97 : decode cX10_holds 97 = .ok (.isub, 1) := by decide +kernel
theorem dX10_holds_98 : decode cX10_holds 98 = .ok (.iload_n 2, 1) := by decide +kernel
theorem dX10_holds_99 : decode cX10_holds 99 = .ok (.if_icmp .lt 7, 3) := by decide +kernel
theorem dX10_holds_102 : decode cX10_holds 102 = .ok (.iload 6, 2) := by decide +kernel
theorem dX10_holds_104 : decode cX10_holds 104 = .ok (.istore 5, 2) := by decide +kernel
theorem dX10_holds_106 : decode cX10_holds 106 = .ok (.iinc 6 1, 3) := by decide +kernel
theorem dX10_holds_109 : decode cX10_holds 109 = .ok (.goto (-63), 3) := by decide +kernel
theorem dX10_holds_112 : decode cX10_holds 112 = .ok (.iload 5, 2) := by decide +kernel
theorem dX10_holds_114 : decode cX10_holds 114 = .ok (.iconst (-1), 1) := by decide +kernel
theorem dX10_holds_115 : decode cX10_holds 115 = .ok (.if_icmp .ne 8, 3) := by decide +kernel
theorem dX10_holds_118 : decode cX10_holds 118 = .ok (.bipush (-2), 2) := by decide +kernel
theorem dX10_holds_120 : decode cX10_holds 120 = .ok (.goto 17, 3) := by decide +kernel
theorem dX10_holds_123 : decode cX10_holds 123 = .ok (.iload_n 3, 1) := by decide +kernel
theorem dX10_holds_124 : decode cX10_holds 124 = .ok (.ifCond .ne 11, 3) := by decide +kernel
theorem dX10_holds_127 : decode cX10_holds 127 = .ok (.iload 5, 2) := by decide +kernel
theorem dX10_holds_129 : decode cX10_holds 129 = .ok (.invokestatic 297, 3) := by decide +kernel
theorem dX10_holds_132 : decode cX10_holds 132 = .ok (.goto 5, 3) := by decide +kernel
theorem dX10_holds_135 : decode cX10_holds 135 = .ok (.iload 5, 2) := by decide +kernel
theorem dX10_holds_137 : decode cX10_holds 137 = .ok (.ireturn, 1) := by decide +kernel
theorem dX10_home_0 : decode cX10_home 0 = .ok (.aload_n 0, 1) := by decide +kernel
theorem dX10_home_1 : decode cX10_home 1 = .ok (.invokevirtual 294, 3) := by decide +kernel
theorem dX10_home_4 : decode cX10_home 4 = .ok (.invokestatic 297, 3) := by decide +kernel
theorem dX10_home_7 : decode cX10_home 7 = .ok (.istore_n 1, 1) := by decide +kernel
theorem dX10_home_8 : decode cX10_home 8 = .ok (.iconst 0, 1) := by decide +kernel
theorem dX10_home_9 : decode cX10_home 9 = .ok (.istore_n 2, 1) := by decide +kernel
theorem dX10_home_10 : decode cX10_home 10 = .ok (.iload_n 2, 1) := by decide +kernel
theorem dX10_home_11 : decode cX10_home 11 = .ok (.bipush 10, 2) := by decide +kernel
theorem dX10_home_13 : decode cX10_home 13 = .ok (.if_icmp .ge 17, 3) := by decide +kernel
theorem dX10_home_16 : decode cX10_home 16 = .ok (.aload_n 0, 1) := by decide +kernel
theorem dX10_home_17 : decode cX10_home 17 = .ok (.getfield 28, 3) := by decide +kernel
theorem dX10_home_20 : decode cX10_home 20 = .ok (.iload_n 2, 1) := by decide +kernel
theorem dX10_home_21 : decode cX10_home 21 = .ok (.bipush (-2), 2) := by decide +kernel
theorem dX10_home_23 : decode cX10_home 23 = .ok (.iastore, 1) := by decide +kernel
theorem dX10_home_24 : decode cX10_home 24 = .ok (.iinc 2 1, 3) := by decide +kernel
theorem dX10_home_27 : decode cX10_home 27 = .ok (.goto (-17), 3) := by decide +kernel
theorem dX10_home_30 : decode cX10_home 30 = .ok (.iload_n 1, 1) := by decide +kernel
theorem dX10_home_31 : decode cX10_home 31 = .ok (.ireturn, 1) := by decide +kernel
theorem dX10_in_0 : decode cX10_in 0 = .ok (.iload_n 0, 1) := by decide +kernel
theorem dX10_in_1 : decode cX10_in 1 = .ok (.iload_n 1, 1) := by decide +kernel
theorem dX10_in_2 : decode cX10_in 2 = .ok (.if_icmp .lt 12, 3) := by decide +kernel
theorem dX10_in_5 : decode cX10_in 5 = .ok (.iload_n 0, 1) := by decide +kernel
theorem dX10_in_6 : decode cX10_in 6 = .ok (.iload_n 2, 1) := by decide +kernel
theorem dX10_in_7 : decode cX10_in 7 = .ok (.if_icmp .gt 7, 3) := by decide +kernel
theorem dX10_in_10 : decode cX10_in 10 = .ok (.iconst 1, 1) := by decide +kernel
theorem dX10_in_11 : decode cX10_in 11 = .ok (.goto 4, 3) := by decide +kernel
theorem dX10_in_14 : decode cX10_in 14 = .ok (.iconst 0, 1) := by decide +kernel
theorem dX10_in_15 : decode cX10_in 15 = .ok (.ireturn, 1) := by decide +kernel
theorem dX10_init_0 : decode cX10_init 0 = .ok (.aload_n 0, 1) := by decide +kernel
theorem dX10_init_1 : decode cX10_init 1 = .ok (.invokespecial 1, 3) := by decide +kernel
theorem dX10_init_4 : decode cX10_init 4 = .ok (.aload_n 0, 1) := by decide +kernel
theorem dX10_init_5 : decode cX10_init 5 = .ok (.bipush 15, 2) := by decide +kernel
theorem dX10_init_7 : decode cX10_init 7 = .ok (.newarray .int, 2) := by decide +kernel
theorem dX10_init_9 : decode cX10_init 9 = .ok (.putfield 7, 3) := by decide +kernel
theorem dX10_init_12 : decode cX10_init 12 = .ok (.aload_n 0, 1) := by decide +kernel
theorem dX10_init_13 : decode cX10_init 13 = .ok (.bipush 15, 2) := by decide +kernel
theorem dX10_init_15 : decode cX10_init 15 = .ok (.newarray .int, 2) := by decide +kernel
theorem dX10_init_17 : decode cX10_init 17 = .ok (.putfield 13, 3) := by decide +kernel
theorem dX10_init_20 : decode cX10_init 20 = .ok (.aload_n 0, 1) := by decide +kernel
theorem dX10_init_21 : decode cX10_init 21 = .ok (.bipush 15, 2) := by decide +kernel
theorem dX10_init_23 : decode cX10_init 23 = .ok (.newarray .int, 2) := by decide +kernel
theorem dX10_init_25 : decode cX10_init 25 = .ok (.putfield 16, 3) := by decide +kernel
theorem dX10_init_28 : decode cX10_init 28 = .ok (.aload_n 0, 1) := by decide +kernel
theorem dX10_init_29 : decode cX10_init 29 = .ok (.bipush 10, 2) := by decide +kernel
theorem dX10_init_31 : decode cX10_init 31 = .ok (.newarray .int, 2) := by decide +kernel
theorem dX10_init_33 : decode cX10_init 33 = .ok (.putfield 19, 3) := by decide +kernel
theorem dX10_init_36 : decode cX10_init 36 = .ok (.aload_n 0, 1) := by decide +kernel
theorem dX10_init_37 : decode cX10_init 37 = .ok (.bipush 10, 2) := by decide +kernel
theorem dX10_init_39 : decode cX10_init 39 = .ok (.newarray .int, 2) := by decide +kernel
theorem dX10_init_41 : decode cX10_init 41 = .ok (.putfield 22, 3) := by decide +kernel
theorem dX10_init_44 : decode cX10_init 44 = .ok (.aload_n 0, 1) := by decide +kernel
theorem dX10_init_45 : decode cX10_init 45 = .ok (.bipush 10, 2) := by decide +kernel
theorem dX10_init_47 : decode cX10_init 47 = .ok (.newarray .int, 2) := by decide +kernel
theorem dX10_init_49 : decode cX10_init 49 = .ok (.putfield 25, 3) := by decide +kernel
theorem dX10_init_52 : decode cX10_init 52 = .ok (.aload_n 0, 1) := by decide +kernel
theorem dX10_init_53 : decode cX10_init 53 = .ok (.bipush 10, 2) := by decide +kernel
theorem dX10_init_55 : decode cX10_init 55 = .ok (.newarray .int, 2) := by decide +kernel
theorem dX10_init_57 : decode cX10_init 57 = .ok (.putfield 28, 3) := by decide +kernel
theorem dX10_init_60 : decode cX10_init 60 = .ok (.aload_n 0, 1) := by decide +kernel
theorem dX10_init_61 : decode cX10_init 61 = .ok (.bipush 10, 2) := by decide +kernel
theorem dX10_init_63 : decode cX10_init 63 = .ok (.newarray .int, 2) := by decide +kernel
theorem dX10_init_65 : decode cX10_init 65 = .ok (.putfield 31, 3) := by decide +kernel
theorem dX10_init_68 : decode cX10_init 68 = .ok (.aload_n 0, 1) := by decide +kernel
theorem dX10_init_69 : decode cX10_init 69 = .ok (.bipush 12, 2) := by decide +kernel
theorem dX10_init_71 : decode cX10_init 71 = .ok (.newarray .int, 2) := by decide +kernel
theorem dX10_init_73 : decode cX10_init 73 = .ok (.putfield 34, 3) := by decide +kernel
theorem dX10_init_76 : decode cX10_init 76 = .ok (.aload_n 0, 1) := by decide +kernel
theorem dX10_init_77 : decode cX10_init 77 = .ok (.bipush 12, 2) := by decide +kernel
theorem dX10_init_79 : decode cX10_init 79 = .ok (.newarray .int, 2) := by decide +kernel
theorem dX10_init_81 : decode cX10_init 81 = .ok (.putfield 37, 3) := by decide +kernel
theorem dX10_init_84 : decode cX10_init 84 = .ok (.aload_n 0, 1) := by decide +kernel
theorem dX10_init_85 : decode cX10_init 85 = .ok (.bipush 120, 2) := by decide +kernel
theorem dX10_init_87 : decode cX10_init 87 = .ok (.newarray .int, 2) := by decide +kernel
theorem dX10_init_89 : decode cX10_init 89 = .ok (.putfield 40, 3) := by decide +kernel
theorem dX10_init_92 : decode cX10_init 92 = .ok (.aload_n 0, 1) := by decide +kernel
theorem dX10_init_93 : decode cX10_init 93 = .ok (.sipush 260, 3) := by decide +kernel
theorem dX10_init_96 : decode cX10_init 96 = .ok (.newarray .byte, 2) := by decide +kernel
theorem dX10_init_98 : decode cX10_init 98 = .ok (.putfield 43, 3) := by decide +kernel
theorem dX10_init_101 : decode cX10_init 101 = .ok (.aload_n 0, 1) := by decide +kernel
theorem dX10_init_102 : decode cX10_init 102 = .ok (.sipush 260, 3) := by decide +kernel
theorem dX10_init_105 : decode cX10_init 105 = .ok (.newarray .int, 2) := by decide +kernel
theorem dX10_init_107 : decode cX10_init 107 = .ok (.putfield 47, 3) := by decide +kernel
theorem dX10_init_110 : decode cX10_init 110 = .ok (.aload_n 0, 1) := by decide +kernel
theorem dX10_init_111 : decode cX10_init 111 = .ok (.sipush 260, 3) := by decide +kernel
theorem dX10_init_114 : decode cX10_init 114 = .ok (.newarray .int, 2) := by decide +kernel
theorem dX10_init_116 : decode cX10_init 116 = .ok (.putfield 50, 3) := by decide +kernel
theorem dX10_init_119 : decode cX10_init 119 = .ok (.aload_n 0, 1) := by decide +kernel
theorem dX10_init_120 : decode cX10_init 120 = .ok (.bipush 16, 2) := by decide +kernel
theorem dX10_init_122 : decode cX10_init 122 = .ok (.newarray .int, 2) := by decide +kernel
theorem dX10_init_124 : decode cX10_init 124 = .ok (.putfield 53, 3) := by decide +kernel
theorem dX10_init_127 : decode cX10_init 127 = .ok (.aload_n 0, 1) := by decide +kernel
theorem dX10_init_128 : decode cX10_init 128 = .ok (.bipush 16, 2) := by decide +kernel
theorem dX10_init_130 : decode cX10_init 130 = .ok (.newarray .int, 2) := by decide +kernel
theorem dX10_init_132 : decode cX10_init 132 = .ok (.putfield 56, 3) := by decide +kernel
theorem dX10_init_135 : decode cX10_init 135 = .ok (.aload_n 0, 1) := by decide +kernel
theorem dX10_init_136 : decode cX10_init 136 = .ok (.bipush 16, 2) := by decide +kernel
theorem dX10_init_138 : decode cX10_init 138 = .ok (.newarray .int, 2) := by decide +kernel
theorem dX10_init_140 : decode cX10_init 140 = .ok (.putfield 59, 3) := by decide +kernel
theorem dX10_init_143 : decode cX10_init 143 = .ok (.aload_n 0, 1) := by decide +kernel
theorem dX10_init_144 : decode cX10_init 144 = .ok (.bipush 16, 2) := by decide +kernel
theorem dX10_init_146 : decode cX10_init 146 = .ok (.newarray .int, 2) := by decide +kernel
theorem dX10_init_148 : decode cX10_init 148 = .ok (.putfield 62, 3) := by decide +kernel
theorem dX10_init_151 : decode cX10_init 151 = .ok (.aload_n 0, 1) := by decide +kernel
theorem dX10_init_152 : decode cX10_init 152 = .ok (.sipush 260, 3) := by decide +kernel
theorem dX10_init_155 : decode cX10_init 155 = .ok (.newarray .int, 2) := by decide +kernel
theorem dX10_init_157 : decode cX10_init 157 = .ok (.putfield 65, 3) := by decide +kernel
theorem dX10_init_160 : decode cX10_init 160 = .ok (.aload_n 0, 1) := by decide +kernel
theorem dX10_init_161 : decode cX10_init 161 = .ok (.bipush 16, 2) := by decide +kernel
theorem dX10_init_163 : decode cX10_init 163 = .ok (.newarray .int, 2) := by decide +kernel
theorem dX10_init_165 : decode cX10_init 165 = .ok (.putfield 68, 3) := by decide +kernel
theorem dX10_init_168 : decode cX10_init 168 = .ok (.aload_n 0, 1) := by decide +kernel
theorem dX10_init_169 : decode cX10_init 169 = .ok (.bipush 16, 2) := by decide +kernel
theorem dX10_init_171 : decode cX10_init 171 = .ok (.newarray .int, 2) := by decide +kernel
theorem dX10_init_173 : decode cX10_init 173 = .ok (.putfield 71, 3) := by decide +kernel
theorem dX10_init_176 : decode cX10_init 176 = .ok (.aload_n 0, 1) := by decide +kernel
theorem dX10_init_177 : decode cX10_init 177 = .ok (.bipush 16, 2) := by decide +kernel
theorem dX10_init_179 : decode cX10_init 179 = .ok (.newarray .int, 2) := by decide +kernel
theorem dX10_init_181 : decode cX10_init 181 = .ok (.putfield 74, 3) := by decide +kernel
theorem dX10_init_184 : decode cX10_init 184 = .ok (.aload_n 0, 1) := by decide +kernel
theorem dX10_init_185 : decode cX10_init 185 = .ok (.bipush 16, 2) := by decide +kernel
theorem dX10_init_187 : decode cX10_init 187 = .ok (.newarray .int, 2) := by decide +kernel
theorem dX10_init_189 : decode cX10_init 189 = .ok (.putfield 77, 3) := by decide +kernel
theorem dX10_init_192 : decode cX10_init 192 = .ok (.aload_n 0, 1) := by decide +kernel
theorem dX10_init_193 : decode cX10_init 193 = .ok (.sipush 260, 3) := by decide +kernel
theorem dX10_init_196 : decode cX10_init 196 = .ok (.newarray .int, 2) := by decide +kernel
theorem dX10_init_198 : decode cX10_init 198 = .ok (.putfield 80, 3) := by decide +kernel
theorem dX10_init_201 : decode cX10_init 201 = .ok (.aload_n 0, 1) := by decide +kernel
theorem dX10_init_202 : decode cX10_init 202 = .ok (.bipush 8, 2) := by decide +kernel
theorem dX10_init_204 : decode cX10_init 204 = .ok (.newarray .int, 2) := by decide +kernel
theorem dX10_init_206 : decode cX10_init 206 = .ok (.putfield 83, 3) := by decide +kernel
theorem dX10_init_209 : decode cX10_init 209 = .ok (.aload_n 0, 1) := by decide +kernel
theorem dX10_init_210 : decode cX10_init 210 = .ok (.bipush 12, 2) := by decide +kernel
theorem dX10_init_212 : decode cX10_init 212 = .ok (.newarray .int, 2) := by decide +kernel
theorem dX10_init_214 : decode cX10_init 214 = .ok (.putfield 86, 3) := by decide +kernel
theorem dX10_init_217 : decode cX10_init 217 = .ok (.aload_n 0, 1) := by decide +kernel
theorem dX10_init_218 : decode cX10_init 218 = .ok (.bipush 12, 2) := by decide +kernel
theorem dX10_init_220 : decode cX10_init 220 = .ok (.newarray .int, 2) := by decide +kernel
theorem dX10_init_222 : decode cX10_init 222 = .ok (.putfield 89, 3) := by decide +kernel
theorem dX10_init_225 : decode cX10_init 225 = .ok (.aload_n 0, 1) := by decide +kernel
theorem dX10_init_226 : decode cX10_init 226 = .ok (.bipush 120, 2) := by decide +kernel
theorem dX10_init_228 : decode cX10_init 228 = .ok (.newarray .int, 2) := by decide +kernel
theorem dX10_init_230 : decode cX10_init 230 = .ok (.putfield 92, 3) := by decide +kernel
theorem dX10_init_233 : decode cX10_init 233 = .ok (.aload_n 0, 1) := by decide +kernel
theorem dX10_init_234 : decode cX10_init 234 = .ok (.bipush 10, 2) := by decide +kernel
theorem dX10_init_236 : decode cX10_init 236 = .ok (.newarray .int, 2) := by decide +kernel
theorem dX10_init_238 : decode cX10_init 238 = .ok (.putfield 95, 3) := by decide +kernel
theorem dX10_init_241 : decode cX10_init 241 = .ok (.aload_n 0, 1) := by decide +kernel
theorem dX10_init_242 : decode cX10_init 242 = .ok (.bipush 10, 2) := by decide +kernel
theorem dX10_init_244 : decode cX10_init 244 = .ok (.newarray .int, 2) := by decide +kernel
theorem dX10_init_246 : decode cX10_init 246 = .ok (.putfield 98, 3) := by decide +kernel
theorem dX10_init_249 : decode cX10_init 249 = .ok (.aload_n 0, 1) := by decide +kernel
theorem dX10_init_250 : decode cX10_init 250 = .ok (.bipush 10, 2) := by decide +kernel
theorem dX10_init_252 : decode cX10_init 252 = .ok (.newarray .int, 2) := by decide +kernel
theorem dX10_init_254 : decode cX10_init 254 = .ok (.putfield 101, 3) := by decide +kernel
theorem dX10_init_257 : decode cX10_init 257 = .ok (.aload_n 0, 1) := by decide +kernel
theorem dX10_init_258 : decode cX10_init 258 = .ok (.bipush 10, 2) := by decide +kernel
theorem dX10_init_260 : decode cX10_init 260 = .ok (.newarray .int, 2) := by decide +kernel
theorem dX10_init_262 : decode cX10_init 262 = .ok (.putfield 104, 3) := by decide +kernel
theorem dX10_init_265 : decode cX10_init 265 = .ok (.aload_n 0, 1) := by decide +kernel
theorem dX10_init_266 : decode cX10_init 266 = .ok (.bipush 10, 2) := by decide +kernel
theorem dX10_init_268 : decode cX10_init 268 = .ok (.newarray .int, 2) := by decide +kernel
theorem dX10_init_270 : decode cX10_init 270 = .ok (.putfield 107, 3) := by decide +kernel
theorem dX10_init_273 : decode cX10_init 273 = .ok (.aload_n 0, 1) := by decide +kernel
theorem dX10_init_274 : decode cX10_init 274 = .ok (.bipush 10, 2) := by decide +kernel
theorem dX10_init_276 : decode cX10_init 276 = .ok (.newarray .int, 2) := by decide +kernel
theorem dX10_init_278 : decode cX10_init 278 = .ok (.putfield 110, 3) := by decide +kernel
theorem dX10_init_281 : decode cX10_init 281 = .ok (.aload_n 0, 1) := by decide +kernel
theorem dX10_init_282 : decode cX10_init 282 = .ok (.bipush 10, 2) := by decide +kernel
theorem dX10_init_284 : decode cX10_init 284 = .ok (.newarray .int, 2) := by decide +kernel
theorem dX10_init_286 : decode cX10_init 286 = .ok (.putfield 113, 3) := by decide +kernel
theorem dX10_init_289 : decode cX10_init 289 = .ok (.aload_n 0, 1) := by decide +kernel
theorem dX10_init_290 : decode cX10_init 290 = .ok (.bipush 12, 2) := by decide +kernel
theorem dX10_init_292 : decode cX10_init 292 = .ok (.newarray .int, 2) := by decide +kernel
theorem dX10_init_294 : decode cX10_init 294 = .ok (.putfield 116, 3) := by decide +kernel
theorem dX10_init_297 : decode cX10_init 297 = .ok (.aload_n 0, 1) := by decide +kernel
theorem dX10_init_298 : decode cX10_init 298 = .ok (.bipush 10, 2) := by decide +kernel
theorem dX10_init_300 : decode cX10_init 300 = .ok (.newarray .int, 2) := by decide +kernel
theorem dX10_init_302 : decode cX10_init 302 = .ok (.putfield 119, 3) := by decide +kernel
theorem dX10_init_305 : decode cX10_init 305 = .ok (.aload_n 0, 1) := by decide +kernel
theorem dX10_init_306 : decode cX10_init 306 = .ok (.bipush 10, 2) := by decide +kernel
theorem dX10_init_308 : decode cX10_init 308 = .ok (.newarray .int, 2) := by decide +kernel
theorem dX10_init_310 : decode cX10_init 310 = .ok (.putfield 122, 3) := by decide +kernel
theorem dX10_init_313 : decode cX10_init 313 = .ok (.aload_n 0, 1) := by decide +kernel
theorem dX10_init_314 : decode cX10_init 314 = .ok (.sipush 1024, 3) := by decide +kernel
theorem dX10_init_317 : decode cX10_init 317 = .ok (.newarray .int, 2) := by decide +kernel
theorem dX10_init_319 : decode cX10_init 319 = .ok (.putfield 125, 3) := by decide +kernel
theorem dX10_init_322 : decode cX10_init 322 = .ok (.aload_n 0, 1) := by decide +kernel
theorem dX10_init_323 : decode cX10_init 323 = .ok (.bipush 25, 2) := by decide +kernel
theorem dX10_init_325 : decode cX10_init 325 = .ok (.newarray .int, 2) := by decide +kernel
theorem dX10_init_327 : decode cX10_init 327 = .ok (.putfield 128, 3) := by decide +kernel
theorem dX10_init_330 : decode cX10_init 330 = .ok (.aload_n 0, 1) := by decide +kernel
theorem dX10_init_331 : decode cX10_init 331 = .ok (.iconst 3, 1) := by decide +kernel
theorem dX10_init_332 : decode cX10_init 332 = .ok (.newarray .int, 2) := by decide +kernel
theorem dX10_init_334 : decode cX10_init 334 = .ok (.putfield 131, 3) := by decide +kernel
theorem dX10_init_337 : decode cX10_init 337 = .ok (.aload_n 0, 1) := by decide +kernel
theorem dX10_init_338 : decode cX10_init 338 = .ok (.iconst 3, 1) := by decide +kernel
theorem dX10_init_339 : decode cX10_init 339 = .ok (.newarray .int, 2) := by decide +kernel
theorem dX10_init_341 : decode cX10_init 341 = .ok (.putfield 134, 3) := by decide +kernel
theorem dX10_init_344 : decode cX10_init 344 = .ok (.aload_n 0, 1) := by decide +kernel
theorem dX10_init_345 : decode cX10_init 345 = .ok (.iconst 3, 1) := by decide +kernel
theorem dX10_init_346 : decode cX10_init 346 = .ok (.newarray .int, 2) := by decide +kernel
theorem dX10_init_348 : decode cX10_init 348 = .ok (.putfield 137, 3) := by decide +kernel
theorem dX10_init_351 : decode cX10_init 351 = .ok (.aload_n 0, 1) := by decide +kernel
theorem dX10_init_352 : decode cX10_init 352 = .ok (.iconst 4, 1) := by decide +kernel
theorem dX10_init_353 : decode cX10_init 353 = .ok (.newarray .int, 2) := by decide +kernel
theorem dX10_init_355 : decode cX10_init 355 = .ok (.putfield 140, 3) := by decide +kernel
theorem dX10_init_358 : decode cX10_init 358 = .ok (.aload_n 0, 1) := by decide +kernel
theorem dX10_init_359 : decode cX10_init 359 = .ok (.iconst 4, 1) := by decide +kernel
theorem dX10_init_360 : decode cX10_init 360 = .ok (.newarray .int, 2) := by decide +kernel
theorem dX10_init_362 : decode cX10_init 362 = .ok (.putfield 143, 3) := by decide +kernel
theorem dX10_init_365 : decode cX10_init 365 = .ok (.aload_n 0, 1) := by decide +kernel
theorem dX10_init_366 : decode cX10_init 366 = .ok (.getfield 7, 3) := by decide +kernel
theorem dX10_init_369 : decode cX10_init 369 = .ok (.bipush 14, 2) := by decide +kernel
theorem dX10_init_371 : decode cX10_init 371 = .ok (.iconst 1, 1) := by decide +kernel
theorem dX10_init_372 : decode cX10_init 372 = .ok (.iastore, 1) := by decide +kernel
theorem dX10_init_373 : decode cX10_init 373 = .ok (.iconst 0, 1) := by decide +kernel
theorem dX10_init_374 : decode cX10_init 374 = .ok (.istore_n 1, 1) := by decide +kernel
theorem dX10_init_375 : decode cX10_init 375 = .ok (.iload_n 1, 1) := by decide +kernel
theorem dX10_init_376 : decode cX10_init 376 = .ok (.bipush 10, 2) := by decide +kernel
theorem dX10_init_378 : decode cX10_init 378 = .ok (.if_icmp .ge 17, 3) := by decide +kernel
theorem dX10_init_381 : decode cX10_init 381 = .ok (.aload_n 0, 1) := by decide +kernel
theorem dX10_init_382 : decode cX10_init 382 = .ok (.getfield 28, 3) := by decide +kernel
theorem dX10_init_385 : decode cX10_init 385 = .ok (.iload_n 1, 1) := by decide +kernel
theorem dX10_init_386 : decode cX10_init 386 = .ok (.bipush (-2), 2) := by decide +kernel
theorem dX10_init_388 : decode cX10_init 388 = .ok (.iastore, 1) := by decide +kernel
theorem dX10_init_389 : decode cX10_init 389 = .ok (.iinc 1 1, 3) := by decide +kernel
theorem dX10_init_392 : decode cX10_init 392 = .ok (.goto (-17), 3) := by decide +kernel
theorem dX10_init_395 : decode cX10_init 395 = .ok (.iconst 0, 1) := by decide +kernel
theorem dX10_init_396 : decode cX10_init 396 = .ok (.istore_n 1, 1) := by decide +kernel
theorem dX10_init_397 : decode cX10_init 397 = .ok (.iload_n 1, 1) := by decide +kernel
theorem dX10_init_398 : decode cX10_init 398 = .ok (.bipush 12, 2) := by decide +kernel
theorem dX10_init_400 : decode cX10_init 400 = .ok (.if_icmp .ge 16, 3) := by decide +kernel
theorem dX10_init_403 : decode cX10_init 403 = .ok (.aload_n 0, 1) := by decide +kernel
theorem dX10_init_404 : decode cX10_init 404 = .ok (.getfield 116, 3) := by decide +kernel
theorem dX10_init_407 : decode cX10_init 407 = .ok (.iload_n 1, 1) := by decide +kernel
theorem dX10_init_408 : decode cX10_init 408 = .ok (.iconst (-1), 1) := by decide +kernel
theorem dX10_init_409 : decode cX10_init 409 = .ok (.iastore, 1) := by decide +kernel
theorem dX10_init_410 : decode cX10_init 410 = .ok (.iinc 1 1, 3) := by decide +kernel
theorem dX10_init_413 : decode cX10_init 413 = .ok (.goto (-16), 3) := by decide +kernel
theorem dX10_init_416 : decode cX10_init 416 = .ok (.return_, 1) := by decide +kernel
theorem dX10_isChore_0 : decode cX10_isChore 0 = .ok (.iload_n 1, 1) := by decide +kernel
theorem dX10_isChore_1 : decode cX10_isChore 1 = .ok (.ifCond .lt 24, 3) := by decide +kernel
theorem dX10_isChore_4 : decode cX10_isChore 4 = .ok (.iload_n 1, 1) := by decide +kernel
theorem dX10_isChore_5 : decode cX10_isChore 5 = .ok (.bipush 12, 2) := by decide +kernel
theorem dX10_isChore_7 : decode cX10_isChore 7 = .ok (.if_icmp .ge 18, 3) := by decide +kernel
theorem dX10_isChore_10 : decode cX10_isChore 10 = .ok (.aload_n 0, 1) := by decide +kernel
theorem dX10_isChore_11 : decode cX10_isChore 11 = .ok (.getfield 154, 3) := by decide +kernel
theorem dX10_isChore_14 : decode cX10_isChore 14 = .ok (.iload_n 1, 1) := by decide +kernel
theorem dX10_isChore_15 : decode cX10_isChore 15 = .ok (.invokestatic 150, 3) := by decide +kernel
theorem dX10_isChore_18 : decode cX10_isChore 18 = .ok (.ifCond .eq 7, 3) := by decide +kernel
theorem dX10_isChore_25 : decode cX10_isChore 25 = .ok (.iconst 0, 1) := by decide +kernel
theorem dX10_isChore_26 : decode cX10_isChore 26 = .ok (.ireturn, 1) := by decide +kernel
theorem dX10_isGoer_0 : decode cX10_isGoer 0 = .ok (.aload_n 0, 1) := by decide +kernel
theorem dX10_isGoer_1 : decode cX10_isGoer 1 = .ok (.iload_n 1, 1) := by decide +kernel
theorem dX10_isGoer_2 : decode cX10_isGoer 2 = .ok (.invokevirtual 307, 3) := by decide +kernel
theorem dX10_isGoer_5 : decode cX10_isGoer 5 = .ok (.ifCond .eq 15, 3) := by decide +kernel
theorem dX10_isGoer_20 : decode cX10_isGoer 20 = .ok (.iconst 0, 1) := by decide +kernel
theorem dX10_isGoer_21 : decode cX10_isGoer 21 = .ok (.ireturn, 1) := by decide +kernel
theorem dX10_isPerson_0 : decode cX10_isPerson 0 = .ok (.iload_n 1, 1) := by decide +kernel
theorem dX10_isPerson_1 : decode cX10_isPerson 1 = .ok (.ifCond .lt 24, 3) := by decide +kernel
theorem dX10_isPerson_4 : decode cX10_isPerson 4 = .ok (.iload_n 1, 1) := by decide +kernel
theorem dX10_isPerson_5 : decode cX10_isPerson 5 = .ok (.bipush 10, 2) := by decide +kernel
theorem dX10_isPerson_7 : decode cX10_isPerson 7 = .ok (.if_icmp .ge 18, 3) := by decide +kernel
theorem dX10_isPerson_10 : decode cX10_isPerson 10 = .ok (.aload_n 0, 1) := by decide +kernel
theorem dX10_isPerson_11 : decode cX10_isPerson 11 = .ok (.getfield 146, 3) := by decide +kernel
theorem dX10_isPerson_14 : decode cX10_isPerson 14 = .ok (.iload_n 1, 1) := by decide +kernel
theorem dX10_isPerson_15 : decode cX10_isPerson 15 = .ok (.invokestatic 150, 3) := by decide +kernel
theorem dX10_isPerson_18 : decode cX10_isPerson 18 = .ok (.ifCond .eq 7, 3) := by decide +kernel
theorem dX10_isPerson_25 : decode cX10_isPerson 25 = .ok (.iconst 0, 1) := by decide +kernel
theorem dX10_isPerson_26 : decode cX10_isPerson 26 = .ok (.ireturn, 1) := by decide +kernel
theorem dX10_keep_0 : decode cX10_keep 0 = .ok (.aload_n 0, 1) := by decide +kernel
theorem dX10_keep_1 : decode cX10_keep 1 = .ok (.iconst 1, 1) := by decide +kernel
theorem dX10_keep_2 : decode cX10_keep 2 = .ok (.putfield 435, 3) := by decide +kernel
theorem dX10_keep_5 : decode cX10_keep 5 = .ok (.aload_n 0, 1) := by decide +kernel
theorem dX10_keep_6 : decode cX10_keep 6 = .ok (.getfield 7, 3) := by decide +kernel
theorem dX10_keep_9 : decode cX10_keep 9 = .ok (.aload_n 0, 1) := by decide +kernel
theorem dX10_keep_10 : decode cX10_keep 10 = .ok (.getfield 16, 3) := by decide +kernel
theorem dX10_keep_13 : decode cX10_keep 13 = .ok (.bipush 15, 2) := by decide +kernel
theorem dX10_keep_15 : decode cX10_keep 15 = .ok (.invokestatic 359, 3) := by decide +kernel
theorem dX10_keep_18 : decode cX10_keep 18 = .ok (.aload_n 0, 1) := by decide +kernel
theorem dX10_keep_19 : decode cX10_keep 19 = .ok (.getfield 28, 3) := by decide +kernel
theorem dX10_keep_22 : decode cX10_keep 22 = .ok (.aload_n 0, 1) := by decide +kernel
theorem dX10_keep_23 : decode cX10_keep 23 = .ok (.getfield 19, 3) := by decide +kernel
theorem dX10_keep_26 : decode cX10_keep 26 = .ok (.bipush 10, 2) := by decide +kernel
theorem dX10_keep_28 : decode cX10_keep 28 = .ok (.invokestatic 359, 3) := by decide +kernel
theorem dX10_keep_31 : decode cX10_keep 31 = .ok (.aload_n 0, 1) := by decide +kernel
theorem dX10_keep_32 : decode cX10_keep 32 = .ok (.getfield 31, 3) := by decide +kernel
theorem dX10_keep_35 : decode cX10_keep 35 = .ok (.aload_n 0, 1) := by decide +kernel
theorem dX10_keep_36 : decode cX10_keep 36 = .ok (.getfield 22, 3) := by decide +kernel
theorem dX10_keep_39 : decode cX10_keep 39 = .ok (.bipush 10, 2) := by decide +kernel
theorem dX10_keep_41 : decode cX10_keep 41 = .ok (.invokestatic 359, 3) := by decide +kernel
theorem dX10_keep_44 : decode cX10_keep 44 = .ok (.aload_n 0, 1) := by decide +kernel
theorem dX10_keep_45 : decode cX10_keep 45 = .ok (.getfield 7, 3) := by decide +kernel
theorem dX10_keep_48 : decode cX10_keep 48 = .ok (.bipush 13, 2) := by decide +kernel
theorem dX10_keep_50 : decode cX10_keep 50 = .ok (.iaload, 1) := by decide +kernel
theorem dX10_keep_51 : decode cX10_keep 51 = .ok (.ireturn, 1) := by decide +kernel
theorem dX10_law_0 : decode cX10_law 0 = .ok (.iload_n 1, 1) := by decide +kernel
theorem dX10_law_1 : decode cX10_law 1 = .ok (.iconst 1, 1) := by decide +kernel
theorem dX10_law_2 : decode cX10_law 2 = .ok (.sipush 240, 3) := by decide +kernel
theorem dX10_law_5 : decode cX10_law 5 = .ok (.invokestatic 157, 3) := by decide +kernel
theorem dX10_law_8 : decode cX10_law 8 = .ok (.ifCond .eq 11, 3) := by decide +kernel
theorem dX10_law_11 : decode cX10_law 11 = .ok (.iload_n 1, 1) := by decide +kernel
theorem dX10_law_12 : decode cX10_law 12 = .ok (.aload_n 0, 1) := by decide +kernel
theorem dX10_law_13 : decode cX10_law 13 = .ok (.getfield 164, 3) := by decide +kernel
theorem dX10_law_16 : decode cX10_law 16 = .ok (.if_icmp .le 5, 3) := by decide +kernel
theorem dX10_law_19 : decode cX10_law 19 = .ok (.iconst (-1), 1) := by decide +kernel
theorem dX10_law_20 : decode cX10_law 20 = .ok (.ireturn, 1) := by decide +kernel
theorem dX10_laysGoing_0 : decode cX10_laysGoing 0 = .ok (.aload_n 0, 1) := by decide +kernel
theorem dX10_laysGoing_1 : decode cX10_laysGoing 1 = .ok (.invokevirtual 300, 3) := by decide +kernel
theorem dX10_laysGoing_4 : decode cX10_laysGoing 4 = .ok (.iconst 0, 1) := by decide +kernel
theorem dX10_laysGoing_5 : decode cX10_laysGoing 5 = .ok (.istore_n 2, 1) := by decide +kernel
theorem dX10_laysGoing_6 : decode cX10_laysGoing 6 = .ok (.iload_n 2, 1) := by decide +kernel
theorem dX10_laysGoing_7 : decode cX10_laysGoing 7 = .ok (.bipush 10, 2) := by decide +kernel
theorem dX10_laysGoing_9 : decode cX10_laysGoing 9 = .ok (.if_icmp .ge 42, 3) := by decide +kernel
theorem dX10_laysGoing_12 : decode cX10_laysGoing 12 = .ok (.iload_n 1, 1) := by decide +kernel
theorem dX10_laysGoing_13 : decode cX10_laysGoing 13 = .ok (.iload_n 2, 1) := by decide +kernel
theorem dX10_laysGoing_14 : decode cX10_laysGoing 14 = .ok (.invokestatic 150, 3) := by decide +kernel
theorem dX10_laysGoing_17 : decode cX10_laysGoing 17 = .ok (.ifCond .eq 28, 3) := by decide +kernel
theorem dX10_laysGoing_20 : decode cX10_laysGoing 20 = .ok (.aload_n 0, 1) := by decide +kernel
theorem dX10_laysGoing_21 : decode cX10_laysGoing 21 = .ok (.iload_n 2, 1) := by decide +kernel
theorem dX10_laysGoing_22 : decode cX10_laysGoing 22 = .ok (.invokevirtual 291, 3) := by decide +kernel
theorem dX10_laysGoing_25 : decode cX10_laysGoing 25 = .ok (.ifCond .eq 20, 3) := by decide +kernel
theorem dX10_laysGoing_45 : decode cX10_laysGoing 45 = .ok (.iinc 2 1, 3) := by decide +kernel
theorem dX10_laysGoing_48 : decode cX10_laysGoing 48 = .ok (.goto (-42), 3) := by decide +kernel
theorem dX10_laysGoing_51 : decode cX10_laysGoing 51 = .ok (.return_, 1) := by decide +kernel
theorem dX10_laysNobody_0 : decode cX10_laysNobody 0 = .ok (.iconst 0, 1) := by decide +kernel
theorem dX10_laysNobody_1 : decode cX10_laysNobody 1 = .ok (.istore_n 1, 1) := by decide +kernel
theorem dX10_laysNobody_2 : decode cX10_laysNobody 2 = .ok (.iload_n 1, 1) := by decide +kernel
theorem dX10_laysNobody_3 : decode cX10_laysNobody 3 = .ok (.bipush 10, 2) := by decide +kernel
theorem dX10_laysNobody_5 : decode cX10_laysNobody 5 = .ok (.if_icmp .ge 48, 3) := by decide +kernel
theorem dX10_laysNobody_8 : decode cX10_laysNobody 8 = .ok (.aload_n 0, 1) := by decide +kernel
theorem dX10_laysNobody_9 : decode cX10_laysNobody 9 = .ok (.getfield 101, 3) := by decide +kernel
theorem dX10_laysNobody_12 : decode cX10_laysNobody 12 = .ok (.iload_n 1, 1) := by decide +kernel
theorem dX10_laysNobody_13 : decode cX10_laysNobody 13 = .ok (.bipush (-2), 2) := by decide +kernel
theorem dX10_laysNobody_15 : decode cX10_laysNobody 15 = .ok (.iastore, 1) := by decide +kernel
theorem dX10_laysNobody_16 : decode cX10_laysNobody 16 = .ok (.aload_n 0, 1) := by decide +kernel
theorem dX10_laysNobody_17 : decode cX10_laysNobody 17 = .ok (.getfield 104, 3) := by decide +kernel
theorem dX10_laysNobody_20 : decode cX10_laysNobody 20 = .ok (.iload_n 1, 1) := by decide +kernel
theorem dX10_laysNobody_21 : decode cX10_laysNobody 21 = .ok (.bipush (-3), 2) := by decide +kernel
theorem dX10_laysNobody_23 : decode cX10_laysNobody 23 = .ok (.iastore, 1) := by decide +kernel
theorem dX10_laysNobody_24 : decode cX10_laysNobody 24 = .ok (.aload_n 0, 1) := by decide +kernel
theorem dX10_laysNobody_25 : decode cX10_laysNobody 25 = .ok (.getfield 107, 3) := by decide +kernel
theorem dX10_laysNobody_28 : decode cX10_laysNobody 28 = .ok (.iload_n 1, 1) := by decide +kernel
theorem dX10_laysNobody_29 : decode cX10_laysNobody 29 = .ok (.bipush (-2), 2) := by decide +kernel
theorem dX10_laysNobody_31 : decode cX10_laysNobody 31 = .ok (.iastore, 1) := by decide +kernel
theorem dX10_laysNobody_32 : decode cX10_laysNobody 32 = .ok (.aload_n 0, 1) := by decide +kernel
theorem dX10_laysNobody_33 : decode cX10_laysNobody 33 = .ok (.getfield 110, 3) := by decide +kernel
theorem dX10_laysNobody_36 : decode cX10_laysNobody 36 = .ok (.iload_n 1, 1) := by decide +kernel
theorem dX10_laysNobody_37 : decode cX10_laysNobody 37 = .ok (.bipush (-3), 2) := by decide +kernel
theorem dX10_laysNobody_39 : decode cX10_laysNobody 39 = .ok (.iastore, 1) := by decide +kernel
