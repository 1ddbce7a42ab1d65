theorem dX9_allIsDoneIfStay_0 : decode cX9_allIsDoneIfStay 0 = .ok (.aload_n 0, 1) := by decide +kernel
theorem dX9_allIsDoneIfStay_1 : decode cX9_allIsDoneIfStay 1 = .ok (.getfield 73, 3) := by decide +kernel
theorem dX9_allIsDoneIfStay_4 : decode cX9_allIsDoneIfStay 4 = .ok (.aload_n 0, 1) := by decide +kernel
theorem dX9_allIsDoneIfStay_5 : decode cX9_allIsDoneIfStay 5 = .ok (.getfield 26, 3) := by decide +kernel
theorem dX9_allIsDoneIfStay_8 : decode cX9_allIsDoneIfStay 8 = .ok (.invokevirtual 157, 3) := by decide +kernel
theorem dX9_allIsDoneIfStay_11 : decode cX9_allIsDoneIfStay 11 = .ok (.aload_n 0, 1) := by decide +kernel
theorem dX9_allIsDoneIfStay_12 : decode cX9_allIsDoneIfStay 12 = .ok (.getfield 73, 3) := by decide +kernel
theorem dX9_allIsDoneIfStay_15 : decode cX9_allIsDoneIfStay 15 = .ok (.getfield 165, 3) := by decide +kernel
theorem dX9_allIsDoneIfStay_18 : decode cX9_allIsDoneIfStay 18 = .ok (.iload_n 1, 1) := by decide +kernel
theorem dX9_allIsDoneIfStay_19 : decode cX9_allIsDoneIfStay 19 = .ok (.invokevirtual 147, 3) := by decide +kernel
theorem dX9_allIsDoneIfStay_22 : decode cX9_allIsDoneIfStay 22 = .ok (.aload_n 0, 1) := by decide +kernel
theorem dX9_allIsDoneIfStay_23 : decode cX9_allIsDoneIfStay 23 = .ok (.getfield 73, 3) := by decide +kernel
theorem dX9_allIsDoneIfStay_26 : decode cX9_allIsDoneIfStay 26 = .ok (.iload_n 2, 1) := by decide +kernel
theorem dX9_allIsDoneIfStay_27 : decode cX9_allIsDoneIfStay 27 = .ok (.invokevirtual 323, 3) := by decide +kernel
theorem dX9_allIsDoneIfStay_30 : decode cX9_allIsDoneIfStay 30 = .ok (.ireturn, 1) := by decide +kernel
theorem dX9_areTold_0 : decode cX9_areTold 0 = .ok (.iload_n 1, 1) := by decide +kernel
theorem dX9_areTold_1 : decode cX9_areTold 1 = .ok (.aload_n 0, 1) := by decide +kernel
theorem dX9_areTold_2 : decode cX9_areTold 2 = .ok (.getfield 19, 3) := by decide +kernel
theorem dX9_areTold_5 : decode cX9_areTold 5 = .ok (.getfield 85, 3) := by decide +kernel
theorem dX9_areTold_8 : decode cX9_areTold 8 = .ok (.iconst (-1), 1) := by decide +kernel
theorem dX9_areTold_9 : decode cX9_areTold 9 = .ok (.ixor, 1) := by decide +kernel
theorem dX9_areTold_10 : decode cX9_areTold 10 = .ok (.iand, 1) := by decide +kernel
theorem dX9_areTold_11 : decode cX9_areTold 11 = .ok (.ifCond .ne 7, 3) := by decide +kernel
theorem dX9_areTold_14 : decode cX9_areTold 14 = .ok (.iconst 1, 1) := by decide +kernel
theorem dX9_areTold_15 : decode cX9_areTold 15 = .ok (.goto 4, 3) := by decide +kernel
theorem dX9_areTold_18 : decode cX9_areTold 18 = .ok (.iconst 0, 1) := by decide +kernel
theorem dX9_areTold_19 : decode cX9_areTold 19 = .ok (.ireturn, 1) := by decide +kernel
theorem dX9_bestStretches_0 : decode cX9_bestStretches 0 = .ok (.iconst (-1), 1) := by decide +kernel
theorem dX9_bestStretches_1 : decode cX9_bestStretches 1 = .ok (.istore 5, 2) := by decide +kernel
theorem dX9_bestStretches_3 : decode cX9_bestStretches 3 = .ok (.iconst 0, 1) := by decide +kernel
theorem dX9_bestStretches_4 : decode cX9_bestStretches 4 = .ok (.istore 6, 2) := by decide +kernel
theorem dX9_bestStretches_6 : decode cX9_bestStretches 6 = .ok (.iconst 0, 1) := by decide +kernel
theorem dX9_bestStretches_7 : decode cX9_bestStretches 7 = .ok (.istore 7, 2) := by decide +kernel
theorem dX9_bestStretches_9 : decode cX9_bestStretches 9 = .ok (.iload 7, 2) := by decide +kernel
theorem dX9_bestStretches_11 : decode cX9_bestStretches 11 = .ok (.iload_n 3, 1) := by decide +kernel
theorem dX9_bestStretches_12 : decode cX9_bestStretches 12 = .ok (.if_icmp .ge 120, 3) := by decide +kernel
theorem dX9_bestStretches_15 : decode cX9_bestStretches 15 = .ok (.aload_n 0, 1) := by decide +kernel
theorem dX9_bestStretches_16 : decode cX9_bestStretches 16 = .ok (.getfield 73, 3) := by decide +kernel
theorem dX9_bestStretches_19 : decode cX9_bestStretches 19 = .ok (.aload_n 0, 1) := by decide +kernel
theorem dX9_bestStretches_20 : decode cX9_bestStretches 20 = .ok (.getfield 26, 3) := by decide +kernel
theorem dX9_bestStretches_23 : decode cX9_bestStretches 23 = .ok (.invokevirtual 157, 3) := by decide +kernel
theorem dX9_bestStretches_26 : decode cX9_bestStretches 26 = .ok (.aload_n 0, 1) := by decide +kernel
theorem dX9_bestStretches_27 : decode cX9_bestStretches 27 = .ok (.getfield 73, 3) := by decide +kernel
theorem dX9_bestStretches_30 : decode cX9_bestStretches 30 = .ok (.getfield 165, 3) := by decide +kernel
theorem dX9_bestStretches_33 : decode cX9_bestStretches 33 = .ok (.iconst 1, 1) := by decide +kernel
theorem dX9_bestStretches_34 : decode cX9_bestStretches 34 = .ok (.iload_n 2, 1) := by decide +kernel
theorem dX9_bestStretches_35 : decode cX9_bestStretches 35 = .ok (.ishl, 1) := by decide +kernel
theorem dX9_bestStretches_36 : decode cX9_bestStretches 36 = .ok (.invokevirtual 147, 3) := by decide +kernel
theorem dX9_bestStretches_39 : decode cX9_bestStretches 39 = .ok (.aload_n 0, 1) := by decide +kernel
theorem dX9_bestStretches_40 : decode cX9_bestStretches 40 = .ok (.getfield 73, 3) := by decide +kernel
theorem dX9_bestStretches_43 : decode cX9_bestStretches 43 = .ok (.getfield 165, 3) := by decide +kernel
theorem dX9_bestStretches_46 : decode cX9_bestStretches 46 = .ok (.iload_n 1, 1) := by decide +kernel
theorem dX9_bestStretches_47 : decode cX9_bestStretches 47 = .ok (.aload_n 0, 1) := by decide +kernel
theorem dX9_bestStretches_48 : decode cX9_bestStretches 48 = .ok (.getfield 26, 3) := by decide +kernel
theorem dX9_bestStretches_51 : decode cX9_bestStretches 51 = .ok (.getfield 209, 3) := by decide +kernel
theorem dX9_bestStretches_54 : decode cX9_bestStretches 54 = .ok (.iload 7, 2) := by decide +kernel
theorem dX9_bestStretches_56 : decode cX9_bestStretches 56 = .ok (.iload 4, 2) := by decide +kernel
theorem dX9_bestStretches_58 : decode cX9_bestStretches 58 = .ok (.imul, 1) := by decide +kernel
theorem dX9_bestStretches_59 : decode cX9_bestStretches 59 = .ok (.iadd, 1) := by decide +kernel
theorem dX9_bestStretches_60 : decode cX9_bestStretches 60 = .ok (.aload_n 0, 1) := by decide +kernel
theorem dX9_bestStretches_61 : decode cX9_bestStretches 61 = .ok (.getfield 26, 3) := by decide +kernel
theorem dX9_bestStretches_64 : decode cX9_bestStretches 64 = .ok (.getfield 209, 3) := by decide +kernel
theorem dX9_bestStretches_67 : decode cX9_bestStretches 67 = .ok (.iload 7, 2) := by decide +kernel
theorem dX9_bestStretches_69 : decode cX9_bestStretches 69 = .ok (.iload 4, 2) := by decide +kernel
theorem dX9_bestStretches_71 : decode cX9_bestStretches 71 = .ok (.imul, 1) := by decide +kernel
theorem dX9_bestStretches_72 : decode cX9_bestStretches 72 = .ok (.iadd, 1) := by decide +kernel
theorem dX9_bestStretches_73 : decode cX9_bestStretches 73 = .ok (.iload 4, 2) := by decide +kernel
theorem dX9_bestStretches_75 : decode cX9_bestStretches 75 = .ok (.iadd, 1) := by decide +kernel
theorem dX9_bestStretches_76 : decode cX9_bestStretches 76 = .ok (.iconst 1, 1) := by decide +kernel
theorem dX9_bestStretches_77 : decode cX9_bestStretches 77 = .ok (.isub, 1) := by decide +kernel
theorem dX9_bestStretches_78 : decode cX9_bestStretches 78 = .ok (.invokevirtual 311, 3) := by decide +kernel
theorem dX9_bestStretches_81 : decode cX9_bestStretches 81 = .ok (.aload_n 0, 1) := by decide +kernel
theorem dX9_bestStretches_82 : decode cX9_bestStretches 82 = .ok (.getfield 73, 3) := by decide +kernel
theorem dX9_bestStretches_85 : decode cX9_bestStretches 85 = .ok (.iload_n 3, 1) := by decide +kernel
theorem dX9_bestStretches_86 : decode cX9_bestStretches 86 = .ok (.iload 4, 2) := by decide +kernel
theorem dX9_bestStretches_88 : decode cX9_bestStretches 88 = .ok (.imul, 1) := by decide +kernel
theorem dX9_bestStretches_89 : decode cX9_bestStretches 89 = .ok (.ldc 160, 2) := by decide +kernel
theorem dX9_bestStretches_91 : decode cX9_bestStretches 91 = .ok (.invokevirtual 161, 3) := by decide +kernel
theorem dX9_bestStretches_94 : decode cX9_bestStretches 94 = .ok (.istore 8, 2) := by decide +kernel
theorem dX9_bestStretches_96 : decode cX9_bestStretches 96 = .ok (.iload 8, 2) := by decide +kernel
theorem dX9_bestStretches_98 : decode cX9_bestStretches 98 = .ok (.iload 5, 2) := by decide +kernel
theorem dX9_bestStretches_100 : decode cX9_bestStretches 100 = .ok (.if_icmp .le 10, 3) := by decide +kernel
theorem dX9_bestStretches_103 : decode cX9_bestStretches 103 = .ok (.iload 8, 2) := by decide +kernel
theorem dX9_bestStretches_105 : decode cX9_bestStretches 105 = .ok (.istore 5, 2) := by decide +kernel
theorem dX9_bestStretches_107 : decode cX9_bestStretches 107 = .ok (.iconst 0, 1) := by decide +kernel
theorem dX9_bestStretches_108 : decode cX9_bestStretches 108 = .ok (.istore 6, 2) := by decide +kernel
theorem dX9_bestStretches_110 : decode cX9_bestStretches 110 = .ok (.iload 8, 2) := by decide +kernel
theorem dX9_bestStretches_112 : decode cX9_bestStretches 112 = .ok (.iload 5, 2) := by decide +kernel
theorem dX9_bestStretches_114 : decode cX9_bestStretches 114 = .ok (.if_icmp .ne 12, 3) := by decide +kernel
theorem dX9_bestStretches_117 : decode cX9_bestStretches 117 = .ok (.iload 6, 2) := by decide +kernel
theorem dX9_bestStretches_119 : decode cX9_bestStretches 119 = .ok (.iconst 1, 1) := by decide +kernel
theorem dX9_bestStretches_120 : decode cX9_bestStretches 120 = .ok (.iload 7, 2) := by decide +kernel
theorem dX9_bestStretches_122 : decode cX9_bestStretches 122 = .ok (.ishl, 1) := by decide +kernel
theorem dX9_bestStretches_123 : decode cX9_bestStretches 123 = .ok (.ior, 1) := by decide +kernel
theorem dX9_bestStretches_124 : decode cX9_bestStretches 124 = .ok (.istore 6, 2) := by decide +kernel
theorem dX9_bestStretches_126 : decode cX9_bestStretches 126 = .ok (.iinc 7 1, 3) := by decide +kernel
theorem dX9_bestStretches_129 : decode cX9_bestStretches 129 = .ok (.goto (-120), 3) := by decide +kernel
theorem dX9_bestStretches_132 : decode cX9_bestStretches 132 = .ok (.iload 6, 2) := by decide +kernel
theorem dX9_bestStretches_134 : decode cX9_bestStretches 134 = .ok (.ireturn, 1) := by decide +kernel
theorem dX9_canLeave_0 : decode cX9_canLeave 0 = .ok (.aload_n 0, 1) := by decide +kernel
theorem dX9_canLeave_1 : decode cX9_canLeave 1 = .ok (.getfield 19, 3) := by decide +kernel
theorem dX9_canLeave_4 : decode cX9_canLeave 4 = .ok (.iload_n 1, 1) := by decide +kernel
theorem dX9_canLeave_5 : decode cX9_canLeave 5 = .ok (.invokevirtual 173, 3) := by decide +kernel
theorem dX9_canLeave_8 : decode cX9_canLeave 8 = .ok (.ifCond .eq 18, 3) := by decide +kernel
theorem dX9_canLeave_11 : decode cX9_canLeave 11 = .ok (.aload_n 0, 1) := by decide +kernel
theorem dX9_canLeave_12 : decode cX9_canLeave 12 = .ok (.getfield 26, 3) := by decide +kernel
theorem dX9_canLeave_15 : decode cX9_canLeave 15 = .ok (.iload_n 1, 1) := by decide +kernel
theorem dX9_canLeave_16 : decode cX9_canLeave 16 = .ok (.invokevirtual 300, 3) := by decide +kernel
theorem dX9_canLeave_19 : decode cX9_canLeave 19 = .ok (.ifCond .eq 7, 3) := by decide +kernel
theorem dX9_canLeave_22 : decode cX9_canLeave 22 = .ok (.iconst 1, 1) := by decide +kernel
theorem dX9_canLeave_23 : decode cX9_canLeave 23 = .ok (.goto 4, 3) := by decide +kernel
theorem dX9_canLeave_26 : decode cX9_canLeave 26 = .ok (.iconst 0, 1) := by decide +kernel
theorem dX9_canLeave_27 : decode cX9_canLeave 27 = .ok (.ireturn, 1) := by decide +kernel
theorem dX9_costIf_0 : decode cX9_costIf 0 = .ok (.aload_n 0, 1) := by decide +kernel
theorem dX9_costIf_1 : decode cX9_costIf 1 = .ok (.getfield 73, 3) := by decide +kernel
theorem dX9_costIf_4 : decode cX9_costIf 4 = .ok (.aload_n 0, 1) := by decide +kernel
theorem dX9_costIf_5 : decode cX9_costIf 5 = .ok (.getfield 26, 3) := by decide +kernel
theorem dX9_costIf_8 : decode cX9_costIf 8 = .ok (.invokevirtual 157, 3) := by decide +kernel
theorem dX9_costIf_11 : decode cX9_costIf 11 = .ok (.aload_n 0, 1) := by decide +kernel
theorem dX9_costIf_12 : decode cX9_costIf 12 = .ok (.getfield 73, 3) := by decide +kernel
theorem dX9_costIf_15 : decode cX9_costIf 15 = .ok (.getfield 165, 3) := by decide +kernel
theorem dX9_costIf_18 : decode cX9_costIf 18 = .ok (.iload_n 1, 1) := by decide +kernel
theorem dX9_costIf_19 : decode cX9_costIf 19 = .ok (.iconst (-1), 1) := by decide +kernel
theorem dX9_costIf_20 : decode cX9_costIf 20 = .ok (.ixor, 1) := by decide +kernel
theorem dX9_costIf_21 : decode cX9_costIf 21 = .ok (.invokevirtual 147, 3) := by decide +kernel
theorem dX9_costIf_24 : decode cX9_costIf 24 = .ok (.aload_n 0, 1) := by decide +kernel
theorem dX9_costIf_25 : decode cX9_costIf 25 = .ok (.getfield 73, 3) := by decide +kernel
theorem dX9_costIf_28 : decode cX9_costIf 28 = .ok (.iload_n 3, 1) := by decide +kernel
theorem dX9_costIf_29 : decode cX9_costIf 29 = .ok (.iconst 0, 1) := by decide +kernel
theorem dX9_costIf_30 : decode cX9_costIf 30 = .ok (.sipush 9999, 3) := by decide +kernel
theorem dX9_costIf_33 : decode cX9_costIf 33 = .ok (.invokevirtual 303, 3) := by decide +kernel
theorem dX9_costIf_36 : decode cX9_costIf 36 = .ok (.aload_n 0, 1) := by decide +kernel
theorem dX9_costIf_37 : decode cX9_costIf 37 = .ok (.getfield 73, 3) := by decide +kernel
theorem dX9_costIf_40 : decode cX9_costIf 40 = .ok (.iload 4, 2) := by decide +kernel
theorem dX9_costIf_42 : decode cX9_costIf 42 = .ok (.iload 5, 2) := by decide +kernel
theorem dX9_costIf_44 : decode cX9_costIf 44 = .ok (.invokevirtual 307, 3) := by decide +kernel
theorem dX9_costIf_47 : decode cX9_costIf 47 = .ok (.aload_n 0, 1) := by decide +kernel
theorem dX9_costIf_48 : decode cX9_costIf 48 = .ok (.getfield 73, 3) := by decide +kernel
theorem dX9_costIf_51 : decode cX9_costIf 51 = .ok (.iload_n 2, 1) := by decide +kernel
theorem dX9_costIf_52 : decode cX9_costIf 52 = .ok (.ldc 160, 2) := by decide +kernel
theorem dX9_costIf_54 : decode cX9_costIf 54 = .ok (.invokevirtual 161, 3) := by decide +kernel
theorem dX9_costIf_57 : decode cX9_costIf 57 = .ok (.ireturn, 1) := by decide +kernel
theorem dX9_digitByFour_0 : decode cX9_digitByFour 0 = .ok (.iload_n 0, 1) := by decide +kernel
theorem dX9_digitByFour_1 : decode cX9_digitByFour 1 = .ok (.iconst 2, 1) := by decide +kernel
theorem dX9_digitByFour_2 : decode cX9_digitByFour 2 = .ok (.iload_n 2, 1) := by decide +kernel
theorem dX9_digitByFour_3 : decode cX9_digitByFour 3 = .ok (.iconst 1, 1) := by decide +kernel
theorem dX9_digitByFour_4 : decode cX9_digitByFour 4 = .ok (.isub, 1) := by decide +kernel
theorem dX9_digitByFour_5 : decode cX9_digitByFour 5 = .ok (.iload_n 1, 1) := by decide +kernel
theorem dX9_digitByFour_6 : decode cX9_digitByFour 6 = .ok (.isub, 1) := by decide +kernel
theorem dX9_digitByFour_7 : decode cX9_digitByFour 7 = .ok (.imul, 1) := by decide +kernel
theorem dX9_digitByFour_8 : decode cX9_digitByFour 8 = .ok (.ishr, 1) := by decide +kernel
theorem dX9_digitByFour_9 : decode cX9_digitByFour 9 = .ok (.iconst 3, 1) := by decide +kernel
theorem dX9_digitByFour_10 : decode cX9_digitByFour 10 = .ok (.iand, 1) := by decide +kernel
theorem dX9_digitByFour_11 : decode cX9_digitByFour 11 = .ok (.ireturn, 1) := by decide +kernel
theorem dX9_firstOther_0 : decode cX9_firstOther 0 = .ok (.iconst 0, 1) := by decide +kernel
theorem dX9_firstOther_1 : decode cX9_firstOther 1 = .ok (.istore_n 3, 1) := by decide +kernel
theorem dX9_firstOther_2 : decode cX9_firstOther 2 = .ok (.iload_n 3, 1) := by decide +kernel
theorem dX9_firstOther_3 : decode cX9_firstOther 3 = .ok (.iload_n 2, 1) := by decide +kernel
theorem dX9_firstOther_4 : decode cX9_firstOther 4 = .ok (.if_icmp .ge 34, 3) := by decide +kernel
theorem dX9_firstOther_7 : decode cX9_firstOther 7 = .ok (.iload_n 3, 1) := by decide +kernel
theorem dX9_firstOther_8 : decode cX9_firstOther 8 = .ok (.bipush 12, 2) := by decide +kernel
theorem dX9_firstOther_10 : decode cX9_firstOther 10 = .ok (.if_icmp .ge 28, 3) := by decide +kernel
theorem dX9_firstOther_13 : decode cX9_firstOther 13 = .ok (.aload_n 0, 1) := by decide +kernel
theorem dX9_firstOther_14 : decode cX9_firstOther 14 = .ok (.getfield 10, 3) := by decide +kernel
theorem dX9_firstOther_17 : decode cX9_firstOther 17 = .ok (.iload_n 3, 1) := by decide +kernel
theorem dX9_firstOther_18 : decode cX9_firstOther 18 = .ok (.invokevirtual 314, 3) := by decide +kernel
theorem dX9_firstOther_21 : decode cX9_firstOther 21 = .ok (.aload_n 1, 1) := by decide +kernel
theorem dX9_firstOther_22 : decode cX9_firstOther 22 = .ok (.getfield 98, 3) := by decide +kernel
theorem dX9_firstOther_25 : decode cX9_firstOther 25 = .ok (.iload_n 3, 1) := by decide +kernel
theorem dX9_firstOther_26 : decode cX9_firstOther 26 = .ok (.iaload, 1) := by decide +kernel
theorem dX9_firstOther_27 : decode cX9_firstOther 27 = .ok (.if_icmp .eq 5, 3) := by decide +kernel
theorem dX9_firstOther_30 : decode cX9_firstOther 30 = .ok (.iload_n 3, 1) := by decide +kernel
theorem dX9_firstOther_31 : decode cX9_firstOther 31 = .ok (.ireturn, 1) := by decide +kernel
theorem dX9_firstOther_32 : decode cX9_firstOther 32 = .ok (.iinc 3 1, 3) := by decide +kernel
theorem dX9_firstOther_35 : decode cX9_firstOther 35 = .ok (.goto (-33), 3) := by decide +kernel
theorem dX9_firstOther_38 : decode cX9_firstOther 38 = .ok (.iconst (-1), 1) := by decide +kernel
theorem dX9_firstOther_39 : decode cX9_firstOther 39 = .ok (.ireturn, 1) := by decide +kernel
theorem dX9_hiredUnits_0 : decode cX9_hiredUnits 0 = .ok (.iload_n 0, 1) := by decide +kernel
theorem dX9_hiredUnits_1 : decode cX9_hiredUnits 1 = .ok (.iload_n 2, 1) := by decide +kernel
theorem dX9_hiredUnits_2 : decode cX9_hiredUnits 2 = .ok (.ishr, 1) := by decide +kernel
theorem dX9_hiredUnits_3 : decode cX9_hiredUnits 3 = .ok (.invokestatic 142, 3) := by decide +kernel
theorem dX9_hiredUnits_6 : decode cX9_hiredUnits 6 = .ok (.iconst 1, 1) := by decide +kernel
theorem dX9_hiredUnits_7 : decode cX9_hiredUnits 7 = .ok (.isub, 1) := by decide +kernel
theorem dX9_hiredUnits_8 : decode cX9_hiredUnits 8 = .ok (.istore_n 3, 1) := by decide +kernel
theorem dX9_hiredUnits_9 : decode cX9_hiredUnits 9 = .ok (.iload_n 3, 1) := by decide +kernel
theorem dX9_hiredUnits_10 : decode cX9_hiredUnits 10 = .ok (.ifCond .ne 10, 3) := by decide +kernel
theorem dX9_hiredUnits_13 : decode cX9_hiredUnits 13 = .ok (.iload_n 1, 1) := by decide +kernel
theorem dX9_hiredUnits_14 : decode cX9_hiredUnits 14 = .ok (.bipush 10, 2) := by decide +kernel
theorem dX9_hiredUnits_16 : decode cX9_hiredUnits 16 = .ok (.irem, 1) := by decide +kernel
theorem dX9_hiredUnits_17 : decode cX9_hiredUnits 17 = .ok (.goto 22, 3) := by decide +kernel
theorem dX9_hiredUnits_20 : decode cX9_hiredUnits 20 = .ok (.iload_n 3, 1) := by decide +kernel
theorem dX9_hiredUnits_21 : decode cX9_hiredUnits 21 = .ok (.iconst 1, 1) := by decide +kernel
theorem dX9_hiredUnits_22 : decode cX9_hiredUnits 22 = .ok (.if_icmp .ne 13, 3) := by decide +kernel
theorem dX9_hiredUnits_25 : decode cX9_hiredUnits 25 = .ok (.iload_n 1, 1) := by decide +kernel
theorem dX9_hiredUnits_26 : decode cX9_hiredUnits 26 = .ok (.bipush 10, 2) := by decide +kernel
theorem dX9_hiredUnits_28 : decode cX9_hiredUnits 28 = .ok (.idiv, 1) := by decide +kernel
theorem dX9_hiredUnits_29 : decode cX9_hiredUnits 29 = .ok (.bipush 10, 2) := by decide +kernel
theorem dX9_hiredUnits_31 : decode cX9_hiredUnits 31 = .ok (.irem, 1) := by decide +kernel
theorem dX9_hiredUnits_32 : decode cX9_hiredUnits 32 = .ok (.goto 7, 3) := by decide +kernel
theorem dX9_hiredUnits_35 : decode cX9_hiredUnits 35 = .ok (.iload_n 1, 1) := by decide +kernel
theorem dX9_hiredUnits_36 : decode cX9_hiredUnits 36 = .ok (.bipush 100, 2) := by decide +kernel
theorem dX9_hiredUnits_38 : decode cX9_hiredUnits 38 = .ok (.idiv, 1) := by decide +kernel
theorem dX9_hiredUnits_39 : decode cX9_hiredUnits 39 = .ok (.ireturn, 1) := by decide +kernel
theorem dX9_isOrder_0 : decode cX9_isOrder 0 = .ok (.iconst 0, 1) := by decide +kernel
theorem dX9_isOrder_1 : decode cX9_isOrder 1 = .ok (.istore_n 2, 1) := by decide +kernel
theorem dX9_isOrder_2 : decode cX9_isOrder 2 = .ok (.iconst 0, 1) := by decide +kernel
theorem dX9_isOrder_3 : decode cX9_isOrder 3 = .ok (.istore_n 3, 1) := by decide +kernel
theorem dX9_isOrder_4 : decode cX9_isOrder 4 = .ok (.iload_n 3, 1) := by decide +kernel
theorem dX9_isOrder_5 : decode cX9_isOrder 5 = .ok (.iload_n 1, 1) := by decide +kernel
theorem dX9_isOrder_6 : decode cX9_isOrder 6 = .ok (.if_icmp .ge 20, 3) := by decide +kernel
theorem dX9_isOrder_9 : decode cX9_isOrder 9 = .ok (.iload_n 2, 1) := by decide +kernel
theorem dX9_isOrder_10 : decode cX9_isOrder 10 = .ok (.iconst 1, 1) := by decide +kernel
theorem dX9_isOrder_11 : decode cX9_isOrder 11 = .ok (.iload_n 0, 1) := by decide +kernel
theorem dX9_isOrder_12 : decode cX9_isOrder 12 = .ok (.iload_n 3, 1) := by decide +kernel
theorem dX9_isOrder_13 : decode cX9_isOrder 13 = .ok (.iload_n 1, 1) := by decide +kernel
theorem dX9_isOrder_14 : decode cX9_isOrder 14 = .ok (.invokestatic 293, 3) := by decide +kernel
theorem dX9_isOrder_17 : decode cX9_isOrder 17 = .ok (.ishl, 1) := by decide +kernel
theorem dX9_isOrder_18 : decode cX9_isOrder 18 = .ok (.ior, 1) := by decide +kernel
theorem dX9_isOrder_19 : decode cX9_isOrder 19 = .ok (.istore_n 2, 1) := by decide +kernel
theorem dX9_isOrder_20 : decode cX9_isOrder 20 = .ok (.iinc 3 1, 3) := by decide +kernel
theorem dX9_isOrder_23 : decode cX9_isOrder 23 = .ok (.goto (-19), 3) := by decide +kernel
theorem dX9_isOrder_26 : decode cX9_isOrder 26 = .ok (.iload_n 2, 1) := by decide +kernel
theorem dX9_isOrder_27 : decode cX9_isOrder 27 = .ok (.iconst 1, 1) := by decide +kernel
theorem dX9_isOrder_28 : decode cX9_isOrder 28 = .ok (.iload_n 1, 1) := by decide +kernel
theorem dX9_isOrder_29 : decode cX9_isOrder 29 = .ok (.ishl, 1) := by decide +kernel
theorem dX9_isOrder_30 : decode cX9_isOrder 30 = .ok (.iconst 1, 1) := by decide +kernel
theorem dX9_isOrder_31 : decode cX9_isOrder 31 = .ok (.isub, 1) := by decide +kernel
theorem dX9_isOrder_32 : decode cX9_isOrder 32 = .ok (.if_icmp .ne 7, 3) := by decide +kernel
theorem dX9_isOrder_35 : decode cX9_isOrder 35 = .ok (.iconst 1, 1) := by decide +kernel
theorem dX9_isOrder_36 : decode cX9_isOrder 36 = .ok (.goto 4, 3) := by decide +kernel
theorem dX9_isOrder_39 : decode cX9_isOrder 39 = .ok (.iconst 0, 1) := by decide +kernel
theorem dX9_isOrder_40 : decode cX9_isOrder 40 = .ok (.ireturn, 1) := by decide +kernel
theorem dX9_memberAt_0 : decode cX9_memberAt 0 = .ok (.iconst 0, 1) := by decide +kernel
theorem dX9_memberAt_1 : decode cX9_memberAt 1 = .ok (.istore_n 2, 1) := by decide +kernel
theorem dX9_memberAt_2 : decode cX9_memberAt 2 = .ok (.iconst 0, 1) := by decide +kernel
theorem dX9_memberAt_3 : decode cX9_memberAt 3 = .ok (.istore_n 3, 1) := by decide +kernel
theorem dX9_memberAt_4 : decode cX9_memberAt 4 = .ok (.iload_n 3, 1) := by decide +kernel
theorem dX9_memberAt_5 : decode cX9_memberAt 5 = .ok (.bipush 12, 2) := by decide +kernel
theorem dX9_memberAt_7 : decode cX9_memberAt 7 = .ok (.if_icmp .ge 27, 3) := by decide +kernel
theorem dX9_memberAt_10 : decode cX9_memberAt 10 = .ok (.iload_n 0, 1) := by decide +kernel
theorem dX9_memberAt_11 : decode cX9_memberAt 11 = .ok (.iload_n 3, 1) := by decide +kernel
theorem dX9_memberAt_12 : decode cX9_memberAt 12 = .ok (.invokestatic 232, 3) := by decide +kernel
theorem dX9_memberAt_15 : decode cX9_memberAt 15 = .ok (.ifCond .eq 13, 3) := by decide +kernel
theorem dX9_memberAt_18 : decode cX9_memberAt 18 = .ok (.iload_n 2, 1) := by decide +kernel
theorem dX9_memberAt_19 : decode cX9_memberAt 19 = .ok (.iload_n 1, 1) := by decide +kernel
theorem dX9_memberAt_20 : decode cX9_memberAt 20 = .ok (.if_icmp .ne 5, 3) := by decide +kernel
theorem dX9_memberAt_23 : decode cX9_memberAt 23 = .ok (.iload_n 3, 1) := by decide +kernel
theorem dX9_memberAt_24 : decode cX9_memberAt 24 = .ok (.ireturn, 1) := by decide +kernel
theorem dX9_memberAt_25 : decode cX9_memberAt 25 = .ok (.iinc 2 1, 3) := by decide +kernel
theorem dX9_memberAt_28 : decode cX9_memberAt 28 = .ok (.iinc 3 1, 3) := by decide +kernel
theorem dX9_memberAt_31 : decode cX9_memberAt 31 = .ok (.goto (-27), 3) := by decide +kernel
theorem dX9_memberAt_34 : decode cX9_memberAt 34 = .ok (.iconst (-1), 1) := by decide +kernel
theorem dX9_memberAt_35 : decode cX9_memberAt 35 = .ok (.ireturn, 1) := by decide +kernel
theorem dX9_membersOf_0 : decode cX9_membersOf 0 = .ok (.iconst 0, 1) := by decide +kernel
theorem dX9_membersOf_1 : decode cX9_membersOf 1 = .ok (.istore_n 2, 1) := by decide +kernel
theorem dX9_membersOf_2 : decode cX9_membersOf 2 = .ok (.iconst 0, 1) := by decide +kernel
theorem dX9_membersOf_3 : decode cX9_membersOf 3 = .ok (.istore_n 3, 1) := by decide +kernel
theorem dX9_membersOf_4 : decode cX9_membersOf 4 = .ok (.iload_n 3, 1) := by decide +kernel
theorem dX9_membersOf_5 : decode cX9_membersOf 5 = .ok (.bipush 10, 2) := by decide +kernel
theorem dX9_membersOf_7 : decode cX9_membersOf 7 = .ok (.if_icmp .ge 27, 3) := by decide +kernel
theorem dX9_membersOf_10 : decode cX9_membersOf 10 = .ok (.iload_n 1, 1) := by decide +kernel
theorem dX9_membersOf_11 : decode cX9_membersOf 11 = .ok (.iload_n 3, 1) := by decide +kernel
theorem dX9_membersOf_12 : decode cX9_membersOf 12 = .ok (.invokestatic 232, 3) := by decide +kernel
theorem dX9_membersOf_15 : decode cX9_membersOf 15 = .ok (.ifCond .eq 13, 3) := by decide +kernel
theorem dX9_membersOf_18 : decode cX9_membersOf 18 = .ok (.iload_n 2, 1) := by decide +kernel
theorem dX9_membersOf_19 : decode cX9_membersOf 19 = .ok (.iconst 1, 1) := by decide +kernel
theorem dX9_membersOf_20 : decode cX9_membersOf 20 = .ok (.iload_n 0, 1) := by decide +kernel
theorem dX9_membersOf_21 : decode cX9_membersOf 21 = .ok (.iload_n 3, 1) := by decide +kernel
theorem dX9_membersOf_22 : decode cX9_membersOf 22 = .ok (.invokestatic 242, 3) := by decide +kernel
theorem dX9_membersOf_25 : decode cX9_membersOf 25 = .ok (.ishl, 1) := by decide +kernel
theorem dX9_membersOf_26 : decode cX9_membersOf 26 = .ok (.ior, 1) := by decide +kernel
theorem dX9_membersOf_27 : decode cX9_membersOf 27 = .ok (.istore_n 2, 1) := by decide +kernel
theorem dX9_membersOf_28 : decode cX9_membersOf 28 = .ok (.iinc 3 1, 3) := by decide +kernel
theorem dX9_membersOf_31 : decode cX9_membersOf 31 = .ok (.goto (-27), 3) := by decide +kernel
theorem dX9_membersOf_34 : decode cX9_membersOf 34 = .ok (.iload_n 2, 1) := by decide +kernel
theorem dX9_membersOf_35 : decode cX9_membersOf 35 = .ok (.ireturn, 1) := by decide +kernel
theorem dX9_missedByTurns_0 : decode cX9_missedByTurns 0 = .ok (.iload_n 1, 1) := by decide +kernel
theorem dX9_missedByTurns_1 : decode cX9_missedByTurns 1 = .ok (.invokestatic 142, 3) := by decide +kernel
theorem dX9_missedByTurns_4 : decode cX9_missedByTurns 4 = .ok (.istore 5, 2) := by decide +kernel
theorem dX9_missedByTurns_6 : decode cX9_missedByTurns 6 = .ok (.aload_n 0, 1) := by decide +kernel
theorem dX9_missedByTurns_7 : decode cX9_missedByTurns 7 = .ok (.getfield 73, 3) := by decide +kernel
theorem dX9_missedByTurns_10 : decode cX9_missedByTurns 10 = .ok (.aload_n 0, 1) := by decide +kernel
theorem dX9_missedByTurns_11 : decode cX9_missedByTurns 11 = .ok (.getfield 26, 3) := by decide +kernel
theorem dX9_missedByTurns_14 : decode cX9_missedByTurns 14 = .ok (.invokevirtual 157, 3) := by decide +kernel
theorem dX9_missedByTurns_17 : decode cX9_missedByTurns 17 = .ok (.aload_n 0, 1) := by decide +kernel
theorem dX9_missedByTurns_18 : decode cX9_missedByTurns 18 = .ok (.getfield 73, 3) := by decide +kernel
theorem dX9_missedByTurns_21 : decode cX9_missedByTurns 21 = .ok (.getfield 165, 3) := by decide +kernel
theorem dX9_missedByTurns_24 : decode cX9_missedByTurns 24 = .ok (.sipush 1023, 3) := by decide +kernel
theorem dX9_missedByTurns_27 : decode cX9_missedByTurns 27 = .ok (.invokevirtual 147, 3) := by decide +kernel
theorem dX9_missedByTurns_30 : decode cX9_missedByTurns 30 = .ok (.iconst 0, 1) := by decide +kernel
theorem dX9_missedByTurns_31 : decode cX9_missedByTurns 31 = .ok (.istore 6, 2) := by decide +kernel
theorem dX9_missedByTurns_33 : decode cX9_missedByTurns 33 = .ok (.iload 6, 2) := by decide +kernel
theorem dX9_missedByTurns_35 : decode cX9_missedByTurns 35 = .ok (.iload 5, 2) := by decide +kernel
theorem dX9_missedByTurns_37 : decode cX9_missedByTurns 37 = .ok (.if_icmp .ge 53, 3) := by decide +kernel
theorem dX9_missedByTurns_40 : decode cX9_missedByTurns 40 = .ok (.aload_n 0, 1) := by decide +kernel
theorem dX9_missedByTurns_41 : decode cX9_missedByTurns 41 = .ok (.getfield 26, 3) := by decide +kernel
theorem dX9_missedByTurns_44 : decode cX9_missedByTurns 44 = .ok (.getfield 209, 3) := by decide +kernel
theorem dX9_missedByTurns_47 : decode cX9_missedByTurns 47 = .ok (.iload 6, 2) := by decide +kernel
theorem dX9_missedByTurns_49 : decode cX9_missedByTurns 49 = .ok (.iload_n 3, 1) := by decide +kernel
theorem dX9_missedByTurns_50 : decode cX9_missedByTurns 50 = .ok (.imul, 1) := by decide +kernel
theorem dX9_missedByTurns_51 : decode cX9_missedByTurns 51 = .ok (.iadd, 1) := by decide +kernel
theorem dX9_missedByTurns_52 : decode cX9_missedByTurns 52 = .ok (.istore 7, 2) := by decide +kernel
theorem dX9_missedByTurns_54 : decode cX9_missedByTurns 54 = .ok (.aload_n 0, 1) := by decide +kernel
theorem dX9_missedByTurns_55 : decode cX9_missedByTurns 55 = .ok (.getfield 73, 3) := by decide +kernel
theorem dX9_missedByTurns_58 : decode cX9_missedByTurns 58 = .ok (.getfield 165, 3) := by decide +kernel
theorem dX9_missedByTurns_61 : decode cX9_missedByTurns 61 = .ok (.iload_n 1, 1) := by decide +kernel
theorem dX9_missedByTurns_62 : decode cX9_missedByTurns 62 = .ok (.iload_n 2, 1) := by decide +kernel
theorem dX9_missedByTurns_63 : decode cX9_missedByTurns 63 = .ok (.iload 6, 2) := by decide +kernel
theorem dX9_missedByTurns_65 : decode cX9_missedByTurns 65 = .ok (.iload 5, 2) := by decide +kernel
theorem dX9_missedByTurns_67 : decode cX9_missedByTurns 67 = .ok (.invokestatic 293, 3) := by decide +kernel
theorem dX9_missedByTurns_70 : decode cX9_missedByTurns 70 = .ok (.invokestatic 242, 3) := by decide +kernel
theorem dX9_missedByTurns_73 : decode cX9_missedByTurns 73 = .ok (.iload 7, 2) := by decide +kernel
theorem dX9_missedByTurns_75 : decode cX9_missedByTurns 75 = .ok (.iload 7, 2) := by decide +kernel
theorem dX9_missedByTurns_77 : decode cX9_missedByTurns 77 = .ok (.iload_n 3, 1) := by decide +kernel
theorem dX9_missedByTurns_78 : decode cX9_missedByTurns 78 = .ok (.iadd, 1) := by decide +kernel
theorem dX9_missedByTurns_79 : decode cX9_missedByTurns 79 = .ok (.iconst 1, 1) := by decide +kernel
theorem dX9_missedByTurns_80 : decode cX9_missedByTurns 80 = .ok (.isub, 1) := by decide +kernel
theorem dX9_missedByTurns_81 : decode cX9_missedByTurns 81 = .ok (.invokevirtual 311, 3) := by decide +kernel
theorem dX9_missedByTurns_84 : decode cX9_missedByTurns 84 = .ok (.iinc 6 1, 3) := by decide +kernel
theorem dX9_missedByTurns_87 : decode cX9_missedByTurns 87 = .ok (.goto (-54), 3) := by decide +kernel
theorem dX9_missedByTurns_90 : decode cX9_missedByTurns 90 = .ok (.aload_n 0, 1) := by decide +kernel
theorem dX9_missedByTurns_91 : decode cX9_missedByTurns 91 = .ok (.getfield 73, 3) := by decide +kernel
theorem dX9_missedByTurns_94 : decode cX9_missedByTurns 94 = .ok (.iload 5, 2) := by decide +kernel
theorem dX9_missedByTurns_96 : decode cX9_missedByTurns 96 = .ok (.iload_n 3, 1) := by decide +kernel
theorem dX9_missedByTurns_97 : decode cX9_missedByTurns 97 = .ok (.imul, 1) := by decide +kernel
theorem dX9_missedByTurns_98 : decode cX9_missedByTurns 98 = .ok (.iload 4, 2) := by decide +kernel
theorem dX9_missedByTurns_100 : decode cX9_missedByTurns 100 = .ok (.invokevirtual 161, 3) := by decide +kernel
theorem dX9_missedByTurns_103 : decode cX9_missedByTurns 103 = .ok (.ireturn, 1) := by decide +kernel
theorem dX9_missedIfAway_0 : decode cX9_missedIfAway 0 = .ok (.aload_n 0, 1) := by decide +kernel
theorem dX9_missedIfAway_1 : decode cX9_missedIfAway 1 = .ok (.getfield 73, 3) := by decide +kernel
theorem dX9_missedIfAway_4 : decode cX9_missedIfAway 4 = .ok (.aload_n 0, 1) := by decide +kernel
theorem dX9_missedIfAway_5 : decode cX9_missedIfAway 5 = .ok (.getfield 26, 3) := by decide +kernel
theorem dX9_missedIfAway_8 : decode cX9_missedIfAway 8 = .ok (.invokevirtual 157, 3) := by decide +kernel
theorem dX9_missedIfAway_11 : decode cX9_missedIfAway 11 = .ok (.aload_n 0, 1) := by decide +kernel
theorem dX9_missedIfAway_12 : decode cX9_missedIfAway 12 = .ok (.getfield 73, 3) := by decide +kernel
theorem dX9_missedIfAway_15 : decode cX9_missedIfAway 15 = .ok (.getfield 165, 3) := by decide +kernel
theorem dX9_missedIfAway_18 : decode cX9_missedIfAway 18 = .ok (.iload_n 1, 1) := by decide +kernel
theorem dX9_missedIfAway_19 : decode cX9_missedIfAway 19 = .ok (.iload_n 2, 1) := by decide +kernel
theorem dX9_missedIfAway_20 : decode cX9_missedIfAway 20 = .ok (.iload_n 2, 1) := by decide +kernel
theorem dX9_missedIfAway_21 : decode cX9_missedIfAway 21 = .ok (.bipush (-2), 2) := by decide +kernel
theorem dX9_missedIfAway_23 : decode cX9_missedIfAway 23 = .ok (.if_icmp .ne 8, 3) := by decide +kernel
theorem dX9_missedIfAway_26 : decode cX9_missedIfAway 26 = .ok (.bipush (-2), 2) := by decide +kernel
theorem dX9_missedIfAway_28 : decode cX9_missedIfAway 28 = .ok (.goto 8, 3) := by decide +kernel
theorem dX9_missedIfAway_31 : decode cX9_missedIfAway 31 = .ok (.iload_n 2, 1) := by decide +kernel
theorem dX9_missedIfAway_32 : decode cX9_missedIfAway 32 = .ok (.iload_n 3, 1) := by decide +kernel
theorem dX9_missedIfAway_33 : decode cX9_missedIfAway 33 = .ok (.iadd, 1) := by decide +kernel
theorem dX9_missedIfAway_34 : decode cX9_missedIfAway 34 = .ok (.iconst 1, 1) := by decide +kernel
theorem dX9_missedIfAway_35 : decode cX9_missedIfAway 35 = .ok (.isub, 1) := by decide +kernel
theorem dX9_missedIfAway_36 : decode cX9_missedIfAway 36 = .ok (.invokevirtual 311, 3) := by decide +kernel
theorem dX9_missedIfAway_39 : decode cX9_missedIfAway 39 = .ok (.aload_n 0, 1) := by decide +kernel
theorem dX9_missedIfAway_40 : decode cX9_missedIfAway 40 = .ok (.getfield 73, 3) := by decide +kernel
theorem dX9_missedIfAway_43 : decode cX9_missedIfAway 43 = .ok (.iload 4, 2) := by decide +kernel
theorem dX9_missedIfAway_45 : decode cX9_missedIfAway 45 = .ok (.ldc 160, 2) := by decide +kernel
theorem dX9_missedIfAway_47 : decode cX9_missedIfAway 47 = .ok (.invokevirtual 161, 3) := by decide +kernel
theorem dX9_missedIfAway_50 : decode cX9_missedIfAway 50 = .ok (.ireturn, 1) := by decide +kernel
theorem dX9_missedIfHired_0 : decode cX9_missedIfHired 0 = .ok (.aload_n 0, 1) := by decide +kernel
theorem dX9_missedIfHired_1 : decode cX9_missedIfHired 1 = .ok (.getfield 73, 3) := by decide +kernel
theorem dX9_missedIfHired_4 : decode cX9_missedIfHired 4 = .ok (.aload_n 0, 1) := by decide +kernel
theorem dX9_missedIfHired_5 : decode cX9_missedIfHired 5 = .ok (.getfield 26, 3) := by decide +kernel
theorem dX9_missedIfHired_8 : decode cX9_missedIfHired 8 = .ok (.invokevirtual 157, 3) := by decide +kernel
theorem dX9_missedIfHired_11 : decode cX9_missedIfHired 11 = .ok (.iconst 0, 1) := by decide +kernel
theorem dX9_missedIfHired_12 : decode cX9_missedIfHired 12 = .ok (.istore 5, 2) := by decide +kernel
theorem dX9_missedIfHired_14 : decode cX9_missedIfHired 14 = .ok (.iload 5, 2) := by decide +kernel
theorem dX9_missedIfHired_16 : decode cX9_missedIfHired 16 = .ok (.bipush 10, 2) := by decide +kernel
theorem dX9_missedIfHired_18 : decode cX9_missedIfHired 18 = .ok (.if_icmp .ge 35, 3) := by decide +kernel
theorem dX9_missedIfHired_21 : decode cX9_missedIfHired 21 = .ok (.iload_n 1, 1) := by decide +kernel
theorem dX9_missedIfHired_22 : decode cX9_missedIfHired 22 = .ok (.iload 5, 2) := by decide +kernel
theorem dX9_missedIfHired_24 : decode cX9_missedIfHired 24 = .ok (.invokestatic 232, 3) := by decide +kernel
theorem dX9_missedIfHired_27 : decode cX9_missedIfHired 27 = .ok (.ifCond .eq 20, 3) := by decide +kernel
theorem dX9_missedIfHired_30 : decode cX9_missedIfHired 30 = .ok (.aload_n 0, 1) := by decide +kernel
theorem dX9_missedIfHired_31 : decode cX9_missedIfHired 31 = .ok (.getfield 73, 3) := by decide +kernel
theorem dX9_missedIfHired_34 : decode cX9_missedIfHired 34 = .ok (.getfield 320, 3) := by decide +kernel
theorem dX9_missedIfHired_37 : decode cX9_missedIfHired 37 = .ok (.iload 5, 2) := by decide +kernel
theorem dX9_missedIfHired_39 : decode cX9_missedIfHired 39 = .ok (.iload_n 1, 1) := by decide +kernel
theorem dX9_missedIfHired_40 : decode cX9_missedIfHired 40 = .ok (.iload_n 2, 1) := by decide +kernel
theorem dX9_missedIfHired_41 : decode cX9_missedIfHired 41 = .ok (.iload 5, 2) := by decide +kernel
theorem dX9_missedIfHired_43 : decode cX9_missedIfHired 43 = .ok (.invokestatic 278, 3) := by decide +kernel
theorem dX9_missedIfHired_46 : decode cX9_missedIfHired 46 = .ok (.iastore, 1) := by decide +kernel
theorem dX9_missedIfHired_47 : decode cX9_missedIfHired 47 = .ok (.iinc 5 1, 3) := by decide +kernel
theorem dX9_missedIfHired_50 : decode cX9_missedIfHired 50 = .ok (.goto (-36), 3) := by decide +kernel
theorem dX9_missedIfHired_53 : decode cX9_missedIfHired 53 = .ok (.aload_n 0, 1) := by decide +kernel
theorem dX9_missedIfHired_54 : decode cX9_missedIfHired 54 = .ok (.getfield 73, 3) := by decide +kernel
theorem dX9_missedIfHired_57 : decode cX9_missedIfHired 57 = .ok (.iload_n 3, 1) := by decide +kernel
theorem dX9_missedIfHired_58 : decode cX9_missedIfHired 58 = .ok (.iload 4, 2) := by decide +kernel
theorem dX9_missedIfHired_60 : decode cX9_missedIfHired 60 = .ok (.invokevirtual 161, 3) := by decide +kernel
theorem dX9_missedIfHired_63 : decode cX9_missedIfHired 63 = .ok (.ireturn, 1) := by decide +kernel
theorem dX9_missedOnLeave_0 : decode cX9_missedOnLeave 0 = .ok (.aload_n 0, 1) := by decide +kernel
theorem dX9_missedOnLeave_1 : decode cX9_missedOnLeave 1 = .ok (.getfield 26, 3) := by decide +kernel
theorem dX9_missedOnLeave_4 : decode cX9_missedOnLeave 4 = .ok (.getfield 191, 3) := by decide +kernel
theorem dX9_missedOnLeave_7 : decode cX9_missedOnLeave 7 = .ok (.iload_n 1, 1) := by decide +kernel
theorem dX9_missedOnLeave_8 : decode cX9_missedOnLeave 8 = .ok (.iaload, 1) := by decide +kernel
theorem dX9_missedOnLeave_9 : decode cX9_missedOnLeave 9 = .ok (.istore_n 3, 1) := by decide +kernel
theorem dX9_missedOnLeave_10 : decode cX9_missedOnLeave 10 = .ok (.aload_n 0, 1) := by decide +kernel
theorem dX9_missedOnLeave_11 : decode cX9_missedOnLeave 11 = .ok (.getfield 73, 3) := by decide +kernel
theorem dX9_missedOnLeave_14 : decode cX9_missedOnLeave 14 = .ok (.aload_n 0, 1) := by decide +kernel
theorem dX9_missedOnLeave_15 : decode cX9_missedOnLeave 15 = .ok (.getfield 26, 3) := by decide +kernel
theorem dX9_missedOnLeave_18 : decode cX9_missedOnLeave 18 = .ok (.invokevirtual 157, 3) := by decide +kernel
theorem dX9_missedOnLeave_21 : decode cX9_missedOnLeave 21 = .ok (.aload_n 0, 1) := by decide +kernel
theorem dX9_missedOnLeave_22 : decode cX9_missedOnLeave 22 = .ok (.getfield 73, 3) := by decide +kernel
theorem dX9_missedOnLeave_25 : decode cX9_missedOnLeave 25 = .ok (.getfield 165, 3) := by decide +kernel
