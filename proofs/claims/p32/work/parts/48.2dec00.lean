theorem dX10_areGoers_0 : decode cX10_areGoers 0 = .ok (.iconst 0, 1) := by decide +kernel
theorem dX10_areGoers_1 : decode cX10_areGoers 1 = .ok (.istore_n 2, 1) := by decide +kernel
theorem dX10_areGoers_2 : decode cX10_areGoers 2 = .ok (.iload_n 2, 1) := by decide +kernel
theorem dX10_areGoers_3 : decode cX10_areGoers 3 = .ok (.bipush 10, 2) := by decide +kernel
theorem dX10_areGoers_5 : decode cX10_areGoers 5 = .ok (.if_icmp .ge 27, 3) := by decide +kernel
theorem dX10_areGoers_8 : decode cX10_areGoers 8 = .ok (.iload_n 1, 1) := by decide +kernel
theorem dX10_areGoers_9 : decode cX10_areGoers 9 = .ok (.iload_n 2, 1) := by decide +kernel
theorem dX10_areGoers_10 : decode cX10_areGoers 10 = .ok (.invokestatic 150, 3) := by decide +kernel
theorem dX10_areGoers_13 : decode cX10_areGoers 13 = .ok (.ifCond .eq 13, 3) := by decide +kernel
theorem dX10_areGoers_16 : decode cX10_areGoers 16 = .ok (.aload_n 0, 1) := by decide +kernel
theorem dX10_areGoers_17 : decode cX10_areGoers 17 = .ok (.iload_n 2, 1) := by decide +kernel
theorem dX10_areGoers_18 : decode cX10_areGoers 18 = .ok (.invokevirtual 381, 3) := by decide +kernel
theorem dX10_areGoers_21 : decode cX10_areGoers 21 = .ok (.ifCond .ne 5, 3) := by decide +kernel
theorem dX10_areGoers_24 : decode cX10_areGoers 24 = .ok (.iconst 0, 1) := by decide +kernel
theorem dX10_areGoers_25 : decode cX10_areGoers 25 = .ok (.ireturn, 1) := by decide +kernel
theorem dX10_areGoers_26 : decode cX10_areGoers 26 = .ok (.iinc 2 1, 3) := by decide +kernel
theorem dX10_areGoers_29 : decode cX10_areGoers 29 = .ok (.goto (-27), 3) := by decide +kernel
theorem dX10_areGoers_32 : decode cX10_areGoers 32 = .ok (.iconst 1, 1) := by decide +kernel
theorem dX10_areGoers_33 : decode cX10_areGoers 33 = .ok (.ireturn, 1) := by decide +kernel
theorem dX10_laysCosts_0 : decode cX10_laysCosts 0 = .ok (.iconst 0, 1) := by decide +kernel
theorem dX10_laysCosts_1 : decode cX10_laysCosts 1 = .ok (.istore_n 3, 1) := by decide +kernel
theorem dX10_laysCosts_2 : decode cX10_laysCosts 2 = .ok (.iload_n 3, 1) := by decide +kernel
theorem dX10_laysCosts_3 : decode cX10_laysCosts 3 = .ok (.sipush 1024, 3) := by decide +kernel
theorem dX10_laysCosts_6 : decode cX10_laysCosts 6 = .ok (.if_icmp .ge 29, 3) := by decide +kernel
theorem dX10_laysCosts_9 : decode cX10_laysCosts 9 = .ok (.iload_n 3, 1) := by decide +kernel
theorem dX10_laysCosts_10 : decode cX10_laysCosts 10 = .ok (.iload_n 1, 1) := by decide +kernel
theorem dX10_laysCosts_11 : decode cX10_laysCosts 11 = .ok (.iconst (-1), 1) := by decide +kernel
theorem dX10_laysCosts_12 : decode cX10_laysCosts 12 = .ok (.ixor, 1) := by decide +kernel
theorem dX10_laysCosts_13 : decode cX10_laysCosts 13 = .ok (.iand, 1) := by decide +kernel
theorem dX10_laysCosts_14 : decode cX10_laysCosts 14 = .ok (.ifCond .ne 15, 3) := by decide +kernel
theorem dX10_laysCosts_17 : decode cX10_laysCosts 17 = .ok (.aload_n 0, 1) := by decide +kernel
theorem dX10_laysCosts_18 : decode cX10_laysCosts 18 = .ok (.getfield 125, 3) := by decide +kernel
theorem dX10_laysCosts_21 : decode cX10_laysCosts 21 = .ok (.iload_n 3, 1) := by decide +kernel
theorem dX10_laysCosts_22 : decode cX10_laysCosts 22 = .ok (.aload_n 0, 1) := by decide +kernel
theorem dX10_laysCosts_23 : decode cX10_laysCosts 23 = .ok (.iload_n 3, 1) := by decide +kernel
theorem dX10_laysCosts_24 : decode cX10_laysCosts 24 = .ok (.iload_n 2, 1) := by decide +kernel
theorem dX10_laysCosts_25 : decode cX10_laysCosts 25 = .ok (.invokevirtual 378, 3) := by decide +kernel
theorem dX10_laysCosts_28 : decode cX10_laysCosts 28 = .ok (.iastore, 1) := by decide +kernel
theorem dX10_laysCosts_29 : decode cX10_laysCosts 29 = .ok (.iinc 3 1, 3) := by decide +kernel
theorem dX10_laysCosts_32 : decode cX10_laysCosts 32 = .ok (.goto (-30), 3) := by decide +kernel
theorem dX10_laysCosts_35 : decode cX10_laysCosts 35 = .ok (.return_, 1) := by decide +kernel
theorem dX10_partOf_0 : decode cX10_partOf 0 = .ok (.iload_n 1, 1) := by decide +kernel
theorem dX10_partOf_1 : decode cX10_partOf 1 = .ok (.invokestatic 297, 3) := by decide +kernel
theorem dX10_partOf_4 : decode cX10_partOf 4 = .ok (.istore_n 3, 1) := by decide +kernel
theorem dX10_partOf_5 : decode cX10_partOf 5 = .ok (.iconst 0, 1) := by decide +kernel
theorem dX10_partOf_6 : decode cX10_partOf 6 = .ok (.istore 4, 2) := by decide +kernel
theorem dX10_partOf_8 : decode cX10_partOf 8 = .ok (.iconst 0, 1) := by decide +kernel
theorem dX10_partOf_9 : decode cX10_partOf 9 = .ok (.istore 5, 2) := by decide +kernel
theorem dX10_partOf_11 : decode cX10_partOf 11 = .ok (.iload 5, 2) := by decide +kernel
theorem dX10_partOf_13 : decode cX10_partOf 13 = .ok (.sipush 1024, 3) := by decide +kernel
theorem dX10_partOf_16 : decode cX10_partOf 16 = .ok (.if_icmp .ge 76, 3) := by decide +kernel
theorem dX10_partOf_19 : decode cX10_partOf 19 = .ok (.iload 5, 2) := by decide +kernel
theorem dX10_partOf_21 : decode cX10_partOf 21 = .ok (.iload_n 1, 1) := by decide +kernel
theorem dX10_partOf_22 : decode cX10_partOf 22 = .ok (.iconst (-1), 1) := by decide +kernel
theorem dX10_partOf_23 : decode cX10_partOf 23 = .ok (.ixor, 1) := by decide +kernel
theorem dX10_partOf_24 : decode cX10_partOf 24 = .ok (.iand, 1) := by decide +kernel
theorem dX10_partOf_25 : decode cX10_partOf 25 = .ok (.ifCond .ne 61, 3) := by decide +kernel
theorem dX10_partOf_28 : decode cX10_partOf 28 = .ok (.iload 5, 2) := by decide +kernel
theorem dX10_partOf_30 : decode cX10_partOf 30 = .ok (.iload_n 2, 1) := by decide +kernel
theorem dX10_partOf_31 : decode cX10_partOf 31 = .ok (.invokestatic 150, 3) := by decide +kernel
theorem dX10_partOf_34 : decode cX10_partOf 34 = .ok (.ifCond .eq 6, 3) := by decide +kernel
theorem dX10_partOf_37 : decode cX10_partOf 37 = .ok (.goto 49, 3) := by decide +kernel
theorem dX10_partOf_40 : decode cX10_partOf 40 = .ok (.iload 4, 2) := by decide +kernel
theorem dX10_partOf_42 : decode cX10_partOf 42 = .ok (.iload 5, 2) := by decide +kernel
theorem dX10_partOf_44 : decode cX10_partOf 44 = .ok (.invokestatic 297, 3) := by decide +kernel
theorem dX10_partOf_47 : decode cX10_partOf 47 = .ok (.invokestatic 385, 3) := by decide +kernel
theorem dX10_partOf_50 : decode cX10_partOf 50 = .ok (.iload_n 3, 1) := by decide +kernel
theorem dX10_partOf_51 : decode cX10_partOf 51 = .ok (.iconst 1, 1) := by decide +kernel
theorem dX10_partOf_52 : decode cX10_partOf 52 = .ok (.isub, 1) := by decide +kernel
theorem dX10_partOf_53 : decode cX10_partOf 53 = .ok (.iload 5, 2) := by decide +kernel
theorem dX10_partOf_55 : decode cX10_partOf 55 = .ok (.invokestatic 297, 3) := by decide +kernel
theorem dX10_partOf_58 : decode cX10_partOf 58 = .ok (.isub, 1) := by decide +kernel
theorem dX10_partOf_59 : decode cX10_partOf 59 = .ok (.invokestatic 385, 3) := by decide +kernel
theorem dX10_partOf_62 : decode cX10_partOf 62 = .ok (.imul, 1) := by decide +kernel
theorem dX10_partOf_63 : decode cX10_partOf 63 = .ok (.aload_n 0, 1) := by decide +kernel
theorem dX10_partOf_64 : decode cX10_partOf 64 = .ok (.getfield 125, 3) := by decide +kernel
theorem dX10_partOf_67 : decode cX10_partOf 67 = .ok (.iload 5, 2) := by decide +kernel
theorem dX10_partOf_69 : decode cX10_partOf 69 = .ok (.iconst 1, 1) := by decide +kernel
theorem dX10_partOf_70 : decode cX10_partOf 70 = .ok (.iload_n 2, 1) := by decide +kernel
theorem dX10_partOf_71 : decode cX10_partOf 71 = .ok (.ishl, 1) := by decide +kernel
theorem dX10_partOf_72 : decode cX10_partOf 72 = .ok (.ior, 1) := by decide +kernel
theorem dX10_partOf_73 : decode cX10_partOf 73 = .ok (.iaload, 1) := by decide +kernel
theorem dX10_partOf_74 : decode cX10_partOf 74 = .ok (.aload_n 0, 1) := by decide +kernel
theorem dX10_partOf_75 : decode cX10_partOf 75 = .ok (.getfield 125, 3) := by decide +kernel
theorem dX10_partOf_78 : decode cX10_partOf 78 = .ok (.iload 5, 2) := by decide +kernel
theorem dX10_partOf_80 : decode cX10_partOf 80 = .ok (.iaload, 1) := by decide +kernel
theorem dX10_partOf_81 : decode cX10_partOf 81 = .ok (.isub, 1) := by decide +kernel
theorem dX10_partOf_82 : decode cX10_partOf 82 = .ok (.imul, 1) := by decide +kernel
theorem dX10_partOf_83 : decode cX10_partOf 83 = .ok (.iadd, 1) := by decide +kernel
theorem dX10_partOf_84 : decode cX10_partOf 84 = .ok (.istore 4, 2) := by decide +kernel
theorem dX10_partOf_86 : decode cX10_partOf 86 = .ok (.iinc 5 1, 3) := by decide +kernel
theorem dX10_partOf_89 : decode cX10_partOf 89 = .ok (.goto (-78), 3) := by decide +kernel
theorem dX10_partOf_92 : decode cX10_partOf 92 = .ok (.iload 4, 2) := by decide +kernel
theorem dX10_partOf_94 : decode cX10_partOf 94 = .ok (.ireturn, 1) := by decide +kernel
