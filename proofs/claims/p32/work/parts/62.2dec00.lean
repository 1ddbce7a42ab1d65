theorem dX10_endsPiece_0 : decode cX10_endsPiece 0 = .ok (.aload_n 0, 1) := by decide +kernel
theorem dX10_endsPiece_1 : decode cX10_endsPiece 1 = .ok (.invokevirtual 204, 3) := by decide +kernel
theorem dX10_endsPiece_4 : decode cX10_endsPiece 4 = .ok (.bipush 10, 2) := by decide +kernel
theorem dX10_endsPiece_6 : decode cX10_endsPiece 6 = .ok (.if_icmp .ne 33, 3) := by decide +kernel
theorem dX10_endsPiece_9 : decode cX10_endsPiece 9 = .ok (.aload_n 0, 1) := by decide +kernel
theorem dX10_endsPiece_10 : decode cX10_endsPiece 10 = .ok (.bipush 10, 2) := by decide +kernel
theorem dX10_endsPiece_12 : decode cX10_endsPiece 12 = .ok (.iconst 0, 1) := by decide +kernel
theorem dX10_endsPiece_13 : decode cX10_endsPiece 13 = .ok (.invokevirtual 207, 3) := by decide +kernel
theorem dX10_endsPiece_16 : decode cX10_endsPiece 16 = .ok (.aload_n 0, 1) := by decide +kernel
theorem dX10_endsPiece_17 : decode cX10_endsPiece 17 = .ok (.aload_n 0, 1) := by decide +kernel
theorem dX10_endsPiece_18 : decode cX10_endsPiece 18 = .ok (.getfield 201, 3) := by decide +kernel
theorem dX10_endsPiece_21 : decode cX10_endsPiece 21 = .ok (.iconst 1, 1) := by decide +kernel
theorem dX10_endsPiece_22 : decode cX10_endsPiece 22 = .ok (.isub, 1) := by decide +kernel
theorem dX10_endsPiece_23 : decode cX10_endsPiece 23 = .ok (.putfield 201, 3) := by decide +kernel
theorem dX10_endsPiece_26 : decode cX10_endsPiece 26 = .ok (.aload_n 0, 1) := by decide +kernel
theorem dX10_endsPiece_27 : decode cX10_endsPiece 27 = .ok (.aload_n 0, 1) := by decide +kernel
theorem dX10_endsPiece_28 : decode cX10_endsPiece 28 = .ok (.getfield 198, 3) := by decide +kernel
theorem dX10_endsPiece_31 : decode cX10_endsPiece 31 = .ok (.iconst 1, 1) := by decide +kernel
theorem dX10_endsPiece_32 : decode cX10_endsPiece 32 = .ok (.isub, 1) := by decide +kernel
theorem dX10_endsPiece_33 : decode cX10_endsPiece 33 = .ok (.putfield 198, 3) := by decide +kernel
theorem dX10_endsPiece_36 : decode cX10_endsPiece 36 = .ok (.goto (-36), 3) := by decide +kernel
theorem dX10_endsPiece_39 : decode cX10_endsPiece 39 = .ok (.return_, 1) := by decide +kernel
theorem dX10_jumps_0 : decode cX10_jumps 0 = .ok (.aload_n 0, 1) := by decide +kernel
theorem dX10_jumps_1 : decode cX10_jumps 1 = .ok (.getfield 50, 3) := by decide +kernel
theorem dX10_jumps_4 : decode cX10_jumps 4 = .ok (.aload_n 0, 1) := by decide +kernel
theorem dX10_jumps_5 : decode cX10_jumps 5 = .ok (.getfield 201, 3) := by decide +kernel
theorem dX10_jumps_8 : decode cX10_jumps 8 = .ok (.ldc 197, 2) := by decide +kernel
theorem dX10_jumps_10 : decode cX10_jumps 10 = .ok (.iload_n 1, 1) := by decide +kernel
theorem dX10_jumps_11 : decode cX10_jumps 11 = .ok (.imul, 1) := by decide +kernel
theorem dX10_jumps_12 : decode cX10_jumps 12 = .ok (.aload_n 0, 1) := by decide +kernel
theorem dX10_jumps_13 : decode cX10_jumps 13 = .ok (.getfield 194, 3) := by decide +kernel
theorem dX10_jumps_16 : decode cX10_jumps 16 = .ok (.iadd, 1) := by decide +kernel
theorem dX10_jumps_17 : decode cX10_jumps 17 = .ok (.iastore, 1) := by decide +kernel
theorem dX10_jumps_18 : decode cX10_jumps 18 = .ok (.aload_n 0, 1) := by decide +kernel
theorem dX10_jumps_19 : decode cX10_jumps 19 = .ok (.aload_n 0, 1) := by decide +kernel
theorem dX10_jumps_20 : decode cX10_jumps 20 = .ok (.getfield 201, 3) := by decide +kernel
theorem dX10_jumps_23 : decode cX10_jumps 23 = .ok (.iconst 1, 1) := by decide +kernel
theorem dX10_jumps_24 : decode cX10_jumps 24 = .ok (.iadd, 1) := by decide +kernel
theorem dX10_jumps_25 : decode cX10_jumps 25 = .ok (.putfield 201, 3) := by decide +kernel
theorem dX10_jumps_28 : decode cX10_jumps 28 = .ok (.aload_n 0, 1) := by decide +kernel
theorem dX10_jumps_29 : decode cX10_jumps 29 = .ok (.iload_n 1, 1) := by decide +kernel
theorem dX10_jumps_30 : decode cX10_jumps 30 = .ok (.iconst 0, 1) := by decide +kernel
theorem dX10_jumps_31 : decode cX10_jumps 31 = .ok (.invokevirtual 207, 3) := by decide +kernel
theorem dX10_jumps_34 : decode cX10_jumps 34 = .ok (.aload_n 0, 1) := by decide +kernel
theorem dX10_jumps_35 : decode cX10_jumps 35 = .ok (.aload_n 0, 1) := by decide +kernel
theorem dX10_jumps_36 : decode cX10_jumps 36 = .ok (.getfield 171, 3) := by decide +kernel
theorem dX10_jumps_39 : decode cX10_jumps 39 = .ok (.iconst 1, 1) := by decide +kernel
theorem dX10_jumps_40 : decode cX10_jumps 40 = .ok (.iadd, 1) := by decide +kernel
theorem dX10_jumps_41 : decode cX10_jumps 41 = .ok (.putfield 171, 3) := by decide +kernel
theorem dX10_jumps_44 : decode cX10_jumps 44 = .ok (.return_, 1) := by decide +kernel
theorem dX10_lands_0 : decode cX10_lands 0 = .ok (.aload_n 0, 1) := by decide +kernel
theorem dX10_lands_1 : decode cX10_lands 1 = .ok (.invokevirtual 204, 3) := by decide +kernel
theorem dX10_lands_4 : decode cX10_lands 4 = .ok (.bipush 11, 2) := by decide +kernel
theorem dX10_lands_6 : decode cX10_lands 6 = .ok (.if_icmp .eq 16, 3) := by decide +kernel
theorem dX10_lands_9 : decode cX10_lands 9 = .ok (.iload_n 1, 1) := by decide +kernel
theorem dX10_lands_10 : decode cX10_lands 10 = .ok (.ifCond .eq 63, 3) := by decide +kernel
theorem dX10_lands_13 : decode cX10_lands 13 = .ok (.aload_n 0, 1) := by decide +kernel
theorem dX10_lands_14 : decode cX10_lands 14 = .ok (.invokevirtual 204, 3) := by decide +kernel
theorem dX10_lands_17 : decode cX10_lands 17 = .ok (.bipush 12, 2) := by decide +kernel
theorem dX10_lands_19 : decode cX10_lands 19 = .ok (.if_icmp .ne 54, 3) := by decide +kernel
theorem dX10_lands_22 : decode cX10_lands 22 = .ok (.aload_n 0, 1) := by decide +kernel
theorem dX10_lands_23 : decode cX10_lands 23 = .ok (.getfield 50, 3) := by decide +kernel
theorem dX10_lands_26 : decode cX10_lands 26 = .ok (.aload_n 0, 1) := by decide +kernel
theorem dX10_lands_27 : decode cX10_lands 27 = .ok (.getfield 201, 3) := by decide +kernel
theorem dX10_lands_30 : decode cX10_lands 30 = .ok (.iconst 1, 1) := by decide +kernel
theorem dX10_lands_31 : decode cX10_lands 31 = .ok (.isub, 1) := by decide +kernel
theorem dX10_lands_32 : decode cX10_lands 32 = .ok (.iaload, 1) := by decide +kernel
theorem dX10_lands_33 : decode cX10_lands 33 = .ok (.ldc 197, 2) := by decide +kernel
theorem dX10_lands_35 : decode cX10_lands 35 = .ok (.irem, 1) := by decide +kernel
theorem dX10_lands_36 : decode cX10_lands 36 = .ok (.istore_n 2, 1) := by decide +kernel
theorem dX10_lands_37 : decode cX10_lands 37 = .ok (.aload_n 0, 1) := by decide +kernel
theorem dX10_lands_38 : decode cX10_lands 38 = .ok (.getfield 47, 3) := by decide +kernel
theorem dX10_lands_41 : decode cX10_lands 41 = .ok (.iload_n 2, 1) := by decide +kernel
theorem dX10_lands_42 : decode cX10_lands 42 = .ok (.ldc 197, 2) := by decide +kernel
theorem dX10_lands_44 : decode cX10_lands 44 = .ok (.aload_n 0, 1) := by decide +kernel
theorem dX10_lands_45 : decode cX10_lands 45 = .ok (.getfield 47, 3) := by decide +kernel
theorem dX10_lands_48 : decode cX10_lands 48 = .ok (.iload_n 2, 1) := by decide +kernel
theorem dX10_lands_49 : decode cX10_lands 49 = .ok (.iaload, 1) := by decide +kernel
theorem dX10_lands_50 : decode cX10_lands 50 = .ok (.ldc 197, 2) := by decide +kernel
theorem dX10_lands_52 : decode cX10_lands 52 = .ok (.idiv, 1) := by decide +kernel
theorem dX10_lands_53 : decode cX10_lands 53 = .ok (.imul, 1) := by decide +kernel
theorem dX10_lands_54 : decode cX10_lands 54 = .ok (.aload_n 0, 1) := by decide +kernel
theorem dX10_lands_55 : decode cX10_lands 55 = .ok (.getfield 194, 3) := by decide +kernel
theorem dX10_lands_58 : decode cX10_lands 58 = .ok (.iadd, 1) := by decide +kernel
theorem dX10_lands_59 : decode cX10_lands 59 = .ok (.iastore, 1) := by decide +kernel
theorem dX10_lands_60 : decode cX10_lands 60 = .ok (.aload_n 0, 1) := by decide +kernel
theorem dX10_lands_61 : decode cX10_lands 61 = .ok (.aload_n 0, 1) := by decide +kernel
theorem dX10_lands_62 : decode cX10_lands 62 = .ok (.getfield 201, 3) := by decide +kernel
theorem dX10_lands_65 : decode cX10_lands 65 = .ok (.iconst 1, 1) := by decide +kernel
theorem dX10_lands_66 : decode cX10_lands 66 = .ok (.isub, 1) := by decide +kernel
theorem dX10_lands_67 : decode cX10_lands 67 = .ok (.putfield 201, 3) := by decide +kernel
theorem dX10_lands_70 : decode cX10_lands 70 = .ok (.goto (-70), 3) := by decide +kernel
theorem dX10_lands_73 : decode cX10_lands 73 = .ok (.return_, 1) := by decide +kernel
