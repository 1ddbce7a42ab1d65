theorem dX1_clear_0 : decode cX1_clear 0 = .ok (.aload_n 0, 1) := by decide +kernel
theorem dX1_clear_1 : decode cX1_clear 1 = .ok (.iconst 0, 1) := by decide +kernel
theorem dX1_clear_2 : decode cX1_clear 2 = .ok (.putfield 39, 3) := by decide +kernel
theorem dX1_clear_5 : decode cX1_clear 5 = .ok (.aload_n 0, 1) := by decide +kernel
theorem dX1_clear_6 : decode cX1_clear 6 = .ok (.iconst 0, 1) := by decide +kernel
theorem dX1_clear_7 : decode cX1_clear 7 = .ok (.putfield 43, 3) := by decide +kernel
theorem dX1_clear_10 : decode cX1_clear 10 = .ok (.return_, 1) := by decide +kernel
theorem dX1_joined_0 : decode cX1_joined 0 = .ok (.iload_n 0, 1) := by decide +kernel
theorem dX1_joined_1 : decode cX1_joined 1 = .ok (.tableswitch 101 5 11 #[43, 47, 51, 55, 67, 79, 90], 43) := by decide +kernel
theorem dX1_joined_44 : decode cX1_joined 44 = .ok (.iload_n 1, 1) := by decide +kernel
theorem dX1_joined_45 : decode cX1_joined 45 = .ok (.iload_n 2, 1) := by decide +kernel
theorem dX1_joined_46 : decode cX1_joined 46 = .ok (.iadd, 1) := by decide +kernel
theorem dX1_joined_47 : decode cX1_joined 47 = .ok (.ireturn, 1) := by decide +kernel
theorem dX1_joined_48 : decode cX1_joined 48 = .ok (.iload_n 1, 1) := by decide +kernel
theorem dX1_joined_49 : decode cX1_joined 49 = .ok (.iload_n 2, 1) := by decide +kernel
theorem dX1_joined_50 : decode cX1_joined 50 = .ok (.isub, 1) := by decide +kernel
theorem dX1_joined_51 : decode cX1_joined 51 = .ok (.ireturn, 1) := by decide +kernel
theorem dX1_joined_52 : decode cX1_joined 52 = .ok (.iload_n 1, 1) := by decide +kernel
theorem dX1_joined_53 : decode cX1_joined 53 = .ok (.iload_n 2, 1) := by decide +kernel
theorem dX1_joined_54 : decode cX1_joined 54 = .ok (.imul, 1) := by decide +kernel
theorem dX1_joined_55 : decode cX1_joined 55 = .ok (.ireturn, 1) := by decide +kernel
theorem dX1_joined_56 : decode cX1_joined 56 = .ok (.iload_n 2, 1) := by decide +kernel
theorem dX1_joined_57 : decode cX1_joined 57 = .ok (.ifCond .ne 7, 3) := by decide +kernel
theorem dX1_joined_60 : decode cX1_joined 60 = .ok (.iconst 0, 1) := by decide +kernel
theorem dX1_joined_61 : decode cX1_joined 61 = .ok (.goto 6, 3) := by decide +kernel
theorem dX1_joined_64 : decode cX1_joined 64 = .ok (.iload_n 1, 1) := by decide +kernel
theorem dX1_joined_65 : decode cX1_joined 65 = .ok (.iload_n 2, 1) := by decide +kernel
theorem dX1_joined_66 : decode cX1_joined 66 = .ok (.idiv, 1) := by decide +kernel
theorem dX1_joined_67 : decode cX1_joined 67 = .ok (.ireturn, 1) := by decide +kernel
theorem dX1_joined_68 : decode cX1_joined 68 = .ok (.iload_n 2, 1) := by decide +kernel
theorem dX1_joined_69 : decode cX1_joined 69 = .ok (.ifCond .ne 7, 3) := by decide +kernel
theorem dX1_joined_72 : decode cX1_joined 72 = .ok (.iconst 0, 1) := by decide +kernel
theorem dX1_joined_73 : decode cX1_joined 73 = .ok (.goto 6, 3) := by decide +kernel
theorem dX1_joined_76 : decode cX1_joined 76 = .ok (.iload_n 1, 1) := by decide +kernel
theorem dX1_joined_77 : decode cX1_joined 77 = .ok (.iload_n 2, 1) := by decide +kernel
theorem dX1_joined_78 : decode cX1_joined 78 = .ok (.irem, 1) := by decide +kernel
theorem dX1_joined_79 : decode cX1_joined 79 = .ok (.ireturn, 1) := by decide +kernel
theorem dX1_joined_80 : decode cX1_joined 80 = .ok (.iload_n 1, 1) := by decide +kernel
theorem dX1_joined_81 : decode cX1_joined 81 = .ok (.iload_n 2, 1) := by decide +kernel
theorem dX1_joined_82 : decode cX1_joined 82 = .ok (.if_icmp .ge 7, 3) := by decide +kernel
theorem dX1_joined_85 : decode cX1_joined 85 = .ok (.iconst 1, 1) := by decide +kernel
theorem dX1_joined_86 : decode cX1_joined 86 = .ok (.goto 4, 3) := by decide +kernel
theorem dX1_joined_89 : decode cX1_joined 89 = .ok (.iconst 0, 1) := by decide +kernel
theorem dX1_joined_90 : decode cX1_joined 90 = .ok (.ireturn, 1) := by decide +kernel
theorem dX1_joined_91 : decode cX1_joined 91 = .ok (.iload_n 1, 1) := by decide +kernel
theorem dX1_joined_92 : decode cX1_joined 92 = .ok (.iload_n 2, 1) := by decide +kernel
theorem dX1_joined_93 : decode cX1_joined 93 = .ok (.if_icmp .le 7, 3) := by decide +kernel
theorem dX1_joined_96 : decode cX1_joined 96 = .ok (.iconst 1, 1) := by decide +kernel
theorem dX1_joined_97 : decode cX1_joined 97 = .ok (.goto 4, 3) := by decide +kernel
theorem dX1_joined_100 : decode cX1_joined 100 = .ok (.iconst 0, 1) := by decide +kernel
theorem dX1_joined_101 : decode cX1_joined 101 = .ok (.ireturn, 1) := by decide +kernel
theorem dX1_joined_102 : decode cX1_joined 102 = .ok (.iload_n 1, 1) := by decide +kernel
theorem dX1_joined_103 : decode cX1_joined 103 = .ok (.iload_n 2, 1) := by decide +kernel
theorem dX1_joined_104 : decode cX1_joined 104 = .ok (.if_icmp .ne 7, 3) := by decide +kernel
theorem dX1_joined_107 : decode cX1_joined 107 = .ok (.iconst 1, 1) := by decide +kernel
theorem dX1_joined_108 : decode cX1_joined 108 = .ok (.goto 4, 3) := by decide +kernel
theorem dX1_joined_111 : decode cX1_joined 111 = .ok (.iconst 0, 1) := by decide +kernel
theorem dX1_joined_112 : decode cX1_joined 112 = .ok (.ireturn, 1) := by decide +kernel
theorem dX1_setChore_0 : decode cX1_setChore 0 = .ok (.aload_n 0, 1) := by decide +kernel
theorem dX1_setChore_1 : decode cX1_setChore 1 = .ok (.getfield 27, 3) := by decide +kernel
theorem dX1_setChore_4 : decode cX1_setChore 4 = .ok (.iconst 0, 1) := by decide +kernel
theorem dX1_setChore_5 : decode cX1_setChore 5 = .ok (.iload_n 1, 1) := by decide +kernel
theorem dX1_setChore_6 : decode cX1_setChore 6 = .ok (.iastore, 1) := by decide +kernel
theorem dX1_setChore_7 : decode cX1_setChore 7 = .ok (.aload_n 0, 1) := by decide +kernel
theorem dX1_setChore_8 : decode cX1_setChore 8 = .ok (.getfield 27, 3) := by decide +kernel
theorem dX1_setChore_11 : decode cX1_setChore 11 = .ok (.iconst 1, 1) := by decide +kernel
theorem dX1_setChore_12 : decode cX1_setChore 12 = .ok (.iconst 0, 1) := by decide +kernel
theorem dX1_setChore_13 : decode cX1_setChore 13 = .ok (.iastore, 1) := by decide +kernel
theorem dX1_setChore_14 : decode cX1_setChore 14 = .ok (.aload_n 0, 1) := by decide +kernel
theorem dX1_setChore_15 : decode cX1_setChore 15 = .ok (.getfield 27, 3) := by decide +kernel
theorem dX1_setChore_18 : decode cX1_setChore 18 = .ok (.iconst 2, 1) := by decide +kernel
theorem dX1_setChore_19 : decode cX1_setChore 19 = .ok (.iload_n 2, 1) := by decide +kernel
theorem dX1_setChore_20 : decode cX1_setChore 20 = .ok (.iastore, 1) := by decide +kernel
theorem dX1_setChore_21 : decode cX1_setChore 21 = .ok (.aload_n 0, 1) := by decide +kernel
theorem dX1_setChore_22 : decode cX1_setChore 22 = .ok (.getfield 27, 3) := by decide +kernel
theorem dX1_setChore_25 : decode cX1_setChore 25 = .ok (.bipush 7, 2) := by decide +kernel
theorem dX1_setChore_27 : decode cX1_setChore 27 = .ok (.iload_n 3, 1) := by decide +kernel
theorem dX1_setChore_28 : decode cX1_setChore 28 = .ok (.iastore, 1) := by decide +kernel
theorem dX1_setChore_29 : decode cX1_setChore 29 = .ok (.return_, 1) := by decide +kernel
theorem dX1_setDay_0 : decode cX1_setDay 0 = .ok (.aload_n 0, 1) := by decide +kernel
theorem dX1_setDay_1 : decode cX1_setDay 1 = .ok (.getfield 27, 3) := by decide +kernel
theorem dX1_setDay_4 : decode cX1_setDay 4 = .ok (.iconst 3, 1) := by decide +kernel
theorem dX1_setDay_5 : decode cX1_setDay 5 = .ok (.iload_n 1, 1) := by decide +kernel
theorem dX1_setDay_6 : decode cX1_setDay 6 = .ok (.iastore, 1) := by decide +kernel
theorem dX1_setDay_7 : decode cX1_setDay 7 = .ok (.aload_n 0, 1) := by decide +kernel
theorem dX1_setDay_8 : decode cX1_setDay 8 = .ok (.getfield 27, 3) := by decide +kernel
theorem dX1_setDay_11 : decode cX1_setDay 11 = .ok (.iconst 4, 1) := by decide +kernel
theorem dX1_setDay_12 : decode cX1_setDay 12 = .ok (.iload_n 1, 1) := by decide +kernel
theorem dX1_setDay_13 : decode cX1_setDay 13 = .ok (.bipush 7, 2) := by decide +kernel
theorem dX1_setDay_15 : decode cX1_setDay 15 = .ok (.irem, 1) := by decide +kernel
theorem dX1_setDay_16 : decode cX1_setDay 16 = .ok (.iastore, 1) := by decide +kernel
theorem dX1_setDay_17 : decode cX1_setDay 17 = .ok (.aload_n 0, 1) := by decide +kernel
theorem dX1_setDay_18 : decode cX1_setDay 18 = .ok (.getfield 27, 3) := by decide +kernel
theorem dX1_setDay_21 : decode cX1_setDay 21 = .ok (.iconst 5, 1) := by decide +kernel
theorem dX1_setDay_22 : decode cX1_setDay 22 = .ok (.iload_n 2, 1) := by decide +kernel
theorem dX1_setDay_23 : decode cX1_setDay 23 = .ok (.iastore, 1) := by decide +kernel
theorem dX1_setDay_24 : decode cX1_setDay 24 = .ok (.aload_n 0, 1) := by decide +kernel
theorem dX1_setDay_25 : decode cX1_setDay 25 = .ok (.getfield 27, 3) := by decide +kernel
theorem dX1_setDay_28 : decode cX1_setDay 28 = .ok (.bipush 6, 2) := by decide +kernel
theorem dX1_setDay_30 : decode cX1_setDay 30 = .ok (.iload_n 3, 1) := by decide +kernel
theorem dX1_setDay_31 : decode cX1_setDay 31 = .ok (.iastore, 1) := by decide +kernel
theorem dX1_setDay_32 : decode cX1_setDay 32 = .ok (.return_, 1) := by decide +kernel
theorem dX1_setPerson_0 : decode cX1_setPerson 0 = .ok (.aload_n 0, 1) := by decide +kernel
theorem dX1_setPerson_1 : decode cX1_setPerson 1 = .ok (.getfield 27, 3) := by decide +kernel
theorem dX1_setPerson_4 : decode cX1_setPerson 4 = .ok (.iconst 0, 1) := by decide +kernel
theorem dX1_setPerson_5 : decode cX1_setPerson 5 = .ok (.iconst 0, 1) := by decide +kernel
theorem dX1_setPerson_6 : decode cX1_setPerson 6 = .ok (.iastore, 1) := by decide +kernel
theorem dX1_setPerson_7 : decode cX1_setPerson 7 = .ok (.aload_n 0, 1) := by decide +kernel
theorem dX1_setPerson_8 : decode cX1_setPerson 8 = .ok (.getfield 27, 3) := by decide +kernel
theorem dX1_setPerson_11 : decode cX1_setPerson 11 = .ok (.iconst 1, 1) := by decide +kernel
theorem dX1_setPerson_12 : decode cX1_setPerson 12 = .ok (.iload_n 1, 1) := by decide +kernel
theorem dX1_setPerson_13 : decode cX1_setPerson 13 = .ok (.iastore, 1) := by decide +kernel
theorem dX1_setPerson_14 : decode cX1_setPerson 14 = .ok (.aload_n 0, 1) := by decide +kernel
theorem dX1_setPerson_15 : decode cX1_setPerson 15 = .ok (.getfield 27, 3) := by decide +kernel
theorem dX1_setPerson_18 : decode cX1_setPerson 18 = .ok (.iconst 2, 1) := by decide +kernel
theorem dX1_setPerson_19 : decode cX1_setPerson 19 = .ok (.iload_n 2, 1) := by decide +kernel
theorem dX1_setPerson_20 : decode cX1_setPerson 20 = .ok (.iastore, 1) := by decide +kernel
theorem dX1_setPerson_21 : decode cX1_setPerson 21 = .ok (.aload_n 0, 1) := by decide +kernel
theorem dX1_setPerson_22 : decode cX1_setPerson 22 = .ok (.getfield 27, 3) := by decide +kernel
theorem dX1_setPerson_25 : decode cX1_setPerson 25 = .ok (.bipush 7, 2) := by decide +kernel
theorem dX1_setPerson_27 : decode cX1_setPerson 27 = .ok (.iconst 0, 1) := by decide +kernel
theorem dX1_setPerson_28 : decode cX1_setPerson 28 = .ok (.iastore, 1) := by decide +kernel
theorem dX1_setPerson_29 : decode cX1_setPerson 29 = .ok (.return_, 1) := by decide +kernel
theorem dX1_setUndone_0 : decode cX1_setUndone 0 = .ok (.aload_n 0, 1) := by decide +kernel
theorem dX1_setUndone_1 : decode cX1_setUndone 1 = .ok (.getfield 27, 3) := by decide +kernel
theorem dX1_setUndone_4 : decode cX1_setUndone 4 = .ok (.bipush 7, 2) := by decide +kernel
theorem dX1_setUndone_6 : decode cX1_setUndone 6 = .ok (.iload_n 1, 1) := by decide +kernel
theorem dX1_setUndone_7 : decode cX1_setUndone 7 = .ok (.iastore, 1) := by decide +kernel
theorem dX1_setUndone_8 : decode cX1_setUndone 8 = .ok (.return_, 1) := by decide +kernel
