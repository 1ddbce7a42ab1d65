theorem dX1_clear_0 : decode cX1_clear 0 = .ok (.aload_n 0, 1) := by decide +kernel
theorem dX1_clear_1 : decode cX1_clear 1 = .ok (.iconst 0, 1) := by decide +kernel
theorem dX1_clear_2 : decode cX1_clear 2 = .ok (.putfield 39, 3) := by decide +kernel
theorem dX1_clear_5 : decode cX1_clear 5 = .ok (.aload_n 0, 1) := by decide +kernel
theorem dX1_clear_6 : decode cX1_clear 6 = .ok (.iconst 0, 1) := by decide +kernel
theorem dX1_clear_7 : decode cX1_clear 7 = .ok (.putfield 43, 3) := by decide +kernel
theorem dX1_clear_10 : decode cX1_clear 10 = .ok (.return_, 1) := by decide +kernel
theorem dX1_setChore_0 : decode cX1_setChore 0 = .ok (.aload_n 0, 1) := by decide +kernel
theorem dX1_setChore_1 : decode cX1_setChore 1 = .ok (.getfield 27, 3) := by decide +kernel
theorem dX1_setChore_4 : decode cX1_setChore 4 = .ok (.iconst 0, 1) := by decide +kernel
theorem dX1_setChore_5 : decode cX1_setChore 5 = .ok (.iload_n 1, 1) := by decide +kernel
theorem dX1_setChore_6 : decode cX1_setChore 6 = .ok (.iastore, 1) := by decide +kernel
theorem dX1_setChore_7 : decode cX1_setChore 7 = .ok (.aload_n 0, 1) := by decide +kernel
theorem dX1_setChore_8 : decode cX1_setChore 8 = .ok (.getfield 27, 3) := by decide +kernel
theorem dX1_setChore_11 : decode cX1_setChore 11 = .ok (.iconst 1, 1) := by decide +kernel
theorem dX1_setChore_12 : decode cX1_setChore 12 = .ok (.iconst 0, 1) := by decide +kernel
theorem dX1_setChore_13 : decode cX1_setChore 13 = .ok (.iastore, 1) := by decide +kernel
theorem dX1_setChore_14 : decode cX1_setChore 14 = .ok (.aload_n 0, 1) := by decide +kernel
theorem dX1_setChore_15 : decode cX1_setChore 15 = .ok (.getfield 27, 3) := by decide +kernel
theorem dX1_setChore_18 : decode cX1_setChore 18 = .ok (.iconst 2, 1) := by decide +kernel
theorem dX1_setChore_19 : decode cX1_setChore 19 = .ok (.iload_n 2, 1) := by decide +kernel
theorem dX1_setChore_20 : decode cX1_setChore 20 = .ok (.iastore, 1) := by decide +kernel
theorem dX1_setChore_21 : decode cX1_setChore 21 = .ok (.aload_n 0, 1) := by decide +kernel
theorem dX1_setChore_22 : decode cX1_setChore 22 = .ok (.getfield 27, 3) := by decide +kernel
theorem dX1_setChore_25 : decode cX1_setChore 25 = .ok (.bipush 7, 2) := by decide +kernel
theorem dX1_setChore_27 : decode cX1_setChore 27 = .ok (.iload_n 3, 1) := by decide +kernel
theorem dX1_setChore_28 : decode cX1_setChore 28 = .ok (.iastore, 1) := by decide +kernel
theorem dX1_setChore_29 : decode cX1_setChore 29 = .ok (.return_, 1) := by decide +kernel
theorem dX1_setDay_0 : decode cX1_setDay 0 = .ok (.aload_n 0, 1) := by decide +kernel
theorem dX1_setDay_1 : decode cX1_setDay 1 = .ok (.getfield 27, 3) := by decide +kernel
theorem dX1_setDay_4 : decode cX1_setDay 4 = .ok (.iconst 3, 1) := by decide +kernel
theorem dX1_setDay_5 : decode cX1_setDay 5 = .ok (.iload_n 1, 1) := by decide +kernel
theorem dX1_setDay_6 : decode cX1_setDay 6 = .ok (.iastore, 1) := by decide +kernel
theorem dX1_setDay_7 : decode cX1_setDay 7 = .ok (.aload_n 0, 1) := by decide +kernel
theorem dX1_setDay_8 : decode cX1_setDay 8 = .ok (.getfield 27, 3) := by decide +kernel
theorem dX1_setDay_11 : decode cX1_setDay 11 = .ok (.iconst 4, 1) := by decide +kernel
theorem dX1_setDay_12 : decode cX1_setDay 12 = .ok (.iload_n 1, 1) := by decide +kernel
theorem dX1_setDay_13 : decode cX1_setDay 13 = .ok (.bipush 7, 2) := by decide +kernel
theorem dX1_setDay_15 : decode cX1_setDay 15 = .ok (.irem, 1) := by decide +kernel
theorem dX1_setDay_16 : decode cX1_setDay 16 = .ok (.iastore, 1) := by decide +kernel
theorem dX1_setDay_17 : decode cX1_setDay 17 = .ok (.aload_n 0, 1) := by decide +kernel
theorem dX1_setDay_18 : decode cX1_setDay 18 = .ok (.getfield 27, 3) := by decide +kernel
theorem dX1_setDay_21 : decode cX1_setDay 21 = .ok (.iconst 5, 1) := by decide +kernel
theorem dX1_setDay_22 : decode cX1_setDay 22 = .ok (.iload_n 2, 1) := by decide +kernel
theorem dX1_setDay_23 : decode cX1_setDay 23 = .ok (.iastore, 1) := by decide +kernel
theorem dX1_setDay_24 : decode cX1_setDay 24 = .ok (.aload_n 0, 1) := by decide +kernel
theorem dX1_setDay_25 : decode cX1_setDay 25 = .ok (.getfield 27, 3) := by decide +kernel
theorem dX1_setDay_28 : decode cX1_setDay 28 = .ok (.bipush 6, 2) := by decide +kernel
theorem dX1_setDay_30 : decode cX1_setDay 30 = .ok (.iload_n 3, 1) := by decide +kernel
theorem dX1_setDay_31 : decode cX1_setDay 31 = .ok (.iastore, 1) := by decide +kernel
theorem dX1_setDay_32 : decode cX1_setDay 32 = .ok (.return_, 1) := by decide +kernel
theorem dX1_setPerson_0 : decode cX1_setPerson 0 = .ok (.aload_n 0, 1) := by decide +kernel
theorem dX1_setPerson_1 : decode cX1_setPerson 1 = .ok (.getfield 27, 3) := by decide +kernel
theorem dX1_setPerson_4 : decode cX1_setPerson 4 = .ok (.iconst 0, 1) := by decide +kernel
theorem dX1_setPerson_5 : decode cX1_setPerson 5 = .ok (.iconst 0, 1) := by decide +kernel
theorem dX1_setPerson_6 : decode cX1_setPerson 6 = .ok (.iastore, 1) := by decide +kernel
theorem dX1_setPerson_7 : decode cX1_setPerson 7 = .ok (.aload_n 0, 1) := by decide +kernel
theorem dX1_setPerson_8 : decode cX1_setPerson 8 = .ok (.getfield 27, 3) := by decide +kernel
theorem dX1_setPerson_11 : decode cX1_setPerson 11 = .ok (.iconst 1, 1) := by decide +kernel
theorem dX1_setPerson_12 : decode cX1_setPerson 12 = .ok (.iload_n 1, 1) := by decide +kernel
theorem dX1_setPerson_13 : decode cX1_setPerson 13 = .ok (.iastore, 1) := by decide +kernel
theorem dX1_setPerson_14 : decode cX1_setPerson 14 = .ok (.aload_n 0, 1) := by decide +kernel
theorem dX1_setPerson_15 : decode cX1_setPerson 15 = .ok (.getfield 27, 3) := by decide +kernel
theorem dX1_setPerson_18 : decode cX1_setPerson 18 = .ok (.iconst 2, 1) := by decide +kernel
theorem dX1_setPerson_19 : decode cX1_setPerson 19 = .ok (.iload_n 2, 1) := by decide +kernel
theorem dX1_setPerson_20 : decode cX1_setPerson 20 = .ok (.iastore, 1) := by decide +kernel
theorem dX1_setPerson_21 : decode cX1_setPerson 21 = .ok (.aload_n 0, 1) := by decide +kernel
theorem dX1_setPerson_22 : decode cX1_setPerson 22 = .ok (.getfield 27, 3) := by decide +kernel
theorem dX1_setPerson_25 : decode cX1_setPerson 25 = .ok (.bipush 7, 2) := by decide +kernel
theorem dX1_setPerson_27 : decode cX1_setPerson 27 = .ok (.iconst 0, 1) := by decide +kernel
theorem dX1_setPerson_28 : decode cX1_setPerson 28 = .ok (.iastore, 1) := by decide +kernel
theorem dX1_setPerson_29 : decode cX1_setPerson 29 = .ok (.return_, 1) := by decide +kernel
theorem dX1_setUndone_0 : decode cX1_setUndone 0 = .ok (.aload_n 0, 1) := by decide +kernel
theorem dX1_setUndone_1 : decode cX1_setUndone 1 = .ok (.getfield 27, 3) := by decide +kernel
theorem dX1_setUndone_4 : decode cX1_setUndone 4 = .ok (.bipush 7, 2) := by decide +kernel
theorem dX1_setUndone_6 : decode cX1_setUndone 6 = .ok (.iload_n 1, 1) := by decide +kernel
theorem dX1_setUndone_7 : decode cX1_setUndone 7 = .ok (.iastore, 1) := by decide +kernel
theorem dX1_setUndone_8 : decode cX1_setUndone 8 = .ok (.return_, 1) := by decide +kernel
