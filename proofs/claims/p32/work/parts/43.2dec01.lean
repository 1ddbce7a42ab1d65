theorem dX10_types_27 : decode cX10_types 27 = .ok (.iconst 1, 1) := by decide +kernel
theorem dX10_types_28 : decode cX10_types 28 = .ok (.iadd, 1) := by decide +kernel
theorem dX10_types_29 : decode cX10_types 29 = .ok (.putfield 164, 3) := by decide +kernel
theorem dX10_types_32 : decode cX10_types 32 = .ok (.iinc 2 (-1), 3) := by decide +kernel
theorem dX10_types_35 : decode cX10_types 35 = .ok (.goto (-33), 3) := by decide +kernel
theorem dX10_types_38 : decode cX10_types 38 = .ok (.return_, 1) := by decide +kernel
theorem dX10_undo_0 : decode cX10_undo 0 = .ok (.aload_n 0, 1) := by decide +kernel
theorem dX10_undo_1 : decode cX10_undo 1 = .ok (.getfield 435, 3) := by decide +kernel
theorem dX10_undo_4 : decode cX10_undo 4 = .ok (.ifCond .ne 5, 3) := by decide +kernel
theorem dX10_undo_7 : decode cX10_undo 7 = .ok (.iconst 0, 1) := by decide +kernel
theorem dX10_undo_8 : decode cX10_undo 8 = .ok (.ireturn, 1) := by decide +kernel
theorem dX10_undo_9 : decode cX10_undo 9 = .ok (.aload_n 0, 1) := by decide +kernel
theorem dX10_undo_10 : decode cX10_undo 10 = .ok (.getfield 16, 3) := by decide +kernel
theorem dX10_undo_13 : decode cX10_undo 13 = .ok (.aload_n 0, 1) := by decide +kernel
theorem dX10_undo_14 : decode cX10_undo 14 = .ok (.getfield 7, 3) := by decide +kernel
theorem dX10_undo_17 : decode cX10_undo 17 = .ok (.bipush 15, 2) := by decide +kernel
theorem dX10_undo_19 : decode cX10_undo 19 = .ok (.invokestatic 359, 3) := by decide +kernel
theorem dX10_undo_22 : decode cX10_undo 22 = .ok (.aload_n 0, 1) := by decide +kernel
theorem dX10_undo_23 : decode cX10_undo 23 = .ok (.getfield 19, 3) := by decide +kernel
theorem dX10_undo_26 : decode cX10_undo 26 = .ok (.aload_n 0, 1) := by decide +kernel
theorem dX10_undo_27 : decode cX10_undo 27 = .ok (.getfield 28, 3) := by decide +kernel
theorem dX10_undo_30 : decode cX10_undo 30 = .ok (.bipush 10, 2) := by decide +kernel
theorem dX10_undo_32 : decode cX10_undo 32 = .ok (.invokestatic 359, 3) := by decide +kernel
theorem dX10_undo_35 : decode cX10_undo 35 = .ok (.aload_n 0, 1) := by decide +kernel
theorem dX10_undo_36 : decode cX10_undo 36 = .ok (.getfield 22, 3) := by decide +kernel
theorem dX10_undo_39 : decode cX10_undo 39 = .ok (.aload_n 0, 1) := by decide +kernel
theorem dX10_undo_40 : decode cX10_undo 40 = .ok (.getfield 31, 3) := by decide +kernel
theorem dX10_undo_43 : decode cX10_undo 43 = .ok (.bipush 10, 2) := by decide +kernel
theorem dX10_undo_45 : decode cX10_undo 45 = .ok (.invokestatic 359, 3) := by decide +kernel
theorem dX10_undo_48 : decode cX10_undo 48 = .ok (.iconst 1, 1) := by decide +kernel
theorem dX10_undo_49 : decode cX10_undo 49 = .ok (.ireturn, 1) := by decide +kernel
