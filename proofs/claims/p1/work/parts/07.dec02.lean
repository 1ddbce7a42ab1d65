theorem dX9_standIn_1 : decode cX9_standIn 1 = .ok (.iload_n 1, 1) := by decide +kernel
theorem dX9_standIn_2 : decode cX9_standIn 2 = .ok (.invokevirtual 228, 3) := by decide +kernel
theorem dX9_standIn_5 : decode cX9_standIn 5 = .ok (.ifCond .eq 23, 3) := by decide +kernel
theorem dX9_standIn_28 : decode cX9_standIn 28 = .ok (.iconst 0, 1) := by decide +kernel
theorem dX9_standIn_29 : decode cX9_standIn 29 = .ok (.istore 5, 2) := by decide +kernel
theorem dX9_standIn_31 : decode cX9_standIn 31 = .ok (.aload_n 0, 1) := by decide +kernel
theorem dX9_standIn_32 : decode cX9_standIn 32 = .ok (.getfield 19, 3) := by decide +kernel
theorem dX9_standIn_35 : decode cX9_standIn 35 = .ok (.iload_n 3, 1) := by decide +kernel
theorem dX9_standIn_36 : decode cX9_standIn 36 = .ok (.invokevirtual 170, 3) := by decide +kernel
theorem dX9_standIn_39 : decode cX9_standIn 39 = .ok (.ifCond .ne 19, 3) := by decide +kernel
theorem dX9_standIn_42 : decode cX9_standIn 42 = .ok (.iload_n 3, 1) := by decide +kernel
theorem dX9_standIn_43 : decode cX9_standIn 43 = .ok (.bipush 12, 2) := by decide +kernel
theorem dX9_standIn_45 : decode cX9_standIn 45 = .ok (.if_icmp .ne 17, 3) := by decide +kernel
theorem dX9_standIn_48 : decode cX9_standIn 48 = .ok (.aload_n 0, 1) := by decide +kernel
theorem dX9_standIn_49 : decode cX9_standIn 49 = .ok (.getfield 19, 3) := by decide +kernel
theorem dX9_standIn_52 : decode cX9_standIn 52 = .ok (.getfield 92, 3) := by decide +kernel
theorem dX9_standIn_55 : decode cX9_standIn 55 = .ok (.ifCond .eq 7, 3) := by decide +kernel
theorem dX9_standIn_62 : decode cX9_standIn 62 = .ok (.iconst 0, 1) := by decide +kernel
theorem dX9_standIn_63 : decode cX9_standIn 63 = .ok (.istore 6, 2) := by decide +kernel
theorem dX9_standIn_65 : decode cX9_standIn 65 = .ok (.iload 4, 2) := by decide +kernel
theorem dX9_standIn_67 : decode cX9_standIn 67 = .ok (.invokestatic 154, 3) := by decide +kernel
theorem dX9_standIn_70 : decode cX9_standIn 70 = .ok (.ifCond .eq 13, 3) := by decide +kernel
theorem dX9_standIn_73 : decode cX9_standIn 73 = .ok (.iload 5, 2) := by decide +kernel
theorem dX9_standIn_75 : decode cX9_standIn 75 = .ok (.ifCond .eq 8, 3) := by decide +kernel
theorem dX9_standIn_83 : decode cX9_standIn 83 = .ok (.ldc 231, 2) := by decide +kernel
theorem dX9_standIn_85 : decode cX9_standIn 85 = .ok (.ireturn, 1) := by decide +kernel
theorem dX9_stopped_0 : decode cX9_stopped 0 = .ok (.aload_n 0, 1) := by decide +kernel
theorem dX9_stopped_1 : decode cX9_stopped 1 = .ok (.getfield 10, 3) := by decide +kernel
theorem dX9_stopped_4 : decode cX9_stopped 4 = .ok (.iload_n 1, 1) := by decide +kernel
theorem dX9_stopped_5 : decode cX9_stopped 5 = .ok (.iconst 1, 1) := by decide +kernel
theorem dX9_stopped_6 : decode cX9_stopped 6 = .ok (.bipush 12, 2) := by decide +kernel
theorem dX9_stopped_8 : decode cX9_stopped 8 = .ok (.invokevirtual 115, 3) := by decide +kernel
theorem dX9_stopped_11 : decode cX9_stopped 11 = .ok (.ifCond .ne 5, 3) := by decide +kernel
theorem dX9_stopped_14 : decode cX9_stopped 14 = .ok (.iconst (-1), 1) := by decide +kernel
theorem dX9_stopped_15 : decode cX9_stopped 15 = .ok (.ireturn, 1) := by decide +kernel
theorem dX9_together_0 : decode cX9_together 0 = .ok (.iload_n 3, 1) := by decide +kernel
theorem dX9_together_1 : decode cX9_together 1 = .ok (.invokestatic 154, 3) := by decide +kernel
theorem dX9_together_4 : decode cX9_together 4 = .ok (.ifCond .eq 24, 3) := by decide +kernel
theorem dX9_together_7 : decode cX9_together 7 = .ok (.aload_n 0, 1) := by decide +kernel
theorem dX9_together_8 : decode cX9_together 8 = .ok (.iload_n 1, 1) := by decide +kernel
theorem dX9_together_9 : decode cX9_together 9 = .ok (.invokevirtual 228, 3) := by decide +kernel
theorem dX9_together_12 : decode cX9_together 12 = .ok (.ifCond .eq 16, 3) := by decide +kernel
theorem dX9_together_28 : decode cX9_together 28 = .ok (.ldc 231, 2) := by decide +kernel
theorem dX9_together_30 : decode cX9_together 30 = .ok (.ireturn, 1) := by decide +kernel
theorem dX9_when_0 : decode cX9_when 0 = .ok (.aload_n 0, 1) := by decide +kernel
theorem dX9_when_1 : decode cX9_when 1 = .ok (.getfield 19, 3) := by decide +kernel
theorem dX9_when_4 : decode cX9_when 4 = .ok (.iload_n 1, 1) := by decide +kernel
theorem dX9_when_5 : decode cX9_when 5 = .ok (.invokevirtual 173, 3) := by decide +kernel
theorem dX9_when_8 : decode cX9_when 8 = .ok (.ifCond .eq 33, 3) := by decide +kernel
theorem dX9_when_41 : decode cX9_when 41 = .ok (.ldc 231, 2) := by decide +kernel
theorem dX9_when_43 : decode cX9_when 43 = .ok (.ireturn, 1) := by decide +kernel
theorem dX9_within_0 : decode cX9_within 0 = .ok (.iload_n 0, 1) := by decide +kernel
theorem dX9_within_1 : decode cX9_within 1 = .ok (.iload_n 1, 1) := by decide +kernel
theorem dX9_within_2 : decode cX9_within 2 = .ok (.if_icmp .lt 12, 3) := by decide +kernel
theorem dX9_within_5 : decode cX9_within 5 = .ok (.iload_n 0, 1) := by decide +kernel
theorem dX9_within_6 : decode cX9_within 6 = .ok (.iload_n 2, 1) := by decide +kernel
theorem dX9_within_7 : decode cX9_within 7 = .ok (.if_icmp .gt 7, 3) := by decide +kernel
theorem dX9_within_10 : decode cX9_within 10 = .ok (.iconst 1, 1) := by decide +kernel
theorem dX9_within_11 : decode cX9_within 11 = .ok (.goto 4, 3) := by decide +kernel
theorem dX9_within_14 : decode cX9_within 14 = .ok (.iconst 0, 1) := by decide +kernel
theorem dX9_within_15 : decode cX9_within 15 = .ok (.ireturn, 1) := by decide +kernel
