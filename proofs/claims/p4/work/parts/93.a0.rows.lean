theorem dX10_tableAt_0 : decode cX10_tableAt 0 = .ok (.iload_n 1, 1) := by decide +kernel
theorem dX10_tableAt_1 : decode cX10_tableAt 1 = .ok (.invokestatic 55, 3) := by decide +kernel
theorem dX10_tableAt_4 : decode cX10_tableAt 4 = .ok (.ifCond .eq 12, 3) := by decide +kernel
theorem dX10_tableAt_7 : decode cX10_tableAt 7 = .ok (.aload_n 0, 1) := by decide +kernel
theorem dX10_tableAt_8 : decode cX10_tableAt 8 = .ok (.getfield 11, 3) := by decide +kernel
theorem dX10_tableAt_11 : decode cX10_tableAt 11 = .ok (.iload_n 1, 1) := by decide +kernel
theorem dX10_tableAt_12 : decode cX10_tableAt 12 = .ok (.aaload, 1) := by decide +kernel
theorem dX10_tableAt_13 : decode cX10_tableAt 13 = .ok (.goto 4, 3) := by decide +kernel
theorem dX10_tableAt_16 : decode cX10_tableAt 16 = .ok (.aconst_null, 1) := by decide +kernel
theorem dX10_tableAt_17 : decode cX10_tableAt 17 = .ok (.areturn, 1) := by decide +kernel
