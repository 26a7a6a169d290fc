theorem dX10_slot_11 : decode cX10_slot 11 = .ok (.new 9, 3) := by decide +kernel
theorem dX10_slot_14 : decode cX10_slot 14 = .ok (.dup, 1) := by decide +kernel
theorem dX10_slot_15 : decode cX10_slot 15 = .ok (.invokespecial 351, 3) := by decide +kernel
theorem dX10_slot_18 : decode cX10_slot 18 = .ok (.astore_n 2, 1) := by decide +kernel
theorem dX10_slot_19 : decode cX10_slot 19 = .ok (.aload_n 0, 1) := by decide +kernel
theorem dX10_slot_20 : decode cX10_slot 20 = .ok (.getfield 11, 3) := by decide +kernel
theorem dX10_slot_23 : decode cX10_slot 23 = .ok (.iload_n 1, 1) := by decide +kernel
theorem dX10_slot_24 : decode cX10_slot 24 = .ok (.aload_n 2, 1) := by decide +kernel
theorem dX10_slot_25 : decode cX10_slot 25 = .ok (.aastore, 1) := by decide +kernel
