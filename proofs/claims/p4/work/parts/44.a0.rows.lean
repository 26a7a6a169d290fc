theorem dX11_bytesAt_0 : decode cX11_bytesAt 0 = .ok (.lconst 0, 1) := by decide +kernel
theorem dX11_bytesAt_1 : decode cX11_bytesAt 1 = .ok (.lstore_n 3, 1) := by decide +kernel
theorem dX11_bytesAt_2 : decode cX11_bytesAt 2 = .ok (.iload_n 1, 1) := by decide +kernel
theorem dX11_bytesAt_3 : decode cX11_bytesAt 3 = .ok (.istore 5, 2) := by decide +kernel
theorem dX11_bytesAt_5 : decode cX11_bytesAt 5 = .ok (.iload 5, 2) := by decide +kernel
theorem dX11_bytesAt_7 : decode cX11_bytesAt 7 = .ok (.iload_n 1, 1) := by decide +kernel
theorem dX11_bytesAt_8 : decode cX11_bytesAt 8 = .ok (.iload_n 2, 1) := by decide +kernel
theorem dX11_bytesAt_9 : decode cX11_bytesAt 9 = .ok (.iadd, 1) := by decide +kernel
theorem dX11_bytesAt_10 : decode cX11_bytesAt 10 = .ok (.if_icmp .ge 27, 3) := by decide +kernel
theorem dX11_bytesAt_13 : decode cX11_bytesAt 13 = .ok (.lload_n 3, 1) := by decide +kernel
theorem dX11_bytesAt_14 : decode cX11_bytesAt 14 = .ok (.bipush 8, 2) := by decide +kernel
theorem dX11_bytesAt_16 : decode cX11_bytesAt 16 = .ok (.lshl, 1) := by decide +kernel
theorem dX11_bytesAt_17 : decode cX11_bytesAt 17 = .ok (.aload_n 0, 1) := by decide +kernel
theorem dX11_bytesAt_18 : decode cX11_bytesAt 18 = .ok (.getfield 7, 3) := by decide +kernel
theorem dX11_bytesAt_21 : decode cX11_bytesAt 21 = .ok (.iload 5, 2) := by decide +kernel
theorem dX11_bytesAt_23 : decode cX11_bytesAt 23 = .ok (.baload, 1) := by decide +kernel
theorem dX11_bytesAt_24 : decode cX11_bytesAt 24 = .ok (.sipush 255, 3) := by decide +kernel
theorem dX11_bytesAt_27 : decode cX11_bytesAt 27 = .ok (.iand, 1) := by decide +kernel
theorem dX11_bytesAt_28 : decode cX11_bytesAt 28 = .ok (.i2l, 1) := by decide +kernel
theorem dX11_bytesAt_29 : decode cX11_bytesAt 29 = .ok (.lor, 1) := by decide +kernel
theorem dX11_bytesAt_30 : decode cX11_bytesAt 30 = .ok (.lstore_n 3, 1) := by decide +kernel
theorem dX11_bytesAt_31 : decode cX11_bytesAt 31 = .ok (.iinc 5 1, 3) := by decide +kernel
theorem dX11_bytesAt_34 : decode cX11_bytesAt 34 = .ok (.goto (-29), 3) := by decide +kernel
theorem dX11_bytesAt_37 : decode cX11_bytesAt 37 = .ok (.lload_n 3, 1) := by decide +kernel
theorem dX11_bytesAt_38 : decode cX11_bytesAt 38 = .ok (.lreturn, 1) := by decide +kernel
