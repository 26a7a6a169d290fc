theorem dX11_octet1_0 : decode cX11_octet1 0 = .ok (.aload_n 0, 1) := by decide +kernel
theorem dX11_octet1_1 : decode cX11_octet1 1 = .ok (.getfield 70, 3) := by decide +kernel
theorem dX11_octet1_4 : decode cX11_octet1 4 = .ok (.aload_n 0, 1) := by decide +kernel
theorem dX11_octet1_5 : decode cX11_octet1 5 = .ok (.getfield 437, 3) := by decide +kernel
theorem dX11_octet1_8 : decode cX11_octet1 8 = .ok (.lload_n 1, 1) := by decide +kernel
theorem dX11_octet1_9 : decode cX11_octet1 9 = .ok (.ldc2_w 440, 3) := by decide +kernel
theorem dX11_octet1_12 : decode cX11_octet1 12 = .ok (.land, 1) := by decide +kernel
theorem dX11_octet1_13 : decode cX11_octet1 13 = .ok (.l2i, 1) := by decide +kernel
theorem dX11_octet1_14 : decode cX11_octet1 14 = .ok (.iastore, 1) := by decide +kernel
theorem dX11_octet1_15 : decode cX11_octet1 15 = .ok (.aload_n 0, 1) := by decide +kernel
theorem dX11_octet1_16 : decode cX11_octet1 16 = .ok (.dup, 1) := by decide +kernel
theorem dX11_octet1_17 : decode cX11_octet1 17 = .ok (.getfield 437, 3) := by decide +kernel
theorem dX11_octet1_20 : decode cX11_octet1 20 = .ok (.iconst 1, 1) := by decide +kernel
theorem dX11_octet1_21 : decode cX11_octet1 21 = .ok (.iadd, 1) := by decide +kernel
theorem dX11_octet1_22 : decode cX11_octet1 22 = .ok (.putfield 437, 3) := by decide +kernel
theorem dX11_octet1_25 : decode cX11_octet1 25 = .ok (.return_, 1) := by decide +kernel
theorem dX11_octetsOf_0 : decode cX11_octetsOf 0 = .ok (.bipush 8, 2) := by decide +kernel
theorem dX11_octetsOf_2 : decode cX11_octetsOf 2 = .ok (.iload_n 3, 1) := by decide +kernel
theorem dX11_octetsOf_3 : decode cX11_octetsOf 3 = .ok (.imul, 1) := by decide +kernel
theorem dX11_octetsOf_4 : decode cX11_octetsOf 4 = .ok (.bipush 8, 2) := by decide +kernel
theorem dX11_octetsOf_6 : decode cX11_octetsOf 6 = .ok (.isub, 1) := by decide +kernel
theorem dX11_octetsOf_7 : decode cX11_octetsOf 7 = .ok (.istore 4, 2) := by decide +kernel
theorem dX11_octetsOf_9 : decode cX11_octetsOf 9 = .ok (.iload 4, 2) := by decide +kernel
theorem dX11_octetsOf_11 : decode cX11_octetsOf 11 = .ok (.ifCond .lt 17, 3) := by decide +kernel
theorem dX11_octetsOf_14 : decode cX11_octetsOf 14 = .ok (.aload_n 0, 1) := by decide +kernel
theorem dX11_octetsOf_15 : decode cX11_octetsOf 15 = .ok (.lload_n 1, 1) := by decide +kernel
theorem dX11_octetsOf_16 : decode cX11_octetsOf 16 = .ok (.iload 4, 2) := by decide +kernel
theorem dX11_octetsOf_18 : decode cX11_octetsOf 18 = .ok (.lshr, 1) := by decide +kernel
theorem dX11_octetsOf_19 : decode cX11_octetsOf 19 = .ok (.invokevirtual 442, 3) := by decide +kernel
theorem dX11_octetsOf_22 : decode cX11_octetsOf 22 = .ok (.iinc 4 (-8), 3) := by decide +kernel
theorem dX11_octetsOf_25 : decode cX11_octetsOf 25 = .ok (.goto (-16), 3) := by decide +kernel
theorem dX11_octetsOf_28 : decode cX11_octetsOf 28 = .ok (.return_, 1) := by decide +kernel
