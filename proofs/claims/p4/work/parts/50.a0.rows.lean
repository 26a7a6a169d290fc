theorem dX11_roomsAhead_0 : decode cX11_roomsAhead 0 = .ok (.iconst 0, 1) := by decide +kernel
theorem dX11_roomsAhead_1 : decode cX11_roomsAhead 1 = .ok (.istore_n 2, 1) := by decide +kernel
theorem dX11_roomsAhead_2 : decode cX11_roomsAhead 2 = .ok (.iconst 0, 1) := by decide +kernel
theorem dX11_roomsAhead_3 : decode cX11_roomsAhead 3 = .ok (.istore_n 3, 1) := by decide +kernel
theorem dX11_roomsAhead_4 : decode cX11_roomsAhead 4 = .ok (.iload_n 3, 1) := by decide +kernel
theorem dX11_roomsAhead_5 : decode cX11_roomsAhead 5 = .ok (.iload_n 1, 1) := by decide +kernel
theorem dX11_roomsAhead_6 : decode cX11_roomsAhead 6 = .ok (.if_icmp .ge 18, 3) := by decide +kernel
theorem dX11_roomsAhead_9 : decode cX11_roomsAhead 9 = .ok (.iload_n 2, 1) := by decide +kernel
theorem dX11_roomsAhead_10 : decode cX11_roomsAhead 10 = .ok (.aload_n 0, 1) := by decide +kernel
theorem dX11_roomsAhead_11 : decode cX11_roomsAhead 11 = .ok (.iconst 4, 1) := by decide +kernel
theorem dX11_roomsAhead_12 : decode cX11_roomsAhead 12 = .ok (.iload_n 3, 1) := by decide +kernel
theorem dX11_roomsAhead_13 : decode cX11_roomsAhead 13 = .ok (.invokevirtual 137, 3) := by decide +kernel
theorem dX11_roomsAhead_16 : decode cX11_roomsAhead 16 = .ok (.iadd, 1) := by decide +kernel
theorem dX11_roomsAhead_17 : decode cX11_roomsAhead 17 = .ok (.istore_n 2, 1) := by decide +kernel
theorem dX11_roomsAhead_18 : decode cX11_roomsAhead 18 = .ok (.iinc 3 1, 3) := by decide +kernel
theorem dX11_roomsAhead_21 : decode cX11_roomsAhead 21 = .ok (.goto (-17), 3) := by decide +kernel
theorem dX11_roomsAhead_24 : decode cX11_roomsAhead 24 = .ok (.iload_n 2, 1) := by decide +kernel
theorem dX11_roomsAhead_25 : decode cX11_roomsAhead 25 = .ok (.ireturn, 1) := by decide +kernel
theorem dX11_frozenRoom_0 : decode cX11_frozenRoom 0 = .ok (.aload_n 0, 1) := by decide +kernel
theorem dX11_frozenRoom_1 : decode cX11_frozenRoom 1 = .ok (.aload_n 0, 1) := by decide +kernel
theorem dX11_frozenRoom_2 : decode cX11_frozenRoom 2 = .ok (.getfield 24, 3) := by decide +kernel
theorem dX11_frozenRoom_5 : decode cX11_frozenRoom 5 = .ok (.sipush 640, 3) := by decide +kernel
theorem dX11_frozenRoom_8 : decode cX11_frozenRoom 8 = .ok (.iload_n 1, 1) := by decide +kernel
theorem dX11_frozenRoom_9 : decode cX11_frozenRoom 9 = .ok (.iadd, 1) := by decide +kernel
theorem dX11_frozenRoom_10 : decode cX11_frozenRoom 10 = .ok (.iaload, 1) := by decide +kernel
theorem dX11_frozenRoom_11 : decode cX11_frozenRoom 11 = .ok (.invokevirtual 265, 3) := by decide +kernel
theorem dX11_frozenRoom_14 : decode cX11_frozenRoom 14 = .ok (.aload_n 0, 1) := by decide +kernel
theorem dX11_frozenRoom_15 : decode cX11_frozenRoom 15 = .ok (.getfield 27, 3) := by decide +kernel
theorem dX11_frozenRoom_18 : decode cX11_frozenRoom 18 = .ok (.sipush 640, 3) := by decide +kernel
theorem dX11_frozenRoom_21 : decode cX11_frozenRoom 21 = .ok (.iload_n 1, 1) := by decide +kernel
theorem dX11_frozenRoom_22 : decode cX11_frozenRoom 22 = .ok (.iadd, 1) := by decide +kernel
theorem dX11_frozenRoom_23 : decode cX11_frozenRoom 23 = .ok (.iaload, 1) := by decide +kernel
theorem dX11_frozenRoom_24 : decode cX11_frozenRoom 24 = .ok (.iadd, 1) := by decide +kernel
theorem dX11_frozenRoom_25 : decode cX11_frozenRoom 25 = .ok (.ireturn, 1) := by decide +kernel
