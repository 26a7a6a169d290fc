theorem dX11_hasKey_0 : decode cX11_hasKey 0 = .ok (.aload_n 0, 1) := by decide +kernel
theorem dX11_hasKey_1 : decode cX11_hasKey 1 = .ok (.iload_n 1, 1) := by decide +kernel
theorem dX11_hasKey_2 : decode cX11_hasKey 2 = .ok (.iload_n 2, 1) := by decide +kernel
theorem dX11_hasKey_3 : decode cX11_hasKey 3 = .ok (.i2l, 1) := by decide +kernel
theorem dX11_hasKey_4 : decode cX11_hasKey 4 = .ok (.invokevirtual 99, 3) := by decide +kernel
theorem dX11_hasKey_7 : decode cX11_hasKey 7 = .ok (.istore_n 3, 1) := by decide +kernel
theorem dX11_hasKey_8 : decode cX11_hasKey 8 = .ok (.iload_n 3, 1) := by decide +kernel
theorem dX11_hasKey_9 : decode cX11_hasKey 9 = .ok (.aload_n 0, 1) := by decide +kernel
theorem dX11_hasKey_10 : decode cX11_hasKey 10 = .ok (.iload_n 1, 1) := by decide +kernel
theorem dX11_hasKey_11 : decode cX11_hasKey 11 = .ok (.invokevirtual 95, 3) := by decide +kernel
theorem dX11_hasKey_14 : decode cX11_hasKey 14 = .ok (.if_icmp .ge 23, 3) := by decide +kernel
theorem dX11_hasKey_17 : decode cX11_hasKey 17 = .ok (.aload_n 0, 1) := by decide +kernel
theorem dX11_hasKey_18 : decode cX11_hasKey 18 = .ok (.getfield 17, 3) := by decide +kernel
theorem dX11_hasKey_21 : decode cX11_hasKey 21 = .ok (.sipush 160, 3) := by decide +kernel
theorem dX11_hasKey_24 : decode cX11_hasKey 24 = .ok (.iload_n 1, 1) := by decide +kernel
theorem dX11_hasKey_25 : decode cX11_hasKey 25 = .ok (.imul, 1) := by decide +kernel
theorem dX11_hasKey_26 : decode cX11_hasKey 26 = .ok (.iload_n 3, 1) := by decide +kernel
theorem dX11_hasKey_27 : decode cX11_hasKey 27 = .ok (.iadd, 1) := by decide +kernel
theorem dX11_hasKey_28 : decode cX11_hasKey 28 = .ok (.iaload, 1) := by decide +kernel
theorem dX11_hasKey_29 : decode cX11_hasKey 29 = .ok (.iload_n 2, 1) := by decide +kernel
theorem dX11_hasKey_30 : decode cX11_hasKey 30 = .ok (.if_icmp .ne 7, 3) := by decide +kernel
theorem dX11_hasKey_33 : decode cX11_hasKey 33 = .ok (.iconst 1, 1) := by decide +kernel
theorem dX11_hasKey_34 : decode cX11_hasKey 34 = .ok (.goto 4, 3) := by decide +kernel
theorem dX11_hasKey_37 : decode cX11_hasKey 37 = .ok (.iconst 0, 1) := by decide +kernel
theorem dX11_hasKey_38 : decode cX11_hasKey 38 = .ok (.ireturn, 1) := by decide +kernel
