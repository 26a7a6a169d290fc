theorem dX11_takesSeed_0 : decode cX11_takesSeed 0 = .ok (.aload_n 0, 1) := by decide +kernel
theorem dX11_takesSeed_1 : decode cX11_takesSeed 1 = .ok (.aload_n 0, 1) := by decide +kernel
theorem dX11_takesSeed_2 : decode cX11_takesSeed 2 = .ok (.iload_n 1, 1) := by decide +kernel
theorem dX11_takesSeed_3 : decode cX11_takesSeed 3 = .ok (.bipush 13, 2) := by decide +kernel
theorem dX11_takesSeed_5 : decode cX11_takesSeed 5 = .ok (.invokevirtual 89, 3) := by decide +kernel
theorem dX11_takesSeed_8 : decode cX11_takesSeed 8 = .ok (.putfield 105, 3) := by decide +kernel
theorem dX11_takesSeed_11 : decode cX11_takesSeed 11 = .ok (.aload_n 0, 1) := by decide +kernel
theorem dX11_takesSeed_12 : decode cX11_takesSeed 12 = .ok (.iconst 0, 1) := by decide +kernel
theorem dX11_takesSeed_13 : decode cX11_takesSeed 13 = .ok (.putfield 123, 3) := by decide +kernel
theorem dX11_takesSeed_16 : decode cX11_takesSeed 16 = .ok (.return_, 1) := by decide +kernel
theorem dX11_laysSeed_0 : decode cX11_laysSeed 0 = .ok (.aload_n 0, 1) := by decide +kernel
theorem dX11_laysSeed_1 : decode cX11_laysSeed 1 = .ok (.iload_n 1, 1) := by decide +kernel
theorem dX11_laysSeed_2 : decode cX11_laysSeed 2 = .ok (.bipush 13, 2) := by decide +kernel
theorem dX11_laysSeed_4 : decode cX11_laysSeed 4 = .ok (.aload_n 0, 1) := by decide +kernel
theorem dX11_laysSeed_5 : decode cX11_laysSeed 5 = .ok (.getfield 105, 3) := by decide +kernel
theorem dX11_laysSeed_8 : decode cX11_laysSeed 8 = .ok (.invokevirtual 126, 3) := by decide +kernel
theorem dX11_laysSeed_11 : decode cX11_laysSeed 11 = .ok (.aload_n 0, 1) := by decide +kernel
theorem dX11_laysSeed_12 : decode cX11_laysSeed 12 = .ok (.iload_n 1, 1) := by decide +kernel
theorem dX11_laysSeed_13 : decode cX11_laysSeed 13 = .ok (.bipush 9, 2) := by decide +kernel
theorem dX11_laysSeed_15 : decode cX11_laysSeed 15 = .ok (.aload_n 0, 1) := by decide +kernel
theorem dX11_laysSeed_16 : decode cX11_laysSeed 16 = .ok (.getfield 123, 3) := by decide +kernel
theorem dX11_laysSeed_19 : decode cX11_laysSeed 19 = .ok (.i2l, 1) := by decide +kernel
theorem dX11_laysSeed_20 : decode cX11_laysSeed 20 = .ok (.invokevirtual 130, 3) := by decide +kernel
theorem dX11_laysSeed_23 : decode cX11_laysSeed 23 = .ok (.return_, 1) := by decide +kernel
