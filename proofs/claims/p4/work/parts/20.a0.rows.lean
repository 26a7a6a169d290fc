theorem dX11_makes_0 : decode cX11_makes 0 = .ok (.iconst 0, 1) := by decide +kernel
theorem dX11_makes_1 : decode cX11_makes 1 = .ok (.istore 7, 2) := by decide +kernel
theorem dX11_makes_3 : decode cX11_makes 3 = .ok (.iload 7, 2) := by decide +kernel
theorem dX11_makes_5 : decode cX11_makes 5 = .ok (.bipush 17, 2) := by decide +kernel
theorem dX11_makes_7 : decode cX11_makes 7 = .ok (.if_icmp .ge 17, 3) := by decide +kernel
theorem dX11_makes_10 : decode cX11_makes 10 = .ok (.aload_n 0, 1) := by decide +kernel
theorem dX11_makes_11 : decode cX11_makes 11 = .ok (.iload_n 1, 1) := by decide +kernel
theorem dX11_makes_12 : decode cX11_makes 12 = .ok (.iload 7, 2) := by decide +kernel
theorem dX11_makes_14 : decode cX11_makes 14 = .ok (.lconst 0, 1) := by decide +kernel
theorem dX11_makes_15 : decode cX11_makes 15 = .ok (.invokevirtual 126, 3) := by decide +kernel
theorem dX11_makes_18 : decode cX11_makes 18 = .ok (.iinc 7 1, 3) := by decide +kernel
theorem dX11_makes_21 : decode cX11_makes 21 = .ok (.goto (-18), 3) := by decide +kernel
theorem dX11_makes_24 : decode cX11_makes 24 = .ok (.aload_n 0, 1) := by decide +kernel
theorem dX11_makes_25 : decode cX11_makes 25 = .ok (.iload_n 1, 1) := by decide +kernel
theorem dX11_makes_26 : decode cX11_makes 26 = .ok (.iconst 0, 1) := by decide +kernel
theorem dX11_makes_27 : decode cX11_makes 27 = .ok (.lconst 1, 1) := by decide +kernel
theorem dX11_makes_28 : decode cX11_makes 28 = .ok (.invokevirtual 126, 3) := by decide +kernel
theorem dX11_makes_31 : decode cX11_makes 31 = .ok (.aload_n 0, 1) := by decide +kernel
theorem dX11_makes_32 : decode cX11_makes 32 = .ok (.iload_n 1, 1) := by decide +kernel
theorem dX11_makes_33 : decode cX11_makes 33 = .ok (.bipush 14, 2) := by decide +kernel
theorem dX11_makes_35 : decode cX11_makes 35 = .ok (.iload_n 2, 1) := by decide +kernel
theorem dX11_makes_36 : decode cX11_makes 36 = .ok (.i2l, 1) := by decide +kernel
theorem dX11_makes_37 : decode cX11_makes 37 = .ok (.invokevirtual 126, 3) := by decide +kernel
theorem dX11_makes_40 : decode cX11_makes 40 = .ok (.aload_n 0, 1) := by decide +kernel
theorem dX11_makes_41 : decode cX11_makes 41 = .ok (.iload_n 1, 1) := by decide +kernel
theorem dX11_makes_42 : decode cX11_makes 42 = .ok (.bipush 15, 2) := by decide +kernel
theorem dX11_makes_44 : decode cX11_makes 44 = .ok (.iload_n 3, 1) := by decide +kernel
theorem dX11_makes_45 : decode cX11_makes 45 = .ok (.i2l, 1) := by decide +kernel
theorem dX11_makes_46 : decode cX11_makes 46 = .ok (.invokevirtual 126, 3) := by decide +kernel
theorem dX11_makes_49 : decode cX11_makes 49 = .ok (.aload_n 0, 1) := by decide +kernel
theorem dX11_makes_50 : decode cX11_makes 50 = .ok (.iload_n 1, 1) := by decide +kernel
theorem dX11_makes_51 : decode cX11_makes 51 = .ok (.bipush 16, 2) := by decide +kernel
theorem dX11_makes_53 : decode cX11_makes 53 = .ok (.iload 4, 2) := by decide +kernel
theorem dX11_makes_55 : decode cX11_makes 55 = .ok (.i2l, 1) := by decide +kernel
theorem dX11_makes_56 : decode cX11_makes 56 = .ok (.invokevirtual 126, 3) := by decide +kernel
theorem dX11_makes_59 : decode cX11_makes 59 = .ok (.aload_n 0, 1) := by decide +kernel
theorem dX11_makes_60 : decode cX11_makes 60 = .ok (.iload_n 1, 1) := by decide +kernel
theorem dX11_makes_61 : decode cX11_makes 61 = .ok (.bipush 13, 2) := by decide +kernel
theorem dX11_makes_63 : decode cX11_makes 63 = .ok (.lload 5, 2) := by decide +kernel
theorem dX11_makes_65 : decode cX11_makes 65 = .ok (.invokevirtual 126, 3) := by decide +kernel
theorem dX11_makes_68 : decode cX11_makes 68 = .ok (.return_, 1) := by decide +kernel
