theorem dX11_frozenAt_0 : decode cX11_frozenAt 0 = .ok (.aload_n 0, 1) := by decide +kernel
theorem dX11_frozenAt_1 : decode cX11_frozenAt 1 = .ok (.iconst 0, 1) := by decide +kernel
theorem dX11_frozenAt_2 : decode cX11_frozenAt 2 = .ok (.putfield 73, 3) := by decide +kernel
theorem dX11_frozenAt_5 : decode cX11_frozenAt 5 = .ok (.aload_n 0, 1) := by decide +kernel
theorem dX11_frozenAt_6 : decode cX11_frozenAt 6 = .ok (.iload_n 1, 1) := by decide +kernel
theorem dX11_frozenAt_7 : decode cX11_frozenAt 7 = .ok (.invokevirtual 222, 3) := by decide +kernel
theorem dX11_frozenAt_10 : decode cX11_frozenAt 10 = .ok (.ifCond .ne 5, 3) := by decide +kernel
theorem dX11_frozenAt_13 : decode cX11_frozenAt 13 = .ok (.iconst (-1), 1) := by decide +kernel
theorem dX11_frozenAt_14 : decode cX11_frozenAt 14 = .ok (.ireturn, 1) := by decide +kernel
theorem dX11_frozenAt_15 : decode cX11_frozenAt 15 = .ok (.aload_n 0, 1) := by decide +kernel
theorem dX11_frozenAt_16 : decode cX11_frozenAt 16 = .ok (.iload_n 1, 1) := by decide +kernel
theorem dX11_frozenAt_17 : decode cX11_frozenAt 17 = .ok (.lload_n 2, 1) := by decide +kernel
theorem dX11_frozenAt_18 : decode cX11_frozenAt 18 = .ok (.invokevirtual 268, 3) := by decide +kernel
theorem dX11_frozenAt_21 : decode cX11_frozenAt 21 = .ok (.ifCond .ne 6, 3) := by decide +kernel
theorem dX11_frozenAt_24 : decode cX11_frozenAt 24 = .ok (.bipush (-2), 2) := by decide +kernel
theorem dX11_frozenAt_26 : decode cX11_frozenAt 26 = .ok (.ireturn, 1) := by decide +kernel
theorem dX11_frozenAt_27 : decode cX11_frozenAt 27 = .ok (.iload 4, 2) := by decide +kernel
theorem dX11_frozenAt_29 : decode cX11_frozenAt 29 = .ok (.invokestatic 226, 3) := by decide +kernel
theorem dX11_frozenAt_32 : decode cX11_frozenAt 32 = .ok (.ifCond .eq 28, 3) := by decide +kernel
theorem dX11_frozenAt_35 : decode cX11_frozenAt 35 = .ok (.aload_n 0, 1) := by decide +kernel
theorem dX11_frozenAt_36 : decode cX11_frozenAt 36 = .ok (.iload_n 1, 1) := by decide +kernel
theorem dX11_frozenAt_37 : decode cX11_frozenAt 37 = .ok (.iload 4, 2) := by decide +kernel
theorem dX11_frozenAt_39 : decode cX11_frozenAt 39 = .ok (.invokevirtual 202, 3) := by decide +kernel
theorem dX11_frozenAt_42 : decode cX11_frozenAt 42 = .ok (.ifCond .eq 18, 3) := by decide +kernel
theorem dX11_frozenAt_45 : decode cX11_frozenAt 45 = .ok (.aload_n 0, 1) := by decide +kernel
theorem dX11_frozenAt_46 : decode cX11_frozenAt 46 = .ok (.aload_n 0, 1) := by decide +kernel
theorem dX11_frozenAt_47 : decode cX11_frozenAt 47 = .ok (.iload_n 1, 1) := by decide +kernel
theorem dX11_frozenAt_48 : decode cX11_frozenAt 48 = .ok (.iload 4, 2) := by decide +kernel
theorem dX11_frozenAt_50 : decode cX11_frozenAt 50 = .ok (.i2l, 1) := by decide +kernel
theorem dX11_frozenAt_51 : decode cX11_frozenAt 51 = .ok (.invokevirtual 99, 3) := by decide +kernel
theorem dX11_frozenAt_54 : decode cX11_frozenAt 54 = .ok (.invokevirtual 274, 3) := by decide +kernel
theorem dX11_frozenAt_57 : decode cX11_frozenAt 57 = .ok (.goto 4, 3) := by decide +kernel
theorem dX11_frozenAt_60 : decode cX11_frozenAt 60 = .ok (.iconst (-1), 1) := by decide +kernel
theorem dX11_frozenAt_61 : decode cX11_frozenAt 61 = .ok (.ireturn, 1) := by decide +kernel
