theorem dX11_isEmpty_0 : decode cX11_isEmpty 0 = .ok (.sipush 160, 3) := by decide +kernel
theorem dX11_isEmpty_3 : decode cX11_isEmpty 3 = .ok (.iload_n 1, 1) := by decide +kernel
theorem dX11_isEmpty_4 : decode cX11_isEmpty 4 = .ok (.imul, 1) := by decide +kernel
theorem dX11_isEmpty_5 : decode cX11_isEmpty 5 = .ok (.istore 4, 2) := by decide +kernel
theorem dX11_isEmpty_7 : decode cX11_isEmpty 7 = .ok (.iload 4, 2) := by decide +kernel
theorem dX11_isEmpty_9 : decode cX11_isEmpty 9 = .ok (.sipush 160, 3) := by decide +kernel
theorem dX11_isEmpty_12 : decode cX11_isEmpty 12 = .ok (.iload_n 1, 1) := by decide +kernel
theorem dX11_isEmpty_13 : decode cX11_isEmpty 13 = .ok (.imul, 1) := by decide +kernel
theorem dX11_isEmpty_14 : decode cX11_isEmpty 14 = .ok (.aload_n 0, 1) := by decide +kernel
theorem dX11_isEmpty_15 : decode cX11_isEmpty 15 = .ok (.iload_n 1, 1) := by decide +kernel
theorem dX11_isEmpty_16 : decode cX11_isEmpty 16 = .ok (.invokevirtual 95, 3) := by decide +kernel
theorem dX11_isEmpty_19 : decode cX11_isEmpty 19 = .ok (.iadd, 1) := by decide +kernel
theorem dX11_isEmpty_20 : decode cX11_isEmpty 20 = .ok (.if_icmp .ge 33, 3) := by decide +kernel
theorem dX11_isEmpty_23 : decode cX11_isEmpty 23 = .ok (.aload_n 0, 1) := by decide +kernel
theorem dX11_isEmpty_24 : decode cX11_isEmpty 24 = .ok (.getfield 24, 3) := by decide +kernel
theorem dX11_isEmpty_27 : decode cX11_isEmpty 27 = .ok (.iload 4, 2) := by decide +kernel
theorem dX11_isEmpty_29 : decode cX11_isEmpty 29 = .ok (.iaload, 1) := by decide +kernel
theorem dX11_isEmpty_30 : decode cX11_isEmpty 30 = .ok (.iload_n 2, 1) := by decide +kernel
theorem dX11_isEmpty_31 : decode cX11_isEmpty 31 = .ok (.if_icmp .ne 16, 3) := by decide +kernel
theorem dX11_isEmpty_34 : decode cX11_isEmpty 34 = .ok (.aload_n 0, 1) := by decide +kernel
theorem dX11_isEmpty_35 : decode cX11_isEmpty 35 = .ok (.getfield 27, 3) := by decide +kernel
theorem dX11_isEmpty_38 : decode cX11_isEmpty 38 = .ok (.iload 4, 2) := by decide +kernel
theorem dX11_isEmpty_40 : decode cX11_isEmpty 40 = .ok (.iaload, 1) := by decide +kernel
theorem dX11_isEmpty_41 : decode cX11_isEmpty 41 = .ok (.iload_n 3, 1) := by decide +kernel
theorem dX11_isEmpty_42 : decode cX11_isEmpty 42 = .ok (.if_icmp .ne 5, 3) := by decide +kernel
theorem dX11_isEmpty_45 : decode cX11_isEmpty 45 = .ok (.iconst 0, 1) := by decide +kernel
theorem dX11_isEmpty_46 : decode cX11_isEmpty 46 = .ok (.ireturn, 1) := by decide +kernel
theorem dX11_isEmpty_47 : decode cX11_isEmpty 47 = .ok (.iinc 4 1, 3) := by decide +kernel
theorem dX11_isEmpty_50 : decode cX11_isEmpty 50 = .ok (.goto (-43), 3) := by decide +kernel
theorem dX11_isEmpty_53 : decode cX11_isEmpty 53 = .ok (.iconst 1, 1) := by decide +kernel
theorem dX11_isEmpty_54 : decode cX11_isEmpty 54 = .ok (.ireturn, 1) := by decide +kernel
