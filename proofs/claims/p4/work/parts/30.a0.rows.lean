theorem dX11_isBucket_0 : decode cX11_isBucket 0 = .ok (.aload_n 0, 1) := by decide +kernel
theorem dX11_isBucket_1 : decode cX11_isBucket 1 = .ok (.iload_n 1, 1) := by decide +kernel
theorem dX11_isBucket_2 : decode cX11_isBucket 2 = .ok (.invokevirtual 222, 3) := by decide +kernel
theorem dX11_isBucket_5 : decode cX11_isBucket 5 = .ok (.ifCond .eq 24, 3) := by decide +kernel
theorem dX11_isBucket_8 : decode cX11_isBucket 8 = .ok (.iload_n 2, 1) := by decide +kernel
theorem dX11_isBucket_9 : decode cX11_isBucket 9 = .ok (.i2l, 1) := by decide +kernel
theorem dX11_isBucket_10 : decode cX11_isBucket 10 = .ok (.lconst 0, 1) := by decide +kernel
theorem dX11_isBucket_11 : decode cX11_isBucket 11 = .ok (.aload_n 0, 1) := by decide +kernel
theorem dX11_isBucket_12 : decode cX11_isBucket 12 = .ok (.iload_n 1, 1) := by decide +kernel
theorem dX11_isBucket_13 : decode cX11_isBucket 13 = .ok (.invokevirtual 152, 3) := by decide +kernel
theorem dX11_isBucket_16 : decode cX11_isBucket 16 = .ok (.iconst 1, 1) := by decide +kernel
theorem dX11_isBucket_17 : decode cX11_isBucket 17 = .ok (.isub, 1) := by decide +kernel
theorem dX11_isBucket_18 : decode cX11_isBucket 18 = .ok (.i2l, 1) := by decide +kernel
theorem dX11_isBucket_19 : decode cX11_isBucket 19 = .ok (.invokestatic 83, 3) := by decide +kernel
theorem dX11_isBucket_22 : decode cX11_isBucket 22 = .ok (.ifCond .eq 7, 3) := by decide +kernel
theorem dX11_isBucket_25 : decode cX11_isBucket 25 = .ok (.iconst 1, 1) := by decide +kernel
theorem dX11_isBucket_26 : decode cX11_isBucket 26 = .ok (.goto 4, 3) := by decide +kernel
theorem dX11_isBucket_29 : decode cX11_isBucket 29 = .ok (.iconst 0, 1) := by decide +kernel
theorem dX11_isBucket_30 : decode cX11_isBucket 30 = .ok (.ireturn, 1) := by decide +kernel
theorem dX11_isPair_0 : decode cX11_isPair 0 = .ok (.iload_n 0, 1) := by decide +kernel
theorem dX11_isPair_1 : decode cX11_isPair 1 = .ok (.i2l, 1) := by decide +kernel
theorem dX11_isPair_2 : decode cX11_isPair 2 = .ok (.lconst 1, 1) := by decide +kernel
theorem dX11_isPair_3 : decode cX11_isPair 3 = .ok (.ldc2_w 93, 3) := by decide +kernel
theorem dX11_isPair_6 : decode cX11_isPair 6 = .ok (.invokestatic 83, 3) := by decide +kernel
theorem dX11_isPair_9 : decode cX11_isPair 9 = .ok (.ifCond .eq 19, 3) := by decide +kernel
theorem dX11_isPair_12 : decode cX11_isPair 12 = .ok (.iload_n 1, 1) := by decide +kernel
theorem dX11_isPair_13 : decode cX11_isPair 13 = .ok (.i2l, 1) := by decide +kernel
theorem dX11_isPair_14 : decode cX11_isPair 14 = .ok (.lconst 0, 1) := by decide +kernel
theorem dX11_isPair_15 : decode cX11_isPair 15 = .ok (.ldc2_w 93, 3) := by decide +kernel
theorem dX11_isPair_18 : decode cX11_isPair 18 = .ok (.invokestatic 83, 3) := by decide +kernel
theorem dX11_isPair_21 : decode cX11_isPair 21 = .ok (.ifCond .eq 7, 3) := by decide +kernel
theorem dX11_isPair_24 : decode cX11_isPair 24 = .ok (.iconst 1, 1) := by decide +kernel
theorem dX11_isPair_25 : decode cX11_isPair 25 = .ok (.goto 4, 3) := by decide +kernel
theorem dX11_isPair_28 : decode cX11_isPair 28 = .ok (.iconst 0, 1) := by decide +kernel
theorem dX11_isPair_29 : decode cX11_isPair 29 = .ok (.ireturn, 1) := by decide +kernel
theorem dX11_valueOf_0 : decode cX11_valueOf 0 = .ok (.aload_n 0, 1) := by decide +kernel
theorem dX11_valueOf_1 : decode cX11_valueOf 1 = .ok (.getfield 21, 3) := by decide +kernel
theorem dX11_valueOf_4 : decode cX11_valueOf 4 = .ok (.sipush 160, 3) := by decide +kernel
theorem dX11_valueOf_7 : decode cX11_valueOf 7 = .ok (.iload_n 1, 1) := by decide +kernel
theorem dX11_valueOf_8 : decode cX11_valueOf 8 = .ok (.imul, 1) := by decide +kernel
theorem dX11_valueOf_9 : decode cX11_valueOf 9 = .ok (.aload_n 0, 1) := by decide +kernel
theorem dX11_valueOf_10 : decode cX11_valueOf 10 = .ok (.iload_n 1, 1) := by decide +kernel
theorem dX11_valueOf_11 : decode cX11_valueOf 11 = .ok (.iload_n 2, 1) := by decide +kernel
theorem dX11_valueOf_12 : decode cX11_valueOf 12 = .ok (.i2l, 1) := by decide +kernel
theorem dX11_valueOf_13 : decode cX11_valueOf 13 = .ok (.invokevirtual 99, 3) := by decide +kernel
theorem dX11_valueOf_16 : decode cX11_valueOf 16 = .ok (.iadd, 1) := by decide +kernel
theorem dX11_valueOf_17 : decode cX11_valueOf 17 = .ok (.iaload, 1) := by decide +kernel
theorem dX11_valueOf_18 : decode cX11_valueOf 18 = .ok (.ireturn, 1) := by decide +kernel
