theorem dX11_put_0 : decode cX11_put 0 = .ok (.aload_n 0, 1) := by decide +kernel
theorem dX11_put_1 : decode cX11_put 1 = .ok (.iconst 0, 1) := by decide +kernel
theorem dX11_put_2 : decode cX11_put 2 = .ok (.putfield 73, 3) := by decide +kernel
theorem dX11_put_5 : decode cX11_put 5 = .ok (.aload_n 0, 1) := by decide +kernel
theorem dX11_put_6 : decode cX11_put 6 = .ok (.iload_n 1, 1) := by decide +kernel
theorem dX11_put_7 : decode cX11_put 7 = .ok (.invokevirtual 222, 3) := by decide +kernel
theorem dX11_put_10 : decode cX11_put 10 = .ok (.ifCond .eq 10, 3) := by decide +kernel
theorem dX11_put_13 : decode cX11_put 13 = .ok (.iload_n 2, 1) := by decide +kernel
theorem dX11_put_14 : decode cX11_put 14 = .ok (.invokestatic 226, 3) := by decide +kernel
theorem dX11_put_17 : decode cX11_put 17 = .ok (.ifCond .ne 6, 3) := by decide +kernel
theorem dX11_put_20 : decode cX11_put 20 = .ok (.bipush (-2), 2) := by decide +kernel
theorem dX11_put_22 : decode cX11_put 22 = .ok (.ireturn, 1) := by decide +kernel
theorem dX11_put_23 : decode cX11_put 23 = .ok (.aload_n 0, 1) := by decide +kernel
theorem dX11_put_24 : decode cX11_put 24 = .ok (.iload_n 1, 1) := by decide +kernel
theorem dX11_put_25 : decode cX11_put 25 = .ok (.iload_n 2, 1) := by decide +kernel
theorem dX11_put_26 : decode cX11_put 26 = .ok (.invokevirtual 229, 3) := by decide +kernel
theorem dX11_put_29 : decode cX11_put 29 = .ok (.ifCond .eq 8, 3) := by decide +kernel
theorem dX11_put_32 : decode cX11_put 32 = .ok (.bipush (-3), 2) := by decide +kernel
theorem dX11_put_34 : decode cX11_put 34 = .ok (.goto 10, 3) := by decide +kernel
theorem dX11_put_37 : decode cX11_put 37 = .ok (.aload_n 0, 1) := by decide +kernel
theorem dX11_put_38 : decode cX11_put 38 = .ok (.iload_n 1, 1) := by decide +kernel
theorem dX11_put_39 : decode cX11_put 39 = .ok (.iload_n 2, 1) := by decide +kernel
theorem dX11_put_40 : decode cX11_put 40 = .ok (.iload_n 3, 1) := by decide +kernel
theorem dX11_put_41 : decode cX11_put 41 = .ok (.invokevirtual 232, 3) := by decide +kernel
theorem dX11_put_44 : decode cX11_put 44 = .ok (.ireturn, 1) := by decide +kernel
theorem dX11_get_0 : decode cX11_get 0 = .ok (.aload_n 0, 1) := by decide +kernel
theorem dX11_get_1 : decode cX11_get 1 = .ok (.iconst 0, 1) := by decide +kernel
theorem dX11_get_2 : decode cX11_get 2 = .ok (.putfield 73, 3) := by decide +kernel
theorem dX11_get_5 : decode cX11_get 5 = .ok (.aload_n 0, 1) := by decide +kernel
theorem dX11_get_6 : decode cX11_get 6 = .ok (.iload_n 1, 1) := by decide +kernel
theorem dX11_get_7 : decode cX11_get 7 = .ok (.invokevirtual 222, 3) := by decide +kernel
theorem dX11_get_10 : decode cX11_get 10 = .ok (.ifCond .eq 10, 3) := by decide +kernel
theorem dX11_get_13 : decode cX11_get 13 = .ok (.iload_n 2, 1) := by decide +kernel
theorem dX11_get_14 : decode cX11_get 14 = .ok (.invokestatic 226, 3) := by decide +kernel
theorem dX11_get_17 : decode cX11_get 17 = .ok (.ifCond .ne 7, 3) := by decide +kernel
theorem dX11_get_20 : decode cX11_get 20 = .ok (.ldc2_w 235, 3) := by decide +kernel
theorem dX11_get_23 : decode cX11_get 23 = .ok (.lreturn, 1) := by decide +kernel
theorem dX11_get_24 : decode cX11_get 24 = .ok (.aload_n 0, 1) := by decide +kernel
theorem dX11_get_25 : decode cX11_get 25 = .ok (.iload_n 1, 1) := by decide +kernel
theorem dX11_get_26 : decode cX11_get 26 = .ok (.iload_n 2, 1) := by decide +kernel
theorem dX11_get_27 : decode cX11_get 27 = .ok (.invokevirtual 215, 3) := by decide +kernel
theorem dX11_get_30 : decode cX11_get 30 = .ok (.aload_n 0, 1) := by decide +kernel
theorem dX11_get_31 : decode cX11_get 31 = .ok (.iload_n 1, 1) := by decide +kernel
theorem dX11_get_32 : decode cX11_get 32 = .ok (.iload_n 2, 1) := by decide +kernel
theorem dX11_get_33 : decode cX11_get 33 = .ok (.invokevirtual 202, 3) := by decide +kernel
theorem dX11_get_36 : decode cX11_get 36 = .ok (.ifCond .eq 25, 3) := by decide +kernel
theorem dX11_get_39 : decode cX11_get 39 = .ok (.aload_n 0, 1) := by decide +kernel
theorem dX11_get_40 : decode cX11_get 40 = .ok (.getfield 21, 3) := by decide +kernel
theorem dX11_get_43 : decode cX11_get 43 = .ok (.sipush 160, 3) := by decide +kernel
theorem dX11_get_46 : decode cX11_get 46 = .ok (.iload_n 1, 1) := by decide +kernel
theorem dX11_get_47 : decode cX11_get 47 = .ok (.imul, 1) := by decide +kernel
theorem dX11_get_48 : decode cX11_get 48 = .ok (.aload_n 0, 1) := by decide +kernel
theorem dX11_get_49 : decode cX11_get 49 = .ok (.iload_n 1, 1) := by decide +kernel
theorem dX11_get_50 : decode cX11_get 50 = .ok (.iload_n 2, 1) := by decide +kernel
theorem dX11_get_51 : decode cX11_get 51 = .ok (.i2l, 1) := by decide +kernel
theorem dX11_get_52 : decode cX11_get 52 = .ok (.invokevirtual 99, 3) := by decide +kernel
theorem dX11_get_55 : decode cX11_get 55 = .ok (.iadd, 1) := by decide +kernel
theorem dX11_get_56 : decode cX11_get 56 = .ok (.iaload, 1) := by decide +kernel
theorem dX11_get_57 : decode cX11_get 57 = .ok (.i2l, 1) := by decide +kernel
theorem dX11_get_58 : decode cX11_get 58 = .ok (.goto 6, 3) := by decide +kernel
theorem dX11_get_61 : decode cX11_get 61 = .ok (.ldc2_w 235, 3) := by decide +kernel
theorem dX11_get_64 : decode cX11_get 64 = .ok (.lreturn, 1) := by decide +kernel
