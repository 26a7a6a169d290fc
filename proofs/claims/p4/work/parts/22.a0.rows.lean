theorem dX11_readsFor_0 : decode cX11_readsFor 0 = .ok (.aload_n 0, 1) := by decide +kernel
theorem dX11_readsFor_1 : decode cX11_readsFor 1 = .ok (.iload_n 1, 1) := by decide +kernel
theorem dX11_readsFor_2 : decode cX11_readsFor 2 = .ok (.bipush 8, 2) := by decide +kernel
theorem dX11_readsFor_4 : decode cX11_readsFor 4 = .ok (.lconst 1, 1) := by decide +kernel
theorem dX11_readsFor_5 : decode cX11_readsFor 5 = .ok (.aload_n 0, 1) := by decide +kernel
theorem dX11_readsFor_6 : decode cX11_readsFor 6 = .ok (.iload_n 1, 1) := by decide +kernel
theorem dX11_readsFor_7 : decode cX11_readsFor 7 = .ok (.aload_n 0, 1) := by decide +kernel
theorem dX11_readsFor_8 : decode cX11_readsFor 8 = .ok (.iload_n 1, 1) := by decide +kernel
theorem dX11_readsFor_9 : decode cX11_readsFor 9 = .ok (.iload_n 2, 1) := by decide +kernel
theorem dX11_readsFor_10 : decode cX11_readsFor 10 = .ok (.invokevirtual 155, 3) := by decide +kernel
theorem dX11_readsFor_13 : decode cX11_readsFor 13 = .ok (.invokevirtual 137, 3) := by decide +kernel
theorem dX11_readsFor_16 : decode cX11_readsFor 16 = .ok (.ifCond .le 7, 3) := by decide +kernel
theorem dX11_readsFor_19 : decode cX11_readsFor 19 = .ok (.iconst 1, 1) := by decide +kernel
theorem dX11_readsFor_20 : decode cX11_readsFor 20 = .ok (.goto 4, 3) := by decide +kernel
theorem dX11_readsFor_23 : decode cX11_readsFor 23 = .ok (.iconst 0, 1) := by decide +kernel
theorem dX11_readsFor_24 : decode cX11_readsFor 24 = .ok (.invokestatic 198, 3) := by decide +kernel
theorem dX11_readsFor_27 : decode cX11_readsFor 27 = .ok (.i2l, 1) := by decide +kernel
theorem dX11_readsFor_28 : decode cX11_readsFor 28 = .ok (.ladd, 1) := by decide +kernel
theorem dX11_readsFor_29 : decode cX11_readsFor 29 = .ok (.invokevirtual 130, 3) := by decide +kernel
theorem dX11_readsFor_32 : decode cX11_readsFor 32 = .ok (.return_, 1) := by decide +kernel
theorem dX11_isFull_0 : decode cX11_isFull 0 = .ok (.aload_n 0, 1) := by decide +kernel
theorem dX11_isFull_1 : decode cX11_isFull 1 = .ok (.iload_n 1, 1) := by decide +kernel
theorem dX11_isFull_2 : decode cX11_isFull 2 = .ok (.invokevirtual 95, 3) := by decide +kernel
theorem dX11_isFull_5 : decode cX11_isFull 5 = .ok (.sipush 160, 3) := by decide +kernel
theorem dX11_isFull_8 : decode cX11_isFull 8 = .ok (.if_icmp .ne 16, 3) := by decide +kernel
theorem dX11_isFull_11 : decode cX11_isFull 11 = .ok (.aload_n 0, 1) := by decide +kernel
theorem dX11_isFull_12 : decode cX11_isFull 12 = .ok (.iload_n 1, 1) := by decide +kernel
theorem dX11_isFull_13 : decode cX11_isFull 13 = .ok (.iload_n 2, 1) := by decide +kernel
theorem dX11_isFull_14 : decode cX11_isFull 14 = .ok (.invokevirtual 202, 3) := by decide +kernel
theorem dX11_isFull_17 : decode cX11_isFull 17 = .ok (.ifCond .ne 7, 3) := by decide +kernel
theorem dX11_isFull_20 : decode cX11_isFull 20 = .ok (.iconst 1, 1) := by decide +kernel
theorem dX11_isFull_21 : decode cX11_isFull 21 = .ok (.goto 4, 3) := by decide +kernel
theorem dX11_isFull_24 : decode cX11_isFull 24 = .ok (.iconst 0, 1) := by decide +kernel
theorem dX11_isFull_25 : decode cX11_isFull 25 = .ok (.ireturn, 1) := by decide +kernel
