theorem dX11_whereOf_0 : decode cX11_whereOf 0 = .ok (.iconst 0, 1) := by decide +kernel
theorem dX11_whereOf_1 : decode cX11_whereOf 1 = .ok (.istore 4, 2) := by decide +kernel
theorem dX11_whereOf_3 : decode cX11_whereOf 3 = .ok (.aload_n 0, 1) := by decide +kernel
theorem dX11_whereOf_4 : decode cX11_whereOf 4 = .ok (.iload_n 1, 1) := by decide +kernel
theorem dX11_whereOf_5 : decode cX11_whereOf 5 = .ok (.invokevirtual 95, 3) := by decide +kernel
theorem dX11_whereOf_8 : decode cX11_whereOf 8 = .ok (.istore 5, 2) := by decide +kernel
theorem dX11_whereOf_10 : decode cX11_whereOf 10 = .ok (.iload 4, 2) := by decide +kernel
theorem dX11_whereOf_12 : decode cX11_whereOf 12 = .ok (.iload 5, 2) := by decide +kernel
theorem dX11_whereOf_14 : decode cX11_whereOf 14 = .ok (.if_icmp .ge 47, 3) := by decide +kernel
theorem dX11_whereOf_17 : decode cX11_whereOf 17 = .ok (.iload 4, 2) := by decide +kernel
theorem dX11_whereOf_19 : decode cX11_whereOf 19 = .ok (.iload 5, 2) := by decide +kernel
theorem dX11_whereOf_21 : decode cX11_whereOf 21 = .ok (.iadd, 1) := by decide +kernel
theorem dX11_whereOf_22 : decode cX11_whereOf 22 = .ok (.iconst 2, 1) := by decide +kernel
theorem dX11_whereOf_23 : decode cX11_whereOf 23 = .ok (.idiv, 1) := by decide +kernel
theorem dX11_whereOf_24 : decode cX11_whereOf 24 = .ok (.istore 6, 2) := by decide +kernel
theorem dX11_whereOf_26 : decode cX11_whereOf 26 = .ok (.aload_n 0, 1) := by decide +kernel
theorem dX11_whereOf_27 : decode cX11_whereOf 27 = .ok (.getfield 17, 3) := by decide +kernel
theorem dX11_whereOf_30 : decode cX11_whereOf 30 = .ok (.sipush 160, 3) := by decide +kernel
theorem dX11_whereOf_33 : decode cX11_whereOf 33 = .ok (.iload_n 1, 1) := by decide +kernel
theorem dX11_whereOf_34 : decode cX11_whereOf 34 = .ok (.imul, 1) := by decide +kernel
theorem dX11_whereOf_35 : decode cX11_whereOf 35 = .ok (.iload 6, 2) := by decide +kernel
theorem dX11_whereOf_37 : decode cX11_whereOf 37 = .ok (.iadd, 1) := by decide +kernel
theorem dX11_whereOf_38 : decode cX11_whereOf 38 = .ok (.iaload, 1) := by decide +kernel
theorem dX11_whereOf_39 : decode cX11_whereOf 39 = .ok (.i2l, 1) := by decide +kernel
theorem dX11_whereOf_40 : decode cX11_whereOf 40 = .ok (.lload_n 2, 1) := by decide +kernel
theorem dX11_whereOf_41 : decode cX11_whereOf 41 = .ok (.lcmp, 1) := by decide +kernel
theorem dX11_whereOf_42 : decode cX11_whereOf 42 = .ok (.ifCond .ge 12, 3) := by decide +kernel
theorem dX11_whereOf_45 : decode cX11_whereOf 45 = .ok (.iload 6, 2) := by decide +kernel
theorem dX11_whereOf_47 : decode cX11_whereOf 47 = .ok (.iconst 1, 1) := by decide +kernel
theorem dX11_whereOf_48 : decode cX11_whereOf 48 = .ok (.iadd, 1) := by decide +kernel
theorem dX11_whereOf_49 : decode cX11_whereOf 49 = .ok (.istore 4, 2) := by decide +kernel
theorem dX11_whereOf_51 : decode cX11_whereOf 51 = .ok (.goto 7, 3) := by decide +kernel
theorem dX11_whereOf_54 : decode cX11_whereOf 54 = .ok (.iload 6, 2) := by decide +kernel
theorem dX11_whereOf_56 : decode cX11_whereOf 56 = .ok (.istore 5, 2) := by decide +kernel
theorem dX11_whereOf_58 : decode cX11_whereOf 58 = .ok (.goto (-48), 3) := by decide +kernel
theorem dX11_whereOf_61 : decode cX11_whereOf 61 = .ok (.iload 4, 2) := by decide +kernel
theorem dX11_whereOf_63 : decode cX11_whereOf 63 = .ok (.ireturn, 1) := by decide +kernel
theorem dX11_bucketOf_0 : decode cX11_bucketOf 0 = .ok (.aload_n 0, 1) := by decide +kernel
theorem dX11_bucketOf_1 : decode cX11_bucketOf 1 = .ok (.iload_n 1, 1) := by decide +kernel
theorem dX11_bucketOf_2 : decode cX11_bucketOf 2 = .ok (.bipush 6, 2) := by decide +kernel
theorem dX11_bucketOf_4 : decode cX11_bucketOf 4 = .ok (.invokevirtual 89, 3) := by decide +kernel
theorem dX11_bucketOf_7 : decode cX11_bucketOf 7 = .ok (.aload_n 0, 1) := by decide +kernel
theorem dX11_bucketOf_8 : decode cX11_bucketOf 8 = .ok (.iload_n 1, 1) := by decide +kernel
theorem dX11_bucketOf_9 : decode cX11_bucketOf 9 = .ok (.bipush 7, 2) := by decide +kernel
theorem dX11_bucketOf_11 : decode cX11_bucketOf 11 = .ok (.invokevirtual 89, 3) := by decide +kernel
theorem dX11_bucketOf_14 : decode cX11_bucketOf 14 = .ok (.iload_n 2, 1) := by decide +kernel
theorem dX11_bucketOf_15 : decode cX11_bucketOf 15 = .ok (.i2l, 1) := by decide +kernel
theorem dX11_bucketOf_16 : decode cX11_bucketOf 16 = .ok (.aload_n 0, 1) := by decide +kernel
theorem dX11_bucketOf_17 : decode cX11_bucketOf 17 = .ok (.iload_n 1, 1) := by decide +kernel
theorem dX11_bucketOf_18 : decode cX11_bucketOf 18 = .ok (.iconst 4, 1) := by decide +kernel
theorem dX11_bucketOf_19 : decode cX11_bucketOf 19 = .ok (.invokevirtual 89, 3) := by decide +kernel
theorem dX11_bucketOf_22 : decode cX11_bucketOf 22 = .ok (.invokestatic 133, 3) := by decide +kernel
theorem dX11_bucketOf_25 : decode cX11_bucketOf 25 = .ok (.ireturn, 1) := by decide +kernel
theorem dX11_roomsOf_0 : decode cX11_roomsOf 0 = .ok (.aload_n 0, 1) := by decide +kernel
theorem dX11_roomsOf_1 : decode cX11_roomsOf 1 = .ok (.getfield 30, 3) := by decide +kernel
theorem dX11_roomsOf_4 : decode cX11_roomsOf 4 = .ok (.sipush 2048, 3) := by decide +kernel
theorem dX11_roomsOf_7 : decode cX11_roomsOf 7 = .ok (.iload_n 1, 1) := by decide +kernel
theorem dX11_roomsOf_8 : decode cX11_roomsOf 8 = .ok (.imul, 1) := by decide +kernel
theorem dX11_roomsOf_9 : decode cX11_roomsOf 9 = .ok (.iload_n 2, 1) := by decide +kernel
theorem dX11_roomsOf_10 : decode cX11_roomsOf 10 = .ok (.iadd, 1) := by decide +kernel
theorem dX11_roomsOf_11 : decode cX11_roomsOf 11 = .ok (.iaload, 1) := by decide +kernel
theorem dX11_roomsOf_12 : decode cX11_roomsOf 12 = .ok (.istore_n 3, 1) := by decide +kernel
theorem dX11_roomsOf_13 : decode cX11_roomsOf 13 = .ok (.iload_n 3, 1) := by decide +kernel
theorem dX11_roomsOf_14 : decode cX11_roomsOf 14 = .ok (.iload_n 3, 1) := by decide +kernel
theorem dX11_roomsOf_15 : decode cX11_roomsOf 15 = .ok (.imul, 1) := by decide +kernel
theorem dX11_roomsOf_16 : decode cX11_roomsOf 16 = .ok (.ireturn, 1) := by decide +kernel
theorem dX11_roomOf_0 : decode cX11_roomOf 0 = .ok (.aload_n 0, 1) := by decide +kernel
theorem dX11_roomOf_1 : decode cX11_roomOf 1 = .ok (.getfield 36, 3) := by decide +kernel
theorem dX11_roomOf_4 : decode cX11_roomOf 4 = .ok (.sipush 2048, 3) := by decide +kernel
theorem dX11_roomOf_7 : decode cX11_roomOf 7 = .ok (.iload_n 1, 1) := by decide +kernel
theorem dX11_roomOf_8 : decode cX11_roomOf 8 = .ok (.imul, 1) := by decide +kernel
theorem dX11_roomOf_9 : decode cX11_roomOf 9 = .ok (.iload_n 2, 1) := by decide +kernel
theorem dX11_roomOf_10 : decode cX11_roomOf 10 = .ok (.iadd, 1) := by decide +kernel
theorem dX11_roomOf_11 : decode cX11_roomOf 11 = .ok (.laload, 1) := by decide +kernel
theorem dX11_roomOf_12 : decode cX11_roomOf 12 = .ok (.aload_n 0, 1) := by decide +kernel
theorem dX11_roomOf_13 : decode cX11_roomOf 13 = .ok (.getfield 39, 3) := by decide +kernel
theorem dX11_roomOf_16 : decode cX11_roomOf 16 = .ok (.sipush 2048, 3) := by decide +kernel
theorem dX11_roomOf_19 : decode cX11_roomOf 19 = .ok (.iload_n 1, 1) := by decide +kernel
theorem dX11_roomOf_20 : decode cX11_roomOf 20 = .ok (.imul, 1) := by decide +kernel
theorem dX11_roomOf_21 : decode cX11_roomOf 21 = .ok (.iload_n 2, 1) := by decide +kernel
theorem dX11_roomOf_22 : decode cX11_roomOf 22 = .ok (.iadd, 1) := by decide +kernel
theorem dX11_roomOf_23 : decode cX11_roomOf 23 = .ok (.laload, 1) := by decide +kernel
theorem dX11_roomOf_24 : decode cX11_roomOf 24 = .ok (.iload_n 3, 1) := by decide +kernel
theorem dX11_roomOf_25 : decode cX11_roomOf 25 = .ok (.i2l, 1) := by decide +kernel
theorem dX11_roomOf_26 : decode cX11_roomOf 26 = .ok (.aload_n 0, 1) := by decide +kernel
theorem dX11_roomOf_27 : decode cX11_roomOf 27 = .ok (.iload_n 1, 1) := by decide +kernel
theorem dX11_roomOf_28 : decode cX11_roomOf 28 = .ok (.iload_n 2, 1) := by decide +kernel
theorem dX11_roomOf_29 : decode cX11_roomOf 29 = .ok (.invokevirtual 137, 3) := by decide +kernel
theorem dX11_roomOf_32 : decode cX11_roomOf 32 = .ok (.i2l, 1) := by decide +kernel
theorem dX11_roomOf_33 : decode cX11_roomOf 33 = .ok (.invokestatic 133, 3) := by decide +kernel
theorem dX11_roomOf_36 : decode cX11_roomOf 36 = .ok (.ireturn, 1) := by decide +kernel
