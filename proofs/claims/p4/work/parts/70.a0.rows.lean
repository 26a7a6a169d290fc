theorem dX0_begin_0 : decode cX0_begin 0 = .ok (.aload_n 0, 1) := by decide +kernel
theorem dX0_begin_1 : decode cX0_begin 1 = .ok (.lload_n 1, 1) := by decide +kernel
theorem dX0_begin_2 : decode cX0_begin 2 = .ok (.putfield 9, 3) := by decide +kernel
theorem dX0_begin_5 : decode cX0_begin 5 = .ok (.aload_n 0, 1) := by decide +kernel
theorem dX0_begin_6 : decode cX0_begin 6 = .ok (.iconst 0, 1) := by decide +kernel
theorem dX0_begin_7 : decode cX0_begin 7 = .ok (.putfield 15, 3) := by decide +kernel
theorem dX0_begin_10 : decode cX0_begin 10 = .ok (.return_, 1) := by decide +kernel
theorem dX0_pair_0 : decode cX0_pair 0 = .ok (.aload_n 0, 1) := by decide +kernel
theorem dX0_pair_1 : decode cX0_pair 1 = .ok (.aload_n 0, 1) := by decide +kernel
theorem dX0_pair_2 : decode cX0_pair 2 = .ok (.getfield 9, 3) := by decide +kernel
theorem dX0_pair_5 : decode cX0_pair 5 = .ok (.ldc2_w 19, 3) := by decide +kernel
theorem dX0_pair_8 : decode cX0_pair 8 = .ok (.lmul, 1) := by decide +kernel
theorem dX0_pair_9 : decode cX0_pair 9 = .ok (.ldc2_w 21, 3) := by decide +kernel
theorem dX0_pair_12 : decode cX0_pair 12 = .ok (.ladd, 1) := by decide +kernel
theorem dX0_pair_13 : decode cX0_pair 13 = .ok (.putfield 9, 3) := by decide +kernel
theorem dX0_pair_16 : decode cX0_pair 16 = .ok (.aload_n 0, 1) := by decide +kernel
theorem dX0_pair_17 : decode cX0_pair 17 = .ok (.iconst 1, 1) := by decide +kernel
theorem dX0_pair_18 : decode cX0_pair 18 = .ok (.aload_n 0, 1) := by decide +kernel
theorem dX0_pair_19 : decode cX0_pair 19 = .ok (.getfield 9, 3) := by decide +kernel
theorem dX0_pair_22 : decode cX0_pair 22 = .ok (.bipush 33, 2) := by decide +kernel
theorem dX0_pair_24 : decode cX0_pair 24 = .ok (.lushr, 1) := by decide +kernel
theorem dX0_pair_25 : decode cX0_pair 25 = .ok (.ldc2_w 23, 3) := by decide +kernel
theorem dX0_pair_28 : decode cX0_pair 28 = .ok (.lrem, 1) := by decide +kernel
theorem dX0_pair_29 : decode cX0_pair 29 = .ok (.l2i, 1) := by decide +kernel
theorem dX0_pair_30 : decode cX0_pair 30 = .ok (.iadd, 1) := by decide +kernel
theorem dX0_pair_31 : decode cX0_pair 31 = .ok (.putfield 25, 3) := by decide +kernel
theorem dX0_pair_34 : decode cX0_pair 34 = .ok (.aload_n 0, 1) := by decide +kernel
theorem dX0_pair_35 : decode cX0_pair 35 = .ok (.aload_n 0, 1) := by decide +kernel
theorem dX0_pair_36 : decode cX0_pair 36 = .ok (.getfield 9, 3) := by decide +kernel
theorem dX0_pair_39 : decode cX0_pair 39 = .ok (.ldc2_w 19, 3) := by decide +kernel
theorem dX0_pair_42 : decode cX0_pair 42 = .ok (.lmul, 1) := by decide +kernel
theorem dX0_pair_43 : decode cX0_pair 43 = .ok (.ldc2_w 21, 3) := by decide +kernel
theorem dX0_pair_46 : decode cX0_pair 46 = .ok (.ladd, 1) := by decide +kernel
theorem dX0_pair_47 : decode cX0_pair 47 = .ok (.putfield 9, 3) := by decide +kernel
theorem dX0_pair_50 : decode cX0_pair 50 = .ok (.aload_n 0, 1) := by decide +kernel
theorem dX0_pair_51 : decode cX0_pair 51 = .ok (.aload_n 0, 1) := by decide +kernel
theorem dX0_pair_52 : decode cX0_pair 52 = .ok (.getfield 9, 3) := by decide +kernel
theorem dX0_pair_55 : decode cX0_pair 55 = .ok (.bipush 33, 2) := by decide +kernel
theorem dX0_pair_57 : decode cX0_pair 57 = .ok (.lushr, 1) := by decide +kernel
theorem dX0_pair_58 : decode cX0_pair 58 = .ok (.ldc2_w 28, 3) := by decide +kernel
theorem dX0_pair_61 : decode cX0_pair 61 = .ok (.lrem, 1) := by decide +kernel
theorem dX0_pair_62 : decode cX0_pair 62 = .ok (.l2i, 1) := by decide +kernel
theorem dX0_pair_63 : decode cX0_pair 63 = .ok (.putfield 30, 3) := by decide +kernel
theorem dX0_pair_66 : decode cX0_pair 66 = .ok (.aload_n 0, 1) := by decide +kernel
theorem dX0_pair_67 : decode cX0_pair 67 = .ok (.dup, 1) := by decide +kernel
theorem dX0_pair_68 : decode cX0_pair 68 = .ok (.getfield 15, 3) := by decide +kernel
theorem dX0_pair_71 : decode cX0_pair 71 = .ok (.iconst 1, 1) := by decide +kernel
theorem dX0_pair_72 : decode cX0_pair 72 = .ok (.iadd, 1) := by decide +kernel
theorem dX0_pair_73 : decode cX0_pair 73 = .ok (.putfield 15, 3) := by decide +kernel
theorem dX0_pair_76 : decode cX0_pair 76 = .ok (.return_, 1) := by decide +kernel
theorem dX10_spot_0 : decode cX10_spot 0 = .ok (.iload_n 3, 1) := by decide +kernel
theorem dX10_spot_1 : decode cX10_spot 1 = .ok (.iconst 1, 1) := by decide +kernel
theorem dX10_spot_2 : decode cX10_spot 2 = .ok (.if_icmp .ge 5, 3) := by decide +kernel
theorem dX10_spot_5 : decode cX10_spot 5 = .ok (.iconst (-1), 1) := by decide +kernel
theorem dX10_spot_6 : decode cX10_spot 6 = .ok (.ireturn, 1) := by decide +kernel
theorem dX10_spot_7 : decode cX10_spot 7 = .ok (.iload_n 0, 1) := by decide +kernel
theorem dX10_spot_8 : decode cX10_spot 8 = .ok (.i2l, 1) := by decide +kernel
theorem dX10_spot_9 : decode cX10_spot 9 = .ok (.iload_n 2, 1) := by decide +kernel
theorem dX10_spot_10 : decode cX10_spot 10 = .ok (.i2l, 1) := by decide +kernel
theorem dX10_spot_11 : decode cX10_spot 11 = .ok (.lmul, 1) := by decide +kernel
theorem dX10_spot_12 : decode cX10_spot 12 = .ok (.iload_n 1, 1) := by decide +kernel
theorem dX10_spot_13 : decode cX10_spot 13 = .ok (.i2l, 1) := by decide +kernel
theorem dX10_spot_14 : decode cX10_spot 14 = .ok (.ladd, 1) := by decide +kernel
theorem dX10_spot_15 : decode cX10_spot 15 = .ok (.ldc2_w 353, 3) := by decide +kernel
theorem dX10_spot_18 : decode cX10_spot 18 = .ok (.lrem, 1) := by decide +kernel
theorem dX10_spot_19 : decode cX10_spot 19 = .ok (.iload_n 3, 1) := by decide +kernel
theorem dX10_spot_20 : decode cX10_spot 20 = .ok (.i2l, 1) := by decide +kernel
theorem dX10_spot_21 : decode cX10_spot 21 = .ok (.lrem, 1) := by decide +kernel
theorem dX10_spot_22 : decode cX10_spot 22 = .ok (.l2i, 1) := by decide +kernel
theorem dX10_spot_23 : decode cX10_spot 23 = .ok (.ireturn, 1) := by decide +kernel
