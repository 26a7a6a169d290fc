theorem dX2_keyAt_0 : decode cX2_keyAt 0 = .ok (.iload_n 1, 1) := by decide +kernel
theorem dX2_keyAt_1 : decode cX2_keyAt 1 = .ok (.ifCond .lt 11, 3) := by decide +kernel
theorem dX2_keyAt_4 : decode cX2_keyAt 4 = .ok (.iload_n 1, 1) := by decide +kernel
theorem dX2_keyAt_5 : decode cX2_keyAt 5 = .ok (.aload_n 0, 1) := by decide +kernel
theorem dX2_keyAt_6 : decode cX2_keyAt 6 = .ok (.getfield 18, 3) := by decide +kernel
theorem dX2_keyAt_9 : decode cX2_keyAt 9 = .ok (.if_icmp .lt 7, 3) := by decide +kernel
theorem dX2_keyAt_12 : decode cX2_keyAt 12 = .ok (.iconst (-1), 1) := by decide +kernel
theorem dX2_keyAt_13 : decode cX2_keyAt 13 = .ok (.goto 9, 3) := by decide +kernel
theorem dX2_keyAt_16 : decode cX2_keyAt 16 = .ok (.aload_n 0, 1) := by decide +kernel
theorem dX2_keyAt_17 : decode cX2_keyAt 17 = .ok (.getfield 9, 3) := by decide +kernel
theorem dX2_keyAt_20 : decode cX2_keyAt 20 = .ok (.iload_n 1, 1) := by decide +kernel
theorem dX2_keyAt_21 : decode cX2_keyAt 21 = .ok (.iaload, 1) := by decide +kernel
theorem dX2_keyAt_22 : decode cX2_keyAt 22 = .ok (.ireturn, 1) := by decide +kernel
theorem dX2_valueAt_0 : decode cX2_valueAt 0 = .ok (.iload_n 1, 1) := by decide +kernel
theorem dX2_valueAt_1 : decode cX2_valueAt 1 = .ok (.ifCond .lt 11, 3) := by decide +kernel
theorem dX2_valueAt_4 : decode cX2_valueAt 4 = .ok (.iload_n 1, 1) := by decide +kernel
theorem dX2_valueAt_5 : decode cX2_valueAt 5 = .ok (.aload_n 0, 1) := by decide +kernel
theorem dX2_valueAt_6 : decode cX2_valueAt 6 = .ok (.getfield 18, 3) := by decide +kernel
theorem dX2_valueAt_9 : decode cX2_valueAt 9 = .ok (.if_icmp .lt 7, 3) := by decide +kernel
theorem dX2_valueAt_12 : decode cX2_valueAt 12 = .ok (.iconst 0, 1) := by decide +kernel
theorem dX2_valueAt_13 : decode cX2_valueAt 13 = .ok (.goto 9, 3) := by decide +kernel
theorem dX2_valueAt_16 : decode cX2_valueAt 16 = .ok (.aload_n 0, 1) := by decide +kernel
theorem dX2_valueAt_17 : decode cX2_valueAt 17 = .ok (.getfield 15, 3) := by decide +kernel
theorem dX2_valueAt_20 : decode cX2_valueAt 20 = .ok (.iload_n 1, 1) := by decide +kernel
theorem dX2_valueAt_21 : decode cX2_valueAt 21 = .ok (.iaload, 1) := by decide +kernel
theorem dX2_valueAt_22 : decode cX2_valueAt 22 = .ok (.ireturn, 1) := by decide +kernel
theorem dX2_rank_0 : decode cX2_rank 0 = .ok (.iconst 0, 1) := by decide +kernel
theorem dX2_rank_1 : decode cX2_rank 1 = .ok (.istore_n 2, 1) := by decide +kernel
theorem dX2_rank_2 : decode cX2_rank 2 = .ok (.sipush 128, 3) := by decide +kernel
theorem dX2_rank_5 : decode cX2_rank 5 = .ok (.istore_n 3, 1) := by decide +kernel
theorem dX2_rank_6 : decode cX2_rank 6 = .ok (.iload_n 3, 1) := by decide +kernel
theorem dX2_rank_7 : decode cX2_rank 7 = .ok (.ifCond .le 38, 3) := by decide +kernel
theorem dX2_rank_10 : decode cX2_rank 10 = .ok (.iload_n 2, 1) := by decide +kernel
theorem dX2_rank_11 : decode cX2_rank 11 = .ok (.iload_n 3, 1) := by decide +kernel
theorem dX2_rank_12 : decode cX2_rank 12 = .ok (.iadd, 1) := by decide +kernel
theorem dX2_rank_13 : decode cX2_rank 13 = .ok (.aload_n 0, 1) := by decide +kernel
theorem dX2_rank_14 : decode cX2_rank 14 = .ok (.getfield 18, 3) := by decide +kernel
theorem dX2_rank_17 : decode cX2_rank 17 = .ok (.if_icmp .gt 21, 3) := by decide +kernel
theorem dX2_rank_20 : decode cX2_rank 20 = .ok (.aload_n 0, 1) := by decide +kernel
theorem dX2_rank_21 : decode cX2_rank 21 = .ok (.getfield 9, 3) := by decide +kernel
theorem dX2_rank_24 : decode cX2_rank 24 = .ok (.iload_n 2, 1) := by decide +kernel
theorem dX2_rank_25 : decode cX2_rank 25 = .ok (.iload_n 3, 1) := by decide +kernel
theorem dX2_rank_26 : decode cX2_rank 26 = .ok (.iadd, 1) := by decide +kernel
theorem dX2_rank_27 : decode cX2_rank 27 = .ok (.iconst 1, 1) := by decide +kernel
theorem dX2_rank_28 : decode cX2_rank 28 = .ok (.isub, 1) := by decide +kernel
theorem dX2_rank_29 : decode cX2_rank 29 = .ok (.iaload, 1) := by decide +kernel
theorem dX2_rank_30 : decode cX2_rank 30 = .ok (.iload_n 1, 1) := by decide +kernel
theorem dX2_rank_31 : decode cX2_rank 31 = .ok (.if_icmp .ge 7, 3) := by decide +kernel
theorem dX2_rank_34 : decode cX2_rank 34 = .ok (.iload_n 2, 1) := by decide +kernel
theorem dX2_rank_35 : decode cX2_rank 35 = .ok (.iload_n 3, 1) := by decide +kernel
theorem dX2_rank_36 : decode cX2_rank 36 = .ok (.iadd, 1) := by decide +kernel
theorem dX2_rank_37 : decode cX2_rank 37 = .ok (.istore_n 2, 1) := by decide +kernel
theorem dX2_rank_38 : decode cX2_rank 38 = .ok (.iload_n 3, 1) := by decide +kernel
theorem dX2_rank_39 : decode cX2_rank 39 = .ok (.iconst 2, 1) := by decide +kernel
theorem dX2_rank_40 : decode cX2_rank 40 = .ok (.idiv, 1) := by decide +kernel
theorem dX2_rank_41 : decode cX2_rank 41 = .ok (.istore_n 3, 1) := by decide +kernel
theorem dX2_rank_42 : decode cX2_rank 42 = .ok (.goto (-36), 3) := by decide +kernel
theorem dX2_rank_45 : decode cX2_rank 45 = .ok (.iload_n 2, 1) := by decide +kernel
theorem dX2_rank_46 : decode cX2_rank 46 = .ok (.ireturn, 1) := by decide +kernel
theorem dX2_find_0 : decode cX2_find 0 = .ok (.aload_n 0, 1) := by decide +kernel
theorem dX2_find_1 : decode cX2_find 1 = .ok (.iload_n 1, 1) := by decide +kernel
theorem dX2_find_2 : decode cX2_find 2 = .ok (.invokevirtual 22, 3) := by decide +kernel
theorem dX2_find_5 : decode cX2_find 5 = .ok (.istore_n 2, 1) := by decide +kernel
theorem dX2_find_6 : decode cX2_find 6 = .ok (.iload_n 2, 1) := by decide +kernel
theorem dX2_find_7 : decode cX2_find 7 = .ok (.aload_n 0, 1) := by decide +kernel
theorem dX2_find_8 : decode cX2_find 8 = .ok (.getfield 18, 3) := by decide +kernel
theorem dX2_find_11 : decode cX2_find 11 = .ok (.if_icmp .ge 17, 3) := by decide +kernel
theorem dX2_find_14 : decode cX2_find 14 = .ok (.aload_n 0, 1) := by decide +kernel
theorem dX2_find_15 : decode cX2_find 15 = .ok (.getfield 9, 3) := by decide +kernel
theorem dX2_find_18 : decode cX2_find 18 = .ok (.iload_n 2, 1) := by decide +kernel
theorem dX2_find_19 : decode cX2_find 19 = .ok (.iaload, 1) := by decide +kernel
theorem dX2_find_20 : decode cX2_find 20 = .ok (.iload_n 1, 1) := by decide +kernel
theorem dX2_find_21 : decode cX2_find 21 = .ok (.if_icmp .ne 7, 3) := by decide +kernel
theorem dX2_find_24 : decode cX2_find 24 = .ok (.iload_n 2, 1) := by decide +kernel
theorem dX2_find_25 : decode cX2_find 25 = .ok (.goto 4, 3) := by decide +kernel
theorem dX2_find_28 : decode cX2_find 28 = .ok (.iconst (-1), 1) := by decide +kernel
theorem dX2_find_29 : decode cX2_find 29 = .ok (.ireturn, 1) := by decide +kernel
theorem dX2_closest_0 : decode cX2_closest 0 = .ok (.aload_n 0, 1) := by decide +kernel
theorem dX2_closest_1 : decode cX2_closest 1 = .ok (.iload_n 1, 1) := by decide +kernel
theorem dX2_closest_2 : decode cX2_closest 2 = .ok (.invokevirtual 22, 3) := by decide +kernel
theorem dX2_closest_5 : decode cX2_closest 5 = .ok (.istore_n 2, 1) := by decide +kernel
theorem dX2_closest_6 : decode cX2_closest 6 = .ok (.iload_n 2, 1) := by decide +kernel
theorem dX2_closest_7 : decode cX2_closest 7 = .ok (.aload_n 0, 1) := by decide +kernel
theorem dX2_closest_8 : decode cX2_closest 8 = .ok (.getfield 18, 3) := by decide +kernel
theorem dX2_closest_11 : decode cX2_closest 11 = .ok (.if_icmp .ne 14, 3) := by decide +kernel
theorem dX2_closest_14 : decode cX2_closest 14 = .ok (.aload_n 0, 1) := by decide +kernel
theorem dX2_closest_15 : decode cX2_closest 15 = .ok (.aload_n 0, 1) := by decide +kernel
theorem dX2_closest_16 : decode cX2_closest 16 = .ok (.getfield 18, 3) := by decide +kernel
theorem dX2_closest_19 : decode cX2_closest 19 = .ok (.iconst 1, 1) := by decide +kernel
theorem dX2_closest_20 : decode cX2_closest 20 = .ok (.isub, 1) := by decide +kernel
theorem dX2_closest_21 : decode cX2_closest 21 = .ok (.invokevirtual 26, 3) := by decide +kernel
theorem dX2_closest_24 : decode cX2_closest 24 = .ok (.ireturn, 1) := by decide +kernel
theorem dX2_closest_25 : decode cX2_closest 25 = .ok (.iload_n 2, 1) := by decide +kernel
theorem dX2_closest_26 : decode cX2_closest 26 = .ok (.ifCond .ne 10, 3) := by decide +kernel
theorem dX2_closest_29 : decode cX2_closest 29 = .ok (.aload_n 0, 1) := by decide +kernel
theorem dX2_closest_30 : decode cX2_closest 30 = .ok (.getfield 9, 3) := by decide +kernel
theorem dX2_closest_33 : decode cX2_closest 33 = .ok (.iconst 0, 1) := by decide +kernel
theorem dX2_closest_34 : decode cX2_closest 34 = .ok (.iaload, 1) := by decide +kernel
theorem dX2_closest_35 : decode cX2_closest 35 = .ok (.ireturn, 1) := by decide +kernel
theorem dX2_closest_36 : decode cX2_closest 36 = .ok (.iload_n 1, 1) := by decide +kernel
theorem dX2_closest_37 : decode cX2_closest 37 = .ok (.aload_n 0, 1) := by decide +kernel
theorem dX2_closest_38 : decode cX2_closest 38 = .ok (.getfield 9, 3) := by decide +kernel
theorem dX2_closest_41 : decode cX2_closest 41 = .ok (.iload_n 2, 1) := by decide +kernel
theorem dX2_closest_42 : decode cX2_closest 42 = .ok (.iconst 1, 1) := by decide +kernel
theorem dX2_closest_43 : decode cX2_closest 43 = .ok (.isub, 1) := by decide +kernel
theorem dX2_closest_44 : decode cX2_closest 44 = .ok (.iaload, 1) := by decide +kernel
theorem dX2_closest_45 : decode cX2_closest 45 = .ok (.isub, 1) := by decide +kernel
theorem dX2_closest_46 : decode cX2_closest 46 = .ok (.aload_n 0, 1) := by decide +kernel
theorem dX2_closest_47 : decode cX2_closest 47 = .ok (.getfield 9, 3) := by decide +kernel
theorem dX2_closest_50 : decode cX2_closest 50 = .ok (.iload_n 2, 1) := by decide +kernel
theorem dX2_closest_51 : decode cX2_closest 51 = .ok (.iaload, 1) := by decide +kernel
theorem dX2_closest_52 : decode cX2_closest 52 = .ok (.iload_n 1, 1) := by decide +kernel
theorem dX2_closest_53 : decode cX2_closest 53 = .ok (.isub, 1) := by decide +kernel
theorem dX2_closest_54 : decode cX2_closest 54 = .ok (.if_icmp .gt 14, 3) := by decide +kernel
theorem dX2_closest_57 : decode cX2_closest 57 = .ok (.aload_n 0, 1) := by decide +kernel
theorem dX2_closest_58 : decode cX2_closest 58 = .ok (.getfield 9, 3) := by decide +kernel
theorem dX2_closest_61 : decode cX2_closest 61 = .ok (.iload_n 2, 1) := by decide +kernel
theorem dX2_closest_62 : decode cX2_closest 62 = .ok (.iconst 1, 1) := by decide +kernel
theorem dX2_closest_63 : decode cX2_closest 63 = .ok (.isub, 1) := by decide +kernel
theorem dX2_closest_64 : decode cX2_closest 64 = .ok (.iaload, 1) := by decide +kernel
theorem dX2_closest_65 : decode cX2_closest 65 = .ok (.goto 9, 3) := by decide +kernel
theorem dX2_closest_68 : decode cX2_closest 68 = .ok (.aload_n 0, 1) := by decide +kernel
theorem dX2_closest_69 : decode cX2_closest 69 = .ok (.getfield 9, 3) := by decide +kernel
theorem dX2_closest_72 : decode cX2_closest 72 = .ok (.iload_n 2, 1) := by decide +kernel
theorem dX2_closest_73 : decode cX2_closest 73 = .ok (.iaload, 1) := by decide +kernel
theorem dX2_closest_74 : decode cX2_closest 74 = .ok (.ireturn, 1) := by decide +kernel
