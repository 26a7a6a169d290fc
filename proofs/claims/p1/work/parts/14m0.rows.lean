theorem dX0_begin_0 : decode cX0_begin 0 = .ok (.aload_n 0, 1) := by decide +kernel
theorem dX0_begin_1 : decode cX0_begin 1 = .ok (.lload_n 1, 1) := by decide +kernel
theorem dX0_begin_2 : decode cX0_begin 2 = .ok (.putfield 9, 3) := by decide +kernel
theorem dX0_begin_5 : decode cX0_begin 5 = .ok (.aload_n 0, 1) := by decide +kernel
theorem dX0_begin_6 : decode cX0_begin 6 = .ok (.iconst 0, 1) := by decide +kernel
theorem dX0_begin_7 : decode cX0_begin 7 = .ok (.putfield 15, 3) := by decide +kernel
theorem dX0_begin_10 : decode cX0_begin 10 = .ok (.return_, 1) := by decide +kernel
theorem dX0_pair_0 : decode cX0_pair 0 = .ok (.aload_n 0, 1) := by decide +kernel
theorem dX0_pair_1 : decode cX0_pair 1 = .ok (.aload_n 0, 1) := by decide +kernel
theorem dX0_pair_2 : decode cX0_pair 2 = .ok (.getfield 9, 3) := by decide +kernel
theorem dX0_pair_5 : decode cX0_pair 5 = .ok (.ldc2_w 19, 3) := by decide +kernel
theorem dX0_pair_8 : decode cX0_pair 8 = .ok (.lmul, 1) := by decide +kernel
theorem dX0_pair_9 : decode cX0_pair 9 = .ok (.ldc2_w 21, 3) := by decide +kernel
theorem dX0_pair_12 : decode cX0_pair 12 = .ok (.ladd, 1) := by decide +kernel
theorem dX0_pair_13 : decode cX0_pair 13 = .ok (.putfield 9, 3) := by decide +kernel
theorem dX0_pair_16 : decode cX0_pair 16 = .ok (.aload_n 0, 1) := by decide +kernel
theorem dX0_pair_17 : decode cX0_pair 17 = .ok (.iconst 1, 1) := by decide +kernel
theorem dX0_pair_18 : decode cX0_pair 18 = .ok (.aload_n 0, 1) := by decide +kernel
theorem dX0_pair_19 : decode cX0_pair 19 = .ok (.getfield 9, 3) := by decide +kernel
theorem dX0_pair_22 : decode cX0_pair 22 = .ok (.bipush 33, 2) := by decide +kernel
theorem dX0_pair_24 : decode cX0_pair 24 = .ok (.lushr, 1) := by decide +kernel
theorem dX0_pair_25 : decode cX0_pair 25 = .ok (.ldc2_w 23, 3) := by decide +kernel
theorem dX0_pair_28 : decode cX0_pair 28 = .ok (.lrem, 1) := by decide +kernel
theorem dX0_pair_29 : decode cX0_pair 29 = .ok (.l2i, 1) := by decide +kernel
theorem dX0_pair_30 : decode cX0_pair 30 = .ok (.iadd, 1) := by decide +kernel
theorem dX0_pair_31 : decode cX0_pair 31 = .ok (.putfield 25, 3) := by decide +kernel
theorem dX0_pair_34 : decode cX0_pair 34 = .ok (.aload_n 0, 1) := by decide +kernel
theorem dX0_pair_35 : decode cX0_pair 35 = .ok (.aload_n 0, 1) := by decide +kernel
theorem dX0_pair_36 : decode cX0_pair 36 = .ok (.getfield 9, 3) := by decide +kernel
theorem dX0_pair_39 : decode cX0_pair 39 = .ok (.ldc2_w 19, 3) := by decide +kernel
theorem dX0_pair_42 : decode cX0_pair 42 = .ok (.lmul, 1) := by decide +kernel
theorem dX0_pair_43 : decode cX0_pair 43 = .ok (.ldc2_w 21, 3) := by decide +kernel
theorem dX0_pair_46 : decode cX0_pair 46 = .ok (.ladd, 1) := by decide +kernel
theorem dX0_pair_47 : decode cX0_pair 47 = .ok (.putfield 9, 3) := by decide +kernel
theorem dX0_pair_50 : decode cX0_pair 50 = .ok (.aload_n 0, 1) := by decide +kernel
theorem dX0_pair_51 : decode cX0_pair 51 = .ok (.aload_n 0, 1) := by decide +kernel
theorem dX0_pair_52 : decode cX0_pair 52 = .ok (.getfield 9, 3) := by decide +kernel
theorem dX0_pair_55 : decode cX0_pair 55 = .ok (.bipush 33, 2) := by decide +kernel
theorem dX0_pair_57 : decode cX0_pair 57 = .ok (.lushr, 1) := by decide +kernel
theorem dX0_pair_58 : decode cX0_pair 58 = .ok (.ldc2_w 28, 3) := by decide +kernel
theorem dX0_pair_61 : decode cX0_pair 61 = .ok (.lrem, 1) := by decide +kernel
theorem dX0_pair_62 : decode cX0_pair 62 = .ok (.l2i, 1) := by decide +kernel
theorem dX0_pair_63 : decode cX0_pair 63 = .ok (.putfield 30, 3) := by decide +kernel
theorem dX0_pair_66 : decode cX0_pair 66 = .ok (.aload_n 0, 1) := by decide +kernel
theorem dX0_pair_67 : decode cX0_pair 67 = .ok (.dup, 1) := by decide +kernel
theorem dX0_pair_68 : decode cX0_pair 68 = .ok (.getfield 15, 3) := by decide +kernel
theorem dX0_pair_71 : decode cX0_pair 71 = .ok (.iconst 1, 1) := by decide +kernel
theorem dX0_pair_72 : decode cX0_pair 72 = .ok (.iadd, 1) := by decide +kernel
theorem dX0_pair_73 : decode cX0_pair 73 = .ok (.putfield 15, 3) := by decide +kernel
theorem dX0_pair_76 : decode cX0_pair 76 = .ok (.return_, 1) := by decide +kernel
theorem dX3_roomsOf_0 : decode cX3_roomsOf 0 = .ok (.iload_n 1, 1) := by decide +kernel
theorem dX3_roomsOf_1 : decode cX3_roomsOf 1 = .ok (.ifCond .lt 11, 3) := by decide +kernel
theorem dX3_roomsOf_4 : decode cX3_roomsOf 4 = .ok (.iload_n 1, 1) := by decide +kernel
theorem dX3_roomsOf_5 : decode cX3_roomsOf 5 = .ok (.aload_n 0, 1) := by decide +kernel
theorem dX3_roomsOf_6 : decode cX3_roomsOf 6 = .ok (.getfield 36, 3) := by decide +kernel
theorem dX3_roomsOf_9 : decode cX3_roomsOf 9 = .ok (.if_icmp .lt 7, 3) := by decide +kernel
theorem dX3_roomsOf_16 : decode cX3_roomsOf 16 = .ok (.aload_n 0, 1) := by decide +kernel
theorem dX3_roomsOf_17 : decode cX3_roomsOf 17 = .ok (.getfield 15, 3) := by decide +kernel
theorem dX3_roomsOf_20 : decode cX3_roomsOf 20 = .ok (.iload_n 1, 1) := by decide +kernel
theorem dX3_roomsOf_21 : decode cX3_roomsOf 21 = .ok (.iaload, 1) := by decide +kernel
theorem dX3_roomsOf_22 : decode cX3_roomsOf 22 = .ok (.aload_n 0, 1) := by decide +kernel
theorem dX3_roomsOf_23 : decode cX3_roomsOf 23 = .ok (.getfield 15, 3) := by decide +kernel
theorem dX3_roomsOf_26 : decode cX3_roomsOf 26 = .ok (.iload_n 1, 1) := by decide +kernel
theorem dX3_roomsOf_27 : decode cX3_roomsOf 27 = .ok (.iaload, 1) := by decide +kernel
theorem dX3_roomsOf_28 : decode cX3_roomsOf 28 = .ok (.imul, 1) := by decide +kernel
theorem dX3_roomsOf_29 : decode cX3_roomsOf 29 = .ok (.ireturn, 1) := by decide +kernel
theorem dX3_sweep_0 : decode cX3_sweep 0 = .ok (.iconst 0, 1) := by decide +kernel
theorem dX3_sweep_1 : decode cX3_sweep 1 = .ok (.istore_n 1, 1) := by decide +kernel
theorem dX3_sweep_2 : decode cX3_sweep 2 = .ok (.iload_n 1, 1) := by decide +kernel
theorem dX3_sweep_3 : decode cX3_sweep 3 = .ok (.aload_n 0, 1) := by decide +kernel
theorem dX3_sweep_4 : decode cX3_sweep 4 = .ok (.getfield 54, 3) := by decide +kernel
theorem dX3_sweep_7 : decode cX3_sweep 7 = .ok (.if_icmp .ge 21, 3) := by decide +kernel
theorem dX3_sweep_28 : decode cX3_sweep 28 = .ok (.return_, 1) := by decide +kernel
theorem dX3_deal_0 : decode cX3_deal 0 = .ok (.aload_n 0, 1) := by decide +kernel
theorem dX3_deal_1 : decode cX3_deal 1 = .ok (.invokevirtual 60, 3) := by decide +kernel
theorem dX3_deal_4 : decode cX3_deal 4 = .ok (.aload_n 0, 1) := by decide +kernel
theorem dX3_deal_5 : decode cX3_deal 5 = .ok (.iconst 1, 1) := by decide +kernel
theorem dX3_deal_6 : decode cX3_deal 6 = .ok (.sipush 2048, 3) := by decide +kernel
theorem dX3_deal_9 : decode cX3_deal 9 = .ok (.iload 4, 2) := by decide +kernel
theorem dX3_deal_11 : decode cX3_deal 11 = .ok (.invokestatic 63, 3) := by decide +kernel
theorem dX3_deal_14 : decode cX3_deal 14 = .ok (.invokestatic 69, 3) := by decide +kernel
theorem dX3_deal_17 : decode cX3_deal 17 = .ok (.putfield 36, 3) := by decide +kernel
theorem dX3_deal_20 : decode cX3_deal 20 = .ok (.aload_n 0, 1) := by decide +kernel
theorem dX3_deal_21 : decode cX3_deal 21 = .ok (.iload_n 2, 1) := by decide +kernel
theorem dX3_deal_22 : decode cX3_deal 22 = .ok (.putfield 40, 3) := by decide +kernel
theorem dX3_deal_25 : decode cX3_deal 25 = .ok (.aload_n 0, 1) := by decide +kernel
theorem dX3_deal_26 : decode cX3_deal 26 = .ok (.iload_n 3, 1) := by decide +kernel
theorem dX3_deal_27 : decode cX3_deal 27 = .ok (.putfield 43, 3) := by decide +kernel
theorem dX3_deal_30 : decode cX3_deal 30 = .ok (.aload_n 0, 1) := by decide +kernel
theorem dX3_deal_31 : decode cX3_deal 31 = .ok (.aload_n 1, 1) := by decide +kernel
theorem dX3_deal_32 : decode cX3_deal 32 = .ok (.getfield 72, 3) := by decide +kernel
theorem dX3_deal_35 : decode cX3_deal 35 = .ok (.putfield 54, 3) := by decide +kernel
theorem dX3_deal_38 : decode cX3_deal 38 = .ok (.iconst 0, 1) := by decide +kernel
theorem dX3_deal_39 : decode cX3_deal 39 = .ok (.istore 5, 2) := by decide +kernel
theorem dX3_deal_41 : decode cX3_deal 41 = .ok (.iconst 0, 1) := by decide +kernel
theorem dX3_deal_42 : decode cX3_deal 42 = .ok (.istore 6, 2) := by decide +kernel
theorem dX3_deal_44 : decode cX3_deal 44 = .ok (.iload 6, 2) := by decide +kernel
theorem dX3_deal_46 : decode cX3_deal 46 = .ok (.aload_n 0, 1) := by decide +kernel
theorem dX3_deal_47 : decode cX3_deal 47 = .ok (.getfield 54, 3) := by decide +kernel
theorem dX3_deal_50 : decode cX3_deal 50 = .ok (.if_icmp .ge 69, 3) := by decide +kernel
theorem dX3_deal_119 : decode cX3_deal 119 = .ok (.iload 5, 2) := by decide +kernel
theorem dX3_deal_121 : decode cX3_deal 121 = .ok (.ireturn, 1) := by decide +kernel
theorem dX3_settle_0 : decode cX3_settle 0 = .ok (.aload_n 0, 1) := by decide +kernel
theorem dX3_settle_1 : decode cX3_settle 1 = .ok (.iconst 0, 1) := by decide +kernel
theorem dX3_settle_2 : decode cX3_settle 2 = .ok (.putfield 78, 3) := by decide +kernel
theorem dX3_settle_5 : decode cX3_settle 5 = .ok (.iconst 0, 1) := by decide +kernel
theorem dX3_settle_6 : decode cX3_settle 6 = .ok (.istore_n 2, 1) := by decide +kernel
theorem dX3_settle_7 : decode cX3_settle 7 = .ok (.iconst 0, 1) := by decide +kernel
theorem dX3_settle_8 : decode cX3_settle 8 = .ok (.istore_n 3, 1) := by decide +kernel
theorem dX3_settle_9 : decode cX3_settle 9 = .ok (.iload_n 3, 1) := by decide +kernel
theorem dX3_settle_10 : decode cX3_settle 10 = .ok (.aload_n 0, 1) := by decide +kernel
theorem dX3_settle_11 : decode cX3_settle 11 = .ok (.getfield 36, 3) := by decide +kernel
theorem dX3_settle_14 : decode cX3_settle 14 = .ok (.if_icmp .ge 61, 3) := by decide +kernel
theorem dX3_settle_17 : decode cX3_settle 17 = .ok (.aload_n 0, 1) := by decide +kernel
theorem dX3_settle_18 : decode cX3_settle 18 = .ok (.getfield 15, 3) := by decide +kernel
theorem dX3_settle_21 : decode cX3_settle 21 = .ok (.iload_n 3, 1) := by decide +kernel
theorem dX3_settle_22 : decode cX3_settle 22 = .ok (.iload_n 1, 1) := by decide +kernel
theorem dX3_settle_23 : decode cX3_settle 23 = .ok (.aload_n 0, 1) := by decide +kernel
theorem dX3_settle_24 : decode cX3_settle 24 = .ok (.getfield 9, 3) := by decide +kernel
theorem dX3_settle_27 : decode cX3_settle 27 = .ok (.iload_n 3, 1) := by decide +kernel
theorem dX3_settle_28 : decode cX3_settle 28 = .ok (.iaload, 1) := by decide +kernel
theorem dX3_settle_29 : decode cX3_settle 29 = .ok (.imul, 1) := by decide +kernel
theorem dX3_settle_30 : decode cX3_settle 30 = .ok (.iastore, 1) := by decide +kernel
theorem dX3_settle_31 : decode cX3_settle 31 = .ok (.aload_n 0, 1) := by decide +kernel
theorem dX3_settle_32 : decode cX3_settle 32 = .ok (.dup, 1) := by decide +kernel
theorem dX3_settle_33 : decode cX3_settle 33 = .ok (.getfield 78, 3) := by decide +kernel
theorem dX3_settle_36 : decode cX3_settle 36 = .ok (.aload_n 0, 1) := by decide +kernel
theorem dX3_settle_37 : decode cX3_settle 37 = .ok (.getfield 15, 3) := by decide +kernel
theorem dX3_settle_40 : decode cX3_settle 40 = .ok (.iload_n 3, 1) := by decide +kernel
theorem dX3_settle_41 : decode cX3_settle 41 = .ok (.iaload, 1) := by decide +kernel
theorem dX3_settle_42 : decode cX3_settle 42 = .ok (.aload_n 0, 1) := by decide +kernel
theorem dX3_settle_43 : decode cX3_settle 43 = .ok (.getfield 15, 3) := by decide +kernel
theorem dX3_settle_46 : decode cX3_settle 46 = .ok (.iload_n 3, 1) := by decide +kernel
theorem dX3_settle_47 : decode cX3_settle 47 = .ok (.iaload, 1) := by decide +kernel
theorem dX3_settle_48 : decode cX3_settle 48 = .ok (.imul, 1) := by decide +kernel
theorem dX3_settle_49 : decode cX3_settle 49 = .ok (.iadd, 1) := by decide +kernel
theorem dX3_settle_50 : decode cX3_settle 50 = .ok (.putfield 78, 3) := by decide +kernel
theorem dX3_settle_53 : decode cX3_settle 53 = .ok (.aload_n 0, 1) := by decide +kernel
theorem dX3_settle_54 : decode cX3_settle 54 = .ok (.getfield 24, 3) := by decide +kernel
theorem dX3_settle_57 : decode cX3_settle 57 = .ok (.iload_n 3, 1) := by decide +kernel
theorem dX3_settle_58 : decode cX3_settle 58 = .ok (.iload_n 2, 1) := by decide +kernel
theorem dX3_settle_59 : decode cX3_settle 59 = .ok (.iastore, 1) := by decide +kernel
theorem dX3_settle_60 : decode cX3_settle 60 = .ok (.iload_n 2, 1) := by decide +kernel
theorem dX3_settle_61 : decode cX3_settle 61 = .ok (.aload_n 0, 1) := by decide +kernel
theorem dX3_settle_62 : decode cX3_settle 62 = .ok (.getfield 9, 3) := by decide +kernel
theorem dX3_settle_65 : decode cX3_settle 65 = .ok (.iload_n 3, 1) := by decide +kernel
theorem dX3_settle_66 : decode cX3_settle 66 = .ok (.iaload, 1) := by decide +kernel
theorem dX3_settle_67 : decode cX3_settle 67 = .ok (.iadd, 1) := by decide +kernel
theorem dX3_settle_68 : decode cX3_settle 68 = .ok (.istore_n 2, 1) := by decide +kernel
theorem dX3_settle_69 : decode cX3_settle 69 = .ok (.iinc 3 1, 3) := by decide +kernel
theorem dX3_settle_72 : decode cX3_settle 72 = .ok (.goto (-63), 3) := by decide +kernel
theorem dX3_settle_75 : decode cX3_settle 75 = .ok (.iconst 0, 1) := by decide +kernel
theorem dX3_settle_76 : decode cX3_settle 76 = .ok (.istore_n 3, 1) := by decide +kernel
theorem dX3_settle_77 : decode cX3_settle 77 = .ok (.iload_n 3, 1) := by decide +kernel
theorem dX3_settle_78 : decode cX3_settle 78 = .ok (.aload_n 0, 1) := by decide +kernel
theorem dX3_settle_79 : decode cX3_settle 79 = .ok (.getfield 54, 3) := by decide +kernel
theorem dX3_settle_82 : decode cX3_settle 82 = .ok (.if_icmp .ge 41, 3) := by decide +kernel
theorem dX3_settle_123 : decode cX3_settle 123 = .ok (.return_, 1) := by decide +kernel
theorem dX3_buildBucket_0 : decode cX3_buildBucket 0 = .ok (.aload_n 0, 1) := by decide +kernel
theorem dX3_buildBucket_1 : decode cX3_buildBucket 1 = .ok (.iload_n 3, 1) := by decide +kernel
theorem dX3_buildBucket_2 : decode cX3_buildBucket 2 = .ok (.invokevirtual 50, 3) := by decide +kernel
theorem dX3_buildBucket_5 : decode cX3_buildBucket 5 = .ok (.istore 5, 2) := by decide +kernel
theorem dX3_buildBucket_7 : decode cX3_buildBucket 7 = .ok (.iload 5, 2) := by decide +kernel
theorem dX3_buildBucket_9 : decode cX3_buildBucket 9 = .ok (.ifCond .eq 12, 3) := by decide +kernel
theorem dX3_buildBucket_21 : decode cX3_buildBucket 21 = .ok (.return_, 1) := by decide +kernel
theorem dX9_init_0 : decode cX9_init 0 = .ok (.aload_n 0, 1) := by decide +kernel
theorem dX9_init_1 : decode cX9_init 1 = .ok (.invokespecial 3, 3) := by decide +kernel
theorem dX9_init_4 : decode cX9_init 4 = .ok (.aload_n 0, 1) := by decide +kernel
theorem dX9_init_5 : decode cX9_init 5 = .ok (.new 9, 3) := by decide +kernel
theorem dX9_init_8 : decode cX9_init 8 = .ok (.dup, 1) := by decide +kernel
theorem dX9_init_9 : decode cX9_init 9 = .ok (.invokespecial 11, 3) := by decide +kernel
theorem dX9_init_12 : decode cX9_init 12 = .ok (.putfield 12, 3) := by decide +kernel
theorem dX9_init_15 : decode cX9_init 15 = .ok (.aload_n 0, 1) := by decide +kernel
theorem dX9_init_16 : decode cX9_init 16 = .ok (.new 18, 3) := by decide +kernel
theorem dX9_init_19 : decode cX9_init 19 = .ok (.dup, 1) := by decide +kernel
theorem dX9_init_20 : decode cX9_init 20 = .ok (.invokespecial 20, 3) := by decide +kernel
theorem dX9_init_23 : decode cX9_init 23 = .ok (.putfield 21, 3) := by decide +kernel
theorem dX9_init_26 : decode cX9_init 26 = .ok (.aload_n 0, 1) := by decide +kernel
theorem dX9_init_27 : decode cX9_init 27 = .ok (.new 25, 3) := by decide +kernel
theorem dX9_init_30 : decode cX9_init 30 = .ok (.dup, 1) := by decide +kernel
theorem dX9_init_31 : decode cX9_init 31 = .ok (.invokespecial 27, 3) := by decide +kernel
theorem dX9_init_34 : decode cX9_init 34 = .ok (.putfield 28, 3) := by decide +kernel
theorem dX9_init_37 : decode cX9_init 37 = .ok (.return_, 1) := by decide +kernel
theorem dX9_begin_0 : decode cX9_begin 0 = .ok (.aload_n 0, 1) := by decide +kernel
theorem dX9_begin_1 : decode cX9_begin 1 = .ok (.iload_n 1, 1) := by decide +kernel
theorem dX9_begin_2 : decode cX9_begin 2 = .ok (.putfield 32, 3) := by decide +kernel
theorem dX9_begin_5 : decode cX9_begin 5 = .ok (.aload_n 0, 1) := by decide +kernel
theorem dX9_begin_6 : decode cX9_begin 6 = .ok (.iload_n 2, 1) := by decide +kernel
theorem dX9_begin_7 : decode cX9_begin 7 = .ok (.putfield 36, 3) := by decide +kernel
theorem dX9_begin_10 : decode cX9_begin 10 = .ok (.aload_n 0, 1) := by decide +kernel
theorem dX9_begin_11 : decode cX9_begin 11 = .ok (.iload_n 3, 1) := by decide +kernel
theorem dX9_begin_12 : decode cX9_begin 12 = .ok (.putfield 39, 3) := by decide +kernel
theorem dX9_begin_15 : decode cX9_begin 15 = .ok (.aload_n 0, 1) := by decide +kernel
theorem dX9_begin_16 : decode cX9_begin 16 = .ok (.iconst 0, 1) := by decide +kernel
theorem dX9_begin_17 : decode cX9_begin 17 = .ok (.putfield 42, 3) := by decide +kernel
theorem dX9_begin_20 : decode cX9_begin 20 = .ok (.aload_n 0, 1) := by decide +kernel
theorem dX9_begin_21 : decode cX9_begin 21 = .ok (.iconst 0, 1) := by decide +kernel
theorem dX9_begin_22 : decode cX9_begin 22 = .ok (.putfield 45, 3) := by decide +kernel
theorem dX9_begin_25 : decode cX9_begin 25 = .ok (.aload_n 0, 1) := by decide +kernel
theorem dX9_begin_26 : decode cX9_begin 26 = .ok (.iconst 0, 1) := by decide +kernel
theorem dX9_begin_27 : decode cX9_begin 27 = .ok (.putfield 48, 3) := by decide +kernel
theorem dX9_begin_30 : decode cX9_begin 30 = .ok (.aload_n 0, 1) := by decide +kernel
theorem dX9_begin_31 : decode cX9_begin 31 = .ok (.iconst 0, 1) := by decide +kernel
theorem dX9_begin_32 : decode cX9_begin 32 = .ok (.putfield 51, 3) := by decide +kernel
theorem dX9_begin_35 : decode cX9_begin 35 = .ok (.aload_n 0, 1) := by decide +kernel
theorem dX9_begin_36 : decode cX9_begin 36 = .ok (.getfield 12, 3) := by decide +kernel
theorem dX9_begin_39 : decode cX9_begin 39 = .ok (.lload 4, 2) := by decide +kernel
theorem dX9_begin_41 : decode cX9_begin 41 = .ok (.invokevirtual 54, 3) := by decide +kernel
theorem dX9_begin_44 : decode cX9_begin 44 = .ok (.aload_n 0, 1) := by decide +kernel
theorem dX9_begin_45 : decode cX9_begin 45 = .ok (.getfield 21, 3) := by decide +kernel
theorem dX9_begin_48 : decode cX9_begin 48 = .ok (.iconst 0, 1) := by decide +kernel
theorem dX9_begin_49 : decode cX9_begin 49 = .ok (.putfield 58, 3) := by decide +kernel
theorem dX9_begin_52 : decode cX9_begin 52 = .ok (.return_, 1) := by decide +kernel
theorem dX9_mostRooms_0 : decode cX9_mostRooms 0 = .ok (.aload_n 0, 1) := by decide +kernel
theorem dX9_mostRooms_1 : decode cX9_mostRooms 1 = .ok (.getfield 32, 3) := by decide +kernel
theorem dX9_mostRooms_4 : decode cX9_mostRooms 4 = .ok (.aload_n 0, 1) := by decide +kernel
theorem dX9_mostRooms_5 : decode cX9_mostRooms 5 = .ok (.getfield 61, 3) := by decide +kernel
theorem dX9_mostRooms_8 : decode cX9_mostRooms 8 = .ok (.imul, 1) := by decide +kernel
theorem dX9_mostRooms_9 : decode cX9_mostRooms 9 = .ok (.ireturn, 1) := by decide +kernel
theorem dX9_buildAll_0 : decode cX9_buildAll 0 = .ok (.aload_n 0, 1) := by decide +kernel
theorem dX9_buildAll_1 : decode cX9_buildAll 1 = .ok (.aload_n 0, 1) := by decide +kernel
theorem dX9_buildAll_2 : decode cX9_buildAll 2 = .ok (.getfield 21, 3) := by decide +kernel
theorem dX9_buildAll_5 : decode cX9_buildAll 5 = .ok (.getfield 58, 3) := by decide +kernel
theorem dX9_buildAll_8 : decode cX9_buildAll 8 = .ok (.aload_n 0, 1) := by decide +kernel
theorem dX9_buildAll_9 : decode cX9_buildAll 9 = .ok (.getfield 21, 3) := by decide +kernel
theorem dX9_buildAll_12 : decode cX9_buildAll 12 = .ok (.getfield 58, 3) := by decide +kernel
theorem dX9_buildAll_15 : decode cX9_buildAll 15 = .ok (.aload_n 0, 1) := by decide +kernel
theorem dX9_buildAll_16 : decode cX9_buildAll 16 = .ok (.getfield 39, 3) := by decide +kernel
theorem dX9_buildAll_19 : decode cX9_buildAll 19 = .ok (.imul, 1) := by decide +kernel
theorem dX9_buildAll_20 : decode cX9_buildAll 20 = .ok (.bipush 100, 2) := by decide +kernel
theorem dX9_buildAll_22 : decode cX9_buildAll 22 = .ok (.idiv, 1) := by decide +kernel
theorem dX9_buildAll_23 : decode cX9_buildAll 23 = .ok (.iadd, 1) := by decide +kernel
theorem dX9_buildAll_24 : decode cX9_buildAll 24 = .ok (.iconst 4, 1) := by decide +kernel
theorem dX9_buildAll_25 : decode cX9_buildAll 25 = .ok (.iadd, 1) := by decide +kernel
theorem dX9_buildAll_26 : decode cX9_buildAll 26 = .ok (.putfield 61, 3) := by decide +kernel
theorem dX9_buildAll_29 : decode cX9_buildAll 29 = .ok (.aload_n 0, 1) := by decide +kernel
theorem dX9_buildAll_30 : decode cX9_buildAll 30 = .ok (.aload_n 0, 1) := by decide +kernel
theorem dX9_buildAll_31 : decode cX9_buildAll 31 = .ok (.getfield 21, 3) := by decide +kernel
theorem dX9_buildAll_34 : decode cX9_buildAll 34 = .ok (.getfield 58, 3) := by decide +kernel
theorem dX9_buildAll_37 : decode cX9_buildAll 37 = .ok (.putfield 64, 3) := by decide +kernel
theorem dX9_buildAll_40 : decode cX9_buildAll 40 = .ok (.aload_n 0, 1) := by decide +kernel
theorem dX9_buildAll_41 : decode cX9_buildAll 41 = .ok (.dup, 1) := by decide +kernel
theorem dX9_buildAll_42 : decode cX9_buildAll 42 = .ok (.getfield 51, 3) := by decide +kernel
theorem dX9_buildAll_45 : decode cX9_buildAll 45 = .ok (.aload_n 0, 1) := by decide +kernel
theorem dX9_buildAll_46 : decode cX9_buildAll 46 = .ok (.getfield 21, 3) := by decide +kernel
theorem dX9_buildAll_49 : decode cX9_buildAll 49 = .ok (.getfield 58, 3) := by decide +kernel
theorem dX9_buildAll_52 : decode cX9_buildAll 52 = .ok (.iadd, 1) := by decide +kernel
theorem dX9_buildAll_53 : decode cX9_buildAll 53 = .ok (.putfield 51, 3) := by decide +kernel
theorem dX9_buildAll_56 : decode cX9_buildAll 56 = .ok (.iconst 1, 1) := by decide +kernel
theorem dX9_buildAll_57 : decode cX9_buildAll 57 = .ok (.aload_n 0, 1) := by decide +kernel
theorem dX9_buildAll_58 : decode cX9_buildAll 58 = .ok (.getfield 36, 3) := by decide +kernel
theorem dX9_buildAll_61 : decode cX9_buildAll 61 = .ok (.aload_n 0, 1) := by decide +kernel
theorem dX9_buildAll_62 : decode cX9_buildAll 62 = .ok (.getfield 61, 3) := by decide +kernel
theorem dX9_buildAll_65 : decode cX9_buildAll 65 = .ok (.imul, 1) := by decide +kernel
theorem dX9_buildAll_66 : decode cX9_buildAll 66 = .ok (.bipush 100, 2) := by decide +kernel
theorem dX9_buildAll_68 : decode cX9_buildAll 68 = .ok (.idiv, 1) := by decide +kernel
theorem dX9_buildAll_69 : decode cX9_buildAll 69 = .ok (.invokestatic 67, 3) := by decide +kernel
theorem dX9_buildAll_72 : decode cX9_buildAll 72 = .ok (.istore_n 1, 1) := by decide +kernel
theorem dX9_buildAll_73 : decode cX9_buildAll 73 = .ok (.iconst 1, 1) := by decide +kernel
theorem dX9_buildAll_74 : decode cX9_buildAll 74 = .ok (.istore_n 2, 1) := by decide +kernel
theorem dX9_buildAll_75 : decode cX9_buildAll 75 = .ok (.iload_n 2, 1) := by decide +kernel
theorem dX9_buildAll_76 : decode cX9_buildAll 76 = .ok (.sipush 400, 3) := by decide +kernel
theorem dX9_buildAll_79 : decode cX9_buildAll 79 = .ok (.if_icmp .gt 73, 3) := by decide +kernel
theorem dX9_buildAll_82 : decode cX9_buildAll 82 = .ok (.aload_n 0, 1) := by decide +kernel
theorem dX9_buildAll_83 : decode cX9_buildAll 83 = .ok (.getfield 12, 3) := by decide +kernel
theorem dX9_buildAll_86 : decode cX9_buildAll 86 = .ok (.invokevirtual 73, 3) := by decide +kernel
theorem dX9_buildAll_89 : decode cX9_buildAll 89 = .ok (.aload_n 0, 1) := by decide +kernel
theorem dX9_buildAll_90 : decode cX9_buildAll 90 = .ok (.getfield 28, 3) := by decide +kernel
theorem dX9_buildAll_93 : decode cX9_buildAll 93 = .ok (.aload_n 0, 1) := by decide +kernel
theorem dX9_buildAll_94 : decode cX9_buildAll 94 = .ok (.getfield 21, 3) := by decide +kernel
theorem dX9_buildAll_97 : decode cX9_buildAll 97 = .ok (.aload_n 0, 1) := by decide +kernel
theorem dX9_buildAll_98 : decode cX9_buildAll 98 = .ok (.getfield 12, 3) := by decide +kernel
theorem dX9_buildAll_101 : decode cX9_buildAll 101 = .ok (.getfield 76, 3) := by decide +kernel
theorem dX9_buildAll_104 : decode cX9_buildAll 104 = .ok (.aload_n 0, 1) := by decide +kernel
theorem dX9_buildAll_105 : decode cX9_buildAll 105 = .ok (.getfield 12, 3) := by decide +kernel
theorem dX9_buildAll_108 : decode cX9_buildAll 108 = .ok (.getfield 79, 3) := by decide +kernel
theorem dX9_buildAll_111 : decode cX9_buildAll 111 = .ok (.iload_n 1, 1) := by decide +kernel
theorem dX9_buildAll_112 : decode cX9_buildAll 112 = .ok (.invokevirtual 82, 3) := by decide +kernel
theorem dX9_buildAll_115 : decode cX9_buildAll 115 = .ok (.istore_n 3, 1) := by decide +kernel
theorem dX9_buildAll_116 : decode cX9_buildAll 116 = .ok (.iconst 4, 1) := by decide +kernel
theorem dX9_buildAll_117 : decode cX9_buildAll 117 = .ok (.iload_n 3, 1) := by decide +kernel
theorem dX9_buildAll_118 : decode cX9_buildAll 118 = .ok (.imul, 1) := by decide +kernel
theorem dX9_buildAll_119 : decode cX9_buildAll 119 = .ok (.aload_n 0, 1) := by decide +kernel
theorem dX9_buildAll_120 : decode cX9_buildAll 120 = .ok (.invokevirtual 86, 3) := by decide +kernel
theorem dX9_buildAll_123 : decode cX9_buildAll 123 = .ok (.if_icmp .gt 6, 3) := by decide +kernel
theorem dX9_buildAll_126 : decode cX9_buildAll 126 = .ok (.goto 26, 3) := by decide +kernel
theorem dX9_buildAll_152 : decode cX9_buildAll 152 = .ok (.aload_n 0, 1) := by decide +kernel
theorem dX9_buildAll_153 : decode cX9_buildAll 153 = .ok (.getfield 28, 3) := by decide +kernel
theorem dX9_buildAll_156 : decode cX9_buildAll 156 = .ok (.iconst 2, 1) := by decide +kernel
theorem dX9_buildAll_157 : decode cX9_buildAll 157 = .ok (.invokevirtual 93, 3) := by decide +kernel
theorem dX9_buildAll_160 : decode cX9_buildAll 160 = .ok (.iconst 0, 1) := by decide +kernel
theorem dX9_buildAll_161 : decode cX9_buildAll 161 = .ok (.istore_n 2, 1) := by decide +kernel
theorem dX9_buildAll_162 : decode cX9_buildAll 162 = .ok (.iload_n 2, 1) := by decide +kernel
theorem dX9_buildAll_163 : decode cX9_buildAll 163 = .ok (.aload_n 0, 1) := by decide +kernel
theorem dX9_buildAll_164 : decode cX9_buildAll 164 = .ok (.getfield 28, 3) := by decide +kernel
theorem dX9_buildAll_167 : decode cX9_buildAll 167 = .ok (.getfield 97, 3) := by decide +kernel
theorem dX9_buildAll_170 : decode cX9_buildAll 170 = .ok (.if_icmp .ge 34, 3) := by decide +kernel
theorem dX9_buildAll_173 : decode cX9_buildAll 173 = .ok (.aload_n 0, 1) := by decide +kernel
theorem dX9_buildAll_174 : decode cX9_buildAll 174 = .ok (.getfield 28, 3) := by decide +kernel
theorem dX9_buildAll_177 : decode cX9_buildAll 177 = .ok (.aload_n 0, 1) := by decide +kernel
theorem dX9_buildAll_178 : decode cX9_buildAll 178 = .ok (.getfield 21, 3) := by decide +kernel
theorem dX9_buildAll_181 : decode cX9_buildAll 181 = .ok (.aload_n 0, 1) := by decide +kernel
theorem dX9_buildAll_182 : decode cX9_buildAll 182 = .ok (.getfield 12, 3) := by decide +kernel
theorem dX9_buildAll_185 : decode cX9_buildAll 185 = .ok (.iload_n 2, 1) := by decide +kernel
theorem dX9_buildAll_186 : decode cX9_buildAll 186 = .ok (.aload_n 0, 1) := by decide +kernel
theorem dX9_buildAll_187 : decode cX9_buildAll 187 = .ok (.getfield 28, 3) := by decide +kernel
theorem dX9_buildAll_190 : decode cX9_buildAll 190 = .ok (.getfield 100, 3) := by decide +kernel
theorem dX9_buildAll_193 : decode cX9_buildAll 193 = .ok (.iload_n 2, 1) := by decide +kernel
theorem dX9_buildAll_194 : decode cX9_buildAll 194 = .ok (.iaload, 1) := by decide +kernel
theorem dX9_buildAll_195 : decode cX9_buildAll 195 = .ok (.invokevirtual 104, 3) := by decide +kernel
theorem dX9_buildAll_198 : decode cX9_buildAll 198 = .ok (.iinc 2 1, 3) := by decide +kernel
theorem dX9_buildAll_201 : decode cX9_buildAll 201 = .ok (.goto (-39), 3) := by decide +kernel
theorem dX9_buildAll_204 : decode cX9_buildAll 204 = .ok (.return_, 1) := by decide +kernel
theorem dX10_make_0 : decode cX10_make 0 = .ok (.iload_n 1, 1) := by decide +kernel
theorem dX10_make_1 : decode cX10_make 1 = .ok (.invokestatic 55, 3) := by decide +kernel
theorem dX10_make_4 : decode cX10_make 4 = .ok (.ifCond .eq 13, 3) := by decide +kernel
theorem dX10_make_7 : decode cX10_make 7 = .ok (.iload_n 2, 1) := by decide +kernel
theorem dX10_make_8 : decode cX10_make 8 = .ok (.iload_n 3, 1) := by decide +kernel
theorem dX10_make_9 : decode cX10_make 9 = .ok (.iload 4, 2) := by decide +kernel
theorem dX10_make_11 : decode cX10_make 11 = .ok (.invokestatic 59, 3) := by decide +kernel
theorem dX10_make_14 : decode cX10_make 14 = .ok (.ifCond .ne 6, 3) := by decide +kernel
theorem dX10_make_17 : decode cX10_make 17 = .ok (.bipush (-2), 2) := by decide +kernel
theorem dX10_make_19 : decode cX10_make 19 = .ok (.ireturn, 1) := by decide +kernel
theorem dX10_make_20 : decode cX10_make 20 = .ok (.aload_n 0, 1) := by decide +kernel
theorem dX10_make_21 : decode cX10_make 21 = .ok (.iload_n 1, 1) := by decide +kernel
theorem dX10_make_22 : decode cX10_make 22 = .ok (.invokevirtual 63, 3) := by decide +kernel
theorem dX10_make_25 : decode cX10_make 25 = .ok (.astore 7, 2) := by decide +kernel
theorem dX10_make_27 : decode cX10_make 27 = .ok (.aload 7, 2) := by decide +kernel
theorem dX10_make_29 : decode cX10_make 29 = .ok (.iload_n 2, 1) := by decide +kernel
theorem dX10_make_30 : decode cX10_make 30 = .ok (.iload_n 3, 1) := by decide +kernel
theorem dX10_make_31 : decode cX10_make 31 = .ok (.iload 4, 2) := by decide +kernel
theorem dX10_make_33 : decode cX10_make 33 = .ok (.lload 5, 2) := by decide +kernel
theorem dX10_make_35 : decode cX10_make 35 = .ok (.invokevirtual 67, 3) := by decide +kernel
theorem dX10_make_38 : decode cX10_make 38 = .ok (.aload 7, 2) := by decide +kernel
theorem dX10_make_40 : decode cX10_make 40 = .ok (.invokevirtual 71, 3) := by decide +kernel
theorem dX10_make_43 : decode cX10_make 43 = .ok (.iconst 1, 1) := by decide +kernel
theorem dX10_make_44 : decode cX10_make 44 = .ok (.ireturn, 1) := by decide +kernel
theorem dX10_slot_0 : decode cX10_slot 0 = .ok (.aload_n 0, 1) := by decide +kernel
theorem dX10_slot_1 : decode cX10_slot 1 = .ok (.getfield 11, 3) := by decide +kernel
theorem dX10_slot_4 : decode cX10_slot 4 = .ok (.iload_n 1, 1) := by decide +kernel
theorem dX10_slot_5 : decode cX10_slot 5 = .ok (.aaload, 1) := by decide +kernel
theorem dX10_slot_6 : decode cX10_slot 6 = .ok (.astore_n 2, 1) := by decide +kernel
theorem dX10_slot_7 : decode cX10_slot 7 = .ok (.aload_n 2, 1) := by decide +kernel
theorem dX10_slot_8 : decode cX10_slot 8 = .ok (.ifnonnull 18, 3) := by decide +kernel
theorem dX10_slot_11 : decode cX10_slot 11 = .ok (.new 9, 3) := by decide +kernel
theorem dX10_slot_14 : decode cX10_slot 14 = .ok (.dup, 1) := by decide +kernel
theorem dX10_slot_15 : decode cX10_slot 15 = .ok (.invokespecial 351, 3) := by decide +kernel
theorem dX10_slot_18 : decode cX10_slot 18 = .ok (.astore_n 2, 1) := by decide +kernel
theorem dX10_slot_19 : decode cX10_slot 19 = .ok (.aload_n 0, 1) := by decide +kernel
theorem dX10_slot_20 : decode cX10_slot 20 = .ok (.getfield 11, 3) := by decide +kernel
