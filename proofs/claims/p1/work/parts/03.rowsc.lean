theorem dX0_init_0 : decode cX0_init 0 = .ok (.aload_n 0, 1) := by decide +kernel
theorem dX0_init_1 : decode cX0_init 1 = .ok (.invokespecial 3, 3) := by decide +kernel
theorem dX0_init_4 : decode cX0_init 4 = .ok (.return_, 1) := by decide +kernel
theorem dX0_begin_0 : decode cX0_begin 0 = .ok (.aload_n 0, 1) := by decide +kernel
theorem dX0_begin_1 : decode cX0_begin 1 = .ok (.lload_n 1, 1) := by decide +kernel
theorem dX0_begin_2 : decode cX0_begin 2 = .ok (.putfield 9, 3) := by decide +kernel
theorem dX0_begin_5 : decode cX0_begin 5 = .ok (.aload_n 0, 1) := by decide +kernel
theorem dX0_begin_6 : decode cX0_begin 6 = .ok (.iconst 0, 1) := by decide +kernel
theorem dX0_begin_7 : decode cX0_begin 7 = .ok (.putfield 15, 3) := by decide +kernel
theorem dX0_begin_10 : decode cX0_begin 10 = .ok (.return_, 1) := by decide +kernel
theorem dX0_pair_0 : decode cX0_pair 0 = .ok (.aload_n 0, 1) := by decide +kernel
theorem dX0_pair_1 : decode cX0_pair 1 = .ok (.aload_n 0, 1) := by decide +kernel
theorem dX0_pair_2 : decode cX0_pair 2 = .ok (.getfield 9, 3) := by decide +kernel
theorem dX0_pair_5 : decode cX0_pair 5 = .ok (.ldc2_w 19, 3) := by decide +kernel
theorem dX0_pair_8 : decode cX0_pair 8 = .ok (.lmul, 1) := by decide +kernel
theorem dX0_pair_9 : decode cX0_pair 9 = .ok (.ldc2_w 21, 3) := by decide +kernel
theorem dX0_pair_12 : decode cX0_pair 12 = .ok (.ladd, 1) := by decide +kernel
theorem dX0_pair_13 : decode cX0_pair 13 = .ok (.putfield 9, 3) := by decide +kernel
theorem dX0_pair_16 : decode cX0_pair 16 = .ok (.aload_n 0, 1) := by decide +kernel
theorem dX0_pair_17 : decode cX0_pair 17 = .ok (.iconst 1, 1) := by decide +kernel
theorem dX0_pair_18 : decode cX0_pair 18 = .ok (.aload_n 0, 1) := by decide +kernel
theorem dX0_pair_19 : decode cX0_pair 19 = .ok (.getfield 9, 3) := by decide +kernel
theorem dX0_pair_22 : decode cX0_pair 22 = .ok (.bipush 33, 2) := by decide +kernel
theorem dX0_pair_24 : decode cX0_pair 24 = .ok (.lushr, 1) := by decide +kernel
theorem dX0_pair_25 : decode cX0_pair 25 = .ok (.ldc2_w 23, 3) := by decide +kernel
theorem dX0_pair_28 : decode cX0_pair 28 = .ok (.lrem, 1) := by decide +kernel
theorem dX0_pair_29 : decode cX0_pair 29 = .ok (.l2i, 1) := by decide +kernel
theorem dX0_pair_30 : decode cX0_pair 30 = .ok (.iadd, 1) := by decide +kernel
theorem dX0_pair_31 : decode cX0_pair 31 = .ok (.putfield 25, 3) := by decide +kernel
theorem dX0_pair_34 : decode cX0_pair 34 = .ok (.aload_n 0, 1) := by decide +kernel
theorem dX0_pair_35 : decode cX0_pair 35 = .ok (.aload_n 0, 1) := by decide +kernel
theorem dX0_pair_36 : decode cX0_pair 36 = .ok (.getfield 9, 3) := by decide +kernel
theorem dX0_pair_39 : decode cX0_pair 39 = .ok (.ldc2_w 19, 3) := by decide +kernel
theorem dX0_pair_42 : decode cX0_pair 42 = .ok (.lmul, 1) := by decide +kernel
theorem dX0_pair_43 : decode cX0_pair 43 = .ok (.ldc2_w 21, 3) := by decide +kernel
theorem dX0_pair_46 : decode cX0_pair 46 = .ok (.ladd, 1) := by decide +kernel
theorem dX0_pair_47 : decode cX0_pair 47 = .ok (.putfield 9, 3) := by decide +kernel
theorem dX0_pair_50 : decode cX0_pair 50 = .ok (.aload_n 0, 1) := by decide +kernel
theorem dX0_pair_51 : decode cX0_pair 51 = .ok (.aload_n 0, 1) := by decide +kernel
theorem dX0_pair_52 : decode cX0_pair 52 = .ok (.getfield 9, 3) := by decide +kernel
theorem dX0_pair_55 : decode cX0_pair 55 = .ok (.bipush 33, 2) := by decide +kernel
theorem dX0_pair_57 : decode cX0_pair 57 = .ok (.lushr, 1) := by decide +kernel
theorem dX0_pair_58 : decode cX0_pair 58 = .ok (.ldc2_w 28, 3) := by decide +kernel
theorem dX0_pair_61 : decode cX0_pair 61 = .ok (.lrem, 1) := by decide +kernel
theorem dX0_pair_62 : decode cX0_pair 62 = .ok (.l2i, 1) := by decide +kernel
theorem dX0_pair_63 : decode cX0_pair 63 = .ok (.putfield 30, 3) := by decide +kernel
theorem dX0_pair_66 : decode cX0_pair 66 = .ok (.aload_n 0, 1) := by decide +kernel
theorem dX0_pair_67 : decode cX0_pair 67 = .ok (.dup, 1) := by decide +kernel
theorem dX0_pair_68 : decode cX0_pair 68 = .ok (.getfield 15, 3) := by decide +kernel
theorem dX0_pair_71 : decode cX0_pair 71 = .ok (.iconst 1, 1) := by decide +kernel
theorem dX0_pair_72 : decode cX0_pair 72 = .ok (.iadd, 1) := by decide +kernel
theorem dX0_pair_73 : decode cX0_pair 73 = .ok (.putfield 15, 3) := by decide +kernel
theorem dX0_pair_76 : decode cX0_pair 76 = .ok (.return_, 1) := by decide +kernel
theorem dX1_init_0 : decode cX1_init 0 = .ok (.aload_n 0, 1) := by decide +kernel
theorem dX1_init_1 : decode cX1_init 1 = .ok (.invokespecial 3, 3) := by decide +kernel
theorem dX1_init_4 : decode cX1_init 4 = .ok (.aload_n 0, 1) := by decide +kernel
theorem dX1_init_5 : decode cX1_init 5 = .ok (.sipush 1294, 3) := by decide +kernel
theorem dX1_init_8 : decode cX1_init 8 = .ok (.newarray .int, 2) := by decide +kernel
theorem dX1_init_10 : decode cX1_init 10 = .ok (.putfield 9, 3) := by decide +kernel
theorem dX1_init_13 : decode cX1_init 13 = .ok (.return_, 1) := by decide +kernel
theorem dX2_init_0 : decode cX2_init 0 = .ok (.aload_n 0, 1) := by decide +kernel
theorem dX2_init_1 : decode cX2_init 1 = .ok (.invokespecial 3, 3) := by decide +kernel
theorem dX2_init_4 : decode cX2_init 4 = .ok (.aload_n 0, 1) := by decide +kernel
theorem dX2_init_5 : decode cX2_init 5 = .ok (.sipush 160, 3) := by decide +kernel
theorem dX2_init_8 : decode cX2_init 8 = .ok (.newarray .int, 2) := by decide +kernel
theorem dX2_init_10 : decode cX2_init 10 = .ok (.putfield 9, 3) := by decide +kernel
theorem dX2_init_13 : decode cX2_init 13 = .ok (.aload_n 0, 1) := by decide +kernel
theorem dX2_init_14 : decode cX2_init 14 = .ok (.sipush 160, 3) := by decide +kernel
theorem dX2_init_17 : decode cX2_init 17 = .ok (.newarray .int, 2) := by decide +kernel
theorem dX2_init_19 : decode cX2_init 19 = .ok (.putfield 15, 3) := by decide +kernel
theorem dX2_init_22 : decode cX2_init 22 = .ok (.return_, 1) := by decide +kernel
theorem dX3_init_0 : decode cX3_init 0 = .ok (.aload_n 0, 1) := by decide +kernel
theorem dX3_init_1 : decode cX3_init 1 = .ok (.invokespecial 3, 3) := by decide +kernel
theorem dX3_init_4 : decode cX3_init 4 = .ok (.aload_n 0, 1) := by decide +kernel
theorem dX3_init_5 : decode cX3_init 5 = .ok (.sipush 2048, 3) := by decide +kernel
theorem dX3_init_8 : decode cX3_init 8 = .ok (.newarray .int, 2) := by decide +kernel
theorem dX3_init_10 : decode cX3_init 10 = .ok (.putfield 9, 3) := by decide +kernel
theorem dX3_init_13 : decode cX3_init 13 = .ok (.aload_n 0, 1) := by decide +kernel
theorem dX3_init_14 : decode cX3_init 14 = .ok (.sipush 2048, 3) := by decide +kernel
theorem dX3_init_17 : decode cX3_init 17 = .ok (.newarray .int, 2) := by decide +kernel
theorem dX3_init_19 : decode cX3_init 19 = .ok (.putfield 15, 3) := by decide +kernel
theorem dX3_init_22 : decode cX3_init 22 = .ok (.aload_n 0, 1) := by decide +kernel
theorem dX3_init_23 : decode cX3_init 23 = .ok (.sipush 2048, 3) := by decide +kernel
theorem dX3_init_26 : decode cX3_init 26 = .ok (.newarray .int, 2) := by decide +kernel
theorem dX3_init_28 : decode cX3_init 28 = .ok (.putfield 18, 3) := by decide +kernel
theorem dX3_init_31 : decode cX3_init 31 = .ok (.aload_n 0, 1) := by decide +kernel
theorem dX3_init_32 : decode cX3_init 32 = .ok (.sipush 2048, 3) := by decide +kernel
theorem dX3_init_35 : decode cX3_init 35 = .ok (.newarray .int, 2) := by decide +kernel
theorem dX3_init_37 : decode cX3_init 37 = .ok (.putfield 21, 3) := by decide +kernel
theorem dX3_init_40 : decode cX3_init 40 = .ok (.aload_n 0, 1) := by decide +kernel
theorem dX3_init_41 : decode cX3_init 41 = .ok (.sipush 2048, 3) := by decide +kernel
theorem dX3_init_44 : decode cX3_init 44 = .ok (.newarray .int, 2) := by decide +kernel
theorem dX3_init_46 : decode cX3_init 46 = .ok (.putfield 24, 3) := by decide +kernel
theorem dX3_init_49 : decode cX3_init 49 = .ok (.aload_n 0, 1) := by decide +kernel
theorem dX3_init_50 : decode cX3_init 50 = .ok (.sipush 160, 3) := by decide +kernel
theorem dX3_init_53 : decode cX3_init 53 = .ok (.newarray .int, 2) := by decide +kernel
theorem dX3_init_55 : decode cX3_init 55 = .ok (.putfield 27, 3) := by decide +kernel
theorem dX3_init_58 : decode cX3_init 58 = .ok (.aload_n 0, 1) := by decide +kernel
theorem dX3_init_59 : decode cX3_init 59 = .ok (.sipush 160, 3) := by decide +kernel
theorem dX3_init_62 : decode cX3_init 62 = .ok (.newarray .int, 2) := by decide +kernel
theorem dX3_init_64 : decode cX3_init 64 = .ok (.putfield 30, 3) := by decide +kernel
theorem dX3_init_67 : decode cX3_init 67 = .ok (.aload_n 0, 1) := by decide +kernel
theorem dX3_init_68 : decode cX3_init 68 = .ok (.sipush 160, 3) := by decide +kernel
theorem dX3_init_71 : decode cX3_init 71 = .ok (.newarray .int, 2) := by decide +kernel
theorem dX3_init_73 : decode cX3_init 73 = .ok (.putfield 33, 3) := by decide +kernel
theorem dX3_init_76 : decode cX3_init 76 = .ok (.return_, 1) := by decide +kernel
theorem dX3_roomsOf_0 : decode cX3_roomsOf 0 = .ok (.iload_n 1, 1) := by decide +kernel
theorem dX3_roomsOf_1 : decode cX3_roomsOf 1 = .ok (.ifCond .lt 11, 3) := by decide +kernel
theorem dX3_roomsOf_4 : decode cX3_roomsOf 4 = .ok (.iload_n 1, 1) := by decide +kernel
theorem dX3_roomsOf_5 : decode cX3_roomsOf 5 = .ok (.aload_n 0, 1) := by decide +kernel
theorem dX3_roomsOf_6 : decode cX3_roomsOf 6 = .ok (.getfield 36, 3) := by decide +kernel
theorem dX3_roomsOf_9 : decode cX3_roomsOf 9 = .ok (.if_icmp .lt 7, 3) := by decide +kernel
theorem dX3_roomsOf_12 : decode cX3_roomsOf 12 = .ok (.iconst 0, 1) := by decide +kernel
theorem dX3_roomsOf_13 : decode cX3_roomsOf 13 = .ok (.goto 16, 3) := by decide +kernel
theorem dX3_roomsOf_16 : decode cX3_roomsOf 16 = .ok (.aload_n 0, 1) := by decide +kernel
theorem dX3_roomsOf_17 : decode cX3_roomsOf 17 = .ok (.getfield 15, 3) := by decide +kernel
theorem dX3_roomsOf_20 : decode cX3_roomsOf 20 = .ok (.iload_n 1, 1) := by decide +kernel
theorem dX3_roomsOf_21 : decode cX3_roomsOf 21 = .ok (.iaload, 1) := by decide +kernel
theorem dX3_roomsOf_22 : decode cX3_roomsOf 22 = .ok (.aload_n 0, 1) := by decide +kernel
theorem dX3_roomsOf_23 : decode cX3_roomsOf 23 = .ok (.getfield 15, 3) := by decide +kernel
theorem dX3_roomsOf_26 : decode cX3_roomsOf 26 = .ok (.iload_n 1, 1) := by decide +kernel
theorem dX3_roomsOf_27 : decode cX3_roomsOf 27 = .ok (.iaload, 1) := by decide +kernel
theorem dX3_roomsOf_28 : decode cX3_roomsOf 28 = .ok (.imul, 1) := by decide +kernel
theorem dX3_roomsOf_29 : decode cX3_roomsOf 29 = .ok (.ireturn, 1) := by decide +kernel
theorem dX3_sweep_0 : decode cX3_sweep 0 = .ok (.iconst 0, 1) := by decide +kernel
theorem dX3_sweep_1 : decode cX3_sweep 1 = .ok (.istore_n 1, 1) := by decide +kernel
theorem dX3_sweep_2 : decode cX3_sweep 2 = .ok (.iload_n 1, 1) := by decide +kernel
theorem dX3_sweep_3 : decode cX3_sweep 3 = .ok (.aload_n 0, 1) := by decide +kernel
theorem dX3_sweep_4 : decode cX3_sweep 4 = .ok (.getfield 54, 3) := by decide +kernel
theorem dX3_sweep_7 : decode cX3_sweep 7 = .ok (.if_icmp .ge 21, 3) := by decide +kernel
theorem dX3_sweep_10 : decode cX3_sweep 10 = .ok (.aload_n 0, 1) := by decide +kernel
theorem dX3_sweep_11 : decode cX3_sweep 11 = .ok (.getfield 9, 3) := by decide +kernel
theorem dX3_sweep_14 : decode cX3_sweep 14 = .ok (.aload_n 0, 1) := by decide +kernel
theorem dX3_sweep_15 : decode cX3_sweep 15 = .ok (.getfield 27, 3) := by decide +kernel
theorem dX3_sweep_18 : decode cX3_sweep 18 = .ok (.iload_n 1, 1) := by decide +kernel
theorem dX3_sweep_19 : decode cX3_sweep 19 = .ok (.iaload, 1) := by decide +kernel
theorem dX3_sweep_20 : decode cX3_sweep 20 = .ok (.iconst 0, 1) := by decide +kernel
theorem dX3_sweep_21 : decode cX3_sweep 21 = .ok (.iastore, 1) := by decide +kernel
theorem dX3_sweep_22 : decode cX3_sweep 22 = .ok (.iinc 1 1, 3) := by decide +kernel
theorem dX3_sweep_25 : decode cX3_sweep 25 = .ok (.goto (-23), 3) := by decide +kernel
theorem dX3_sweep_28 : decode cX3_sweep 28 = .ok (.return_, 1) := by decide +kernel
set_option maxRecDepth 20000 in
theorem ggX3_deal_X3_sweep : GoodIn wsX3_deal wsX3_sweep := goodIn_r _ [20, 12, 15, 14, 25, 26, 27, 28, 29, 30, 31, 32, 33, 34, 35, 36, 37] (by decide +kernel) (by decide +kernel)
set_option maxRecDepth 20000 in
theorem gX3_deal_X3_sweep : GoodIn wsX3_deal (wsV RX3 60 RX3 yX3_sweep wsX3_sweep) := goodIn_app (goodIn_of _ (by decide +kernel)) ggX3_deal_X3_sweep
set_option maxRecDepth 20000 in
theorem ggX3_deal_X10_spot : GoodIn wsX3_deal wsX10_spot := goodIn_r _ [23, 24] (by decide +kernel) (by decide +kernel)
set_option maxRecDepth 20000 in
theorem gX3_deal_X10_spot_n46 : GoodIn wsX3_deal (wsX10_spot) := ggX3_deal_X10_spot
theorem dX3_deal_0 : decode cX3_deal 0 = .ok (.aload_n 0, 1) := by decide +kernel
theorem dX3_deal_1 : decode cX3_deal 1 = .ok (.invokevirtual 60, 3) := by decide +kernel
theorem dX3_deal_4 : decode cX3_deal 4 = .ok (.aload_n 0, 1) := by decide +kernel
theorem dX3_deal_5 : decode cX3_deal 5 = .ok (.iconst 1, 1) := by decide +kernel
theorem dX3_deal_6 : decode cX3_deal 6 = .ok (.sipush 2048, 3) := by decide +kernel
theorem dX3_deal_9 : decode cX3_deal 9 = .ok (.iload 4, 2) := by decide +kernel
theorem dX3_deal_11 : decode cX3_deal 11 = .ok (.invokestatic 63, 3) := by decide +kernel
theorem dX3_deal_14 : decode cX3_deal 14 = .ok (.invokestatic 69, 3) := by decide +kernel
theorem dX3_deal_17 : decode cX3_deal 17 = .ok (.putfield 36, 3) := by decide +kernel
theorem dX3_deal_20 : decode cX3_deal 20 = .ok (.aload_n 0, 1) := by decide +kernel
theorem dX3_deal_21 : decode cX3_deal 21 = .ok (.iload_n 2, 1) := by decide +kernel
theorem dX3_deal_22 : decode cX3_deal 22 = .ok (.putfield 40, 3) := by decide +kernel
theorem dX3_deal_25 : decode cX3_deal 25 = .ok (.aload_n 0, 1) := by decide +kernel
theorem dX3_deal_26 : decode cX3_deal 26 = .ok (.iload_n 3, 1) := by decide +kernel
theorem dX3_deal_27 : decode cX3_deal 27 = .ok (.putfield 43, 3) := by decide +kernel
theorem dX3_deal_30 : decode cX3_deal 30 = .ok (.aload_n 0, 1) := by decide +kernel
theorem dX3_deal_31 : decode cX3_deal 31 = .ok (.aload_n 1, 1) := by decide +kernel
theorem dX3_deal_32 : decode cX3_deal 32 = .ok (.getfield 72, 3) := by decide +kernel
theorem dX3_deal_35 : decode cX3_deal 35 = .ok (.putfield 54, 3) := by decide +kernel
theorem dX3_deal_38 : decode cX3_deal 38 = .ok (.iconst 0, 1) := by decide +kernel
theorem dX3_deal_39 : decode cX3_deal 39 = .ok (.istore 5, 2) := by decide +kernel
theorem dX3_deal_41 : decode cX3_deal 41 = .ok (.iconst 0, 1) := by decide +kernel
theorem dX3_deal_42 : decode cX3_deal 42 = .ok (.istore 6, 2) := by decide +kernel
theorem dX3_deal_44 : decode cX3_deal 44 = .ok (.iload 6, 2) := by decide +kernel
theorem dX3_deal_46 : decode cX3_deal 46 = .ok (.aload_n 0, 1) := by decide +kernel
theorem dX3_deal_47 : decode cX3_deal 47 = .ok (.getfield 54, 3) := by decide +kernel
theorem dX3_deal_50 : decode cX3_deal 50 = .ok (.if_icmp .ge 69, 3) := by decide +kernel
theorem dX3_deal_53 : decode cX3_deal 53 = .ok (.aload_n 0, 1) := by decide +kernel
theorem dX3_deal_54 : decode cX3_deal 54 = .ok (.getfield 40, 3) := by decide +kernel
theorem dX3_deal_57 : decode cX3_deal 57 = .ok (.aload_n 0, 1) := by decide +kernel
theorem dX3_deal_58 : decode cX3_deal 58 = .ok (.getfield 43, 3) := by decide +kernel
theorem dX3_deal_61 : decode cX3_deal 61 = .ok (.aload_n 1, 1) := by decide +kernel
theorem dX3_deal_62 : decode cX3_deal 62 = .ok (.getfield 75, 3) := by decide +kernel
theorem dX3_deal_65 : decode cX3_deal 65 = .ok (.iload 6, 2) := by decide +kernel
theorem dX3_deal_67 : decode cX3_deal 67 = .ok (.iaload, 1) := by decide +kernel
theorem dX3_deal_68 : decode cX3_deal 68 = .ok (.aload_n 0, 1) := by decide +kernel
theorem dX3_deal_69 : decode cX3_deal 69 = .ok (.getfield 36, 3) := by decide +kernel
theorem dX3_deal_72 : decode cX3_deal 72 = .ok (.invokestatic 46, 3) := by decide +kernel
theorem dX3_deal_75 : decode cX3_deal 75 = .ok (.istore 7, 2) := by decide +kernel
theorem dX3_deal_77 : decode cX3_deal 77 = .ok (.aload_n 0, 1) := by decide +kernel
theorem dX3_deal_78 : decode cX3_deal 78 = .ok (.getfield 27, 3) := by decide +kernel
theorem dX3_deal_81 : decode cX3_deal 81 = .ok (.iload 6, 2) := by decide +kernel
theorem dX3_deal_83 : decode cX3_deal 83 = .ok (.iload 7, 2) := by decide +kernel
theorem dX3_deal_85 : decode cX3_deal 85 = .ok (.iastore, 1) := by decide +kernel
theorem dX3_deal_86 : decode cX3_deal 86 = .ok (.iload 5, 2) := by decide +kernel
theorem dX3_deal_88 : decode cX3_deal 88 = .ok (.iconst 2, 1) := by decide +kernel
theorem dX3_deal_89 : decode cX3_deal 89 = .ok (.aload_n 0, 1) := by decide +kernel
theorem dX3_deal_90 : decode cX3_deal 90 = .ok (.getfield 9, 3) := by decide +kernel
theorem dX3_deal_93 : decode cX3_deal 93 = .ok (.iload 7, 2) := by decide +kernel
theorem dX3_deal_95 : decode cX3_deal 95 = .ok (.iaload, 1) := by decide +kernel
theorem dX3_deal_96 : decode cX3_deal 96 = .ok (.imul, 1) := by decide +kernel
theorem dX3_deal_97 : decode cX3_deal 97 = .ok (.iconst 1, 1) := by decide +kernel
theorem dX3_deal_98 : decode cX3_deal 98 = .ok (.iadd, 1) := by decide +kernel
theorem dX3_deal_99 : decode cX3_deal 99 = .ok (.iadd, 1) := by decide +kernel
theorem dX3_deal_100 : decode cX3_deal 100 = .ok (.istore 5, 2) := by decide +kernel
theorem dX3_deal_102 : decode cX3_deal 102 = .ok (.aload_n 0, 1) := by decide +kernel
theorem dX3_deal_103 : decode cX3_deal 103 = .ok (.getfield 9, 3) := by decide +kernel
theorem dX3_deal_106 : decode cX3_deal 106 = .ok (.iload 7, 2) := by decide +kernel
theorem dX3_deal_108 : decode cX3_deal 108 = .ok (.dup2, 1) := by decide +kernel
theorem dX3_deal_109 : decode cX3_deal 109 = .ok (.iaload, 1) := by decide +kernel
theorem dX3_deal_110 : decode cX3_deal 110 = .ok (.iconst 1, 1) := by decide +kernel
theorem dX3_deal_111 : decode cX3_deal 111 = .ok (.iadd, 1) := by decide +kernel
theorem dX3_deal_112 : decode cX3_deal 112 = .ok (.iastore, 1) := by decide +kernel
theorem dX3_deal_113 : decode cX3_deal 113 = .ok (.iinc 6 1, 3) := by decide +kernel
theorem dX3_deal_116 : decode cX3_deal 116 = .ok (.goto (-72), 3) := by decide +kernel
theorem dX3_deal_119 : decode cX3_deal 119 = .ok (.iload 5, 2) := by decide +kernel
theorem dX3_deal_121 : decode cX3_deal 121 = .ok (.ireturn, 1) := by decide +kernel
theorem dX3_settle_0 : decode cX3_settle 0 = .ok (.aload_n 0, 1) := by decide +kernel
theorem dX3_settle_1 : decode cX3_settle 1 = .ok (.iconst 0, 1) := by decide +kernel
theorem dX3_settle_2 : decode cX3_settle 2 = .ok (.putfield 78, 3) := by decide +kernel
theorem dX3_settle_5 : decode cX3_settle 5 = .ok (.iconst 0, 1) := by decide +kernel
theorem dX3_settle_6 : decode cX3_settle 6 = .ok (.istore_n 2, 1) := by decide +kernel
theorem dX3_settle_7 : decode cX3_settle 7 = .ok (.iconst 0, 1) := by decide +kernel
theorem dX3_settle_8 : decode cX3_settle 8 = .ok (.istore_n 3, 1) := by decide +kernel
theorem dX3_settle_9 : decode cX3_settle 9 = .ok (.iload_n 3, 1) := by decide +kernel
theorem dX3_settle_10 : decode cX3_settle 10 = .ok (.aload_n 0, 1) := by decide +kernel
theorem dX3_settle_11 : decode cX3_settle 11 = .ok (.getfield 36, 3) := by decide +kernel
theorem dX3_settle_14 : decode cX3_settle 14 = .ok (.if_icmp .ge 61, 3) := by decide +kernel
theorem dX3_settle_17 : decode cX3_settle 17 = .ok (.aload_n 0, 1) := by decide +kernel
theorem dX3_settle_18 : decode cX3_settle 18 = .ok (.getfield 15, 3) := by decide +kernel
theorem dX3_settle_21 : decode cX3_settle 21 = .ok (.iload_n 3, 1) := by decide +kernel
theorem dX3_settle_22 : decode cX3_settle 22 = .ok (.iload_n 1, 1) := by decide +kernel
theorem dX3_settle_23 : decode cX3_settle 23 = .ok (.aload_n 0, 1) := by decide +kernel
theorem dX3_settle_24 : decode cX3_settle 24 = .ok (.getfield 9, 3) := by decide +kernel
theorem dX3_settle_27 : decode cX3_settle 27 = .ok (.iload_n 3, 1) := by decide +kernel
theorem dX3_settle_28 : decode cX3_settle 28 = .ok (.iaload, 1) := by decide +kernel
theorem dX3_settle_29 : decode cX3_settle 29 = .ok (.imul, 1) := by decide +kernel
theorem dX3_settle_30 : decode cX3_settle 30 = .ok (.iastore, 1) := by decide +kernel
theorem dX3_settle_31 : decode cX3_settle 31 = .ok (.aload_n 0, 1) := by decide +kernel
theorem dX3_settle_32 : decode cX3_settle 32 = .ok (.dup, 1) := by decide +kernel
theorem dX3_settle_33 : decode cX3_settle 33 = .ok (.getfield 78, 3) := by decide +kernel
theorem dX3_settle_36 : decode cX3_settle 36 = .ok (.aload_n 0, 1) := by decide +kernel
theorem dX3_settle_37 : decode cX3_settle 37 = .ok (.getfield 15, 3) := by decide +kernel
theorem dX3_settle_40 : decode cX3_settle 40 = .ok (.iload_n 3, 1) := by decide +kernel
theorem dX3_settle_41 : decode cX3_settle 41 = .ok (.iaload, 1) := by decide +kernel
theorem dX3_settle_42 : decode cX3_settle 42 = .ok (.aload_n 0, 1) := by decide +kernel
theorem dX3_settle_43 : decode cX3_settle 43 = .ok (.getfield 15, 3) := by decide +kernel
theorem dX3_settle_46 : decode cX3_settle 46 = .ok (.iload_n 3, 1) := by decide +kernel
theorem dX3_settle_47 : decode cX3_settle 47 = .ok (.iaload, 1) := by decide +kernel
theorem dX3_settle_48 : decode cX3_settle 48 = .ok (.imul, 1) := by decide +kernel
theorem dX3_settle_49 : decode cX3_settle 49 = .ok (.iadd, 1) := by decide +kernel
theorem dX3_settle_50 : decode cX3_settle 50 = .ok (.putfield 78, 3) := by decide +kernel
theorem dX3_settle_53 : decode cX3_settle 53 = .ok (.aload_n 0, 1) := by decide +kernel
theorem dX3_settle_54 : decode cX3_settle 54 = .ok (.getfield 24, 3) := by decide +kernel
theorem dX3_settle_57 : decode cX3_settle 57 = .ok (.iload_n 3, 1) := by decide +kernel
theorem dX3_settle_58 : decode cX3_settle 58 = .ok (.iload_n 2, 1) := by decide +kernel
theorem dX3_settle_59 : decode cX3_settle 59 = .ok (.iastore, 1) := by decide +kernel
theorem dX3_settle_60 : decode cX3_settle 60 = .ok (.iload_n 2, 1) := by decide +kernel
theorem dX3_settle_61 : decode cX3_settle 61 = .ok (.aload_n 0, 1) := by decide +kernel
theorem dX3_settle_62 : decode cX3_settle 62 = .ok (.getfield 9, 3) := by decide +kernel
theorem dX3_settle_65 : decode cX3_settle 65 = .ok (.iload_n 3, 1) := by decide +kernel
theorem dX3_settle_66 : decode cX3_settle 66 = .ok (.iaload, 1) := by decide +kernel
theorem dX3_settle_67 : decode cX3_settle 67 = .ok (.iadd, 1) := by decide +kernel
theorem dX3_settle_68 : decode cX3_settle 68 = .ok (.istore_n 2, 1) := by decide +kernel
theorem dX3_settle_69 : decode cX3_settle 69 = .ok (.iinc 3 1, 3) := by decide +kernel
theorem dX3_settle_72 : decode cX3_settle 72 = .ok (.goto (-63), 3) := by decide +kernel
theorem dX3_settle_75 : decode cX3_settle 75 = .ok (.iconst 0, 1) := by decide +kernel
theorem dX3_settle_76 : decode cX3_settle 76 = .ok (.istore_n 3, 1) := by decide +kernel
theorem dX3_settle_77 : decode cX3_settle 77 = .ok (.iload_n 3, 1) := by decide +kernel
theorem dX3_settle_78 : decode cX3_settle 78 = .ok (.aload_n 0, 1) := by decide +kernel
theorem dX3_settle_79 : decode cX3_settle 79 = .ok (.getfield 54, 3) := by decide +kernel
theorem dX3_settle_82 : decode cX3_settle 82 = .ok (.if_icmp .ge 41, 3) := by decide +kernel
theorem dX3_settle_85 : decode cX3_settle 85 = .ok (.aload_n 0, 1) := by decide +kernel
theorem dX3_settle_86 : decode cX3_settle 86 = .ok (.getfield 27, 3) := by decide +kernel
theorem dX3_settle_89 : decode cX3_settle 89 = .ok (.iload_n 3, 1) := by decide +kernel
theorem dX3_settle_90 : decode cX3_settle 90 = .ok (.iaload, 1) := by decide +kernel
theorem dX3_settle_91 : decode cX3_settle 91 = .ok (.istore 4, 2) := by decide +kernel
theorem dX3_settle_93 : decode cX3_settle 93 = .ok (.aload_n 0, 1) := by decide +kernel
theorem dX3_settle_94 : decode cX3_settle 94 = .ok (.getfield 33, 3) := by decide +kernel
theorem dX3_settle_97 : decode cX3_settle 97 = .ok (.aload_n 0, 1) := by decide +kernel
theorem dX3_settle_98 : decode cX3_settle 98 = .ok (.getfield 24, 3) := by decide +kernel
theorem dX3_settle_101 : decode cX3_settle 101 = .ok (.iload 4, 2) := by decide +kernel
theorem dX3_settle_103 : decode cX3_settle 103 = .ok (.iaload, 1) := by decide +kernel
theorem dX3_settle_104 : decode cX3_settle 104 = .ok (.iload_n 3, 1) := by decide +kernel
theorem dX3_settle_105 : decode cX3_settle 105 = .ok (.iastore, 1) := by decide +kernel
theorem dX3_settle_106 : decode cX3_settle 106 = .ok (.aload_n 0, 1) := by decide +kernel
theorem dX3_settle_107 : decode cX3_settle 107 = .ok (.getfield 24, 3) := by decide +kernel
theorem dX3_settle_110 : decode cX3_settle 110 = .ok (.iload 4, 2) := by decide +kernel
theorem dX3_settle_112 : decode cX3_settle 112 = .ok (.dup2, 1) := by decide +kernel
theorem dX3_settle_113 : decode cX3_settle 113 = .ok (.iaload, 1) := by decide +kernel
theorem dX3_settle_114 : decode cX3_settle 114 = .ok (.iconst 1, 1) := by decide +kernel
theorem dX3_settle_115 : decode cX3_settle 115 = .ok (.iadd, 1) := by decide +kernel
theorem dX3_settle_116 : decode cX3_settle 116 = .ok (.iastore, 1) := by decide +kernel
theorem dX3_settle_117 : decode cX3_settle 117 = .ok (.iinc 3 1, 3) := by decide +kernel
theorem dX3_settle_120 : decode cX3_settle 120 = .ok (.goto (-43), 3) := by decide +kernel
theorem dX3_settle_123 : decode cX3_settle 123 = .ok (.return_, 1) := by decide +kernel
set_option maxRecDepth 20000 in
theorem ggX3_buildBucket_X3_roomsOf : GoodIn wsX3_buildBucket wsX3_roomsOf := goodIn_r _ [15, 16, 17, 35, 36, 37, 38, 39, 40, 41, 42, 43, 44, 45, 46, 47] (by decide +kernel) (by decide +kernel)
set_option maxRecDepth 20000 in
theorem gX3_buildBucket_X3_roomsOf : GoodIn wsX3_buildBucket (wsV RX3 50 RX3 yX3_roomsOf wsX3_roomsOf) := goodIn_app (goodIn_of _ (by decide +kernel)) ggX3_buildBucket_X3_roomsOf
set_option maxRecDepth 20000 in
theorem ggX3_buildBucket_X0_pair : GoodIn wsX3_buildBucket wsX0_pair := goodIn_r _ [22, 23, 24, 25, 26, 27, 28, 29, 30, 48, 49, 50, 51] (by decide +kernel) (by decide +kernel)
set_option maxRecDepth 20000 in
theorem gX3_buildBucket_X0_pair : GoodIn wsX3_buildBucket (wsV RX3 82 RX0 yX0_pair wsX0_pair) := goodIn_app (goodIn_of _ (by decide +kernel)) ggX3_buildBucket_X0_pair
set_option maxRecDepth 20000 in
theorem ggX3_buildBucket_X10_spot : GoodIn wsX3_buildBucket wsX10_spot := goodIn_r _ [33, 34] (by decide +kernel) (by decide +kernel)
set_option maxRecDepth 20000 in
theorem gX3_buildBucket_X10_spot_n46 : GoodIn wsX3_buildBucket (wsX10_spot) := ggX3_buildBucket_X10_spot
theorem dX3_buildBucket_0 : decode cX3_buildBucket 0 = .ok (.aload_n 0, 1) := by decide +kernel
theorem dX3_buildBucket_1 : decode cX3_buildBucket 1 = .ok (.iload_n 3, 1) := by decide +kernel
theorem dX3_buildBucket_2 : decode cX3_buildBucket 2 = .ok (.invokevirtual 50, 3) := by decide +kernel
theorem dX3_buildBucket_5 : decode cX3_buildBucket 5 = .ok (.istore 5, 2) := by decide +kernel
theorem dX3_buildBucket_7 : decode cX3_buildBucket 7 = .ok (.iload 5, 2) := by decide +kernel
theorem dX3_buildBucket_9 : decode cX3_buildBucket 9 = .ok (.ifCond .eq 12, 3) := by decide +kernel
theorem dX3_buildBucket_12 : decode cX3_buildBucket 12 = .ok (.iload 4, 2) := by decide +kernel
theorem dX3_buildBucket_14 : decode cX3_buildBucket 14 = .ok (.aload_n 0, 1) := by decide +kernel
theorem dX3_buildBucket_15 : decode cX3_buildBucket 15 = .ok (.getfield 54, 3) := by decide +kernel
theorem dX3_buildBucket_18 : decode cX3_buildBucket 18 = .ok (.if_icmp .le 4, 3) := by decide +kernel
theorem dX3_buildBucket_21 : decode cX3_buildBucket 21 = .ok (.return_, 1) := by decide +kernel
theorem dX3_buildBucket_22 : decode cX3_buildBucket 22 = .ok (.iload 4, 2) := by decide +kernel
theorem dX3_buildBucket_24 : decode cX3_buildBucket 24 = .ok (.aload_n 0, 1) := by decide +kernel
theorem dX3_buildBucket_25 : decode cX3_buildBucket 25 = .ok (.getfield 9, 3) := by decide +kernel
theorem dX3_buildBucket_28 : decode cX3_buildBucket 28 = .ok (.iload_n 3, 1) := by decide +kernel
theorem dX3_buildBucket_29 : decode cX3_buildBucket 29 = .ok (.iaload, 1) := by decide +kernel
theorem dX3_buildBucket_30 : decode cX3_buildBucket 30 = .ok (.isub, 1) := by decide +kernel
theorem dX3_buildBucket_31 : decode cX3_buildBucket 31 = .ok (.istore 6, 2) := by decide +kernel
theorem dX3_buildBucket_33 : decode cX3_buildBucket 33 = .ok (.iload 6, 2) := by decide +kernel
theorem dX3_buildBucket_35 : decode cX3_buildBucket 35 = .ok (.ifCond .lt 7, 3) := by decide +kernel
theorem dX3_buildBucket_38 : decode cX3_buildBucket 38 = .ok (.iconst 1, 1) := by decide +kernel
theorem dX3_buildBucket_39 : decode cX3_buildBucket 39 = .ok (.goto 4, 3) := by decide +kernel
theorem dX3_buildBucket_42 : decode cX3_buildBucket 42 = .ok (.iconst 0, 1) := by decide +kernel
theorem dX3_buildBucket_43 : decode cX3_buildBucket 43 = .ok (.istore 7, 2) := by decide +kernel
theorem dX3_buildBucket_45 : decode cX3_buildBucket 45 = .ok (.iconst 0, 1) := by decide +kernel
theorem dX3_buildBucket_46 : decode cX3_buildBucket 46 = .ok (.istore 8, 2) := by decide +kernel
theorem dX3_buildBucket_48 : decode cX3_buildBucket 48 = .ok (.iload 8, 2) := by decide +kernel
theorem dX3_buildBucket_50 : decode cX3_buildBucket 50 = .ok (.ldc 81, 2) := by decide +kernel
theorem dX3_buildBucket_52 : decode cX3_buildBucket 52 = .ok (.if_icmp .ge 150, 3) := by decide +kernel
theorem dX3_buildBucket_55 : decode cX3_buildBucket 55 = .ok (.iload 7, 2) := by decide +kernel
theorem dX3_buildBucket_57 : decode cX3_buildBucket 57 = .ok (.ifCond .eq 145, 3) := by decide +kernel
theorem dX3_buildBucket_60 : decode cX3_buildBucket 60 = .ok (.aload_n 2, 1) := by decide +kernel
theorem dX3_buildBucket_61 : decode cX3_buildBucket 61 = .ok (.invokevirtual 82, 3) := by decide +kernel
theorem dX3_buildBucket_64 : decode cX3_buildBucket 64 = .ok (.aload_n 0, 1) := by decide +kernel
theorem dX3_buildBucket_65 : decode cX3_buildBucket 65 = .ok (.getfield 18, 3) := by decide +kernel
theorem dX3_buildBucket_68 : decode cX3_buildBucket 68 = .ok (.iload_n 3, 1) := by decide +kernel
theorem dX3_buildBucket_69 : decode cX3_buildBucket 69 = .ok (.aload_n 2, 1) := by decide +kernel
theorem dX3_buildBucket_70 : decode cX3_buildBucket 70 = .ok (.getfield 87, 3) := by decide +kernel
theorem dX3_buildBucket_73 : decode cX3_buildBucket 73 = .ok (.iastore, 1) := by decide +kernel
theorem dX3_buildBucket_74 : decode cX3_buildBucket 74 = .ok (.aload_n 0, 1) := by decide +kernel
theorem dX3_buildBucket_75 : decode cX3_buildBucket 75 = .ok (.getfield 21, 3) := by decide +kernel
theorem dX3_buildBucket_78 : decode cX3_buildBucket 78 = .ok (.iload_n 3, 1) := by decide +kernel
theorem dX3_buildBucket_79 : decode cX3_buildBucket 79 = .ok (.aload_n 2, 1) := by decide +kernel
theorem dX3_buildBucket_80 : decode cX3_buildBucket 80 = .ok (.getfield 88, 3) := by decide +kernel
theorem dX3_buildBucket_83 : decode cX3_buildBucket 83 = .ok (.iastore, 1) := by decide +kernel
theorem dX3_buildBucket_84 : decode cX3_buildBucket 84 = .ok (.iconst 0, 1) := by decide +kernel
theorem dX3_buildBucket_85 : decode cX3_buildBucket 85 = .ok (.istore 7, 2) := by decide +kernel
theorem dX3_buildBucket_87 : decode cX3_buildBucket 87 = .ok (.iload 6, 2) := by decide +kernel
theorem dX3_buildBucket_89 : decode cX3_buildBucket 89 = .ok (.istore 9, 2) := by decide +kernel
theorem dX3_buildBucket_91 : decode cX3_buildBucket 91 = .ok (.iload 9, 2) := by decide +kernel
theorem dX3_buildBucket_93 : decode cX3_buildBucket 93 = .ok (.iload 4, 2) := by decide +kernel
theorem dX3_buildBucket_95 : decode cX3_buildBucket 95 = .ok (.if_icmp .ge 101, 3) := by decide +kernel
theorem dX3_buildBucket_98 : decode cX3_buildBucket 98 = .ok (.iload 7, 2) := by decide +kernel
theorem dX3_buildBucket_100 : decode cX3_buildBucket 100 = .ok (.ifCond .ne 96, 3) := by decide +kernel
theorem dX3_buildBucket_103 : decode cX3_buildBucket 103 = .ok (.aload_n 2, 1) := by decide +kernel
theorem dX3_buildBucket_104 : decode cX3_buildBucket 104 = .ok (.getfield 87, 3) := by decide +kernel
theorem dX3_buildBucket_107 : decode cX3_buildBucket 107 = .ok (.aload_n 2, 1) := by decide +kernel
theorem dX3_buildBucket_108 : decode cX3_buildBucket 108 = .ok (.getfield 88, 3) := by decide +kernel
theorem dX3_buildBucket_111 : decode cX3_buildBucket 111 = .ok (.aload_n 1, 1) := by decide +kernel
theorem dX3_buildBucket_112 : decode cX3_buildBucket 112 = .ok (.getfield 75, 3) := by decide +kernel
theorem dX3_buildBucket_115 : decode cX3_buildBucket 115 = .ok (.aload_n 0, 1) := by decide +kernel
theorem dX3_buildBucket_116 : decode cX3_buildBucket 116 = .ok (.getfield 33, 3) := by decide +kernel
theorem dX3_buildBucket_119 : decode cX3_buildBucket 119 = .ok (.iload 9, 2) := by decide +kernel
theorem dX3_buildBucket_121 : decode cX3_buildBucket 121 = .ok (.iaload, 1) := by decide +kernel
theorem dX3_buildBucket_122 : decode cX3_buildBucket 122 = .ok (.iaload, 1) := by decide +kernel
theorem dX3_buildBucket_123 : decode cX3_buildBucket 123 = .ok (.iload 5, 2) := by decide +kernel
theorem dX3_buildBucket_125 : decode cX3_buildBucket 125 = .ok (.invokestatic 46, 3) := by decide +kernel
theorem dX3_buildBucket_128 : decode cX3_buildBucket 128 = .ok (.istore 10, 2) := by decide +kernel
theorem dX3_buildBucket_130 : decode cX3_buildBucket 130 = .ok (.aload_n 0, 1) := by decide +kernel
theorem dX3_buildBucket_131 : decode cX3_buildBucket 131 = .ok (.getfield 30, 3) := by decide +kernel
theorem dX3_buildBucket_134 : decode cX3_buildBucket 134 = .ok (.aload_n 0, 1) := by decide +kernel
theorem dX3_buildBucket_135 : decode cX3_buildBucket 135 = .ok (.getfield 33, 3) := by decide +kernel
theorem dX3_buildBucket_138 : decode cX3_buildBucket 138 = .ok (.iload 9, 2) := by decide +kernel
theorem dX3_buildBucket_140 : decode cX3_buildBucket 140 = .ok (.iaload, 1) := by decide +kernel
theorem dX3_buildBucket_141 : decode cX3_buildBucket 141 = .ok (.iload 10, 2) := by decide +kernel
theorem dX3_buildBucket_143 : decode cX3_buildBucket 143 = .ok (.iastore, 1) := by decide +kernel
theorem dX3_buildBucket_144 : decode cX3_buildBucket 144 = .ok (.iload 6, 2) := by decide +kernel
theorem dX3_buildBucket_146 : decode cX3_buildBucket 146 = .ok (.istore 11, 2) := by decide +kernel
theorem dX3_buildBucket_148 : decode cX3_buildBucket 148 = .ok (.iload 11, 2) := by decide +kernel
theorem dX3_buildBucket_150 : decode cX3_buildBucket 150 = .ok (.iload 9, 2) := by decide +kernel
theorem dX3_buildBucket_152 : decode cX3_buildBucket 152 = .ok (.if_icmp .ge 38, 3) := by decide +kernel
theorem dX3_buildBucket_155 : decode cX3_buildBucket 155 = .ok (.iload 7, 2) := by decide +kernel
theorem dX3_buildBucket_157 : decode cX3_buildBucket 157 = .ok (.ifCond .ne 20, 3) := by decide +kernel
theorem dX3_buildBucket_160 : decode cX3_buildBucket 160 = .ok (.aload_n 0, 1) := by decide +kernel
theorem dX3_buildBucket_161 : decode cX3_buildBucket 161 = .ok (.getfield 30, 3) := by decide +kernel
theorem dX3_buildBucket_164 : decode cX3_buildBucket 164 = .ok (.aload_n 0, 1) := by decide +kernel
theorem dX3_buildBucket_165 : decode cX3_buildBucket 165 = .ok (.getfield 33, 3) := by decide +kernel
theorem dX3_buildBucket_168 : decode cX3_buildBucket 168 = .ok (.iload 11, 2) := by decide +kernel
theorem dX3_buildBucket_170 : decode cX3_buildBucket 170 = .ok (.iaload, 1) := by decide +kernel
theorem dX3_buildBucket_171 : decode cX3_buildBucket 171 = .ok (.iaload, 1) := by decide +kernel
theorem dX3_buildBucket_172 : decode cX3_buildBucket 172 = .ok (.iload 10, 2) := by decide +kernel
theorem dX3_buildBucket_174 : decode cX3_buildBucket 174 = .ok (.if_icmp .ne 7, 3) := by decide +kernel
theorem dX3_buildBucket_177 : decode cX3_buildBucket 177 = .ok (.iconst 1, 1) := by decide +kernel
theorem dX3_buildBucket_178 : decode cX3_buildBucket 178 = .ok (.goto 4, 3) := by decide +kernel
theorem dX3_buildBucket_181 : decode cX3_buildBucket 181 = .ok (.iconst 0, 1) := by decide +kernel
theorem dX3_buildBucket_182 : decode cX3_buildBucket 182 = .ok (.istore 7, 2) := by decide +kernel
theorem dX3_buildBucket_184 : decode cX3_buildBucket 184 = .ok (.iinc 11 1, 3) := by decide +kernel
theorem dX3_buildBucket_187 : decode cX3_buildBucket 187 = .ok (.goto (-39), 3) := by decide +kernel
theorem dX3_buildBucket_190 : decode cX3_buildBucket 190 = .ok (.iinc 9 1, 3) := by decide +kernel
theorem dX3_buildBucket_193 : decode cX3_buildBucket 193 = .ok (.goto (-102), 3) := by decide +kernel
theorem dX3_buildBucket_196 : decode cX3_buildBucket 196 = .ok (.iinc 8 1, 3) := by decide +kernel
theorem dX3_buildBucket_199 : decode cX3_buildBucket 199 = .ok (.goto (-151), 3) := by decide +kernel
theorem dX3_buildBucket_202 : decode cX3_buildBucket 202 = .ok (.return_, 1) := by decide +kernel
theorem dX4_init_0 : decode cX4_init 0 = .ok (.aload_n 0, 1) := by decide +kernel
theorem dX4_init_1 : decode cX4_init 1 = .ok (.invokespecial 3, 3) := by decide +kernel
theorem dX4_init_4 : decode cX4_init 4 = .ok (.aload_n 0, 1) := by decide +kernel
theorem dX4_init_5 : decode cX4_init 5 = .ok (.iconst 5, 1) := by decide +kernel
theorem dX4_init_6 : decode cX4_init 6 = .ok (.newarray .int, 2) := by decide +kernel
theorem dX4_init_8 : decode cX4_init 8 = .ok (.putfield 9, 3) := by decide +kernel
theorem dX4_init_11 : decode cX4_init 11 = .ok (.aload_n 0, 1) := by decide +kernel
theorem dX4_init_12 : decode cX4_init 12 = .ok (.bipush 64, 2) := by decide +kernel
theorem dX4_init_14 : decode cX4_init 14 = .ok (.newarray .int, 2) := by decide +kernel
theorem dX4_init_16 : decode cX4_init 16 = .ok (.putfield 15, 3) := by decide +kernel
theorem dX4_init_19 : decode cX4_init 19 = .ok (.return_, 1) := by decide +kernel
set_option maxRecDepth 20000 in
theorem ggX5_init_X0_init : GoodIn wsX5_init wsX0_init := goodIn_r _ [13, 14, 2, 3] (by decide +kernel) (by decide +kernel)
set_option maxRecDepth 20000 in
theorem gX5_init_X0_init_n11 : GoodIn wsX5_init (wsX0_init) := ggX5_init_X0_init
set_option maxRecDepth 20000 in
theorem ggX5_init_X3_init : GoodIn wsX5_init wsX3_init := goodIn_r _ [17, 18, 2, 3, 19, 20, 21, 22, 23, 24, 25, 26, 27, 35, 36, 37, 38, 39, 40, 41, 42, 43, 44, 45, 46, 47] (by decide +kernel) (by decide +kernel)
set_option maxRecDepth 20000 in
theorem gX5_init_X3_init : GoodIn wsX5_init (wsX3_init) := ggX5_init_X3_init
theorem dX5_init_0 : decode cX5_init 0 = .ok (.aload_n 0, 1) := by decide +kernel
theorem dX5_init_1 : decode cX5_init 1 = .ok (.invokespecial 3, 3) := by decide +kernel
theorem dX5_init_4 : decode cX5_init 4 = .ok (.aload_n 0, 1) := by decide +kernel
theorem dX5_init_5 : decode cX5_init 5 = .ok (.new 9, 3) := by decide +kernel
theorem dX5_init_8 : decode cX5_init 8 = .ok (.dup, 1) := by decide +kernel
theorem dX5_init_9 : decode cX5_init 9 = .ok (.invokespecial 11, 3) := by decide +kernel
theorem dX5_init_12 : decode cX5_init 12 = .ok (.putfield 12, 3) := by decide +kernel
theorem dX5_init_15 : decode cX5_init 15 = .ok (.aload_n 0, 1) := by decide +kernel
theorem dX5_init_16 : decode cX5_init 16 = .ok (.new 18, 3) := by decide +kernel
theorem dX5_init_19 : decode cX5_init 19 = .ok (.dup, 1) := by decide +kernel
theorem dX5_init_20 : decode cX5_init 20 = .ok (.invokespecial 20, 3) := by decide +kernel
theorem dX5_init_23 : decode cX5_init 23 = .ok (.putfield 21, 3) := by decide +kernel
theorem dX5_init_26 : decode cX5_init 26 = .ok (.return_, 1) := by decide +kernel
set_option maxRecDepth 20000 in
theorem ggX6_init_X7_init : GoodIn wsX6_init wsX7_init := goodIn_r _ [17, 18, 2, 3, 12, 19, 20, 21, 25, 26, 27, 28] (by decide +kernel) (by decide +kernel)
set_option maxRecDepth 20000 in
theorem gX6_init_X7_init : GoodIn wsX6_init (wsX7_init) := ggX6_init_X7_init
set_option maxRecDepth 20000 in
theorem ggX6_init_X8_init : GoodIn wsX6_init wsX8_init := goodIn_r _ [23, 24, 2, 3] (by decide +kernel) (by decide +kernel)
set_option maxRecDepth 20000 in
theorem gX6_init_X8_init_n20 : GoodIn wsX6_init (wsX8_init) := ggX6_init_X8_init
theorem dX6_init_0 : decode cX6_init 0 = .ok (.aload_n 0, 1) := by decide +kernel
theorem dX6_init_1 : decode cX6_init 1 = .ok (.invokespecial 3, 3) := by decide +kernel
theorem dX6_init_4 : decode cX6_init 4 = .ok (.aload_n 0, 1) := by decide +kernel
theorem dX6_init_5 : decode cX6_init 5 = .ok (.new 9, 3) := by decide +kernel
theorem dX6_init_8 : decode cX6_init 8 = .ok (.dup, 1) := by decide +kernel
theorem dX6_init_9 : decode cX6_init 9 = .ok (.invokespecial 11, 3) := by decide +kernel
theorem dX6_init_12 : decode cX6_init 12 = .ok (.putfield 12, 3) := by decide +kernel
theorem dX6_init_15 : decode cX6_init 15 = .ok (.aload_n 0, 1) := by decide +kernel
theorem dX6_init_16 : decode cX6_init 16 = .ok (.new 18, 3) := by decide +kernel
theorem dX6_init_19 : decode cX6_init 19 = .ok (.dup, 1) := by decide +kernel
theorem dX6_init_20 : decode cX6_init 20 = .ok (.invokespecial 20, 3) := by decide +kernel
theorem dX6_init_23 : decode cX6_init 23 = .ok (.putfield 21, 3) := by decide +kernel
theorem dX6_init_26 : decode cX6_init 26 = .ok (.aload_n 0, 1) := by decide +kernel
theorem dX6_init_27 : decode cX6_init 27 = .ok (.iconst 5, 1) := by decide +kernel
theorem dX6_init_28 : decode cX6_init 28 = .ok (.newarray .int, 2) := by decide +kernel
theorem dX6_init_30 : decode cX6_init 30 = .ok (.putfield 25, 3) := by decide +kernel
theorem dX6_init_33 : decode cX6_init 33 = .ok (.aload_n 0, 1) := by decide +kernel
theorem dX6_init_34 : decode cX6_init 34 = .ok (.sipush 600, 3) := by decide +kernel
theorem dX6_init_37 : decode cX6_init 37 = .ok (.newarray .int, 2) := by decide +kernel
theorem dX6_init_39 : decode cX6_init 39 = .ok (.putfield 29, 3) := by decide +kernel
theorem dX6_init_42 : decode cX6_init 42 = .ok (.return_, 1) := by decide +kernel
theorem dX7_init_0 : decode cX7_init 0 = .ok (.aload_n 0, 1) := by decide +kernel
theorem dX7_init_1 : decode cX7_init 1 = .ok (.invokespecial 3, 3) := by decide +kernel
theorem dX7_init_4 : decode cX7_init 4 = .ok (.aload_n 0, 1) := by decide +kernel
theorem dX7_init_5 : decode cX7_init 5 = .ok (.sipush 600, 3) := by decide +kernel
theorem dX7_init_8 : decode cX7_init 8 = .ok (.newarray .int, 2) := by decide +kernel
theorem dX7_init_10 : decode cX7_init 10 = .ok (.putfield 9, 3) := by decide +kernel
theorem dX7_init_13 : decode cX7_init 13 = .ok (.aload_n 0, 1) := by decide +kernel
theorem dX7_init_14 : decode cX7_init 14 = .ok (.sipush 600, 3) := by decide +kernel
theorem dX7_init_17 : decode cX7_init 17 = .ok (.newarray .int, 2) := by decide +kernel
theorem dX7_init_19 : decode cX7_init 19 = .ok (.putfield 15, 3) := by decide +kernel
theorem dX7_init_22 : decode cX7_init 22 = .ok (.aload_n 0, 1) := by decide +kernel
theorem dX7_init_23 : decode cX7_init 23 = .ok (.sipush 600, 3) := by decide +kernel
theorem dX7_init_26 : decode cX7_init 26 = .ok (.newarray .int, 2) := by decide +kernel
theorem dX7_init_28 : decode cX7_init 28 = .ok (.putfield 18, 3) := by decide +kernel
theorem dX7_init_31 : decode cX7_init 31 = .ok (.return_, 1) := by decide +kernel
theorem dX8_init_0 : decode cX8_init 0 = .ok (.aload_n 0, 1) := by decide +kernel
theorem dX8_init_1 : decode cX8_init 1 = .ok (.invokespecial 3, 3) := by decide +kernel
theorem dX8_init_4 : decode cX8_init 4 = .ok (.return_, 1) := by decide +kernel
set_option maxRecDepth 20000 in
theorem ggX9_init_X0_init : GoodIn wsX9_init wsX0_init := goodIn_r _ [17, 18, 2, 3] (by decide +kernel) (by decide +kernel)
set_option maxRecDepth 20000 in
theorem gX9_init_X0_init_n11 : GoodIn wsX9_init (wsX0_init) := ggX9_init_X0_init
set_option maxRecDepth 20000 in
theorem ggX9_init_X2_init : GoodIn wsX9_init wsX2_init := goodIn_r _ [21, 22, 2, 3, 23, 24, 25, 54, 55, 56] (by decide +kernel) (by decide +kernel)
set_option maxRecDepth 20000 in
theorem gX9_init_X2_init : GoodIn wsX9_init (wsX2_init) := ggX9_init_X2_init
set_option maxRecDepth 20000 in
theorem ggX9_init_X3_init : GoodIn wsX9_init wsX3_init := goodIn_r _ [28, 29, 2, 3, 23, 30, 31, 32, 33, 34, 35, 36, 37, 57, 58, 59, 60, 61, 62, 63, 64, 65, 66, 67, 68, 69] (by decide +kernel) (by decide +kernel)
set_option maxRecDepth 20000 in
theorem gX9_init_X3_init : GoodIn wsX9_init (wsX3_init) := ggX9_init_X3_init
theorem dX9_init_0 : decode cX9_init 0 = .ok (.aload_n 0, 1) := by decide +kernel
theorem dX9_init_1 : decode cX9_init 1 = .ok (.invokespecial 3, 3) := by decide +kernel
theorem dX9_init_4 : decode cX9_init 4 = .ok (.aload_n 0, 1) := by decide +kernel
theorem dX9_init_5 : decode cX9_init 5 = .ok (.new 9, 3) := by decide +kernel
theorem dX9_init_8 : decode cX9_init 8 = .ok (.dup, 1) := by decide +kernel
theorem dX9_init_9 : decode cX9_init 9 = .ok (.invokespecial 11, 3) := by decide +kernel
theorem dX9_init_12 : decode cX9_init 12 = .ok (.putfield 12, 3) := by decide +kernel
theorem dX9_init_15 : decode cX9_init 15 = .ok (.aload_n 0, 1) := by decide +kernel
theorem dX9_init_16 : decode cX9_init 16 = .ok (.new 18, 3) := by decide +kernel
theorem dX9_init_19 : decode cX9_init 19 = .ok (.dup, 1) := by decide +kernel
theorem dX9_init_20 : decode cX9_init 20 = .ok (.invokespecial 20, 3) := by decide +kernel
theorem dX9_init_23 : decode cX9_init 23 = .ok (.putfield 21, 3) := by decide +kernel
theorem dX9_init_26 : decode cX9_init 26 = .ok (.aload_n 0, 1) := by decide +kernel
theorem dX9_init_27 : decode cX9_init 27 = .ok (.new 25, 3) := by decide +kernel
theorem dX9_init_30 : decode cX9_init 30 = .ok (.dup, 1) := by decide +kernel
theorem dX9_init_31 : decode cX9_init 31 = .ok (.invokespecial 27, 3) := by decide +kernel
theorem dX9_init_34 : decode cX9_init 34 = .ok (.putfield 28, 3) := by decide +kernel
theorem dX9_init_37 : decode cX9_init 37 = .ok (.return_, 1) := by decide +kernel
set_option maxRecDepth 20000 in
theorem ggX9_begin_X0_begin : GoodIn wsX9_begin wsX0_begin := goodIn_r _ [15, 16, 17, 33, 34, 35, 36] (by decide +kernel) (by decide +kernel)
set_option maxRecDepth 20000 in
theorem gX9_begin_X0_begin : GoodIn wsX9_begin (wsV RX9 54 RX0 yX0_begin wsX0_begin) := goodIn_app (goodIn_of _ (by decide +kernel)) ggX9_begin_X0_begin
theorem dX9_begin_0 : decode cX9_begin 0 = .ok (.aload_n 0, 1) := by decide +kernel
theorem dX9_begin_1 : decode cX9_begin 1 = .ok (.iload_n 1, 1) := by decide +kernel
theorem dX9_begin_2 : decode cX9_begin 2 = .ok (.putfield 32, 3) := by decide +kernel
theorem dX9_begin_5 : decode cX9_begin 5 = .ok (.aload_n 0, 1) := by decide +kernel
theorem dX9_begin_6 : decode cX9_begin 6 = .ok (.iload_n 2, 1) := by decide +kernel
theorem dX9_begin_7 : decode cX9_begin 7 = .ok (.putfield 36, 3) := by decide +kernel
theorem dX9_begin_10 : decode cX9_begin 10 = .ok (.aload_n 0, 1) := by decide +kernel
theorem dX9_begin_11 : decode cX9_begin 11 = .ok (.iload_n 3, 1) := by decide +kernel
theorem dX9_begin_12 : decode cX9_begin 12 = .ok (.putfield 39, 3) := by decide +kernel
theorem dX9_begin_15 : decode cX9_begin 15 = .ok (.aload_n 0, 1) := by decide +kernel
theorem dX9_begin_16 : decode cX9_begin 16 = .ok (.iconst 0, 1) := by decide +kernel
theorem dX9_begin_17 : decode cX9_begin 17 = .ok (.putfield 42, 3) := by decide +kernel
theorem dX9_begin_20 : decode cX9_begin 20 = .ok (.aload_n 0, 1) := by decide +kernel
theorem dX9_begin_21 : decode cX9_begin 21 = .ok (.iconst 0, 1) := by decide +kernel
theorem dX9_begin_22 : decode cX9_begin 22 = .ok (.putfield 45, 3) := by decide +kernel
theorem dX9_begin_25 : decode cX9_begin 25 = .ok (.aload_n 0, 1) := by decide +kernel
theorem dX9_begin_26 : decode cX9_begin 26 = .ok (.iconst 0, 1) := by decide +kernel
theorem dX9_begin_27 : decode cX9_begin 27 = .ok (.putfield 48, 3) := by decide +kernel
theorem dX9_begin_30 : decode cX9_begin 30 = .ok (.aload_n 0, 1) := by decide +kernel
theorem dX9_begin_31 : decode cX9_begin 31 = .ok (.iconst 0, 1) := by decide +kernel
theorem dX9_begin_32 : decode cX9_begin 32 = .ok (.putfield 51, 3) := by decide +kernel
theorem dX9_begin_35 : decode cX9_begin 35 = .ok (.aload_n 0, 1) := by decide +kernel
theorem dX9_begin_36 : decode cX9_begin 36 = .ok (.getfield 12, 3) := by decide +kernel
theorem dX9_begin_39 : decode cX9_begin 39 = .ok (.lload 4, 2) := by decide +kernel
theorem dX9_begin_41 : decode cX9_begin 41 = .ok (.invokevirtual 54, 3) := by decide +kernel
theorem dX9_begin_44 : decode cX9_begin 44 = .ok (.aload_n 0, 1) := by decide +kernel
theorem dX9_begin_45 : decode cX9_begin 45 = .ok (.getfield 21, 3) := by decide +kernel
theorem dX9_begin_48 : decode cX9_begin 48 = .ok (.iconst 0, 1) := by decide +kernel
theorem dX9_begin_49 : decode cX9_begin 49 = .ok (.putfield 58, 3) := by decide +kernel
theorem dX9_begin_52 : decode cX9_begin 52 = .ok (.return_, 1) := by decide +kernel
theorem dX9_mostRooms_0 : decode cX9_mostRooms 0 = .ok (.aload_n 0, 1) := by decide +kernel
theorem dX9_mostRooms_1 : decode cX9_mostRooms 1 = .ok (.getfield 32, 3) := by decide +kernel
theorem dX9_mostRooms_4 : decode cX9_mostRooms 4 = .ok (.aload_n 0, 1) := by decide +kernel
theorem dX9_mostRooms_5 : decode cX9_mostRooms 5 = .ok (.getfield 61, 3) := by decide +kernel
theorem dX9_mostRooms_8 : decode cX9_mostRooms 8 = .ok (.imul, 1) := by decide +kernel
theorem dX9_mostRooms_9 : decode cX9_mostRooms 9 = .ok (.ireturn, 1) := by decide +kernel
set_option maxRecDepth 20000 in
theorem ggX9_buildAll_X0_pair : GoodIn wsX9_buildAll wsX0_pair := goodIn_r _ [25, 26, 27, 28, 29, 30, 31, 32, 33, 101, 102, 103, 104] (by decide +kernel) (by decide +kernel)
set_option maxRecDepth 20000 in
theorem gX9_buildAll_X0_pair : GoodIn wsX9_buildAll (wsV RX9 73 RX0 yX0_pair wsX0_pair) := goodIn_app (goodIn_of _ (by decide +kernel)) ggX9_buildAll_X0_pair
set_option maxRecDepth 20000 in
theorem ggX9_buildAll_X3_deal : GoodIn wsX9_buildAll wsX3_deal := goodIn_r _ [38, 39, 17, 10, 18, 40, 9, 11, 41, 42, 43, 44, 45, 46, 47, 48, 49, 50, 51, 37, 52, 53, 54, 55, 56, 105, 106, 107, 108, 109, 110, 111, 112, 113, 114, 115, 116, 117, 98, 99, 100] (by decide +kernel) (by decide +kernel)
set_option maxRecDepth 20000 in
theorem gX9_buildAll_X3_deal : GoodIn wsX9_buildAll (wsV RX9 82 RX3 yX3_deal wsX3_deal) := goodIn_app (goodIn_of _ (by decide +kernel)) ggX9_buildAll_X3_deal
set_option maxRecDepth 20000 in
theorem ggX9_buildAll_X9_mostRooms : GoodIn wsX9_buildAll wsX9_mostRooms := goodIn_r _ [61, 62, 4, 86, 87, 88, 89, 90, 91, 92, 93, 94, 95, 96, 97] (by decide +kernel) (by decide +kernel)
set_option maxRecDepth 20000 in
theorem gX9_buildAll_X9_mostRooms : GoodIn wsX9_buildAll (wsV RX9 86 RX9 yX9_mostRooms wsX9_mostRooms) := goodIn_app (goodIn_of _ (by decide +kernel)) ggX9_buildAll_X9_mostRooms
set_option maxRecDepth 20000 in
theorem ggX9_buildAll_X3_settle : GoodIn wsX9_buildAll wsX3_settle := goodIn_r _ [66, 67, 41, 68, 48, 69, 45, 47, 70, 105, 106, 107, 108, 109, 110, 111, 112, 113, 114, 115, 116, 117] (by decide +kernel) (by decide +kernel)
set_option maxRecDepth 20000 in
theorem gX9_buildAll_X3_settle : GoodIn wsX9_buildAll (wsV RX9 93 RX3 yX3_settle wsX3_settle) := goodIn_app (goodIn_of _ (by decide +kernel)) ggX9_buildAll_X3_settle
set_option maxRecDepth 20000 in
theorem ggX9_buildAll_X3_buildBucket : GoodIn wsX9_buildAll wsX3_buildBucket := goodIn_r _ [74, 45, 48, 75, 76, 77, 78, 79, 46, 70, 80, 81, 82, 83, 37, 84, 41, 68, 85, 22, 23, 24, 25, 26, 27, 28, 29, 30, 31, 32, 33, 53, 54, 55, 56, 105, 106, 107, 108, 109, 110, 111, 112, 113, 114, 115, 116, 117, 101, 102, 103, 104, 98, 99, 100] (by decide +kernel) (by decide +kernel)
set_option maxRecDepth 20000 in
theorem gX9_buildAll_X3_buildBucket : GoodIn wsX9_buildAll (wsV RX9 104 RX3 yX3_buildBucket wsX3_buildBucket) := goodIn_app (goodIn_of _ (by decide +kernel)) ggX9_buildAll_X3_buildBucket
theorem dX9_buildAll_0 : decode cX9_buildAll 0 = .ok (.aload_n 0, 1) := by decide +kernel
theorem dX9_buildAll_1 : decode cX9_buildAll 1 = .ok (.aload_n 0, 1) := by decide +kernel
theorem dX9_buildAll_2 : decode cX9_buildAll 2 = .ok (.getfield 21, 3) := by decide +kernel
theorem dX9_buildAll_5 : decode cX9_buildAll 5 = .ok (.getfield 58, 3) := by decide +kernel
theorem dX9_buildAll_8 : decode cX9_buildAll 8 = .ok (.aload_n 0, 1) := by decide +kernel
theorem dX9_buildAll_9 : decode cX9_buildAll 9 = .ok (.getfield 21, 3) := by decide +kernel
theorem dX9_buildAll_12 : decode cX9_buildAll 12 = .ok (.getfield 58, 3) := by decide +kernel
theorem dX9_buildAll_15 : decode cX9_buildAll 15 = .ok (.aload_n 0, 1) := by decide +kernel
theorem dX9_buildAll_16 : decode cX9_buildAll 16 = .ok (.getfield 39, 3) := by decide +kernel
theorem dX9_buildAll_19 : decode cX9_buildAll 19 = .ok (.imul, 1) := by decide +kernel
theorem dX9_buildAll_20 : decode cX9_buildAll 20 = .ok (.bipush 100, 2) := by decide +kernel
theorem dX9_buildAll_22 : decode cX9_buildAll 22 = .ok (.idiv, 1) := by decide +kernel
theorem dX9_buildAll_23 : decode cX9_buildAll 23 = .ok (.iadd, 1) := by decide +kernel
theorem dX9_buildAll_24 : decode cX9_buildAll 24 = .ok (.iconst 4, 1) := by decide +kernel
theorem dX9_buildAll_25 : decode cX9_buildAll 25 = .ok (.iadd, 1) := by decide +kernel
theorem dX9_buildAll_26 : decode cX9_buildAll 26 = .ok (.putfield 61, 3) := by decide +kernel
theorem dX9_buildAll_29 : decode cX9_buildAll 29 = .ok (.aload_n 0, 1) := by decide +kernel
theorem dX9_buildAll_30 : decode cX9_buildAll 30 = .ok (.aload_n 0, 1) := by decide +kernel
theorem dX9_buildAll_31 : decode cX9_buildAll 31 = .ok (.getfield 21, 3) := by decide +kernel
theorem dX9_buildAll_34 : decode cX9_buildAll 34 = .ok (.getfield 58, 3) := by decide +kernel
theorem dX9_buildAll_37 : decode cX9_buildAll 37 = .ok (.putfield 64, 3) := by decide +kernel
theorem dX9_buildAll_40 : decode cX9_buildAll 40 = .ok (.aload_n 0, 1) := by decide +kernel
theorem dX9_buildAll_41 : decode cX9_buildAll 41 = .ok (.dup, 1) := by decide +kernel
theorem dX9_buildAll_42 : decode cX9_buildAll 42 = .ok (.getfield 51, 3) := by decide +kernel
theorem dX9_buildAll_45 : decode cX9_buildAll 45 = .ok (.aload_n 0, 1) := by decide +kernel
theorem dX9_buildAll_46 : decode cX9_buildAll 46 = .ok (.getfield 21, 3) := by decide +kernel
theorem dX9_buildAll_49 : decode cX9_buildAll 49 = .ok (.getfield 58, 3) := by decide +kernel
theorem dX9_buildAll_52 : decode cX9_buildAll 52 = .ok (.iadd, 1) := by decide +kernel
theorem dX9_buildAll_53 : decode cX9_buildAll 53 = .ok (.putfield 51, 3) := by decide +kernel
theorem dX9_buildAll_56 : decode cX9_buildAll 56 = .ok (.iconst 1, 1) := by decide +kernel
theorem dX9_buildAll_57 : decode cX9_buildAll 57 = .ok (.aload_n 0, 1) := by decide +kernel
theorem dX9_buildAll_58 : decode cX9_buildAll 58 = .ok (.getfield 36, 3) := by decide +kernel
theorem dX9_buildAll_61 : decode cX9_buildAll 61 = .ok (.aload_n 0, 1) := by decide +kernel
theorem dX9_buildAll_62 : decode cX9_buildAll 62 = .ok (.getfield 61, 3) := by decide +kernel
theorem dX9_buildAll_65 : decode cX9_buildAll 65 = .ok (.imul, 1) := by decide +kernel
theorem dX9_buildAll_66 : decode cX9_buildAll 66 = .ok (.bipush 100, 2) := by decide +kernel
theorem dX9_buildAll_68 : decode cX9_buildAll 68 = .ok (.idiv, 1) := by decide +kernel
theorem dX9_buildAll_69 : decode cX9_buildAll 69 = .ok (.invokestatic 67, 3) := by decide +kernel
theorem dX9_buildAll_72 : decode cX9_buildAll 72 = .ok (.istore_n 1, 1) := by decide +kernel
theorem dX9_buildAll_73 : decode cX9_buildAll 73 = .ok (.iconst 1, 1) := by decide +kernel
theorem dX9_buildAll_74 : decode cX9_buildAll 74 = .ok (.istore_n 2, 1) := by decide +kernel
theorem dX9_buildAll_75 : decode cX9_buildAll 75 = .ok (.iload_n 2, 1) := by decide +kernel
theorem dX9_buildAll_76 : decode cX9_buildAll 76 = .ok (.sipush 400, 3) := by decide +kernel
theorem dX9_buildAll_79 : decode cX9_buildAll 79 = .ok (.if_icmp .gt 73, 3) := by decide +kernel
theorem dX9_buildAll_82 : decode cX9_buildAll 82 = .ok (.aload_n 0, 1) := by decide +kernel
theorem dX9_buildAll_83 : decode cX9_buildAll 83 = .ok (.getfield 12, 3) := by decide +kernel
theorem dX9_buildAll_86 : decode cX9_buildAll 86 = .ok (.invokevirtual 73, 3) := by decide +kernel
theorem dX9_buildAll_89 : decode cX9_buildAll 89 = .ok (.aload_n 0, 1) := by decide +kernel
theorem dX9_buildAll_90 : decode cX9_buildAll 90 = .ok (.getfield 28, 3) := by decide +kernel
theorem dX9_buildAll_93 : decode cX9_buildAll 93 = .ok (.aload_n 0, 1) := by decide +kernel
theorem dX9_buildAll_94 : decode cX9_buildAll 94 = .ok (.getfield 21, 3) := by decide +kernel
theorem dX9_buildAll_97 : decode cX9_buildAll 97 = .ok (.aload_n 0, 1) := by decide +kernel
theorem dX9_buildAll_98 : decode cX9_buildAll 98 = .ok (.getfield 12, 3) := by decide +kernel
theorem dX9_buildAll_101 : decode cX9_buildAll 101 = .ok (.getfield 76, 3) := by decide +kernel
theorem dX9_buildAll_104 : decode cX9_buildAll 104 = .ok (.aload_n 0, 1) := by decide +kernel
theorem dX9_buildAll_105 : decode cX9_buildAll 105 = .ok (.getfield 12, 3) := by decide +kernel
theorem dX9_buildAll_108 : decode cX9_buildAll 108 = .ok (.getfield 79, 3) := by decide +kernel
theorem dX9_buildAll_111 : decode cX9_buildAll 111 = .ok (.iload_n 1, 1) := by decide +kernel
theorem dX9_buildAll_112 : decode cX9_buildAll 112 = .ok (.invokevirtual 82, 3) := by decide +kernel
theorem dX9_buildAll_115 : decode cX9_buildAll 115 = .ok (.istore_n 3, 1) := by decide +kernel
theorem dX9_buildAll_116 : decode cX9_buildAll 116 = .ok (.iconst 4, 1) := by decide +kernel
theorem dX9_buildAll_117 : decode cX9_buildAll 117 = .ok (.iload_n 3, 1) := by decide +kernel
theorem dX9_buildAll_118 : decode cX9_buildAll 118 = .ok (.imul, 1) := by decide +kernel
theorem dX9_buildAll_119 : decode cX9_buildAll 119 = .ok (.aload_n 0, 1) := by decide +kernel
theorem dX9_buildAll_120 : decode cX9_buildAll 120 = .ok (.invokevirtual 86, 3) := by decide +kernel
theorem dX9_buildAll_123 : decode cX9_buildAll 123 = .ok (.if_icmp .gt 6, 3) := by decide +kernel
theorem dX9_buildAll_126 : decode cX9_buildAll 126 = .ok (.goto 26, 3) := by decide +kernel
theorem dX9_buildAll_129 : decode cX9_buildAll 129 = .ok (.iload_n 2, 1) := by decide +kernel
theorem dX9_buildAll_130 : decode cX9_buildAll 130 = .ok (.bipush 20, 2) := by decide +kernel
theorem dX9_buildAll_132 : decode cX9_buildAll 132 = .ok (.irem, 1) := by decide +kernel
theorem dX9_buildAll_133 : decode cX9_buildAll 133 = .ok (.ifCond .ne 13, 3) := by decide +kernel
theorem dX9_buildAll_136 : decode cX9_buildAll 136 = .ok (.sipush 2048, 3) := by decide +kernel
theorem dX9_buildAll_139 : decode cX9_buildAll 139 = .ok (.iconst 2, 1) := by decide +kernel
theorem dX9_buildAll_140 : decode cX9_buildAll 140 = .ok (.iload_n 1, 1) := by decide +kernel
theorem dX9_buildAll_141 : decode cX9_buildAll 141 = .ok (.imul, 1) := by decide +kernel
theorem dX9_buildAll_142 : decode cX9_buildAll 142 = .ok (.invokestatic 90, 3) := by decide +kernel
theorem dX9_buildAll_145 : decode cX9_buildAll 145 = .ok (.istore_n 1, 1) := by decide +kernel
theorem dX9_buildAll_146 : decode cX9_buildAll 146 = .ok (.iinc 2 1, 3) := by decide +kernel
theorem dX9_buildAll_149 : decode cX9_buildAll 149 = .ok (.goto (-74), 3) := by decide +kernel
theorem dX9_buildAll_152 : decode cX9_buildAll 152 = .ok (.aload_n 0, 1) := by decide +kernel
theorem dX9_buildAll_153 : decode cX9_buildAll 153 = .ok (.getfield 28, 3) := by decide +kernel
theorem dX9_buildAll_156 : decode cX9_buildAll 156 = .ok (.iconst 2, 1) := by decide +kernel
theorem dX9_buildAll_157 : decode cX9_buildAll 157 = .ok (.invokevirtual 93, 3) := by decide +kernel
theorem dX9_buildAll_160 : decode cX9_buildAll 160 = .ok (.iconst 0, 1) := by decide +kernel
theorem dX9_buildAll_161 : decode cX9_buildAll 161 = .ok (.istore_n 2, 1) := by decide +kernel
theorem dX9_buildAll_162 : decode cX9_buildAll 162 = .ok (.iload_n 2, 1) := by decide +kernel
theorem dX9_buildAll_163 : decode cX9_buildAll 163 = .ok (.aload_n 0, 1) := by decide +kernel
theorem dX9_buildAll_164 : decode cX9_buildAll 164 = .ok (.getfield 28, 3) := by decide +kernel
theorem dX9_buildAll_167 : decode cX9_buildAll 167 = .ok (.getfield 97, 3) := by decide +kernel
theorem dX9_buildAll_170 : decode cX9_buildAll 170 = .ok (.if_icmp .ge 34, 3) := by decide +kernel
theorem dX9_buildAll_173 : decode cX9_buildAll 173 = .ok (.aload_n 0, 1) := by decide +kernel
theorem dX9_buildAll_174 : decode cX9_buildAll 174 = .ok (.getfield 28, 3) := by decide +kernel
theorem dX9_buildAll_177 : decode cX9_buildAll 177 = .ok (.aload_n 0, 1) := by decide +kernel
theorem dX9_buildAll_178 : decode cX9_buildAll 178 = .ok (.getfield 21, 3) := by decide +kernel
theorem dX9_buildAll_181 : decode cX9_buildAll 181 = .ok (.aload_n 0, 1) := by decide +kernel
theorem dX9_buildAll_182 : decode cX9_buildAll 182 = .ok (.getfield 12, 3) := by decide +kernel
theorem dX9_buildAll_185 : decode cX9_buildAll 185 = .ok (.iload_n 2, 1) := by decide +kernel
theorem dX9_buildAll_186 : decode cX9_buildAll 186 = .ok (.aload_n 0, 1) := by decide +kernel
theorem dX9_buildAll_187 : decode cX9_buildAll 187 = .ok (.getfield 28, 3) := by decide +kernel
theorem dX9_buildAll_190 : decode cX9_buildAll 190 = .ok (.getfield 100, 3) := by decide +kernel
theorem dX9_buildAll_193 : decode cX9_buildAll 193 = .ok (.iload_n 2, 1) := by decide +kernel
theorem dX9_buildAll_194 : decode cX9_buildAll 194 = .ok (.iaload, 1) := by decide +kernel
theorem dX9_buildAll_195 : decode cX9_buildAll 195 = .ok (.invokevirtual 104, 3) := by decide +kernel
theorem dX9_buildAll_198 : decode cX9_buildAll 198 = .ok (.iinc 2 1, 3) := by decide +kernel
theorem dX9_buildAll_201 : decode cX9_buildAll 201 = .ok (.goto (-39), 3) := by decide +kernel
theorem dX9_buildAll_204 : decode cX9_buildAll 204 = .ok (.return_, 1) := by decide +kernel
set_option maxRecDepth 20000 in
theorem ggX10_init_X5_init : GoodIn wsX10_init wsX5_init := goodIn_r _ [27, 28, 2, 3, 29, 30, 31, 32, 33, 34, 35, 36, 37, 38, 39, 40, 41, 42, 43, 6, 44, 45, 46, 47, 48, 49, 50, 51, 122, 123, 124, 125, 94, 95, 96, 126, 127, 128, 129, 130, 131, 132, 133, 134, 135, 136, 137, 138] (by decide +kernel) (by decide +kernel)
set_option maxRecDepth 20000 in
theorem gX10_init_X5_init : GoodIn wsX10_init (wsX5_init) := ggX10_init_X5_init
set_option maxRecDepth 20000 in
theorem ggX10_init_X1_init : GoodIn wsX10_init wsX1_init := goodIn_r _ [54, 55, 2, 3, 6, 56, 97, 98] (by decide +kernel) (by decide +kernel)
set_option maxRecDepth 20000 in
theorem gX10_init_X1_init : GoodIn wsX10_init (wsX1_init) := ggX10_init_X1_init
set_option maxRecDepth 20000 in
theorem ggX10_init_X6_init : GoodIn wsX10_init wsX6_init := goodIn_r _ [59, 60, 2, 3, 61, 62, 63, 64, 65, 66, 67, 68, 6, 69, 70, 71, 72, 73, 74, 75, 76, 77, 78, 79, 80, 139, 140, 141, 142, 99, 100, 101, 102, 103, 104, 105, 106, 107, 108, 109, 110, 111, 112, 113, 143, 144, 145, 146, 147, 148, 149] (by decide +kernel) (by decide +kernel)
set_option maxRecDepth 20000 in
theorem gX10_init_X6_init : GoodIn wsX10_init (wsX6_init) := ggX10_init_X6_init
set_option maxRecDepth 20000 in
theorem ggX10_init_X4_init : GoodIn wsX10_init wsX4_init := goodIn_r _ [83, 84, 2, 3, 6, 85, 86, 114, 115, 116, 117, 118, 119, 120, 121] (by decide +kernel) (by decide +kernel)
set_option maxRecDepth 20000 in
theorem gX10_init_X4_init : GoodIn wsX10_init (wsX4_init) := ggX10_init_X4_init
theorem dX10_init_0 : decode cX10_init 0 = .ok (.aload_n 0, 1) := by decide +kernel
theorem dX10_init_1 : decode cX10_init 1 = .ok (.invokespecial 3, 3) := by decide +kernel
theorem dX10_init_4 : decode cX10_init 4 = .ok (.aload_n 0, 1) := by decide +kernel
theorem dX10_init_5 : decode cX10_init 5 = .ok (.iconst 4, 1) := by decide +kernel
theorem dX10_init_6 : decode cX10_init 6 = .ok (.anewarray 9, 3) := by decide +kernel
theorem dX10_init_9 : decode cX10_init 9 = .ok (.putfield 11, 3) := by decide +kernel
theorem dX10_init_12 : decode cX10_init 12 = .ok (.aload_n 0, 1) := by decide +kernel
theorem dX10_init_13 : decode cX10_init 13 = .ok (.sipush 1400, 3) := by decide +kernel
theorem dX10_init_16 : decode cX10_init 16 = .ok (.newarray .int, 2) := by decide +kernel
theorem dX10_init_18 : decode cX10_init 18 = .ok (.putfield 15, 3) := by decide +kernel
theorem dX10_init_21 : decode cX10_init 21 = .ok (.aload_n 0, 1) := by decide +kernel
theorem dX10_init_22 : decode cX10_init 22 = .ok (.iconst 0, 1) := by decide +kernel
theorem dX10_init_23 : decode cX10_init 23 = .ok (.putfield 19, 3) := by decide +kernel
theorem dX10_init_26 : decode cX10_init 26 = .ok (.aload_n 0, 1) := by decide +kernel
theorem dX10_init_27 : decode cX10_init 27 = .ok (.new 23, 3) := by decide +kernel
theorem dX10_init_30 : decode cX10_init 30 = .ok (.dup, 1) := by decide +kernel
theorem dX10_init_31 : decode cX10_init 31 = .ok (.invokespecial 25, 3) := by decide +kernel
theorem dX10_init_34 : decode cX10_init 34 = .ok (.putfield 26, 3) := by decide +kernel
theorem dX10_init_37 : decode cX10_init 37 = .ok (.aload_n 0, 1) := by decide +kernel
theorem dX10_init_38 : decode cX10_init 38 = .ok (.new 30, 3) := by decide +kernel
theorem dX10_init_41 : decode cX10_init 41 = .ok (.dup, 1) := by decide +kernel
theorem dX10_init_42 : decode cX10_init 42 = .ok (.invokespecial 32, 3) := by decide +kernel
theorem dX10_init_45 : decode cX10_init 45 = .ok (.putfield 33, 3) := by decide +kernel
theorem dX10_init_48 : decode cX10_init 48 = .ok (.aload_n 0, 1) := by decide +kernel
theorem dX10_init_49 : decode cX10_init 49 = .ok (.new 37, 3) := by decide +kernel
theorem dX10_init_52 : decode cX10_init 52 = .ok (.dup, 1) := by decide +kernel
theorem dX10_init_53 : decode cX10_init 53 = .ok (.invokespecial 39, 3) := by decide +kernel
theorem dX10_init_56 : decode cX10_init 56 = .ok (.putfield 40, 3) := by decide +kernel
theorem dX10_init_59 : decode cX10_init 59 = .ok (.aload_n 0, 1) := by decide +kernel
theorem dX10_init_60 : decode cX10_init 60 = .ok (.new 44, 3) := by decide +kernel
theorem dX10_init_63 : decode cX10_init 63 = .ok (.dup, 1) := by decide +kernel
theorem dX10_init_64 : decode cX10_init 64 = .ok (.invokespecial 46, 3) := by decide +kernel
theorem dX10_init_67 : decode cX10_init 67 = .ok (.putfield 47, 3) := by decide +kernel
theorem dX10_init_70 : decode cX10_init 70 = .ok (.return_, 1) := by decide +kernel
set_option maxRecDepth 20000 in
theorem ggX10_feed_X10_writeInt : GoodIn wsX10_feed wsX10_writeInt := goodIn_r _ [6] (by decide +kernel) (by decide +kernel)
set_option maxRecDepth 20000 in
theorem gX10_feed_X10_writeInt : GoodIn wsX10_feed (va_wsS RX10 51 yX10_writeInt wsX10_writeInt) := goodIn_app (goodIn_of _ (by decide +kernel)) ggX10_feed_X10_writeInt
theorem dX10_feed_0 : decode cX10_feed 0 = .ok (.aload_n 0, 1) := by decide +kernel
theorem dX10_feed_1 : decode cX10_feed 1 = .ok (.getfield 19, 3) := by decide +kernel
theorem dX10_feed_4 : decode cX10_feed 4 = .ok (.bipush 20, 2) := by decide +kernel
theorem dX10_feed_6 : decode cX10_feed 6 = .ok (.iadd, 1) := by decide +kernel
theorem dX10_feed_7 : decode cX10_feed 7 = .ok (.sipush 1400, 3) := by decide +kernel
theorem dX10_feed_10 : decode cX10_feed 10 = .ok (.if_icmp .le 5, 3) := by decide +kernel
theorem dX10_feed_13 : decode cX10_feed 13 = .ok (.iconst (-1), 1) := by decide +kernel
theorem dX10_feed_14 : decode cX10_feed 14 = .ok (.ireturn, 1) := by decide +kernel
theorem dX10_feed_15 : decode cX10_feed 15 = .ok (.aload_n 0, 1) := by decide +kernel
theorem dX10_feed_16 : decode cX10_feed 16 = .ok (.getfield 15, 3) := by decide +kernel
theorem dX10_feed_19 : decode cX10_feed 19 = .ok (.aload_n 0, 1) := by decide +kernel
theorem dX10_feed_20 : decode cX10_feed 20 = .ok (.getfield 19, 3) := by decide +kernel
theorem dX10_feed_23 : decode cX10_feed 23 = .ok (.iload_n 1, 1) := by decide +kernel
theorem dX10_feed_24 : decode cX10_feed 24 = .ok (.invokestatic 51, 3) := by decide +kernel
theorem dX10_feed_27 : decode cX10_feed 27 = .ok (.aload_n 0, 1) := by decide +kernel
theorem dX10_feed_28 : decode cX10_feed 28 = .ok (.getfield 15, 3) := by decide +kernel
theorem dX10_feed_31 : decode cX10_feed 31 = .ok (.aload_n 0, 1) := by decide +kernel
theorem dX10_feed_32 : decode cX10_feed 32 = .ok (.getfield 19, 3) := by decide +kernel
theorem dX10_feed_35 : decode cX10_feed 35 = .ok (.iconst 4, 1) := by decide +kernel
theorem dX10_feed_36 : decode cX10_feed 36 = .ok (.iadd, 1) := by decide +kernel
theorem dX10_feed_37 : decode cX10_feed 37 = .ok (.iload_n 2, 1) := by decide +kernel
theorem dX10_feed_38 : decode cX10_feed 38 = .ok (.invokestatic 51, 3) := by decide +kernel
theorem dX10_feed_41 : decode cX10_feed 41 = .ok (.aload_n 0, 1) := by decide +kernel
theorem dX10_feed_42 : decode cX10_feed 42 = .ok (.getfield 15, 3) := by decide +kernel
theorem dX10_feed_45 : decode cX10_feed 45 = .ok (.aload_n 0, 1) := by decide +kernel
theorem dX10_feed_46 : decode cX10_feed 46 = .ok (.getfield 19, 3) := by decide +kernel
theorem dX10_feed_49 : decode cX10_feed 49 = .ok (.bipush 8, 2) := by decide +kernel
theorem dX10_feed_51 : decode cX10_feed 51 = .ok (.iadd, 1) := by decide +kernel
theorem dX10_feed_52 : decode cX10_feed 52 = .ok (.iload_n 3, 1) := by decide +kernel
theorem dX10_feed_53 : decode cX10_feed 53 = .ok (.invokestatic 51, 3) := by decide +kernel
theorem dX10_feed_56 : decode cX10_feed 56 = .ok (.aload_n 0, 1) := by decide +kernel
theorem dX10_feed_57 : decode cX10_feed 57 = .ok (.getfield 15, 3) := by decide +kernel
theorem dX10_feed_60 : decode cX10_feed 60 = .ok (.aload_n 0, 1) := by decide +kernel
theorem dX10_feed_61 : decode cX10_feed 61 = .ok (.getfield 19, 3) := by decide +kernel
theorem dX10_feed_64 : decode cX10_feed 64 = .ok (.bipush 12, 2) := by decide +kernel
theorem dX10_feed_66 : decode cX10_feed 66 = .ok (.iadd, 1) := by decide +kernel
theorem dX10_feed_67 : decode cX10_feed 67 = .ok (.iload 4, 2) := by decide +kernel
theorem dX10_feed_69 : decode cX10_feed 69 = .ok (.invokestatic 51, 3) := by decide +kernel
theorem dX10_feed_72 : decode cX10_feed 72 = .ok (.aload_n 0, 1) := by decide +kernel
theorem dX10_feed_73 : decode cX10_feed 73 = .ok (.getfield 15, 3) := by decide +kernel
theorem dX10_feed_76 : decode cX10_feed 76 = .ok (.aload_n 0, 1) := by decide +kernel
theorem dX10_feed_77 : decode cX10_feed 77 = .ok (.getfield 19, 3) := by decide +kernel
theorem dX10_feed_80 : decode cX10_feed 80 = .ok (.bipush 16, 2) := by decide +kernel
theorem dX10_feed_82 : decode cX10_feed 82 = .ok (.iadd, 1) := by decide +kernel
theorem dX10_feed_83 : decode cX10_feed 83 = .ok (.iload 5, 2) := by decide +kernel
theorem dX10_feed_85 : decode cX10_feed 85 = .ok (.invokestatic 51, 3) := by decide +kernel
theorem dX10_feed_88 : decode cX10_feed 88 = .ok (.aload_n 0, 1) := by decide +kernel
theorem dX10_feed_89 : decode cX10_feed 89 = .ok (.dup, 1) := by decide +kernel
theorem dX10_feed_90 : decode cX10_feed 90 = .ok (.getfield 19, 3) := by decide +kernel
theorem dX10_feed_93 : decode cX10_feed 93 = .ok (.bipush 20, 2) := by decide +kernel
theorem dX10_feed_95 : decode cX10_feed 95 = .ok (.iadd, 1) := by decide +kernel
theorem dX10_feed_96 : decode cX10_feed 96 = .ok (.putfield 19, 3) := by decide +kernel
theorem dX10_feed_99 : decode cX10_feed 99 = .ok (.aload_n 0, 1) := by decide +kernel
theorem dX10_feed_100 : decode cX10_feed 100 = .ok (.getfield 19, 3) := by decide +kernel
theorem dX10_feed_103 : decode cX10_feed 103 = .ok (.ireturn, 1) := by decide +kernel
theorem dX10_end_0 : decode cX10_end 0 = .ok (.iload_n 1, 1) := by decide +kernel
theorem dX10_end_1 : decode cX10_end 1 = .ok (.ifCond .lt 11, 3) := by decide +kernel
theorem dX10_end_4 : decode cX10_end 4 = .ok (.iload_n 1, 1) := by decide +kernel
theorem dX10_end_5 : decode cX10_end 5 = .ok (.aload_n 0, 1) := by decide +kernel
theorem dX10_end_6 : decode cX10_end 6 = .ok (.getfield 19, 3) := by decide +kernel
theorem dX10_end_9 : decode cX10_end 9 = .ok (.if_icmp .le 5, 3) := by decide +kernel
theorem dX10_end_12 : decode cX10_end 12 = .ok (.iconst 0, 1) := by decide +kernel
theorem dX10_end_13 : decode cX10_end 13 = .ok (.ireturn, 1) := by decide +kernel
theorem dX10_end_14 : decode cX10_end 14 = .ok (.aload_n 0, 1) := by decide +kernel
theorem dX10_end_15 : decode cX10_end 15 = .ok (.iload_n 1, 1) := by decide +kernel
theorem dX10_end_16 : decode cX10_end 16 = .ok (.putfield 19, 3) := by decide +kernel
theorem dX10_end_19 : decode cX10_end 19 = .ok (.iconst 1, 1) := by decide +kernel
theorem dX10_end_20 : decode cX10_end 20 = .ok (.ireturn, 1) := by decide +kernel
set_option maxRecDepth 20000 in
theorem ggX10_make_X10_isTableNumber : GoodIn wsX10_make wsX10_isTableNumber := goodIn_r _ [4] (by decide +kernel) (by decide +kernel)
set_option maxRecDepth 20000 in
theorem gX10_make_X10_isTableNumber : GoodIn wsX10_make (va_wsS RX10 55 yX10_isTableNumber wsX10_isTableNumber) := goodIn_app (goodIn_of _ (by decide +kernel)) ggX10_make_X10_isTableNumber
set_option maxRecDepth 20000 in
theorem ggX10_make_X10_areSettings : GoodIn wsX10_make wsX10_areSettings := goodIn_r _ [7] (by decide +kernel) (by decide +kernel)
set_option maxRecDepth 20000 in
theorem gX10_make_X10_areSettings : GoodIn wsX10_make (va_wsS RX10 59 yX10_areSettings wsX10_areSettings) := goodIn_app (goodIn_of _ (by decide +kernel)) ggX10_make_X10_areSettings
set_option maxRecDepth 20000 in
theorem ggX10_make_X10_slot : GoodIn wsX10_make wsX10_slot := goodIn_r _ [11, 12, 13, 14, 15, 16, 17, 18, 19, 20, 21, 22, 23, 24, 25, 26, 27, 28, 29, 30, 31, 32, 33, 34, 35, 36, 37, 38, 39, 40, 41, 42, 43, 44, 45, 46, 47, 48, 49, 50, 51, 52, 53, 54, 55, 141, 142, 143, 144, 145, 146, 147, 148, 149, 150, 151, 152, 153, 154, 155, 156, 157, 158, 159, 160, 161, 162, 163, 164, 165, 166, 167, 168, 169, 170, 171, 172, 173, 174, 175, 176, 177, 178, 179] (by decide +kernel) (by decide +kernel)
set_option maxRecDepth 20000 in
theorem gX10_make_X10_slot : GoodIn wsX10_make (wsV RX10 63 RX10 yX10_slot wsX10_slot) := goodIn_app (goodIn_of _ (by decide +kernel)) ggX10_make_X10_slot
set_option maxRecDepth 20000 in
theorem ggX10_make_X9_begin : GoodIn wsX10_make wsX9_begin := goodIn_r _ [59, 60, 61, 62, 63, 64, 65, 66, 25, 29, 67, 68, 69, 70, 24, 71, 72, 73, 148, 149, 150, 151, 152, 153, 154, 155, 156, 157, 158, 159, 164, 165, 166, 160, 161, 162, 163] (by decide +kernel) (by decide +kernel)
set_option maxRecDepth 20000 in
theorem gX10_make_X9_begin : GoodIn wsX10_make (wsV RX10 67 RX9 yX9_begin wsX9_begin) := goodIn_app (goodIn_of _ (by decide +kernel)) ggX10_make_X9_begin
set_option maxRecDepth 20000 in
theorem ggX10_make_X9_buildAll : GoodIn wsX10_make wsX9_buildAll := goodIn_r _ [77, 29, 67, 62, 78, 79, 66, 61, 80, 81, 82, 83, 25, 33, 84, 85, 86, 87, 88, 89, 90, 91, 92, 93, 24, 94, 72, 95, 96, 97, 98, 99, 100, 73, 101, 102, 103, 32, 104, 105, 106, 107, 108, 109, 110, 111, 112, 53, 48, 113, 114, 115, 116, 117, 3, 118, 119, 120, 121, 122, 15, 123, 60, 124, 125, 126, 127, 128, 49, 52, 55, 129, 130, 131, 132, 133, 50, 134, 51, 135, 54, 136, 137, 138, 139, 140, 148, 149, 150, 151, 152, 153, 154, 155, 156, 157, 158, 159, 164, 165, 166, 160, 161, 162, 163, 167, 168, 169, 170, 171, 172, 173, 174, 175, 176, 177, 178, 179] (by decide +kernel) (by decide +kernel)
set_option maxRecDepth 20000 in
theorem gX10_make_X9_buildAll : GoodIn wsX10_make (wsV RX10 71 RX9 yX9_buildAll wsX9_buildAll) := goodIn_app (goodIn_of _ (by decide +kernel)) ggX10_make_X9_buildAll
theorem dX10_make_0 : decode cX10_make 0 = .ok (.iload_n 1, 1) := by decide +kernel
theorem dX10_make_1 : decode cX10_make 1 = .ok (.invokestatic 55, 3) := by decide +kernel
theorem dX10_make_4 : decode cX10_make 4 = .ok (.ifCond .eq 13, 3) := by decide +kernel
theorem dX10_make_7 : decode cX10_make 7 = .ok (.iload_n 2, 1) := by decide +kernel
theorem dX10_make_8 : decode cX10_make 8 = .ok (.iload_n 3, 1) := by decide +kernel
theorem dX10_make_9 : decode cX10_make 9 = .ok (.iload 4, 2) := by decide +kernel
theorem dX10_make_11 : decode cX10_make 11 = .ok (.invokestatic 59, 3) := by decide +kernel
theorem dX10_make_14 : decode cX10_make 14 = .ok (.ifCond .ne 6, 3) := by decide +kernel
theorem dX10_make_17 : decode cX10_make 17 = .ok (.bipush (-2), 2) := by decide +kernel
theorem dX10_make_19 : decode cX10_make 19 = .ok (.ireturn, 1) := by decide +kernel
theorem dX10_make_20 : decode cX10_make 20 = .ok (.aload_n 0, 1) := by decide +kernel
theorem dX10_make_21 : decode cX10_make 21 = .ok (.iload_n 1, 1) := by decide +kernel
theorem dX10_make_22 : decode cX10_make 22 = .ok (.invokevirtual 63, 3) := by decide +kernel
theorem dX10_make_25 : decode cX10_make 25 = .ok (.astore 7, 2) := by decide +kernel
theorem dX10_make_27 : decode cX10_make 27 = .ok (.aload 7, 2) := by decide +kernel
theorem dX10_make_29 : decode cX10_make 29 = .ok (.iload_n 2, 1) := by decide +kernel
theorem dX10_make_30 : decode cX10_make 30 = .ok (.iload_n 3, 1) := by decide +kernel
theorem dX10_make_31 : decode cX10_make 31 = .ok (.iload 4, 2) := by decide +kernel
theorem dX10_make_33 : decode cX10_make 33 = .ok (.lload 5, 2) := by decide +kernel
theorem dX10_make_35 : decode cX10_make 35 = .ok (.invokevirtual 67, 3) := by decide +kernel
theorem dX10_make_38 : decode cX10_make 38 = .ok (.aload 7, 2) := by decide +kernel
theorem dX10_make_40 : decode cX10_make 40 = .ok (.invokevirtual 71, 3) := by decide +kernel
theorem dX10_make_43 : decode cX10_make 43 = .ok (.iconst 1, 1) := by decide +kernel
theorem dX10_make_44 : decode cX10_make 44 = .ok (.ireturn, 1) := by decide +kernel
set_option maxRecDepth 20000 in
theorem ggX10_put_X10_tableAt : GoodIn wsX10_put wsX10_tableAt := goodIn_r _ [5, 6, 7, 8, 4, 9, 183, 184, 185, 186, 187, 188, 189] (by decide +kernel) (by decide +kernel)
set_option maxRecDepth 20000 in
theorem gX10_put_X10_tableAt : GoodIn wsX10_put (wsV RX10 74 RX10 yX10_tableAt wsX10_tableAt) := goodIn_app (goodIn_of _ (by decide +kernel)) ggX10_put_X10_tableAt
set_option maxRecDepth 20000 in
theorem ggX10_put_X10_isKey : GoodIn wsX10_put wsX10_isKey := goodIn_r _ [12, 13] (by decide +kernel) (by decide +kernel)
set_option maxRecDepth 20000 in
theorem gX10_put_X10_isKey : GoodIn wsX10_put (va_wsS RX10 77 yX10_isKey wsX10_isKey) := goodIn_app (goodIn_of _ (by decide +kernel)) ggX10_put_X10_isKey
set_option maxRecDepth 20000 in
theorem ggX10_put_X9_isFullFor : GoodIn wsX10_put wsX9_isFullFor := goodIn_r _ [18, 19, 20, 21, 22, 23, 24, 25, 26, 27, 28, 29, 30, 31, 190, 191, 192, 193, 194, 195, 196, 197, 198, 199, 200, 201, 202, 203, 204] (by decide +kernel) (by decide +kernel)
set_option maxRecDepth 20000 in
theorem gX10_put_X9_isFullFor : GoodIn wsX10_put (wsV RX10 80 RX9 yX9_isFullFor wsX9_isFullFor) := goodIn_app (goodIn_of _ (by decide +kernel)) ggX10_put_X9_isFullFor
set_option maxRecDepth 20000 in
theorem ggX10_put_X9_countReads : GoodIn wsX10_put wsX9_countReads := goodIn_r _ [35, 36, 37, 38, 39, 40, 41, 42, 43, 44, 45, 46, 4, 47, 48, 49, 50, 51, 52, 53, 190, 191, 192, 193, 194, 195, 196, 197, 198, 199, 200, 201, 205, 206, 207, 208, 209, 210, 211, 212, 213, 214, 215, 216, 217] (by decide +kernel) (by decide +kernel)
set_option maxRecDepth 20000 in
theorem gX10_put_X9_countReads : GoodIn wsX10_put (wsV RX10 83 RX9 yX9_countReads wsX9_countReads) := goodIn_app (goodIn_of _ (by decide +kernel)) ggX10_put_X9_countReads
set_option maxRecDepth 20000 in
theorem ggX10_put_X9_lay : GoodIn wsX10_put wsX9_lay := goodIn_r _ [57, 19, 58, 37, 59, 60, 61, 62, 63, 64, 65, 66, 67, 68, 17, 69, 70, 71, 72, 21, 22, 23, 24, 25, 26, 27, 28, 29, 30, 31, 38, 39, 40, 41, 42, 43, 44, 45, 46, 4, 47, 48, 73, 74, 75, 76, 77, 78, 79, 80, 81, 82, 83, 50, 51, 52, 53, 84, 85, 86, 87, 88, 89, 90, 91, 92, 93, 94, 49, 95, 96, 97, 98, 99, 100, 101, 102, 103, 104, 105, 106, 107, 108, 109, 110, 111, 112, 113, 114, 115, 116, 117, 118, 119, 120, 20, 121, 122, 123, 124, 125, 126, 127, 128, 129, 130, 131, 132, 133, 134, 135, 136, 137, 138, 139, 140, 141, 142, 143, 144, 145, 146, 147, 148, 149, 150, 151, 152, 153, 154, 155, 156, 157, 158, 159, 160, 161, 162, 163, 164, 165, 166, 167, 168, 169, 170, 171, 172, 173, 174, 175, 176, 177, 178, 179, 180, 181, 182, 190, 191, 192, 193, 194, 195, 196, 197, 198, 199, 200, 201, 202, 203, 204, 205, 206, 207, 208, 209, 210, 211, 212, 213, 214, 215, 216, 217, 218, 219, 220, 221] (by decide +kernel) (by decide +kernel)
set_option maxRecDepth 20000 in
theorem gX10_put_X9_lay : GoodIn wsX10_put (wsV RX10 87 RX9 yX9_lay wsX9_lay) := goodIn_app (goodIn_of _ (by decide +kernel)) ggX10_put_X9_lay
theorem dX10_put_0 : decode cX10_put 0 = .ok (.aload_n 0, 1) := by decide +kernel
theorem dX10_put_1 : decode cX10_put 1 = .ok (.iload_n 1, 1) := by decide +kernel
theorem dX10_put_2 : decode cX10_put 2 = .ok (.invokevirtual 74, 3) := by decide +kernel
theorem dX10_put_5 : decode cX10_put 5 = .ok (.astore 4, 2) := by decide +kernel
theorem dX10_put_7 : decode cX10_put 7 = .ok (.aload 4, 2) := by decide +kernel
theorem dX10_put_9 : decode cX10_put 9 = .ok (.ifnull 10, 3) := by decide +kernel
theorem dX10_put_12 : decode cX10_put 12 = .ok (.iload_n 2, 1) := by decide +kernel
theorem dX10_put_13 : decode cX10_put 13 = .ok (.invokestatic 77, 3) := by decide +kernel
theorem dX10_put_16 : decode cX10_put 16 = .ok (.ifCond .ne 6, 3) := by decide +kernel
theorem dX10_put_19 : decode cX10_put 19 = .ok (.bipush (-2), 2) := by decide +kernel
theorem dX10_put_21 : decode cX10_put 21 = .ok (.ireturn, 1) := by decide +kernel
theorem dX10_put_22 : decode cX10_put 22 = .ok (.aload 4, 2) := by decide +kernel
theorem dX10_put_24 : decode cX10_put 24 = .ok (.iload_n 2, 1) := by decide +kernel
theorem dX10_put_25 : decode cX10_put 25 = .ok (.invokevirtual 80, 3) := by decide +kernel
theorem dX10_put_28 : decode cX10_put 28 = .ok (.ifCond .eq 6, 3) := by decide +kernel
theorem dX10_put_31 : decode cX10_put 31 = .ok (.bipush (-3), 2) := by decide +kernel
theorem dX10_put_33 : decode cX10_put 33 = .ok (.ireturn, 1) := by decide +kernel
theorem dX10_put_34 : decode cX10_put 34 = .ok (.aload 4, 2) := by decide +kernel
theorem dX10_put_36 : decode cX10_put 36 = .ok (.iload_n 2, 1) := by decide +kernel
theorem dX10_put_37 : decode cX10_put 37 = .ok (.invokevirtual 83, 3) := by decide +kernel
theorem dX10_put_40 : decode cX10_put 40 = .ok (.aload 4, 2) := by decide +kernel
theorem dX10_put_42 : decode cX10_put 42 = .ok (.iload_n 2, 1) := by decide +kernel
theorem dX10_put_43 : decode cX10_put 43 = .ok (.iload_n 3, 1) := by decide +kernel
theorem dX10_put_44 : decode cX10_put 44 = .ok (.invokevirtual 87, 3) := by decide +kernel
theorem dX10_put_47 : decode cX10_put 47 = .ok (.ireturn, 1) := by decide +kernel
set_option maxRecDepth 20000 in
theorem ggX10_get_X10_tableAt : GoodIn wsX10_get wsX10_tableAt := goodIn_r _ [7, 8, 9, 10, 6, 11, 67, 68, 69, 70, 71, 72, 73] (by decide +kernel) (by decide +kernel)
set_option maxRecDepth 20000 in
theorem gX10_get_X10_tableAt : GoodIn wsX10_get (wsV RX10 74 RX10 yX10_tableAt wsX10_tableAt) := goodIn_app (goodIn_of _ (by decide +kernel)) ggX10_get_X10_tableAt
set_option maxRecDepth 20000 in
theorem ggX10_get_X10_isKey : GoodIn wsX10_get wsX10_isKey := goodIn_r _ [14, 15] (by decide +kernel) (by decide +kernel)
set_option maxRecDepth 20000 in
theorem gX10_get_X10_isKey : GoodIn wsX10_get (va_wsS RX10 77 yX10_isKey wsX10_isKey) := goodIn_app (goodIn_of _ (by decide +kernel)) ggX10_get_X10_isKey
set_option maxRecDepth 20000 in
theorem ggX10_get_X9_countReads : GoodIn wsX10_get wsX9_countReads := goodIn_r _ [20, 21, 22, 23, 24, 25, 26, 27, 28, 29, 30, 31, 6, 32, 33, 34, 35, 36, 37, 38, 55, 56, 57, 58, 59, 60, 61, 62, 63, 64, 65, 66, 74, 75, 76, 77, 78, 79, 80, 81, 82, 83, 84, 85, 86] (by decide +kernel) (by decide +kernel)
set_option maxRecDepth 20000 in
theorem gX10_get_X9_countReads : GoodIn wsX10_get (wsV RX10 83 RX9 yX9_countReads wsX9_countReads) := goodIn_app (goodIn_of _ (by decide +kernel)) ggX10_get_X9_countReads
set_option maxRecDepth 20000 in
theorem ggX10_get_X2_find : GoodIn wsX10_get wsX2_find := goodIn_r _ [43, 44, 45, 46, 47, 48, 42, 49, 87, 88, 89] (by decide +kernel) (by decide +kernel)
set_option maxRecDepth 20000 in
theorem gX10_get_X2_find : GoodIn wsX10_get (wsV RX10 97 RX2 yX2_find wsX2_find) := goodIn_app (goodIn_of _ (by decide +kernel)) ggX10_get_X2_find
set_option maxRecDepth 20000 in
theorem ggX10_get_X2_valueAt : GoodIn wsX10_get wsX2_valueAt := goodIn_r _ [53, 44, 54, 87, 88, 89] (by decide +kernel) (by decide +kernel)
set_option maxRecDepth 20000 in
theorem gX10_get_X2_valueAt : GoodIn wsX10_get (wsV RX10 103 RX2 yX2_valueAt wsX2_valueAt) := goodIn_app (goodIn_of _ (by decide +kernel)) ggX10_get_X2_valueAt
theorem dX10_get_0 : decode cX10_get 0 = .ok (.aload_n 0, 1) := by decide +kernel
theorem dX10_get_1 : decode cX10_get 1 = .ok (.iload_n 1, 1) := by decide +kernel
theorem dX10_get_2 : decode cX10_get 2 = .ok (.invokevirtual 74, 3) := by decide +kernel
theorem dX10_get_5 : decode cX10_get 5 = .ok (.astore_n 3, 1) := by decide +kernel
theorem dX10_get_6 : decode cX10_get 6 = .ok (.aload_n 3, 1) := by decide +kernel
theorem dX10_get_7 : decode cX10_get 7 = .ok (.ifnull 10, 3) := by decide +kernel
theorem dX10_get_10 : decode cX10_get 10 = .ok (.iload_n 2, 1) := by decide +kernel
theorem dX10_get_11 : decode cX10_get 11 = .ok (.invokestatic 77, 3) := by decide +kernel
theorem dX10_get_14 : decode cX10_get 14 = .ok (.ifCond .ne 7, 3) := by decide +kernel
theorem dX10_get_17 : decode cX10_get 17 = .ok (.ldc2_w 91, 3) := by decide +kernel
theorem dX10_get_20 : decode cX10_get 20 = .ok (.lreturn, 1) := by decide +kernel
theorem dX10_get_21 : decode cX10_get 21 = .ok (.aload_n 3, 1) := by decide +kernel
theorem dX10_get_22 : decode cX10_get 22 = .ok (.iload_n 2, 1) := by decide +kernel
theorem dX10_get_23 : decode cX10_get 23 = .ok (.invokevirtual 83, 3) := by decide +kernel
theorem dX10_get_26 : decode cX10_get 26 = .ok (.aload_n 3, 1) := by decide +kernel
theorem dX10_get_27 : decode cX10_get 27 = .ok (.getfield 93, 3) := by decide +kernel
theorem dX10_get_30 : decode cX10_get 30 = .ok (.iload_n 2, 1) := by decide +kernel
theorem dX10_get_31 : decode cX10_get 31 = .ok (.invokevirtual 97, 3) := by decide +kernel
theorem dX10_get_34 : decode cX10_get 34 = .ok (.istore 4, 2) := by decide +kernel
theorem dX10_get_36 : decode cX10_get 36 = .ok (.iload 4, 2) := by decide +kernel
theorem dX10_get_38 : decode cX10_get 38 = .ok (.ifCond .ge 9, 3) := by decide +kernel
theorem dX10_get_41 : decode cX10_get 41 = .ok (.ldc2_w 91, 3) := by decide +kernel
theorem dX10_get_44 : decode cX10_get 44 = .ok (.goto 13, 3) := by decide +kernel
theorem dX10_get_47 : decode cX10_get 47 = .ok (.aload_n 3, 1) := by decide +kernel
theorem dX10_get_48 : decode cX10_get 48 = .ok (.getfield 93, 3) := by decide +kernel
theorem dX10_get_51 : decode cX10_get 51 = .ok (.iload 4, 2) := by decide +kernel
theorem dX10_get_53 : decode cX10_get 53 = .ok (.invokevirtual 103, 3) := by decide +kernel
theorem dX10_get_56 : decode cX10_get 56 = .ok (.i2l, 1) := by decide +kernel
theorem dX10_get_57 : decode cX10_get 57 = .ok (.lreturn, 1) := by decide +kernel
set_option maxRecDepth 20000 in
theorem ggX10_drop_X10_tableAt : GoodIn wsX10_drop wsX10_tableAt := goodIn_r _ [5, 6, 7, 8, 4, 9, 142, 143, 144, 145, 146, 147, 148] (by decide +kernel) (by decide +kernel)
set_option maxRecDepth 20000 in
theorem gX10_drop_X10_tableAt : GoodIn wsX10_drop (wsV RX10 74 RX10 yX10_tableAt wsX10_tableAt) := goodIn_app (goodIn_of _ (by decide +kernel)) ggX10_drop_X10_tableAt
set_option maxRecDepth 20000 in
theorem ggX10_drop_X10_isKey : GoodIn wsX10_drop wsX10_isKey := goodIn_r _ [12, 13] (by decide +kernel) (by decide +kernel)
set_option maxRecDepth 20000 in
theorem gX10_drop_X10_isKey : GoodIn wsX10_drop (va_wsS RX10 77 yX10_isKey wsX10_isKey) := goodIn_app (goodIn_of _ (by decide +kernel)) ggX10_drop_X10_isKey
set_option maxRecDepth 20000 in
theorem ggX10_drop_X9_countReads : GoodIn wsX10_drop wsX9_countReads := goodIn_r _ [18, 19, 20, 21, 22, 23, 24, 25, 26, 27, 28, 29, 4, 30, 31, 32, 33, 34, 35, 36, 149, 150, 151, 152, 153, 154, 155, 156, 157, 158, 159, 160, 161, 162, 163, 164, 165, 166, 167, 168, 169, 170, 171, 172, 173] (by decide +kernel) (by decide +kernel)
set_option maxRecDepth 20000 in
theorem gX10_drop_X9_countReads : GoodIn wsX10_drop (wsV RX10 83 RX9 yX9_countReads wsX9_countReads) := goodIn_app (goodIn_of _ (by decide +kernel)) ggX10_drop_X9_countReads
set_option maxRecDepth 20000 in
theorem ggX10_drop_X9_take : GoodIn wsX10_drop wsX9_take := goodIn_r _ [40, 41, 20, 42, 43, 44, 45, 46, 47, 48, 49, 50, 51, 52, 53, 54, 55, 56, 57, 58, 24, 59, 60, 61, 62, 63, 64, 65, 66, 67, 68, 69, 70, 71, 72, 73, 74, 75, 76, 17, 77, 78, 79, 80, 81, 82, 83, 84, 85, 86, 87, 88, 89, 90, 91, 92, 93, 94, 95, 96, 97, 98, 99, 100, 101, 102, 103, 104, 105, 106, 107, 108, 109, 110, 111, 112, 28, 26, 27, 113, 114, 115, 116, 117, 118, 29, 4, 30, 31, 119, 120, 121, 122, 123, 124, 125, 126, 127, 128, 36, 129, 130, 131, 132, 133, 134, 135, 136, 137, 138, 139, 140, 33, 34, 35, 141, 149, 150, 151, 152, 153, 154, 155, 156, 157, 158, 159, 160, 174, 175, 176, 161, 162, 163, 164, 165, 166, 167, 168, 169, 170, 171, 172, 173, 177, 178, 179, 180] (by decide +kernel) (by decide +kernel)
set_option maxRecDepth 20000 in
theorem gX10_drop_X9_take : GoodIn wsX10_drop (wsV RX10 106 RX9 yX9_take wsX9_take) := goodIn_app (goodIn_of _ (by decide +kernel)) ggX10_drop_X9_take
theorem dX10_drop_0 : decode cX10_drop 0 = .ok (.aload_n 0, 1) := by decide +kernel
theorem dX10_drop_1 : decode cX10_drop 1 = .ok (.iload_n 1, 1) := by decide +kernel
theorem dX10_drop_2 : decode cX10_drop 2 = .ok (.invokevirtual 74, 3) := by decide +kernel
theorem dX10_drop_5 : decode cX10_drop 5 = .ok (.astore_n 3, 1) := by decide +kernel
theorem dX10_drop_6 : decode cX10_drop 6 = .ok (.aload_n 3, 1) := by decide +kernel
theorem dX10_drop_7 : decode cX10_drop 7 = .ok (.ifnull 10, 3) := by decide +kernel
theorem dX10_drop_10 : decode cX10_drop 10 = .ok (.iload_n 2, 1) := by decide +kernel
theorem dX10_drop_11 : decode cX10_drop 11 = .ok (.invokestatic 77, 3) := by decide +kernel
theorem dX10_drop_14 : decode cX10_drop 14 = .ok (.ifCond .ne 6, 3) := by decide +kernel
theorem dX10_drop_17 : decode cX10_drop 17 = .ok (.bipush (-2), 2) := by decide +kernel
theorem dX10_drop_19 : decode cX10_drop 19 = .ok (.ireturn, 1) := by decide +kernel
theorem dX10_drop_20 : decode cX10_drop 20 = .ok (.aload_n 3, 1) := by decide +kernel
theorem dX10_drop_21 : decode cX10_drop 21 = .ok (.iload_n 2, 1) := by decide +kernel
theorem dX10_drop_22 : decode cX10_drop 22 = .ok (.invokevirtual 83, 3) := by decide +kernel
theorem dX10_drop_25 : decode cX10_drop 25 = .ok (.aload_n 3, 1) := by decide +kernel
theorem dX10_drop_26 : decode cX10_drop 26 = .ok (.iload_n 2, 1) := by decide +kernel
theorem dX10_drop_27 : decode cX10_drop 27 = .ok (.invokevirtual 106, 3) := by decide +kernel
theorem dX10_drop_30 : decode cX10_drop 30 = .ok (.ireturn, 1) := by decide +kernel
set_option maxRecDepth 20000 in
theorem ggX10_build_X10_tableAt : GoodIn wsX10_build wsX10_tableAt := goodIn_r _ [8, 9, 10, 11, 7, 12, 117, 118, 119, 120, 121, 122, 123] (by decide +kernel) (by decide +kernel)
set_option maxRecDepth 20000 in
theorem gX10_build_X10_tableAt : GoodIn wsX10_build (wsV RX10 74 RX10 yX10_tableAt wsX10_tableAt) := goodIn_app (goodIn_of _ (by decide +kernel)) ggX10_build_X10_tableAt
set_option maxRecDepth 20000 in
theorem ggX10_build_X9_buildAll : GoodIn wsX10_build wsX9_buildAll := goodIn_r _ [17, 18, 19, 20, 21, 22, 23, 24, 25, 26, 27, 28, 29, 30, 31, 32, 33, 34, 35, 36, 37, 38, 39, 40, 41, 42, 43, 44, 45, 46, 47, 48, 49, 50, 51, 52, 53, 54, 55, 56, 57, 58, 59, 60, 61, 62, 63, 64, 65, 66, 67, 68, 69, 70, 7, 71, 72, 73, 74, 75, 16, 76, 77, 78, 79, 80, 81, 82, 83, 84, 85, 86, 87, 88, 89, 90, 91, 92, 93, 94, 95, 96, 97, 98, 99, 100, 101, 102, 103, 104, 105, 106, 107, 108, 109, 110, 111, 112, 124, 125, 126, 113, 114, 115, 116, 127, 128, 129, 130, 131, 132, 133, 134, 135, 136, 137, 138, 139] (by decide +kernel) (by decide +kernel)
set_option maxRecDepth 20000 in
theorem gX10_build_X9_buildAll : GoodIn wsX10_build (wsV RX10 71 RX9 yX9_buildAll wsX9_buildAll) := goodIn_app (goodIn_of _ (by decide +kernel)) ggX10_build_X9_buildAll
theorem dX10_build_0 : decode cX10_build 0 = .ok (.aload_n 0, 1) := by decide +kernel
theorem dX10_build_1 : decode cX10_build 1 = .ok (.iload_n 1, 1) := by decide +kernel
theorem dX10_build_2 : decode cX10_build 2 = .ok (.invokevirtual 74, 3) := by decide +kernel
theorem dX10_build_5 : decode cX10_build 5 = .ok (.astore_n 2, 1) := by decide +kernel
theorem dX10_build_6 : decode cX10_build 6 = .ok (.aload_n 2, 1) := by decide +kernel
theorem dX10_build_7 : decode cX10_build 7 = .ok (.ifnonnull 6, 3) := by decide +kernel
theorem dX10_build_10 : decode cX10_build 10 = .ok (.bipush (-2), 2) := by decide +kernel
theorem dX10_build_12 : decode cX10_build 12 = .ok (.ireturn, 1) := by decide +kernel
theorem dX10_build_13 : decode cX10_build 13 = .ok (.aload_n 2, 1) := by decide +kernel
theorem dX10_build_14 : decode cX10_build 14 = .ok (.getfield 109, 3) := by decide +kernel
theorem dX10_build_17 : decode cX10_build 17 = .ok (.getfield 113, 3) := by decide +kernel
theorem dX10_build_20 : decode cX10_build 20 = .ok (.istore_n 3, 1) := by decide +kernel
theorem dX10_build_21 : decode cX10_build 21 = .ok (.aload_n 2, 1) := by decide +kernel
theorem dX10_build_22 : decode cX10_build 22 = .ok (.invokevirtual 71, 3) := by decide +kernel
theorem dX10_build_25 : decode cX10_build 25 = .ok (.aload_n 2, 1) := by decide +kernel
theorem dX10_build_26 : decode cX10_build 26 = .ok (.dup, 1) := by decide +kernel
theorem dX10_build_27 : decode cX10_build 27 = .ok (.getfield 118, 3) := by decide +kernel
theorem dX10_build_30 : decode cX10_build 30 = .ok (.iconst 1, 1) := by decide +kernel
theorem dX10_build_31 : decode cX10_build 31 = .ok (.iadd, 1) := by decide +kernel
theorem dX10_build_32 : decode cX10_build 32 = .ok (.putfield 118, 3) := by decide +kernel
theorem dX10_build_35 : decode cX10_build 35 = .ok (.aload_n 2, 1) := by decide +kernel
theorem dX10_build_36 : decode cX10_build 36 = .ok (.getfield 109, 3) := by decide +kernel
theorem dX10_build_39 : decode cX10_build 39 = .ok (.getfield 113, 3) := by decide +kernel
theorem dX10_build_42 : decode cX10_build 42 = .ok (.iload_n 3, 1) := by decide +kernel
theorem dX10_build_43 : decode cX10_build 43 = .ok (.isub, 1) := by decide +kernel
theorem dX10_build_44 : decode cX10_build 44 = .ok (.ireturn, 1) := by decide +kernel
set_option maxRecDepth 20000 in
theorem ggX10_has_X10_tableAt : GoodIn wsX10_has wsX10_tableAt := goodIn_r _ [25, 26, 27, 28, 24, 29, 69, 70, 71, 72, 73, 74, 75] (by decide +kernel) (by decide +kernel)
set_option maxRecDepth 20000 in
theorem gX10_has_X10_tableAt : GoodIn wsX10_has (wsV RX10 74 RX10 yX10_tableAt wsX10_tableAt) := goodIn_app (goodIn_of _ (by decide +kernel)) ggX10_has_X10_tableAt
set_option maxRecDepth 20000 in
theorem ggX10_has_X9_mostRooms : GoodIn wsX10_has wsX9_mostRooms := goodIn_r _ [34, 35, 36, 37, 38, 39, 40, 41, 42, 43, 44, 45, 46, 47, 48] (by decide +kernel) (by decide +kernel)
set_option maxRecDepth 20000 in
theorem gX10_has_X9_mostRooms : GoodIn wsX10_has (wsV RX10 142 RX9 yX9_mostRooms wsX9_mostRooms) := goodIn_app (goodIn_of _ (by decide +kernel)) ggX10_has_X9_mostRooms
theorem dX10_has_0 : decode cX10_has 0 = .ok (.aload_n 0, 1) := by decide +kernel
theorem dX10_has_1 : decode cX10_has 1 = .ok (.iload_n 1, 1) := by decide +kernel
theorem dX10_has_2 : decode cX10_has 2 = .ok (.invokevirtual 74, 3) := by decide +kernel
theorem dX10_has_5 : decode cX10_has 5 = .ok (.astore_n 3, 1) := by decide +kernel
theorem dX10_has_6 : decode cX10_has 6 = .ok (.aload_n 3, 1) := by decide +kernel
theorem dX10_has_7 : decode cX10_has 7 = .ok (.ifnonnull 7, 3) := by decide +kernel
theorem dX10_has_10 : decode cX10_has 10 = .ok (.ldc2_w 91, 3) := by decide +kernel
theorem dX10_has_13 : decode cX10_has 13 = .ok (.lreturn, 1) := by decide +kernel
theorem dX10_has_14 : decode cX10_has 14 = .ok (.iload_n 2, 1) := by decide +kernel
theorem dX10_has_15 : decode cX10_has 15 = .ok (.tableswitch 203 0 16 #[81, 90, 96, 102, 111, 120, 126, 135, 144, 150, 159, 165, 171, 177, 185, 191, 197], 81) := by decide +kernel
theorem dX10_has_96 : decode cX10_has 96 = .ok (.aload_n 3, 1) := by decide +kernel
theorem dX10_has_97 : decode cX10_has 97 = .ok (.getfield 93, 3) := by decide +kernel
theorem dX10_has_100 : decode cX10_has 100 = .ok (.getfield 121, 3) := by decide +kernel
theorem dX10_has_103 : decode cX10_has 103 = .ok (.i2l, 1) := by decide +kernel
theorem dX10_has_104 : decode cX10_has 104 = .ok (.lreturn, 1) := by decide +kernel
theorem dX10_has_105 : decode cX10_has 105 = .ok (.aload_n 3, 1) := by decide +kernel
theorem dX10_has_106 : decode cX10_has 106 = .ok (.getfield 124, 3) := by decide +kernel
theorem dX10_has_109 : decode cX10_has 109 = .ok (.i2l, 1) := by decide +kernel
theorem dX10_has_110 : decode cX10_has 110 = .ok (.lreturn, 1) := by decide +kernel
theorem dX10_has_111 : decode cX10_has 111 = .ok (.aload_n 3, 1) := by decide +kernel
theorem dX10_has_112 : decode cX10_has 112 = .ok (.getfield 127, 3) := by decide +kernel
theorem dX10_has_115 : decode cX10_has 115 = .ok (.i2l, 1) := by decide +kernel
theorem dX10_has_116 : decode cX10_has 116 = .ok (.lreturn, 1) := by decide +kernel
theorem dX10_has_117 : decode cX10_has 117 = .ok (.aload_n 3, 1) := by decide +kernel
theorem dX10_has_118 : decode cX10_has 118 = .ok (.getfield 130, 3) := by decide +kernel
theorem dX10_has_121 : decode cX10_has 121 = .ok (.getfield 134, 3) := by decide +kernel
theorem dX10_has_124 : decode cX10_has 124 = .ok (.i2l, 1) := by decide +kernel
theorem dX10_has_125 : decode cX10_has 125 = .ok (.lreturn, 1) := by decide +kernel
theorem dX10_has_126 : decode cX10_has 126 = .ok (.aload_n 3, 1) := by decide +kernel
theorem dX10_has_127 : decode cX10_has 127 = .ok (.getfield 130, 3) := by decide +kernel
theorem dX10_has_130 : decode cX10_has 130 = .ok (.getfield 139, 3) := by decide +kernel
theorem dX10_has_133 : decode cX10_has 133 = .ok (.i2l, 1) := by decide +kernel
theorem dX10_has_134 : decode cX10_has 134 = .ok (.lreturn, 1) := by decide +kernel
theorem dX10_has_135 : decode cX10_has 135 = .ok (.aload_n 3, 1) := by decide +kernel
theorem dX10_has_136 : decode cX10_has 136 = .ok (.invokevirtual 142, 3) := by decide +kernel
theorem dX10_has_139 : decode cX10_has 139 = .ok (.i2l, 1) := by decide +kernel
theorem dX10_has_140 : decode cX10_has 140 = .ok (.lreturn, 1) := by decide +kernel
theorem dX10_has_141 : decode cX10_has 141 = .ok (.aload_n 3, 1) := by decide +kernel
theorem dX10_has_142 : decode cX10_has 142 = .ok (.getfield 130, 3) := by decide +kernel
theorem dX10_has_145 : decode cX10_has 145 = .ok (.getfield 146, 3) := by decide +kernel
theorem dX10_has_148 : decode cX10_has 148 = .ok (.i2l, 1) := by decide +kernel
theorem dX10_has_149 : decode cX10_has 149 = .ok (.lreturn, 1) := by decide +kernel
theorem dX10_has_150 : decode cX10_has 150 = .ok (.aload_n 3, 1) := by decide +kernel
theorem dX10_has_151 : decode cX10_has 151 = .ok (.getfield 130, 3) := by decide +kernel
theorem dX10_has_154 : decode cX10_has 154 = .ok (.getfield 149, 3) := by decide +kernel
theorem dX10_has_157 : decode cX10_has 157 = .ok (.i2l, 1) := by decide +kernel
theorem dX10_has_158 : decode cX10_has 158 = .ok (.lreturn, 1) := by decide +kernel
theorem dX10_has_159 : decode cX10_has 159 = .ok (.aload_n 3, 1) := by decide +kernel
theorem dX10_has_160 : decode cX10_has 160 = .ok (.getfield 152, 3) := by decide +kernel
theorem dX10_has_163 : decode cX10_has 163 = .ok (.i2l, 1) := by decide +kernel
theorem dX10_has_164 : decode cX10_has 164 = .ok (.lreturn, 1) := by decide +kernel
theorem dX10_has_165 : decode cX10_has 165 = .ok (.aload_n 3, 1) := by decide +kernel
theorem dX10_has_166 : decode cX10_has 166 = .ok (.getfield 109, 3) := by decide +kernel
theorem dX10_has_169 : decode cX10_has 169 = .ok (.getfield 113, 3) := by decide +kernel
theorem dX10_has_172 : decode cX10_has 172 = .ok (.i2l, 1) := by decide +kernel
theorem dX10_has_173 : decode cX10_has 173 = .ok (.lreturn, 1) := by decide +kernel
theorem dX10_has_174 : decode cX10_has 174 = .ok (.aload_n 3, 1) := by decide +kernel
theorem dX10_has_175 : decode cX10_has 175 = .ok (.getfield 155, 3) := by decide +kernel
theorem dX10_has_178 : decode cX10_has 178 = .ok (.i2l, 1) := by decide +kernel
theorem dX10_has_179 : decode cX10_has 179 = .ok (.lreturn, 1) := by decide +kernel
theorem dX10_has_180 : decode cX10_has 180 = .ok (.aload_n 3, 1) := by decide +kernel
theorem dX10_has_181 : decode cX10_has 181 = .ok (.getfield 118, 3) := by decide +kernel
theorem dX10_has_184 : decode cX10_has 184 = .ok (.i2l, 1) := by decide +kernel
theorem dX10_has_185 : decode cX10_has 185 = .ok (.lreturn, 1) := by decide +kernel
theorem dX10_has_186 : decode cX10_has 186 = .ok (.aload_n 3, 1) := by decide +kernel
theorem dX10_has_187 : decode cX10_has 187 = .ok (.getfield 158, 3) := by decide +kernel
theorem dX10_has_190 : decode cX10_has 190 = .ok (.i2l, 1) := by decide +kernel
theorem dX10_has_191 : decode cX10_has 191 = .ok (.lreturn, 1) := by decide +kernel
theorem dX10_has_192 : decode cX10_has 192 = .ok (.aload_n 3, 1) := by decide +kernel
theorem dX10_has_193 : decode cX10_has 193 = .ok (.getfield 109, 3) := by decide +kernel
theorem dX10_has_196 : decode cX10_has 196 = .ok (.getfield 161, 3) := by decide +kernel
theorem dX10_has_199 : decode cX10_has 199 = .ok (.lreturn, 1) := by decide +kernel
theorem dX10_has_200 : decode cX10_has 200 = .ok (.aload_n 3, 1) := by decide +kernel
theorem dX10_has_201 : decode cX10_has 201 = .ok (.getfield 165, 3) := by decide +kernel
theorem dX10_has_204 : decode cX10_has 204 = .ok (.i2l, 1) := by decide +kernel
theorem dX10_has_205 : decode cX10_has 205 = .ok (.lreturn, 1) := by decide +kernel
theorem dX10_has_206 : decode cX10_has 206 = .ok (.aload_n 3, 1) := by decide +kernel
theorem dX10_has_207 : decode cX10_has 207 = .ok (.getfield 168, 3) := by decide +kernel
theorem dX10_has_210 : decode cX10_has 210 = .ok (.i2l, 1) := by decide +kernel
theorem dX10_has_211 : decode cX10_has 211 = .ok (.lreturn, 1) := by decide +kernel
theorem dX10_has_212 : decode cX10_has 212 = .ok (.aload_n 3, 1) := by decide +kernel
theorem dX10_has_213 : decode cX10_has 213 = .ok (.getfield 171, 3) := by decide +kernel
theorem dX10_has_216 : decode cX10_has 216 = .ok (.i2l, 1) := by decide +kernel
theorem dX10_has_217 : decode cX10_has 217 = .ok (.lreturn, 1) := by decide +kernel
theorem dX10_has_218 : decode cX10_has 218 = .ok (.ldc2_w 91, 3) := by decide +kernel
theorem dX10_has_221 : decode cX10_has 221 = .ok (.lreturn, 1) := by decide +kernel
set_option maxRecDepth 20000 in
theorem ggX10_bucket_X10_tableAt : GoodIn wsX10_bucket wsX10_tableAt := goodIn_r _ [12, 13, 14, 15, 11, 16, 48, 49, 50, 51, 52, 53, 54] (by decide +kernel) (by decide +kernel)
set_option maxRecDepth 20000 in
theorem gX10_bucket_X10_tableAt : GoodIn wsX10_bucket (wsV RX10 74 RX10 yX10_tableAt wsX10_tableAt) := goodIn_app (goodIn_of _ (by decide +kernel)) ggX10_bucket_X10_tableAt
set_option maxRecDepth 20000 in
theorem ggX10_bucket_X3_isBucket : GoodIn wsX10_bucket wsX3_isBucket := goodIn_r _ [21, 22, 35, 36, 37, 38, 39, 40, 41, 42, 43, 44, 45, 46, 47] (by decide +kernel) (by decide +kernel)
set_option maxRecDepth 20000 in
theorem gX10_bucket_X3_isBucket : GoodIn wsX10_bucket (wsV RX10 174 RX3 yX3_isBucket wsX3_isBucket) := goodIn_app (goodIn_of _ (by decide +kernel)) ggX10_bucket_X3_isBucket
theorem dX10_bucket_0 : decode cX10_bucket 0 = .ok (.aload_n 0, 1) := by decide +kernel
theorem dX10_bucket_1 : decode cX10_bucket 1 = .ok (.iload_n 1, 1) := by decide +kernel
theorem dX10_bucket_2 : decode cX10_bucket 2 = .ok (.invokevirtual 74, 3) := by decide +kernel
theorem dX10_bucket_5 : decode cX10_bucket 5 = .ok (.astore 4, 2) := by decide +kernel
theorem dX10_bucket_7 : decode cX10_bucket 7 = .ok (.aload 4, 2) := by decide +kernel
theorem dX10_bucket_9 : decode cX10_bucket 9 = .ok (.ifnull 15, 3) := by decide +kernel
theorem dX10_bucket_12 : decode cX10_bucket 12 = .ok (.aload 4, 2) := by decide +kernel
theorem dX10_bucket_14 : decode cX10_bucket 14 = .ok (.getfield 130, 3) := by decide +kernel
theorem dX10_bucket_17 : decode cX10_bucket 17 = .ok (.iload_n 2, 1) := by decide +kernel
theorem dX10_bucket_18 : decode cX10_bucket 18 = .ok (.invokevirtual 174, 3) := by decide +kernel
theorem dX10_bucket_21 : decode cX10_bucket 21 = .ok (.ifCond .ne 7, 3) := by decide +kernel
theorem dX10_bucket_24 : decode cX10_bucket 24 = .ok (.ldc2_w 91, 3) := by decide +kernel
theorem dX10_bucket_27 : decode cX10_bucket 27 = .ok (.lreturn, 1) := by decide +kernel
theorem dX10_bucket_28 : decode cX10_bucket 28 = .ok (.aload 4, 2) := by decide +kernel
theorem dX10_bucket_30 : decode cX10_bucket 30 = .ok (.getfield 130, 3) := by decide +kernel
theorem dX10_bucket_33 : decode cX10_bucket 33 = .ok (.astore 5, 2) := by decide +kernel
theorem dX10_bucket_35 : decode cX10_bucket 35 = .ok (.iload_n 3, 1) := by decide +kernel
theorem dX10_bucket_36 : decode cX10_bucket 36 = .ok (.tableswitch 100 0 3 #[32, 41, 50, 75], 32) := by decide +kernel
theorem dX10_bucket_68 : decode cX10_bucket 68 = .ok (.aload 5, 2) := by decide +kernel
theorem dX10_bucket_70 : decode cX10_bucket 70 = .ok (.getfield 177, 3) := by decide +kernel
theorem dX10_bucket_73 : decode cX10_bucket 73 = .ok (.iload_n 2, 1) := by decide +kernel
theorem dX10_bucket_74 : decode cX10_bucket 74 = .ok (.iaload, 1) := by decide +kernel
theorem dX10_bucket_75 : decode cX10_bucket 75 = .ok (.i2l, 1) := by decide +kernel
theorem dX10_bucket_76 : decode cX10_bucket 76 = .ok (.lreturn, 1) := by decide +kernel
theorem dX10_bucket_77 : decode cX10_bucket 77 = .ok (.aload 5, 2) := by decide +kernel
theorem dX10_bucket_79 : decode cX10_bucket 79 = .ok (.getfield 180, 3) := by decide +kernel
theorem dX10_bucket_82 : decode cX10_bucket 82 = .ok (.iload_n 2, 1) := by decide +kernel
theorem dX10_bucket_83 : decode cX10_bucket 83 = .ok (.iaload, 1) := by decide +kernel
theorem dX10_bucket_84 : decode cX10_bucket 84 = .ok (.i2l, 1) := by decide +kernel
theorem dX10_bucket_85 : decode cX10_bucket 85 = .ok (.lreturn, 1) := by decide +kernel
theorem dX10_bucket_86 : decode cX10_bucket 86 = .ok (.aload 5, 2) := by decide +kernel
theorem dX10_bucket_88 : decode cX10_bucket 88 = .ok (.getfield 180, 3) := by decide +kernel
theorem dX10_bucket_91 : decode cX10_bucket 91 = .ok (.iload_n 2, 1) := by decide +kernel
theorem dX10_bucket_92 : decode cX10_bucket 92 = .ok (.iaload, 1) := by decide +kernel
theorem dX10_bucket_93 : decode cX10_bucket 93 = .ok (.ifCond .ne 9, 3) := by decide +kernel
theorem dX10_bucket_96 : decode cX10_bucket 96 = .ok (.ldc2_w 183, 3) := by decide +kernel
theorem dX10_bucket_99 : decode cX10_bucket 99 = .ok (.goto 11, 3) := by decide +kernel
theorem dX10_bucket_102 : decode cX10_bucket 102 = .ok (.aload 5, 2) := by decide +kernel
theorem dX10_bucket_104 : decode cX10_bucket 104 = .ok (.getfield 185, 3) := by decide +kernel
theorem dX10_bucket_107 : decode cX10_bucket 107 = .ok (.iload_n 2, 1) := by decide +kernel
theorem dX10_bucket_108 : decode cX10_bucket 108 = .ok (.iaload, 1) := by decide +kernel
theorem dX10_bucket_109 : decode cX10_bucket 109 = .ok (.i2l, 1) := by decide +kernel
theorem dX10_bucket_110 : decode cX10_bucket 110 = .ok (.lreturn, 1) := by decide +kernel
theorem dX10_bucket_111 : decode cX10_bucket 111 = .ok (.aload 5, 2) := by decide +kernel
theorem dX10_bucket_113 : decode cX10_bucket 113 = .ok (.getfield 180, 3) := by decide +kernel
theorem dX10_bucket_116 : decode cX10_bucket 116 = .ok (.iload_n 2, 1) := by decide +kernel
theorem dX10_bucket_117 : decode cX10_bucket 117 = .ok (.iaload, 1) := by decide +kernel
theorem dX10_bucket_118 : decode cX10_bucket 118 = .ok (.ifCond .ne 9, 3) := by decide +kernel
theorem dX10_bucket_121 : decode cX10_bucket 121 = .ok (.ldc2_w 183, 3) := by decide +kernel
theorem dX10_bucket_124 : decode cX10_bucket 124 = .ok (.goto 11, 3) := by decide +kernel
theorem dX10_bucket_127 : decode cX10_bucket 127 = .ok (.aload 5, 2) := by decide +kernel
theorem dX10_bucket_129 : decode cX10_bucket 129 = .ok (.getfield 188, 3) := by decide +kernel
theorem dX10_bucket_132 : decode cX10_bucket 132 = .ok (.iload_n 2, 1) := by decide +kernel
theorem dX10_bucket_133 : decode cX10_bucket 133 = .ok (.iaload, 1) := by decide +kernel
theorem dX10_bucket_134 : decode cX10_bucket 134 = .ok (.i2l, 1) := by decide +kernel
theorem dX10_bucket_135 : decode cX10_bucket 135 = .ok (.lreturn, 1) := by decide +kernel
theorem dX10_bucket_136 : decode cX10_bucket 136 = .ok (.ldc2_w 91, 3) := by decide +kernel
theorem dX10_bucket_139 : decode cX10_bucket 139 = .ok (.lreturn, 1) := by decide +kernel
set_option maxRecDepth 20000 in
theorem ggX10_room_X10_tableAt : GoodIn wsX10_room wsX10_tableAt := goodIn_r _ [7, 8, 9, 10, 6, 11, 49, 50, 51, 52, 53, 54, 55] (by decide +kernel) (by decide +kernel)
set_option maxRecDepth 20000 in
theorem gX10_room_X10_tableAt : GoodIn wsX10_room (wsV RX10 74 RX10 yX10_tableAt wsX10_tableAt) := goodIn_app (goodIn_of _ (by decide +kernel)) ggX10_room_X10_tableAt
set_option maxRecDepth 20000 in
theorem ggX10_room_X3_isBucket : GoodIn wsX10_room wsX3_isBucket := goodIn_r _ [16, 17, 56, 57, 58, 59, 60, 61, 62, 63, 64, 65, 66, 67, 68] (by decide +kernel) (by decide +kernel)
set_option maxRecDepth 20000 in
theorem gX10_room_X3_isBucket : GoodIn wsX10_room (wsV RX10 174 RX3 yX3_isBucket wsX3_isBucket) := goodIn_app (goodIn_of _ (by decide +kernel)) ggX10_room_X3_isBucket
set_option maxRecDepth 20000 in
theorem ggX10_room_X3_roomsOf : GoodIn wsX10_room wsX3_roomsOf := goodIn_r _ [21, 17, 22, 56, 57, 58, 59, 60, 61, 62, 63, 64, 65, 66, 67, 68] (by decide +kernel) (by decide +kernel)
set_option maxRecDepth 20000 in
theorem gX10_room_X3_roomsOf : GoodIn wsX10_room (wsV RX10 191 RX3 yX3_roomsOf wsX3_roomsOf) := goodIn_app (goodIn_of _ (by decide +kernel)) ggX10_room_X3_roomsOf
set_option maxRecDepth 20000 in
theorem ggX10_room_X3_tenant : GoodIn wsX10_room wsX3_tenant := goodIn_r _ [26, 27, 28, 29, 56, 57, 58, 59, 60, 61, 62, 63, 64, 65, 66, 67, 68] (by decide +kernel) (by decide +kernel)
set_option maxRecDepth 20000 in
theorem gX10_room_X3_tenant : GoodIn wsX10_room (wsV RX10 194 RX3 yX3_tenant wsX3_tenant) := goodIn_app (goodIn_of _ (by decide +kernel)) ggX10_room_X3_tenant
set_option maxRecDepth 20000 in
theorem ggX10_room_X2_keyAt : GoodIn wsX10_room wsX2_keyAt := goodIn_r _ [34, 35, 36, 69, 70, 71] (by decide +kernel) (by decide +kernel)
set_option maxRecDepth 20000 in
theorem gX10_room_X2_keyAt : GoodIn wsX10_room (wsV RX10 197 RX2 yX2_keyAt wsX2_keyAt) := goodIn_app (goodIn_of _ (by decide +kernel)) ggX10_room_X2_keyAt
theorem dX10_room_0 : decode cX10_room 0 = .ok (.aload_n 0, 1) := by decide +kernel
theorem dX10_room_1 : decode cX10_room 1 = .ok (.iload_n 1, 1) := by decide +kernel
theorem dX10_room_2 : decode cX10_room 2 = .ok (.invokevirtual 74, 3) := by decide +kernel
theorem dX10_room_5 : decode cX10_room 5 = .ok (.astore 4, 2) := by decide +kernel
theorem dX10_room_7 : decode cX10_room 7 = .ok (.aload 4, 2) := by decide +kernel
theorem dX10_room_9 : decode cX10_room 9 = .ok (.ifnull 15, 3) := by decide +kernel
theorem dX10_room_12 : decode cX10_room 12 = .ok (.aload 4, 2) := by decide +kernel
theorem dX10_room_14 : decode cX10_room 14 = .ok (.getfield 130, 3) := by decide +kernel
theorem dX10_room_17 : decode cX10_room 17 = .ok (.iload_n 2, 1) := by decide +kernel
theorem dX10_room_18 : decode cX10_room 18 = .ok (.invokevirtual 174, 3) := by decide +kernel
theorem dX10_room_21 : decode cX10_room 21 = .ok (.ifCond .ne 6, 3) := by decide +kernel
theorem dX10_room_24 : decode cX10_room 24 = .ok (.bipush (-2), 2) := by decide +kernel
theorem dX10_room_26 : decode cX10_room 26 = .ok (.ireturn, 1) := by decide +kernel
theorem dX10_room_27 : decode cX10_room 27 = .ok (.iload_n 3, 1) := by decide +kernel
theorem dX10_room_28 : decode cX10_room 28 = .ok (.ifCond .lt 16, 3) := by decide +kernel
theorem dX10_room_31 : decode cX10_room 31 = .ok (.iload_n 3, 1) := by decide +kernel
theorem dX10_room_32 : decode cX10_room 32 = .ok (.aload 4, 2) := by decide +kernel
theorem dX10_room_34 : decode cX10_room 34 = .ok (.getfield 130, 3) := by decide +kernel
theorem dX10_room_37 : decode cX10_room 37 = .ok (.iload_n 2, 1) := by decide +kernel
theorem dX10_room_38 : decode cX10_room 38 = .ok (.invokevirtual 191, 3) := by decide +kernel
theorem dX10_room_41 : decode cX10_room 41 = .ok (.if_icmp .lt 6, 3) := by decide +kernel
theorem dX10_room_44 : decode cX10_room 44 = .ok (.bipush (-2), 2) := by decide +kernel
theorem dX10_room_46 : decode cX10_room 46 = .ok (.ireturn, 1) := by decide +kernel
theorem dX10_room_47 : decode cX10_room 47 = .ok (.aload 4, 2) := by decide +kernel
theorem dX10_room_49 : decode cX10_room 49 = .ok (.getfield 130, 3) := by decide +kernel
theorem dX10_room_52 : decode cX10_room 52 = .ok (.iload_n 2, 1) := by decide +kernel
theorem dX10_room_53 : decode cX10_room 53 = .ok (.iload_n 3, 1) := by decide +kernel
theorem dX10_room_54 : decode cX10_room 54 = .ok (.invokevirtual 194, 3) := by decide +kernel
theorem dX10_room_57 : decode cX10_room 57 = .ok (.istore 5, 2) := by decide +kernel
theorem dX10_room_59 : decode cX10_room 59 = .ok (.iload 5, 2) := by decide +kernel
theorem dX10_room_61 : decode cX10_room 61 = .ok (.ifCond .ge 7, 3) := by decide +kernel
theorem dX10_room_64 : decode cX10_room 64 = .ok (.iconst (-1), 1) := by decide +kernel
theorem dX10_room_65 : decode cX10_room 65 = .ok (.goto 13, 3) := by decide +kernel
theorem dX10_room_68 : decode cX10_room 68 = .ok (.aload 4, 2) := by decide +kernel
theorem dX10_room_70 : decode cX10_room 70 = .ok (.getfield 93, 3) := by decide +kernel
theorem dX10_room_73 : decode cX10_room 73 = .ok (.iload 5, 2) := by decide +kernel
theorem dX10_room_75 : decode cX10_room 75 = .ok (.invokevirtual 197, 3) := by decide +kernel
theorem dX10_room_78 : decode cX10_room 78 = .ok (.ireturn, 1) := by decide +kernel
set_option maxRecDepth 20000 in
theorem ggX10_place_X10_tableAt : GoodIn wsX10_place wsX10_tableAt := goodIn_r _ [6, 7, 8, 9, 5, 10, 49, 50, 51, 52, 53, 54, 55] (by decide +kernel) (by decide +kernel)
set_option maxRecDepth 20000 in
theorem gX10_place_X10_tableAt : GoodIn wsX10_place (wsV RX10 74 RX10 yX10_tableAt wsX10_tableAt) := goodIn_app (goodIn_of _ (by decide +kernel)) ggX10_place_X10_tableAt
set_option maxRecDepth 20000 in
theorem ggX10_place_X10_isKey : GoodIn wsX10_place wsX10_isKey := goodIn_r _ [13, 14] (by decide +kernel) (by decide +kernel)
set_option maxRecDepth 20000 in
theorem gX10_place_X10_isKey : GoodIn wsX10_place (va_wsS RX10 77 yX10_isKey wsX10_isKey) := goodIn_app (goodIn_of _ (by decide +kernel)) ggX10_place_X10_isKey
set_option maxRecDepth 20000 in
theorem ggX10_place_X3_homeOf : GoodIn wsX10_place wsX3_homeOf := goodIn_r _ [19, 20, 21, 22, 23, 5, 24, 25, 56, 57, 58, 59, 60, 61, 62, 63, 64, 65, 66, 67, 68] (by decide +kernel) (by decide +kernel)
set_option maxRecDepth 20000 in
theorem gX10_place_X3_homeOf : GoodIn wsX10_place (wsV RX10 200 RX3 yX3_homeOf wsX3_homeOf) := goodIn_app (goodIn_of _ (by decide +kernel)) ggX10_place_X3_homeOf
set_option maxRecDepth 20000 in
theorem ggX10_place_X3_roomOf : GoodIn wsX10_place wsX3_roomOf := goodIn_r _ [29, 30, 31, 32, 33, 34, 18, 35, 22, 36, 23, 5, 24, 25, 56, 57, 58, 59, 60, 61, 62, 63, 64, 65, 66, 67, 68] (by decide +kernel) (by decide +kernel)
set_option maxRecDepth 20000 in
theorem gX10_place_X3_roomOf : GoodIn wsX10_place (wsV RX10 203 RX3 yX3_roomOf wsX3_roomOf) := goodIn_app (goodIn_of _ (by decide +kernel)) ggX10_place_X3_roomOf
theorem dX10_place_0 : decode cX10_place 0 = .ok (.aload_n 0, 1) := by decide +kernel
theorem dX10_place_1 : decode cX10_place 1 = .ok (.iload_n 1, 1) := by decide +kernel
theorem dX10_place_2 : decode cX10_place 2 = .ok (.invokevirtual 74, 3) := by decide +kernel
theorem dX10_place_5 : decode cX10_place 5 = .ok (.astore 4, 2) := by decide +kernel
theorem dX10_place_7 : decode cX10_place 7 = .ok (.aload 4, 2) := by decide +kernel
theorem dX10_place_9 : decode cX10_place 9 = .ok (.ifnull 19, 3) := by decide +kernel
theorem dX10_place_12 : decode cX10_place 12 = .ok (.iload_n 2, 1) := by decide +kernel
theorem dX10_place_13 : decode cX10_place 13 = .ok (.invokestatic 77, 3) := by decide +kernel
theorem dX10_place_16 : decode cX10_place 16 = .ok (.ifCond .eq 12, 3) := by decide +kernel
theorem dX10_place_19 : decode cX10_place 19 = .ok (.iload_n 3, 1) := by decide +kernel
theorem dX10_place_20 : decode cX10_place 20 = .ok (.ifCond .lt 8, 3) := by decide +kernel
theorem dX10_place_23 : decode cX10_place 23 = .ok (.iload_n 3, 1) := by decide +kernel
theorem dX10_place_24 : decode cX10_place 24 = .ok (.iconst 1, 1) := by decide +kernel
theorem dX10_place_25 : decode cX10_place 25 = .ok (.if_icmp .le 6, 3) := by decide +kernel
theorem dX10_place_28 : decode cX10_place 28 = .ok (.bipush (-2), 2) := by decide +kernel
theorem dX10_place_30 : decode cX10_place 30 = .ok (.ireturn, 1) := by decide +kernel
theorem dX10_place_31 : decode cX10_place 31 = .ok (.aload 4, 2) := by decide +kernel
theorem dX10_place_33 : decode cX10_place 33 = .ok (.getfield 130, 3) := by decide +kernel
theorem dX10_place_36 : decode cX10_place 36 = .ok (.iload_n 2, 1) := by decide +kernel
theorem dX10_place_37 : decode cX10_place 37 = .ok (.invokevirtual 200, 3) := by decide +kernel
theorem dX10_place_40 : decode cX10_place 40 = .ok (.istore 5, 2) := by decide +kernel
theorem dX10_place_42 : decode cX10_place 42 = .ok (.iload_n 3, 1) := by decide +kernel
theorem dX10_place_43 : decode cX10_place 43 = .ok (.ifCond .ne 8, 3) := by decide +kernel
theorem dX10_place_46 : decode cX10_place 46 = .ok (.iload 5, 2) := by decide +kernel
theorem dX10_place_48 : decode cX10_place 48 = .ok (.goto 14, 3) := by decide +kernel
theorem dX10_place_51 : decode cX10_place 51 = .ok (.aload 4, 2) := by decide +kernel
theorem dX10_place_53 : decode cX10_place 53 = .ok (.getfield 130, 3) := by decide +kernel
theorem dX10_place_56 : decode cX10_place 56 = .ok (.iload_n 2, 1) := by decide +kernel
theorem dX10_place_57 : decode cX10_place 57 = .ok (.iload 5, 2) := by decide +kernel
theorem dX10_place_59 : decode cX10_place 59 = .ok (.invokevirtual 203, 3) := by decide +kernel
theorem dX10_place_62 : decode cX10_place 62 = .ok (.ireturn, 1) := by decide +kernel
set_option maxRecDepth 20000 in
theorem ggX10_key_X10_tableAt : GoodIn wsX10_key wsX10_tableAt := goodIn_r _ [7, 8, 9, 10, 6, 11, 34, 35, 36, 37, 38, 39, 40] (by decide +kernel) (by decide +kernel)
set_option maxRecDepth 20000 in
theorem gX10_key_X10_tableAt : GoodIn wsX10_key (wsV RX10 74 RX10 yX10_tableAt wsX10_tableAt) := goodIn_app (goodIn_of _ (by decide +kernel)) ggX10_key_X10_tableAt
set_option maxRecDepth 20000 in
theorem ggX10_key_X2_keyAt : GoodIn wsX10_key wsX2_keyAt := goodIn_r _ [16, 17, 18, 31, 32, 33] (by decide +kernel) (by decide +kernel)
set_option maxRecDepth 20000 in
theorem gX10_key_X2_keyAt : GoodIn wsX10_key (wsV RX10 197 RX2 yX2_keyAt wsX2_keyAt) := goodIn_app (goodIn_of _ (by decide +kernel)) ggX10_key_X2_keyAt
theorem dX10_key_0 : decode cX10_key 0 = .ok (.aload_n 0, 1) := by decide +kernel
theorem dX10_key_1 : decode cX10_key 1 = .ok (.iload_n 1, 1) := by decide +kernel
theorem dX10_key_2 : decode cX10_key 2 = .ok (.invokevirtual 74, 3) := by decide +kernel
theorem dX10_key_5 : decode cX10_key 5 = .ok (.astore_n 3, 1) := by decide +kernel
theorem dX10_key_6 : decode cX10_key 6 = .ok (.aload_n 3, 1) := by decide +kernel
theorem dX10_key_7 : decode cX10_key 7 = .ok (.ifnull 18, 3) := by decide +kernel
theorem dX10_key_10 : decode cX10_key 10 = .ok (.iload_n 2, 1) := by decide +kernel
theorem dX10_key_11 : decode cX10_key 11 = .ok (.ifCond .lt 14, 3) := by decide +kernel
theorem dX10_key_14 : decode cX10_key 14 = .ok (.iload_n 2, 1) := by decide +kernel
theorem dX10_key_15 : decode cX10_key 15 = .ok (.aload_n 3, 1) := by decide +kernel
theorem dX10_key_16 : decode cX10_key 16 = .ok (.getfield 93, 3) := by decide +kernel
theorem dX10_key_19 : decode cX10_key 19 = .ok (.getfield 121, 3) := by decide +kernel
theorem dX10_key_22 : decode cX10_key 22 = .ok (.if_icmp .lt 5, 3) := by decide +kernel
theorem dX10_key_25 : decode cX10_key 25 = .ok (.iconst (-1), 1) := by decide +kernel
theorem dX10_key_26 : decode cX10_key 26 = .ok (.ireturn, 1) := by decide +kernel
theorem dX10_key_27 : decode cX10_key 27 = .ok (.aload_n 3, 1) := by decide +kernel
theorem dX10_key_28 : decode cX10_key 28 = .ok (.getfield 93, 3) := by decide +kernel
theorem dX10_key_31 : decode cX10_key 31 = .ok (.iload_n 2, 1) := by decide +kernel
theorem dX10_key_32 : decode cX10_key 32 = .ok (.invokevirtual 197, 3) := by decide +kernel
theorem dX10_key_35 : decode cX10_key 35 = .ok (.ireturn, 1) := by decide +kernel
set_option maxRecDepth 20000 in
theorem ggX10_walk_X10_tableAt : GoodIn wsX10_walk wsX10_tableAt := goodIn_r _ [8, 9, 10, 11, 7, 12, 50, 51, 52, 53, 54, 55, 56] (by decide +kernel) (by decide +kernel)
set_option maxRecDepth 20000 in
theorem gX10_walk_X10_tableAt : GoodIn wsX10_walk (wsV RX10 74 RX10 yX10_tableAt wsX10_tableAt) := goodIn_app (goodIn_of _ (by decide +kernel)) ggX10_walk_X10_tableAt
set_option maxRecDepth 20000 in
theorem ggX10_walk_X3_nthByRooms : GoodIn wsX10_walk wsX3_nthByRooms := goodIn_r _ [17, 18, 19, 20, 21, 22, 23, 24, 16, 25, 26, 27, 57, 58, 59, 60, 61, 62, 63, 64, 65, 66, 67, 68, 69] (by decide +kernel) (by decide +kernel)
set_option maxRecDepth 20000 in
theorem gX10_walk_X3_nthByRooms : GoodIn wsX10_walk (wsV RX10 206 RX3 yX3_nthByRooms wsX3_nthByRooms) := goodIn_app (goodIn_of _ (by decide +kernel)) ggX10_walk_X3_nthByRooms
set_option maxRecDepth 20000 in
theorem ggX10_walk_X2_keyAt : GoodIn wsX10_walk wsX2_keyAt := goodIn_r _ [32, 33, 34, 47, 48, 49] (by decide +kernel) (by decide +kernel)
set_option maxRecDepth 20000 in
theorem gX10_walk_X2_keyAt : GoodIn wsX10_walk (wsV RX10 197 RX2 yX2_keyAt wsX2_keyAt) := goodIn_app (goodIn_of _ (by decide +kernel)) ggX10_walk_X2_keyAt
theorem dX10_walk_0 : decode cX10_walk 0 = .ok (.aload_n 0, 1) := by decide +kernel
theorem dX10_walk_1 : decode cX10_walk 1 = .ok (.iload_n 1, 1) := by decide +kernel
theorem dX10_walk_2 : decode cX10_walk 2 = .ok (.invokevirtual 74, 3) := by decide +kernel
theorem dX10_walk_5 : decode cX10_walk 5 = .ok (.astore_n 3, 1) := by decide +kernel
theorem dX10_walk_6 : decode cX10_walk 6 = .ok (.aload_n 3, 1) := by decide +kernel
theorem dX10_walk_7 : decode cX10_walk 7 = .ok (.ifnull 18, 3) := by decide +kernel
theorem dX10_walk_10 : decode cX10_walk 10 = .ok (.iload_n 2, 1) := by decide +kernel
theorem dX10_walk_11 : decode cX10_walk 11 = .ok (.ifCond .lt 14, 3) := by decide +kernel
theorem dX10_walk_14 : decode cX10_walk 14 = .ok (.iload_n 2, 1) := by decide +kernel
theorem dX10_walk_15 : decode cX10_walk 15 = .ok (.aload_n 3, 1) := by decide +kernel
theorem dX10_walk_16 : decode cX10_walk 16 = .ok (.getfield 93, 3) := by decide +kernel
theorem dX10_walk_19 : decode cX10_walk 19 = .ok (.getfield 121, 3) := by decide +kernel
theorem dX10_walk_22 : decode cX10_walk 22 = .ok (.if_icmp .lt 5, 3) := by decide +kernel
theorem dX10_walk_25 : decode cX10_walk 25 = .ok (.iconst (-1), 1) := by decide +kernel
theorem dX10_walk_26 : decode cX10_walk 26 = .ok (.ireturn, 1) := by decide +kernel
theorem dX10_walk_27 : decode cX10_walk 27 = .ok (.aload_n 3, 1) := by decide +kernel
theorem dX10_walk_28 : decode cX10_walk 28 = .ok (.getfield 130, 3) := by decide +kernel
theorem dX10_walk_31 : decode cX10_walk 31 = .ok (.iload_n 2, 1) := by decide +kernel
theorem dX10_walk_32 : decode cX10_walk 32 = .ok (.invokevirtual 206, 3) := by decide +kernel
theorem dX10_walk_35 : decode cX10_walk 35 = .ok (.istore 4, 2) := by decide +kernel
theorem dX10_walk_37 : decode cX10_walk 37 = .ok (.iload 4, 2) := by decide +kernel
theorem dX10_walk_39 : decode cX10_walk 39 = .ok (.ifCond .ge 7, 3) := by decide +kernel
theorem dX10_walk_42 : decode cX10_walk 42 = .ok (.iconst (-1), 1) := by decide +kernel
theorem dX10_walk_43 : decode cX10_walk 43 = .ok (.goto 12, 3) := by decide +kernel
theorem dX10_walk_46 : decode cX10_walk 46 = .ok (.aload_n 3, 1) := by decide +kernel
theorem dX10_walk_47 : decode cX10_walk 47 = .ok (.getfield 93, 3) := by decide +kernel
theorem dX10_walk_50 : decode cX10_walk 50 = .ok (.iload 4, 2) := by decide +kernel
theorem dX10_walk_52 : decode cX10_walk 52 = .ok (.invokevirtual 197, 3) := by decide +kernel
theorem dX10_walk_55 : decode cX10_walk 55 = .ok (.ireturn, 1) := by decide +kernel
set_option maxRecDepth 20000 in
theorem ggX10_below_X10_tableAt : GoodIn wsX10_below wsX10_tableAt := goodIn_r _ [6, 7, 8, 9, 5, 10, 30, 31, 32, 33, 34, 35, 36] (by decide +kernel) (by decide +kernel)
set_option maxRecDepth 20000 in
theorem gX10_below_X10_tableAt : GoodIn wsX10_below (wsV RX10 74 RX10 yX10_tableAt wsX10_tableAt) := goodIn_app (goodIn_of _ (by decide +kernel)) ggX10_below_X10_tableAt
set_option maxRecDepth 20000 in
theorem ggX10_below_X2_rank : GoodIn wsX10_below wsX2_rank := goodIn_r _ [15, 16, 17, 37, 38, 39] (by decide +kernel) (by decide +kernel)
set_option maxRecDepth 20000 in
theorem gX10_below_X2_rank : GoodIn wsX10_below (wsV RX10 209 RX2 yX2_rank wsX2_rank) := goodIn_app (goodIn_of _ (by decide +kernel)) ggX10_below_X2_rank
theorem dX10_below_0 : decode cX10_below 0 = .ok (.aload_n 0, 1) := by decide +kernel
theorem dX10_below_1 : decode cX10_below 1 = .ok (.iload_n 1, 1) := by decide +kernel
theorem dX10_below_2 : decode cX10_below 2 = .ok (.invokevirtual 74, 3) := by decide +kernel
theorem dX10_below_5 : decode cX10_below 5 = .ok (.astore_n 3, 1) := by decide +kernel
theorem dX10_below_6 : decode cX10_below 6 = .ok (.aload_n 3, 1) := by decide +kernel
theorem dX10_below_7 : decode cX10_below 7 = .ok (.ifnull 7, 3) := by decide +kernel
theorem dX10_below_10 : decode cX10_below 10 = .ok (.iload_n 2, 1) := by decide +kernel
theorem dX10_below_11 : decode cX10_below 11 = .ok (.ifCond .ge 5, 3) := by decide +kernel
theorem dX10_below_14 : decode cX10_below 14 = .ok (.iconst (-1), 1) := by decide +kernel
theorem dX10_below_15 : decode cX10_below 15 = .ok (.ireturn, 1) := by decide +kernel
theorem dX10_below_16 : decode cX10_below 16 = .ok (.aload_n 3, 1) := by decide +kernel
theorem dX10_below_17 : decode cX10_below 17 = .ok (.getfield 93, 3) := by decide +kernel
theorem dX10_below_20 : decode cX10_below 20 = .ok (.iload_n 2, 1) := by decide +kernel
theorem dX10_below_21 : decode cX10_below 21 = .ok (.invokevirtual 209, 3) := by decide +kernel
theorem dX10_below_24 : decode cX10_below 24 = .ok (.ireturn, 1) := by decide +kernel
set_option maxRecDepth 20000 in
theorem ggX10_nearest_X10_tableAt : GoodIn wsX10_nearest wsX10_tableAt := goodIn_r _ [6, 7, 8, 9, 5, 10, 42, 43, 44, 45, 46, 47, 48] (by decide +kernel) (by decide +kernel)
set_option maxRecDepth 20000 in
theorem gX10_nearest_X10_tableAt : GoodIn wsX10_nearest (wsV RX10 74 RX10 yX10_tableAt wsX10_tableAt) := goodIn_app (goodIn_of _ (by decide +kernel)) ggX10_nearest_X10_tableAt
set_option maxRecDepth 20000 in
theorem ggX10_nearest_X10_isKey : GoodIn wsX10_nearest wsX10_isKey := goodIn_r _ [13, 14] (by decide +kernel) (by decide +kernel)
set_option maxRecDepth 20000 in
theorem gX10_nearest_X10_isKey : GoodIn wsX10_nearest (va_wsS RX10 77 yX10_isKey wsX10_isKey) := goodIn_app (goodIn_of _ (by decide +kernel)) ggX10_nearest_X10_isKey
set_option maxRecDepth 20000 in
theorem ggX10_nearest_X2_closest : GoodIn wsX10_nearest wsX2_closest := goodIn_r _ [19, 20, 21, 22, 23, 24, 18, 25, 26, 27, 28, 29, 49, 50, 51] (by decide +kernel) (by decide +kernel)
set_option maxRecDepth 20000 in
theorem gX10_nearest_X2_closest : GoodIn wsX10_nearest (wsV RX10 212 RX2 yX2_closest wsX2_closest) := goodIn_app (goodIn_of _ (by decide +kernel)) ggX10_nearest_X2_closest
theorem dX10_nearest_0 : decode cX10_nearest 0 = .ok (.aload_n 0, 1) := by decide +kernel
theorem dX10_nearest_1 : decode cX10_nearest 1 = .ok (.iload_n 1, 1) := by decide +kernel
theorem dX10_nearest_2 : decode cX10_nearest 2 = .ok (.invokevirtual 74, 3) := by decide +kernel
theorem dX10_nearest_5 : decode cX10_nearest 5 = .ok (.astore_n 3, 1) := by decide +kernel
theorem dX10_nearest_6 : decode cX10_nearest 6 = .ok (.aload_n 3, 1) := by decide +kernel
theorem dX10_nearest_7 : decode cX10_nearest 7 = .ok (.ifnull 10, 3) := by decide +kernel
theorem dX10_nearest_10 : decode cX10_nearest 10 = .ok (.iload_n 2, 1) := by decide +kernel
theorem dX10_nearest_11 : decode cX10_nearest 11 = .ok (.invokestatic 77, 3) := by decide +kernel
theorem dX10_nearest_14 : decode cX10_nearest 14 = .ok (.ifCond .ne 5, 3) := by decide +kernel
theorem dX10_nearest_17 : decode cX10_nearest 17 = .ok (.iconst (-1), 1) := by decide +kernel
theorem dX10_nearest_18 : decode cX10_nearest 18 = .ok (.ireturn, 1) := by decide +kernel
theorem dX10_nearest_19 : decode cX10_nearest 19 = .ok (.aload_n 3, 1) := by decide +kernel
theorem dX10_nearest_20 : decode cX10_nearest 20 = .ok (.getfield 93, 3) := by decide +kernel
theorem dX10_nearest_23 : decode cX10_nearest 23 = .ok (.iload_n 2, 1) := by decide +kernel
theorem dX10_nearest_24 : decode cX10_nearest 24 = .ok (.invokevirtual 212, 3) := by decide +kernel
theorem dX10_nearest_27 : decode cX10_nearest 27 = .ok (.ireturn, 1) := by decide +kernel
set_option maxRecDepth 20000 in
theorem ggX10_many_X10_tableAt : GoodIn wsX10_many wsX10_tableAt := goodIn_r _ [6, 7, 8, 9, 5, 10, 30, 31, 32, 33, 34, 35, 36] (by decide +kernel) (by decide +kernel)
set_option maxRecDepth 20000 in
theorem gX10_many_X10_tableAt : GoodIn wsX10_many (wsV RX10 74 RX10 yX10_tableAt wsX10_tableAt) := goodIn_app (goodIn_of _ (by decide +kernel)) ggX10_many_X10_tableAt
set_option maxRecDepth 20000 in
theorem ggX10_many_X3_bucketsWith : GoodIn wsX10_many wsX3_bucketsWith := goodIn_r _ [15, 16, 17, 37, 38, 39, 40, 41, 42, 43, 44, 45, 46, 47, 48, 49] (by decide +kernel) (by decide +kernel)
set_option maxRecDepth 20000 in
theorem gX10_many_X3_bucketsWith : GoodIn wsX10_many (wsV RX10 215 RX3 yX3_bucketsWith wsX3_bucketsWith) := goodIn_app (goodIn_of _ (by decide +kernel)) ggX10_many_X3_bucketsWith
theorem dX10_many_0 : decode cX10_many 0 = .ok (.aload_n 0, 1) := by decide +kernel
theorem dX10_many_1 : decode cX10_many 1 = .ok (.iload_n 1, 1) := by decide +kernel
theorem dX10_many_2 : decode cX10_many 2 = .ok (.invokevirtual 74, 3) := by decide +kernel
theorem dX10_many_5 : decode cX10_many 5 = .ok (.astore_n 3, 1) := by decide +kernel
theorem dX10_many_6 : decode cX10_many 6 = .ok (.aload_n 3, 1) := by decide +kernel
theorem dX10_many_7 : decode cX10_many 7 = .ok (.ifnull 7, 3) := by decide +kernel
theorem dX10_many_10 : decode cX10_many 10 = .ok (.iload_n 2, 1) := by decide +kernel
theorem dX10_many_11 : decode cX10_many 11 = .ok (.ifCond .ge 5, 3) := by decide +kernel
theorem dX10_many_14 : decode cX10_many 14 = .ok (.iconst (-1), 1) := by decide +kernel
theorem dX10_many_15 : decode cX10_many 15 = .ok (.ireturn, 1) := by decide +kernel
theorem dX10_many_16 : decode cX10_many 16 = .ok (.aload_n 3, 1) := by decide +kernel
theorem dX10_many_17 : decode cX10_many 17 = .ok (.getfield 130, 3) := by decide +kernel
theorem dX10_many_20 : decode cX10_many 20 = .ok (.iload_n 2, 1) := by decide +kernel
theorem dX10_many_21 : decode cX10_many 21 = .ok (.invokevirtual 215, 3) := by decide +kernel
theorem dX10_many_24 : decode cX10_many 24 = .ok (.ireturn, 1) := by decide +kernel
set_option maxRecDepth 20000 in
theorem ggX10_crowd_X10_tableAt : GoodIn wsX10_crowd wsX10_tableAt := goodIn_r _ [9, 10, 11, 12, 8, 13, 57, 58, 59, 60, 61, 62, 63] (by decide +kernel) (by decide +kernel)
set_option maxRecDepth 20000 in
theorem gX10_crowd_X10_tableAt : GoodIn wsX10_crowd (wsV RX10 74 RX10 yX10_tableAt wsX10_tableAt) := goodIn_app (goodIn_of _ (by decide +kernel)) ggX10_crowd_X10_tableAt
set_option maxRecDepth 20000 in
theorem ggX10_crowd_X3_fullest : GoodIn wsX10_crowd wsX3_fullest := goodIn_r _ [18, 19, 20, 41, 42, 43, 44, 45, 46, 47, 48, 49, 50, 51, 52, 53] (by decide +kernel) (by decide +kernel)
set_option maxRecDepth 20000 in
theorem gX10_crowd_X3_fullest : GoodIn wsX10_crowd (wsV RX10 218 RX3 yX3_fullest wsX3_fullest) := goodIn_app (goodIn_of _ (by decide +kernel)) ggX10_crowd_X3_fullest
set_option maxRecDepth 20000 in
theorem ggX10_crowd_X3_bucketsWith : GoodIn wsX10_crowd wsX3_bucketsWith := goodIn_r _ [24, 19, 20, 41, 42, 43, 44, 45, 46, 47, 48, 49, 50, 51, 52, 53] (by decide +kernel) (by decide +kernel)
set_option maxRecDepth 20000 in
theorem gX10_crowd_X3_bucketsWith : GoodIn wsX10_crowd (wsV RX10 215 RX3 yX3_bucketsWith wsX3_bucketsWith) := goodIn_app (goodIn_of _ (by decide +kernel)) ggX10_crowd_X3_bucketsWith
set_option maxRecDepth 20000 in
theorem ggX10_crowd_X3_twos : GoodIn wsX10_crowd wsX3_twos := goodIn_r _ [28, 19, 20, 41, 42, 43, 44, 45, 46, 47, 48, 49, 50, 51, 52, 53] (by decide +kernel) (by decide +kernel)
set_option maxRecDepth 20000 in
theorem gX10_crowd_X3_twos : GoodIn wsX10_crowd (wsV RX10 221 RX3 yX3_twos wsX3_twos) := goodIn_app (goodIn_of _ (by decide +kernel)) ggX10_crowd_X3_twos
theorem dX10_crowd_0 : decode cX10_crowd 0 = .ok (.aload_n 0, 1) := by decide +kernel
theorem dX10_crowd_1 : decode cX10_crowd 1 = .ok (.iload_n 1, 1) := by decide +kernel
theorem dX10_crowd_2 : decode cX10_crowd 2 = .ok (.invokevirtual 74, 3) := by decide +kernel
theorem dX10_crowd_5 : decode cX10_crowd 5 = .ok (.astore_n 3, 1) := by decide +kernel
theorem dX10_crowd_6 : decode cX10_crowd 6 = .ok (.aload_n 3, 1) := by decide +kernel
theorem dX10_crowd_7 : decode cX10_crowd 7 = .ok (.ifnonnull 5, 3) := by decide +kernel
theorem dX10_crowd_10 : decode cX10_crowd 10 = .ok (.iconst (-1), 1) := by decide +kernel
theorem dX10_crowd_11 : decode cX10_crowd 11 = .ok (.ireturn, 1) := by decide +kernel
theorem dX10_crowd_12 : decode cX10_crowd 12 = .ok (.aload_n 3, 1) := by decide +kernel
theorem dX10_crowd_13 : decode cX10_crowd 13 = .ok (.getfield 130, 3) := by decide +kernel
theorem dX10_crowd_16 : decode cX10_crowd 16 = .ok (.astore 4, 2) := by decide +kernel
theorem dX10_crowd_18 : decode cX10_crowd 18 = .ok (.iload_n 2, 1) := by decide +kernel
theorem dX10_crowd_19 : decode cX10_crowd 19 = .ok (.tableswitch 68 0 3 #[29, 35, 47, 62], 29) := by decide +kernel
theorem dX10_crowd_48 : decode cX10_crowd 48 = .ok (.aload 4, 2) := by decide +kernel
theorem dX10_crowd_50 : decode cX10_crowd 50 = .ok (.invokevirtual 218, 3) := by decide +kernel
theorem dX10_crowd_53 : decode cX10_crowd 53 = .ok (.ireturn, 1) := by decide +kernel
theorem dX10_crowd_54 : decode cX10_crowd 54 = .ok (.aload 4, 2) := by decide +kernel
theorem dX10_crowd_56 : decode cX10_crowd 56 = .ok (.getfield 177, 3) := by decide +kernel
theorem dX10_crowd_59 : decode cX10_crowd 59 = .ok (.aload 4, 2) := by decide +kernel
theorem dX10_crowd_61 : decode cX10_crowd 61 = .ok (.invokevirtual 218, 3) := by decide +kernel
theorem dX10_crowd_64 : decode cX10_crowd 64 = .ok (.iaload, 1) := by decide +kernel
theorem dX10_crowd_65 : decode cX10_crowd 65 = .ok (.ireturn, 1) := by decide +kernel
theorem dX10_crowd_66 : decode cX10_crowd 66 = .ok (.aload_n 3, 1) := by decide +kernel
theorem dX10_crowd_67 : decode cX10_crowd 67 = .ok (.getfield 93, 3) := by decide +kernel
theorem dX10_crowd_70 : decode cX10_crowd 70 = .ok (.getfield 121, 3) := by decide +kernel
theorem dX10_crowd_73 : decode cX10_crowd 73 = .ok (.aload 4, 2) := by decide +kernel
theorem dX10_crowd_75 : decode cX10_crowd 75 = .ok (.iconst 1, 1) := by decide +kernel
theorem dX10_crowd_76 : decode cX10_crowd 76 = .ok (.invokevirtual 215, 3) := by decide +kernel
theorem dX10_crowd_79 : decode cX10_crowd 79 = .ok (.isub, 1) := by decide +kernel
theorem dX10_crowd_80 : decode cX10_crowd 80 = .ok (.ireturn, 1) := by decide +kernel
theorem dX10_crowd_81 : decode cX10_crowd 81 = .ok (.aload 4, 2) := by decide +kernel
theorem dX10_crowd_83 : decode cX10_crowd 83 = .ok (.invokevirtual 221, 3) := by decide +kernel
theorem dX10_crowd_86 : decode cX10_crowd 86 = .ok (.ireturn, 1) := by decide +kernel
theorem dX10_crowd_87 : decode cX10_crowd 87 = .ok (.iconst (-1), 1) := by decide +kernel
theorem dX10_crowd_88 : decode cX10_crowd 88 = .ok (.ireturn, 1) := by decide +kernel
set_option maxRecDepth 20000 in
theorem ggX10_empty_X10_tableAt : GoodIn wsX10_empty wsX10_tableAt := goodIn_r _ [9, 10, 11, 12, 8, 13, 42, 43, 44, 45, 46, 47, 48] (by decide +kernel) (by decide +kernel)
set_option maxRecDepth 20000 in
theorem gX10_empty_X10_tableAt : GoodIn wsX10_empty (wsV RX10 74 RX10 yX10_tableAt wsX10_tableAt) := goodIn_app (goodIn_of _ (by decide +kernel)) ggX10_empty_X10_tableAt
theorem dX10_empty_0 : decode cX10_empty 0 = .ok (.aload_n 0, 1) := by decide +kernel
theorem dX10_empty_1 : decode cX10_empty 1 = .ok (.iload_n 1, 1) := by decide +kernel
theorem dX10_empty_2 : decode cX10_empty 2 = .ok (.invokevirtual 74, 3) := by decide +kernel
theorem dX10_empty_5 : decode cX10_empty 5 = .ok (.astore_n 2, 1) := by decide +kernel
theorem dX10_empty_6 : decode cX10_empty 6 = .ok (.aload_n 2, 1) := by decide +kernel
theorem dX10_empty_7 : decode cX10_empty 7 = .ok (.ifnonnull 7, 3) := by decide +kernel
theorem dX10_empty_10 : decode cX10_empty 10 = .ok (.iconst (-1), 1) := by decide +kernel
theorem dX10_empty_11 : decode cX10_empty 11 = .ok (.goto 18, 3) := by decide +kernel
theorem dX10_empty_14 : decode cX10_empty 14 = .ok (.aload_n 2, 1) := by decide +kernel
theorem dX10_empty_15 : decode cX10_empty 15 = .ok (.getfield 130, 3) := by decide +kernel
theorem dX10_empty_18 : decode cX10_empty 18 = .ok (.getfield 139, 3) := by decide +kernel
theorem dX10_empty_21 : decode cX10_empty 21 = .ok (.aload_n 2, 1) := by decide +kernel
theorem dX10_empty_22 : decode cX10_empty 22 = .ok (.getfield 93, 3) := by decide +kernel
theorem dX10_empty_25 : decode cX10_empty 25 = .ok (.getfield 121, 3) := by decide +kernel
theorem dX10_empty_28 : decode cX10_empty 28 = .ok (.isub, 1) := by decide +kernel
theorem dX10_empty_29 : decode cX10_empty 29 = .ok (.ireturn, 1) := by decide +kernel
set_option maxRecDepth 20000 in
theorem ggX10_left_X10_tableAt : GoodIn wsX10_left wsX10_tableAt := goodIn_r _ [7, 8, 9, 10, 6, 11, 24, 25, 26, 27, 28, 29, 30] (by decide +kernel) (by decide +kernel)
set_option maxRecDepth 20000 in
theorem gX10_left_X10_tableAt : GoodIn wsX10_left (wsV RX10 74 RX10 yX10_tableAt wsX10_tableAt) := goodIn_app (goodIn_of _ (by decide +kernel)) ggX10_left_X10_tableAt
theorem dX10_left_0 : decode cX10_left 0 = .ok (.aload_n 0, 1) := by decide +kernel
theorem dX10_left_1 : decode cX10_left 1 = .ok (.iload_n 1, 1) := by decide +kernel
theorem dX10_left_2 : decode cX10_left 2 = .ok (.invokevirtual 74, 3) := by decide +kernel
theorem dX10_left_5 : decode cX10_left 5 = .ok (.astore_n 2, 1) := by decide +kernel
theorem dX10_left_6 : decode cX10_left 6 = .ok (.aload_n 2, 1) := by decide +kernel
theorem dX10_left_7 : decode cX10_left 7 = .ok (.ifnonnull 7, 3) := by decide +kernel
theorem dX10_left_10 : decode cX10_left 10 = .ok (.iconst (-1), 1) := by decide +kernel
theorem dX10_left_11 : decode cX10_left 11 = .ok (.goto 14, 3) := by decide +kernel
theorem dX10_left_14 : decode cX10_left 14 = .ok (.aload_n 2, 1) := by decide +kernel
theorem dX10_left_15 : decode cX10_left 15 = .ok (.getfield 124, 3) := by decide +kernel
theorem dX10_left_18 : decode cX10_left 18 = .ok (.aload_n 2, 1) := by decide +kernel
theorem dX10_left_19 : decode cX10_left 19 = .ok (.getfield 127, 3) := by decide +kernel
theorem dX10_left_22 : decode cX10_left 22 = .ok (.isub, 1) := by decide +kernel
theorem dX10_left_23 : decode cX10_left 23 = .ok (.iconst 1, 1) := by decide +kernel
theorem dX10_left_24 : decode cX10_left 24 = .ok (.iadd, 1) := by decide +kernel
theorem dX10_left_25 : decode cX10_left 25 = .ok (.ireturn, 1) := by decide +kernel
set_option maxRecDepth 20000 in
theorem ggX10_outer_X10_tableAt : GoodIn wsX10_outer wsX10_tableAt := goodIn_r _ [8, 9, 10, 11, 7, 12, 59, 60, 61, 62, 63, 64, 65] (by decide +kernel) (by decide +kernel)
set_option maxRecDepth 20000 in
theorem gX10_outer_X10_tableAt : GoodIn wsX10_outer (wsV RX10 74 RX10 yX10_tableAt wsX10_tableAt) := goodIn_app (goodIn_of _ (by decide +kernel)) ggX10_outer_X10_tableAt
set_option maxRecDepth 20000 in
theorem ggX10_outer_X10_isPair : GoodIn wsX10_outer wsX10_isPair := goodIn_r _ [15, 16] (by decide +kernel) (by decide +kernel)
set_option maxRecDepth 20000 in
theorem gX10_outer_X10_isPair : GoodIn wsX10_outer (va_wsS RX10 224 yX10_isPair wsX10_isPair) := goodIn_app (goodIn_of _ (by decide +kernel)) ggX10_outer_X10_isPair
set_option maxRecDepth 20000 in
theorem ggX10_outer_X5_dealt : GoodIn wsX10_outer wsX5_dealt := goodIn_r _ [21, 22, 23, 24, 25, 26, 27, 28, 29, 30, 31, 32, 33, 34, 35, 36, 37, 38, 39, 40, 41, 42, 43, 44, 45, 46, 47, 48, 7, 49, 50, 51, 52, 53, 54, 55, 56, 57, 58, 78, 79, 80, 81, 82, 83, 84, 85, 86, 87, 88, 89, 90, 91, 92, 93, 94, 95, 96] (by decide +kernel) (by decide +kernel)
set_option maxRecDepth 20000 in
theorem gX10_outer_X5_dealt : GoodIn wsX10_outer (wsV RX10 228 RX5 yX5_dealt wsX5_dealt) := goodIn_app (goodIn_of _ (by decide +kernel)) ggX10_outer_X5_dealt
theorem dX10_outer_0 : decode cX10_outer 0 = .ok (.aload_n 0, 1) := by decide +kernel
theorem dX10_outer_1 : decode cX10_outer 1 = .ok (.iload_n 1, 1) := by decide +kernel
theorem dX10_outer_2 : decode cX10_outer 2 = .ok (.invokevirtual 74, 3) := by decide +kernel
theorem dX10_outer_5 : decode cX10_outer 5 = .ok (.astore 6, 2) := by decide +kernel
theorem dX10_outer_7 : decode cX10_outer 7 = .ok (.aload 6, 2) := by decide +kernel
theorem dX10_outer_9 : decode cX10_outer 9 = .ok (.ifnull 36, 3) := by decide +kernel
theorem dX10_outer_12 : decode cX10_outer 12 = .ok (.iload_n 2, 1) := by decide +kernel
theorem dX10_outer_13 : decode cX10_outer 13 = .ok (.iload_n 3, 1) := by decide +kernel
theorem dX10_outer_14 : decode cX10_outer 14 = .ok (.invokestatic 224, 3) := by decide +kernel
theorem dX10_outer_17 : decode cX10_outer 17 = .ok (.ifCond .eq 28, 3) := by decide +kernel
theorem dX10_outer_20 : decode cX10_outer 20 = .ok (.iload 4, 2) := by decide +kernel
theorem dX10_outer_22 : decode cX10_outer 22 = .ok (.iconst 1, 1) := by decide +kernel
theorem dX10_outer_23 : decode cX10_outer 23 = .ok (.if_icmp .lt 22, 3) := by decide +kernel
theorem dX10_outer_26 : decode cX10_outer 26 = .ok (.iload 4, 2) := by decide +kernel
theorem dX10_outer_28 : decode cX10_outer 28 = .ok (.sipush 2048, 3) := by decide +kernel
theorem dX10_outer_31 : decode cX10_outer 31 = .ok (.if_icmp .gt 14, 3) := by decide +kernel
theorem dX10_outer_34 : decode cX10_outer 34 = .ok (.iload 5, 2) := by decide +kernel
theorem dX10_outer_36 : decode cX10_outer 36 = .ok (.ifCond .lt 9, 3) := by decide +kernel
theorem dX10_outer_39 : decode cX10_outer 39 = .ok (.iload 5, 2) := by decide +kernel
theorem dX10_outer_41 : decode cX10_outer 41 = .ok (.iconst 3, 1) := by decide +kernel
theorem dX10_outer_42 : decode cX10_outer 42 = .ok (.if_icmp .le 7, 3) := by decide +kernel
theorem dX10_outer_45 : decode cX10_outer 45 = .ok (.ldc2_w 91, 3) := by decide +kernel
theorem dX10_outer_48 : decode cX10_outer 48 = .ok (.lreturn, 1) := by decide +kernel
theorem dX10_outer_49 : decode cX10_outer 49 = .ok (.aload_n 0, 1) := by decide +kernel
theorem dX10_outer_50 : decode cX10_outer 50 = .ok (.getfield 26, 3) := by decide +kernel
theorem dX10_outer_53 : decode cX10_outer 53 = .ok (.aload 6, 2) := by decide +kernel
theorem dX10_outer_55 : decode cX10_outer 55 = .ok (.getfield 93, 3) := by decide +kernel
theorem dX10_outer_58 : decode cX10_outer 58 = .ok (.iload_n 2, 1) := by decide +kernel
theorem dX10_outer_59 : decode cX10_outer 59 = .ok (.iload_n 3, 1) := by decide +kernel
theorem dX10_outer_60 : decode cX10_outer 60 = .ok (.iload 4, 2) := by decide +kernel
theorem dX10_outer_62 : decode cX10_outer 62 = .ok (.iload 5, 2) := by decide +kernel
theorem dX10_outer_64 : decode cX10_outer 64 = .ok (.invokevirtual 228, 3) := by decide +kernel
theorem dX10_outer_67 : decode cX10_outer 67 = .ok (.i2l, 1) := by decide +kernel
theorem dX10_outer_68 : decode cX10_outer 68 = .ok (.lreturn, 1) := by decide +kernel
set_option maxRecDepth 20000 in
theorem ggX10_best_X10_tableAt : GoodIn wsX10_best wsX10_tableAt := goodIn_r _ [7, 8, 9, 10, 6, 11, 75, 76, 77, 78, 79, 80, 81] (by decide +kernel) (by decide +kernel)
set_option maxRecDepth 20000 in
theorem gX10_best_X10_tableAt : GoodIn wsX10_best (wsV RX10 74 RX10 yX10_tableAt wsX10_tableAt) := goodIn_app (goodIn_of _ (by decide +kernel)) ggX10_best_X10_tableAt
set_option maxRecDepth 20000 in
theorem ggX10_best_X5_leastSum : GoodIn wsX10_best wsX5_leastSum := goodIn_r _ [16, 17, 18, 19, 20, 21, 22, 23, 24, 25, 26, 27, 28, 29, 30, 31, 32, 33, 34, 35, 36, 37, 38, 39, 40, 41, 42, 43, 44, 45, 46, 47, 48, 49, 50, 51, 52, 53, 54, 55, 56, 57, 58, 59, 60, 61, 62, 63, 64, 65, 6, 66, 67, 68, 69, 70, 71, 72, 73, 74, 82, 83, 84, 85, 86, 87, 88, 89, 90, 91, 92, 93, 94, 95, 96, 97, 98, 99, 100, 101, 102, 103, 104, 105, 106, 107, 108, 109, 110, 111, 112, 113, 114, 115, 116] (by decide +kernel) (by decide +kernel)
set_option maxRecDepth 20000 in
theorem gX10_best_X5_leastSum : GoodIn wsX10_best (wsV RX10 232 RX5 yX5_leastSum wsX5_leastSum) := goodIn_app (goodIn_of _ (by decide +kernel)) ggX10_best_X5_leastSum
theorem dX10_best_0 : decode cX10_best 0 = .ok (.aload_n 0, 1) := by decide +kernel
theorem dX10_best_1 : decode cX10_best 1 = .ok (.iload_n 1, 1) := by decide +kernel
theorem dX10_best_2 : decode cX10_best 2 = .ok (.invokevirtual 74, 3) := by decide +kernel
theorem dX10_best_5 : decode cX10_best 5 = .ok (.astore 6, 2) := by decide +kernel
theorem dX10_best_7 : decode cX10_best 7 = .ok (.aload 6, 2) := by decide +kernel
theorem dX10_best_9 : decode cX10_best 9 = .ok (.ifnull 26, 3) := by decide +kernel
theorem dX10_best_12 : decode cX10_best 12 = .ok (.iload_n 2, 1) := by decide +kernel
theorem dX10_best_13 : decode cX10_best 13 = .ok (.iconst 1, 1) := by decide +kernel
theorem dX10_best_14 : decode cX10_best 14 = .ok (.if_icmp .lt 21, 3) := by decide +kernel
theorem dX10_best_17 : decode cX10_best 17 = .ok (.iload_n 2, 1) := by decide +kernel
theorem dX10_best_18 : decode cX10_best 18 = .ok (.sipush 200, 3) := by decide +kernel
theorem dX10_best_21 : decode cX10_best 21 = .ok (.if_icmp .gt 14, 3) := by decide +kernel
theorem dX10_best_24 : decode cX10_best 24 = .ok (.iload 5, 2) := by decide +kernel
theorem dX10_best_26 : decode cX10_best 26 = .ok (.ifCond .lt 9, 3) := by decide +kernel
theorem dX10_best_29 : decode cX10_best 29 = .ok (.iload 5, 2) := by decide +kernel
theorem dX10_best_31 : decode cX10_best 31 = .ok (.iconst 2, 1) := by decide +kernel
theorem dX10_best_32 : decode cX10_best 32 = .ok (.if_icmp .le 7, 3) := by decide +kernel
theorem dX10_best_35 : decode cX10_best 35 = .ok (.ldc2_w 91, 3) := by decide +kernel
theorem dX10_best_38 : decode cX10_best 38 = .ok (.lreturn, 1) := by decide +kernel
theorem dX10_best_39 : decode cX10_best 39 = .ok (.aload_n 0, 1) := by decide +kernel
theorem dX10_best_40 : decode cX10_best 40 = .ok (.getfield 26, 3) := by decide +kernel
theorem dX10_best_43 : decode cX10_best 43 = .ok (.aload 6, 2) := by decide +kernel
theorem dX10_best_45 : decode cX10_best 45 = .ok (.iload_n 2, 1) := by decide +kernel
theorem dX10_best_46 : decode cX10_best 46 = .ok (.lload_n 3, 1) := by decide +kernel
theorem dX10_best_47 : decode cX10_best 47 = .ok (.iload 5, 2) := by decide +kernel
theorem dX10_best_49 : decode cX10_best 49 = .ok (.invokevirtual 232, 3) := by decide +kernel
theorem dX10_best_52 : decode cX10_best 52 = .ok (.i2l, 1) := by decide +kernel
theorem dX10_best_53 : decode cX10_best 53 = .ok (.lreturn, 1) := by decide +kernel
set_option maxRecDepth 20000 in
theorem ggX10_inner_X10_tableAt : GoodIn wsX10_inner wsX10_tableAt := goodIn_r _ [7, 8, 9, 10, 6, 11, 67, 68, 69, 70, 71, 72, 73] (by decide +kernel) (by decide +kernel)
set_option maxRecDepth 20000 in
theorem gX10_inner_X10_tableAt : GoodIn wsX10_inner (wsV RX10 74 RX10 yX10_tableAt wsX10_tableAt) := goodIn_app (goodIn_of _ (by decide +kernel)) ggX10_inner_X10_tableAt
set_option maxRecDepth 20000 in
theorem ggX10_inner_X3_roomsOf : GoodIn wsX10_inner wsX3_roomsOf := goodIn_r _ [16, 17, 18, 74, 75, 76, 77, 78, 79, 80, 81, 82, 83, 84, 85, 86] (by decide +kernel) (by decide +kernel)
set_option maxRecDepth 20000 in
theorem gX10_inner_X3_roomsOf : GoodIn wsX10_inner (wsV RX10 191 RX3 yX3_roomsOf wsX3_roomsOf) := goodIn_app (goodIn_of _ (by decide +kernel)) ggX10_inner_X3_roomsOf
set_option maxRecDepth 20000 in
theorem ggX10_inner_X10_isPair : GoodIn wsX10_inner wsX10_isPair := goodIn_r _ [21, 22] (by decide +kernel) (by decide +kernel)
set_option maxRecDepth 20000 in
theorem gX10_inner_X10_isPair : GoodIn wsX10_inner (va_wsS RX10 224 yX10_isPair wsX10_isPair) := goodIn_app (goodIn_of _ (by decide +kernel)) ggX10_inner_X10_isPair
set_option maxRecDepth 20000 in
theorem ggX10_inner_X5_clashes : GoodIn wsX10_inner wsX5_clashes := goodIn_r _ [27, 28, 29, 30, 31, 15, 32, 33, 34, 35, 36, 13, 14, 16, 17, 18, 37, 38, 39, 26, 40, 41, 42, 43, 44, 45, 46, 47, 48, 49, 50, 51, 52, 6, 53, 54, 55, 56, 57, 58, 59, 60, 61, 62, 63, 64, 65, 66, 74, 75, 76, 77, 78, 79, 80, 81, 82, 83, 84, 85, 86, 87, 88, 89, 90, 91, 92] (by decide +kernel) (by decide +kernel)
set_option maxRecDepth 20000 in
theorem gX10_inner_X5_clashes : GoodIn wsX10_inner (wsV RX10 236 RX5 yX5_clashes wsX5_clashes) := goodIn_app (goodIn_of _ (by decide +kernel)) ggX10_inner_X5_clashes
theorem dX10_inner_0 : decode cX10_inner 0 = .ok (.aload_n 0, 1) := by decide +kernel
theorem dX10_inner_1 : decode cX10_inner 1 = .ok (.iload_n 1, 1) := by decide +kernel
theorem dX10_inner_2 : decode cX10_inner 2 = .ok (.invokevirtual 74, 3) := by decide +kernel
theorem dX10_inner_5 : decode cX10_inner 5 = .ok (.astore 5, 2) := by decide +kernel
theorem dX10_inner_7 : decode cX10_inner 7 = .ok (.aload 5, 2) := by decide +kernel
theorem dX10_inner_9 : decode cX10_inner 9 = .ok (.ifnull 24, 3) := by decide +kernel
theorem dX10_inner_12 : decode cX10_inner 12 = .ok (.aload 5, 2) := by decide +kernel
theorem dX10_inner_14 : decode cX10_inner 14 = .ok (.getfield 130, 3) := by decide +kernel
theorem dX10_inner_17 : decode cX10_inner 17 = .ok (.iload_n 2, 1) := by decide +kernel
theorem dX10_inner_18 : decode cX10_inner 18 = .ok (.invokevirtual 191, 3) := by decide +kernel
theorem dX10_inner_21 : decode cX10_inner 21 = .ok (.ifCond .eq 12, 3) := by decide +kernel
theorem dX10_inner_24 : decode cX10_inner 24 = .ok (.iload_n 3, 1) := by decide +kernel
theorem dX10_inner_25 : decode cX10_inner 25 = .ok (.iload 4, 2) := by decide +kernel
theorem dX10_inner_27 : decode cX10_inner 27 = .ok (.invokestatic 224, 3) := by decide +kernel
theorem dX10_inner_30 : decode cX10_inner 30 = .ok (.ifCond .ne 5, 3) := by decide +kernel
theorem dX10_inner_33 : decode cX10_inner 33 = .ok (.iconst (-1), 1) := by decide +kernel
theorem dX10_inner_34 : decode cX10_inner 34 = .ok (.ireturn, 1) := by decide +kernel
theorem dX10_inner_35 : decode cX10_inner 35 = .ok (.aload_n 0, 1) := by decide +kernel
theorem dX10_inner_36 : decode cX10_inner 36 = .ok (.getfield 26, 3) := by decide +kernel
theorem dX10_inner_39 : decode cX10_inner 39 = .ok (.aload 5, 2) := by decide +kernel
theorem dX10_inner_41 : decode cX10_inner 41 = .ok (.iload_n 2, 1) := by decide +kernel
theorem dX10_inner_42 : decode cX10_inner 42 = .ok (.iload_n 3, 1) := by decide +kernel
theorem dX10_inner_43 : decode cX10_inner 43 = .ok (.iload 4, 2) := by decide +kernel
theorem dX10_inner_45 : decode cX10_inner 45 = .ok (.invokevirtual 236, 3) := by decide +kernel
theorem dX10_inner_48 : decode cX10_inner 48 = .ok (.ireturn, 1) := by decide +kernel
set_option maxRecDepth 20000 in
theorem ggX10_tries_X10_tableAt : GoodIn wsX10_tries wsX10_tableAt := goodIn_r _ [7, 8, 9, 10, 6, 11, 83, 84, 85, 86, 87, 88, 89] (by decide +kernel) (by decide +kernel)
set_option maxRecDepth 20000 in
theorem gX10_tries_X10_tableAt : GoodIn wsX10_tries (wsV RX10 74 RX10 yX10_tableAt wsX10_tableAt) := goodIn_app (goodIn_of _ (by decide +kernel)) ggX10_tries_X10_tableAt
set_option maxRecDepth 20000 in
theorem ggX10_tries_X3_roomsOf : GoodIn wsX10_tries wsX3_roomsOf := goodIn_r _ [16, 17, 18, 90, 91, 92, 93, 94, 95, 96, 97, 98, 99, 100, 101, 102] (by decide +kernel) (by decide +kernel)
set_option maxRecDepth 20000 in
theorem gX10_tries_X3_roomsOf : GoodIn wsX10_tries (wsV RX10 191 RX3 yX3_roomsOf wsX3_roomsOf) := goodIn_app (goodIn_of _ (by decide +kernel)) ggX10_tries_X3_roomsOf
set_option maxRecDepth 20000 in
theorem ggX10_tries_X5_tried : GoodIn wsX10_tries wsX5_tried := goodIn_r _ [23, 24, 25, 26, 27, 28, 29, 30, 15, 31, 32, 33, 34, 35, 13, 14, 16, 17, 18, 36, 37, 38, 39, 40, 41, 42, 43, 44, 45, 46, 47, 48, 49, 50, 51, 52, 53, 54, 55, 22, 56, 57, 58, 59, 60, 61, 62, 63, 64, 65, 66, 67, 68, 6, 69, 70, 71, 72, 73, 74, 75, 76, 77, 78, 79, 80, 81, 82, 103, 104, 105, 106, 107, 108, 109, 90, 91, 92, 93, 94, 95, 96, 97, 98, 99, 100, 101, 102, 110, 111, 112] (by decide +kernel) (by decide +kernel)
set_option maxRecDepth 20000 in
theorem gX10_tries_X5_tried : GoodIn wsX10_tries (wsV RX10 240 RX5 yX5_tried wsX5_tried) := goodIn_app (goodIn_of _ (by decide +kernel)) ggX10_tries_X5_tried
theorem dX10_tries_0 : decode cX10_tries 0 = .ok (.aload_n 0, 1) := by decide +kernel
theorem dX10_tries_1 : decode cX10_tries 1 = .ok (.iload_n 1, 1) := by decide +kernel
theorem dX10_tries_2 : decode cX10_tries 2 = .ok (.invokevirtual 74, 3) := by decide +kernel
theorem dX10_tries_5 : decode cX10_tries 5 = .ok (.astore 7, 2) := by decide +kernel
theorem dX10_tries_7 : decode cX10_tries 7 = .ok (.aload 7, 2) := by decide +kernel
theorem dX10_tries_9 : decode cX10_tries 9 = .ok (.ifnull 38, 3) := by decide +kernel
theorem dX10_tries_12 : decode cX10_tries 12 = .ok (.aload 7, 2) := by decide +kernel
theorem dX10_tries_14 : decode cX10_tries 14 = .ok (.getfield 130, 3) := by decide +kernel
theorem dX10_tries_17 : decode cX10_tries 17 = .ok (.iload_n 2, 1) := by decide +kernel
theorem dX10_tries_18 : decode cX10_tries 18 = .ok (.invokevirtual 191, 3) := by decide +kernel
theorem dX10_tries_21 : decode cX10_tries 21 = .ok (.ifCond .eq 26, 3) := by decide +kernel
theorem dX10_tries_24 : decode cX10_tries 24 = .ok (.iload_n 3, 1) := by decide +kernel
theorem dX10_tries_25 : decode cX10_tries 25 = .ok (.iconst 1, 1) := by decide +kernel
theorem dX10_tries_26 : decode cX10_tries 26 = .ok (.if_icmp .lt 21, 3) := by decide +kernel
theorem dX10_tries_29 : decode cX10_tries 29 = .ok (.iload_n 3, 1) := by decide +kernel
theorem dX10_tries_30 : decode cX10_tries 30 = .ok (.sipush 200, 3) := by decide +kernel
theorem dX10_tries_33 : decode cX10_tries 33 = .ok (.if_icmp .gt 14, 3) := by decide +kernel
theorem dX10_tries_36 : decode cX10_tries 36 = .ok (.iload 6, 2) := by decide +kernel
theorem dX10_tries_38 : decode cX10_tries 38 = .ok (.ifCond .lt 9, 3) := by decide +kernel
theorem dX10_tries_41 : decode cX10_tries 41 = .ok (.iload 6, 2) := by decide +kernel
theorem dX10_tries_43 : decode cX10_tries 43 = .ok (.iconst 1, 1) := by decide +kernel
theorem dX10_tries_44 : decode cX10_tries 44 = .ok (.if_icmp .le 6, 3) := by decide +kernel
theorem dX10_tries_47 : decode cX10_tries 47 = .ok (.bipush (-2), 2) := by decide +kernel
theorem dX10_tries_49 : decode cX10_tries 49 = .ok (.ireturn, 1) := by decide +kernel
theorem dX10_tries_50 : decode cX10_tries 50 = .ok (.aload_n 0, 1) := by decide +kernel
theorem dX10_tries_51 : decode cX10_tries 51 = .ok (.getfield 26, 3) := by decide +kernel
theorem dX10_tries_54 : decode cX10_tries 54 = .ok (.aload 7, 2) := by decide +kernel
theorem dX10_tries_56 : decode cX10_tries 56 = .ok (.iload_n 2, 1) := by decide +kernel
theorem dX10_tries_57 : decode cX10_tries 57 = .ok (.iload_n 3, 1) := by decide +kernel
theorem dX10_tries_58 : decode cX10_tries 58 = .ok (.lload 4, 2) := by decide +kernel
theorem dX10_tries_60 : decode cX10_tries 60 = .ok (.iload 6, 2) := by decide +kernel
theorem dX10_tries_62 : decode cX10_tries 62 = .ok (.invokevirtual 240, 3) := by decide +kernel
theorem dX10_tries_65 : decode cX10_tries 65 = .ok (.ireturn, 1) := by decide +kernel
set_option maxRecDepth 20000 in
theorem ggX10_would_X10_tableAt : GoodIn wsX10_would wsX10_tableAt := goodIn_r _ [5, 6, 7, 8, 4, 9, 85, 86, 87, 88, 89, 90, 91] (by decide +kernel) (by decide +kernel)
set_option maxRecDepth 20000 in
theorem gX10_would_X10_tableAt : GoodIn wsX10_would (wsV RX10 74 RX10 yX10_tableAt wsX10_tableAt) := goodIn_app (goodIn_of _ (by decide +kernel)) ggX10_would_X10_tableAt
set_option maxRecDepth 20000 in
theorem ggX10_would_X10_isKey : GoodIn wsX10_would wsX10_isKey := goodIn_r _ [12, 13] (by decide +kernel) (by decide +kernel)
set_option maxRecDepth 20000 in
theorem gX10_would_X10_isKey : GoodIn wsX10_would (va_wsS RX10 77 yX10_isKey wsX10_isKey) := goodIn_app (goodIn_of _ (by decide +kernel)) ggX10_would_X10_isKey
set_option maxRecDepth 20000 in
theorem ggX10_would_X9_isFullFor : GoodIn wsX10_would wsX9_isFullFor := goodIn_r _ [18, 19, 20, 21, 22, 23, 24, 25, 26, 27, 28, 29, 30, 31, 92, 93, 94, 95, 96, 97, 98, 99, 100, 101, 102, 103, 104, 105, 106] (by decide +kernel) (by decide +kernel)
set_option maxRecDepth 20000 in
theorem gX10_would_X9_isFullFor : GoodIn wsX10_would (wsV RX10 80 RX9 yX9_isFullFor wsX9_isFullFor) := goodIn_app (goodIn_of _ (by decide +kernel)) ggX10_would_X9_isFullFor
set_option maxRecDepth 20000 in
theorem ggX10_would_X9_foretell : GoodIn wsX10_would wsX9_foretell := goodIn_r _ [35, 19, 36, 37, 38, 39, 40, 41, 21, 22, 23, 24, 25, 26, 27, 28, 29, 30, 31, 42, 43, 44, 45, 46, 47, 48, 49, 50, 4, 51, 52, 53, 54, 55, 56, 57, 58, 59, 60, 61, 62, 63, 64, 65, 66, 67, 68, 69, 70, 71, 72, 73, 74, 75, 76, 77, 78, 79, 80, 81, 82, 17, 83, 84, 92, 93, 94, 95, 96, 97, 98, 99, 100, 101, 102, 103, 107, 108, 109, 110, 111, 112, 113, 114, 115, 116, 117, 118, 119, 104, 105, 106] (by decide +kernel) (by decide +kernel)
set_option maxRecDepth 20000 in
theorem gX10_would_X9_foretell : GoodIn wsX10_would (wsV RX10 244 RX9 yX9_foretell wsX9_foretell) := goodIn_app (goodIn_of _ (by decide +kernel)) ggX10_would_X9_foretell
theorem dX10_would_0 : decode cX10_would 0 = .ok (.aload_n 0, 1) := by decide +kernel
theorem dX10_would_1 : decode cX10_would 1 = .ok (.iload_n 1, 1) := by decide +kernel
theorem dX10_would_2 : decode cX10_would 2 = .ok (.invokevirtual 74, 3) := by decide +kernel
theorem dX10_would_5 : decode cX10_would 5 = .ok (.astore_n 3, 1) := by decide +kernel
theorem dX10_would_6 : decode cX10_would 6 = .ok (.aload_n 3, 1) := by decide +kernel
theorem dX10_would_7 : decode cX10_would 7 = .ok (.ifnull 10, 3) := by decide +kernel
theorem dX10_would_10 : decode cX10_would 10 = .ok (.iload_n 2, 1) := by decide +kernel
theorem dX10_would_11 : decode cX10_would 11 = .ok (.invokestatic 77, 3) := by decide +kernel
theorem dX10_would_14 : decode cX10_would 14 = .ok (.ifCond .ne 6, 3) := by decide +kernel
theorem dX10_would_17 : decode cX10_would 17 = .ok (.bipush (-2), 2) := by decide +kernel
theorem dX10_would_19 : decode cX10_would 19 = .ok (.ireturn, 1) := by decide +kernel
theorem dX10_would_20 : decode cX10_would 20 = .ok (.aload_n 3, 1) := by decide +kernel
theorem dX10_would_21 : decode cX10_would 21 = .ok (.iload_n 2, 1) := by decide +kernel
theorem dX10_would_22 : decode cX10_would 22 = .ok (.invokevirtual 80, 3) := by decide +kernel
theorem dX10_would_25 : decode cX10_would 25 = .ok (.ifCond .eq 8, 3) := by decide +kernel
theorem dX10_would_28 : decode cX10_would 28 = .ok (.bipush (-3), 2) := by decide +kernel
theorem dX10_would_30 : decode cX10_would 30 = .ok (.goto 8, 3) := by decide +kernel
theorem dX10_would_33 : decode cX10_would 33 = .ok (.aload_n 3, 1) := by decide +kernel
theorem dX10_would_34 : decode cX10_would 34 = .ok (.iload_n 2, 1) := by decide +kernel
theorem dX10_would_35 : decode cX10_would 35 = .ok (.invokevirtual 244, 3) := by decide +kernel
theorem dX10_would_38 : decode cX10_would 38 = .ok (.ireturn, 1) := by decide +kernel
set_option maxRecDepth 20000 in
theorem ggX10_frozen_X10_tableAt : GoodIn wsX10_frozen wsX10_tableAt := goodIn_r _ [14, 15, 16, 17, 13, 18, 109, 110, 111, 112, 113, 114, 115] (by decide +kernel) (by decide +kernel)
set_option maxRecDepth 20000 in
theorem gX10_frozen_X10_tableAt : GoodIn wsX10_frozen (wsV RX10 74 RX10 yX10_tableAt wsX10_tableAt) := goodIn_app (goodIn_of _ (by decide +kernel)) ggX10_frozen_X10_tableAt
set_option maxRecDepth 20000 in
theorem ggX10_frozen_X5_freeze : GoodIn wsX10_frozen wsX5_freeze := goodIn_r _ [23, 24, 25, 26, 27, 28, 29, 30, 31, 32, 33, 34, 35, 36, 37, 38, 39, 40, 41, 42, 43, 44, 45, 46, 47, 48, 49, 50, 51, 52, 53, 54, 55, 56, 57, 58, 59, 60, 61, 62, 63, 64, 65, 66, 67, 68, 69, 70, 71, 72, 73, 74, 13, 75, 76, 77, 78, 79, 80, 81, 82, 83, 84, 85, 86, 87, 88, 89, 90, 91, 92, 93, 94, 95, 96, 97, 98, 99, 148, 149, 150, 128, 129, 130, 144, 145, 146, 147, 131, 132, 133, 134, 135, 136, 137, 138, 139, 140, 141, 142, 143] (by decide +kernel) (by decide +kernel)
set_option maxRecDepth 20000 in
theorem gX10_frozen_X5_freeze : GoodIn wsX10_frozen (wsV RX10 247 RX5 yX5_freeze wsX5_freeze) := goodIn_app (goodIn_of _ (by decide +kernel)) ggX10_frozen_X5_freeze
set_option maxRecDepth 20000 in
theorem ggX10_frozen_X5_edgeRoom : GoodIn wsX10_frozen wsX5_edgeRoom := goodIn_r _ [103, 30, 104, 105, 106, 107, 56, 108, 66, 94, 68, 82, 128, 129, 130, 131, 132, 133, 134, 135, 136, 137, 138, 139, 140, 141, 142, 143] (by decide +kernel) (by decide +kernel)
set_option maxRecDepth 20000 in
theorem gX10_frozen_X5_edgeRoom : GoodIn wsX10_frozen (wsV RX10 258 RX5 yX5_edgeRoom wsX5_edgeRoom) := goodIn_app (goodIn_of _ (by decide +kernel)) ggX10_frozen_X5_edgeRoom
theorem dX10_frozen_0 : decode cX10_frozen 0 = .ok (.aload_n 0, 1) := by decide +kernel
theorem dX10_frozen_1 : decode cX10_frozen 1 = .ok (.iload_n 1, 1) := by decide +kernel
theorem dX10_frozen_2 : decode cX10_frozen 2 = .ok (.invokevirtual 74, 3) := by decide +kernel
theorem dX10_frozen_5 : decode cX10_frozen 5 = .ok (.astore 5, 2) := by decide +kernel
theorem dX10_frozen_7 : decode cX10_frozen 7 = .ok (.aload 5, 2) := by decide +kernel
theorem dX10_frozen_9 : decode cX10_frozen 9 = .ok (.ifnull 14, 3) := by decide +kernel
theorem dX10_frozen_12 : decode cX10_frozen 12 = .ok (.iload 4, 2) := by decide +kernel
theorem dX10_frozen_14 : decode cX10_frozen 14 = .ok (.ifCond .lt 9, 3) := by decide +kernel
theorem dX10_frozen_17 : decode cX10_frozen 17 = .ok (.iload 4, 2) := by decide +kernel
theorem dX10_frozen_19 : decode cX10_frozen 19 = .ok (.iconst 4, 1) := by decide +kernel
theorem dX10_frozen_20 : decode cX10_frozen 20 = .ok (.if_icmp .le 7, 3) := by decide +kernel
theorem dX10_frozen_23 : decode cX10_frozen 23 = .ok (.ldc2_w 91, 3) := by decide +kernel
theorem dX10_frozen_26 : decode cX10_frozen 26 = .ok (.lreturn, 1) := by decide +kernel
theorem dX10_frozen_27 : decode cX10_frozen 27 = .ok (.aload_n 0, 1) := by decide +kernel
theorem dX10_frozen_28 : decode cX10_frozen 28 = .ok (.getfield 26, 3) := by decide +kernel
theorem dX10_frozen_31 : decode cX10_frozen 31 = .ok (.aload 5, 2) := by decide +kernel
theorem dX10_frozen_33 : decode cX10_frozen 33 = .ok (.getfield 93, 3) := by decide +kernel
theorem dX10_frozen_36 : decode cX10_frozen 36 = .ok (.lload_n 2, 1) := by decide +kernel
theorem dX10_frozen_37 : decode cX10_frozen 37 = .ok (.invokevirtual 247, 3) := by decide +kernel
theorem dX10_frozen_40 : decode cX10_frozen 40 = .ok (.ifCond .ne 7, 3) := by decide +kernel
theorem dX10_frozen_43 : decode cX10_frozen 43 = .ok (.ldc2_w 251, 3) := by decide +kernel
theorem dX10_frozen_46 : decode cX10_frozen 46 = .ok (.lreturn, 1) := by decide +kernel
theorem dX10_frozen_47 : decode cX10_frozen 47 = .ok (.iload 4, 2) := by decide +kernel
theorem dX10_frozen_49 : decode cX10_frozen 49 = .ok (.tableswitch 82 0 3 #[31, 43, 52, 72], 31) := by decide +kernel
theorem dX10_frozen_80 : decode cX10_frozen 80 = .ok (.aload_n 0, 1) := by decide +kernel
theorem dX10_frozen_81 : decode cX10_frozen 81 = .ok (.getfield 26, 3) := by decide +kernel
theorem dX10_frozen_84 : decode cX10_frozen 84 = .ok (.getfield 253, 3) := by decide +kernel
theorem dX10_frozen_87 : decode cX10_frozen 87 = .ok (.getfield 139, 3) := by decide +kernel
theorem dX10_frozen_90 : decode cX10_frozen 90 = .ok (.i2l, 1) := by decide +kernel
theorem dX10_frozen_91 : decode cX10_frozen 91 = .ok (.lreturn, 1) := by decide +kernel
theorem dX10_frozen_92 : decode cX10_frozen 92 = .ok (.aload_n 0, 1) := by decide +kernel
theorem dX10_frozen_93 : decode cX10_frozen 93 = .ok (.getfield 26, 3) := by decide +kernel
theorem dX10_frozen_96 : decode cX10_frozen 96 = .ok (.getfield 254, 3) := by decide +kernel
theorem dX10_frozen_99 : decode cX10_frozen 99 = .ok (.i2l, 1) := by decide +kernel
theorem dX10_frozen_100 : decode cX10_frozen 100 = .ok (.lreturn, 1) := by decide +kernel
theorem dX10_frozen_101 : decode cX10_frozen 101 = .ok (.aload_n 0, 1) := by decide +kernel
theorem dX10_frozen_102 : decode cX10_frozen 102 = .ok (.getfield 26, 3) := by decide +kernel
theorem dX10_frozen_105 : decode cX10_frozen 105 = .ok (.getfield 257, 3) := by decide +kernel
theorem dX10_frozen_108 : decode cX10_frozen 108 = .ok (.getfield 113, 3) := by decide +kernel
theorem dX10_frozen_111 : decode cX10_frozen 111 = .ok (.aload_n 0, 1) := by decide +kernel
theorem dX10_frozen_112 : decode cX10_frozen 112 = .ok (.getfield 26, 3) := by decide +kernel
theorem dX10_frozen_115 : decode cX10_frozen 115 = .ok (.getfield 254, 3) := by decide +kernel
theorem dX10_frozen_118 : decode cX10_frozen 118 = .ok (.isub, 1) := by decide +kernel
theorem dX10_frozen_119 : decode cX10_frozen 119 = .ok (.i2l, 1) := by decide +kernel
theorem dX10_frozen_120 : decode cX10_frozen 120 = .ok (.lreturn, 1) := by decide +kernel
theorem dX10_frozen_121 : decode cX10_frozen 121 = .ok (.aload_n 0, 1) := by decide +kernel
theorem dX10_frozen_122 : decode cX10_frozen 122 = .ok (.getfield 26, 3) := by decide +kernel
theorem dX10_frozen_125 : decode cX10_frozen 125 = .ok (.iconst 0, 1) := by decide +kernel
theorem dX10_frozen_126 : decode cX10_frozen 126 = .ok (.invokevirtual 258, 3) := by decide +kernel
theorem dX10_frozen_129 : decode cX10_frozen 129 = .ok (.i2l, 1) := by decide +kernel
theorem dX10_frozen_130 : decode cX10_frozen 130 = .ok (.lreturn, 1) := by decide +kernel
theorem dX10_frozen_131 : decode cX10_frozen 131 = .ok (.aload_n 0, 1) := by decide +kernel
theorem dX10_frozen_132 : decode cX10_frozen 132 = .ok (.getfield 26, 3) := by decide +kernel
theorem dX10_frozen_135 : decode cX10_frozen 135 = .ok (.iconst 1, 1) := by decide +kernel
theorem dX10_frozen_136 : decode cX10_frozen 136 = .ok (.invokevirtual 258, 3) := by decide +kernel
theorem dX10_frozen_139 : decode cX10_frozen 139 = .ok (.i2l, 1) := by decide +kernel
theorem dX10_frozen_140 : decode cX10_frozen 140 = .ok (.lreturn, 1) := by decide +kernel
set_option maxRecDepth 20000 in
theorem ggX10_frozenAt_X10_tableAt : GoodIn wsX10_frozenAt wsX10_tableAt := goodIn_r _ [8, 9, 10, 11, 7, 12, 121, 122, 123, 124, 125, 126, 127] (by decide +kernel) (by decide +kernel)
set_option maxRecDepth 20000 in
theorem gX10_frozenAt_X10_tableAt : GoodIn wsX10_frozenAt (wsV RX10 74 RX10 yX10_tableAt wsX10_tableAt) := goodIn_app (goodIn_of _ (by decide +kernel)) ggX10_frozenAt_X10_tableAt
set_option maxRecDepth 20000 in
theorem ggX10_frozenAt_X2_find : GoodIn wsX10_frozenAt wsX2_find := goodIn_r _ [17, 18, 19, 20, 21, 22, 16, 23, 131, 132, 133] (by decide +kernel) (by decide +kernel)
set_option maxRecDepth 20000 in
theorem gX10_frozenAt_X2_find : GoodIn wsX10_frozenAt (wsV RX10 97 RX2 yX2_find wsX2_find) := goodIn_app (goodIn_of _ (by decide +kernel)) ggX10_frozenAt_X2_find
set_option maxRecDepth 20000 in
theorem ggX10_frozenAt_X5_freeze : GoodIn wsX10_frozenAt wsX5_freeze := goodIn_r _ [28, 29, 30, 31, 32, 33, 34, 35, 36, 37, 38, 39, 40, 41, 42, 43, 44, 45, 46, 47, 48, 49, 50, 51, 52, 53, 54, 55, 56, 57, 58, 59, 60, 61, 62, 63, 64, 65, 66, 67, 68, 69, 70, 71, 72, 73, 74, 75, 76, 77, 78, 79, 7, 80, 81, 82, 83, 84, 85, 86, 87, 88, 89, 90, 91, 92, 93, 94, 95, 96, 97, 98, 99, 100, 101, 102, 103, 104, 131, 132, 133, 128, 129, 130, 134, 135, 136, 137, 138, 139, 140, 141, 142, 143, 144, 145, 146, 147, 148, 149, 150] (by decide +kernel) (by decide +kernel)
set_option maxRecDepth 20000 in
theorem gX10_frozenAt_X5_freeze : GoodIn wsX10_frozenAt (wsV RX10 247 RX5 yX5_freeze wsX5_freeze) := goodIn_app (goodIn_of _ (by decide +kernel)) ggX10_frozenAt_X5_freeze
set_option maxRecDepth 20000 in
theorem ggX10_frozenAt_X3_roomOfAll : GoodIn wsX10_frozenAt wsX3_roomOfAll := goodIn_r _ [108, 71, 99, 73, 87, 138, 139, 140, 141, 142, 143, 144, 145, 146, 147, 148, 149, 150] (by decide +kernel) (by decide +kernel)
set_option maxRecDepth 20000 in
theorem gX10_frozenAt_X3_roomOfAll : GoodIn wsX10_frozenAt (wsV RX10 262 RX3 yX3_roomOfAll wsX3_roomOfAll) := goodIn_app (goodIn_of _ (by decide +kernel)) ggX10_frozenAt_X3_roomOfAll
theorem dX10_frozenAt_0 : decode cX10_frozenAt 0 = .ok (.aload_n 0, 1) := by decide +kernel
theorem dX10_frozenAt_1 : decode cX10_frozenAt 1 = .ok (.iload_n 1, 1) := by decide +kernel
theorem dX10_frozenAt_2 : decode cX10_frozenAt 2 = .ok (.invokevirtual 74, 3) := by decide +kernel
theorem dX10_frozenAt_5 : decode cX10_frozenAt 5 = .ok (.astore 5, 2) := by decide +kernel
theorem dX10_frozenAt_7 : decode cX10_frozenAt 7 = .ok (.aload 5, 2) := by decide +kernel
theorem dX10_frozenAt_9 : decode cX10_frozenAt 9 = .ok (.ifnonnull 5, 3) := by decide +kernel
theorem dX10_frozenAt_12 : decode cX10_frozenAt 12 = .ok (.iconst (-1), 1) := by decide +kernel
theorem dX10_frozenAt_13 : decode cX10_frozenAt 13 = .ok (.ireturn, 1) := by decide +kernel
theorem dX10_frozenAt_14 : decode cX10_frozenAt 14 = .ok (.aload 5, 2) := by decide +kernel
theorem dX10_frozenAt_16 : decode cX10_frozenAt 16 = .ok (.getfield 93, 3) := by decide +kernel
theorem dX10_frozenAt_19 : decode cX10_frozenAt 19 = .ok (.iload 4, 2) := by decide +kernel
theorem dX10_frozenAt_21 : decode cX10_frozenAt 21 = .ok (.invokevirtual 97, 3) := by decide +kernel
theorem dX10_frozenAt_24 : decode cX10_frozenAt 24 = .ok (.istore 6, 2) := by decide +kernel
theorem dX10_frozenAt_26 : decode cX10_frozenAt 26 = .ok (.iload 6, 2) := by decide +kernel
theorem dX10_frozenAt_28 : decode cX10_frozenAt 28 = .ok (.ifCond .ge 5, 3) := by decide +kernel
theorem dX10_frozenAt_31 : decode cX10_frozenAt 31 = .ok (.iconst (-1), 1) := by decide +kernel
theorem dX10_frozenAt_32 : decode cX10_frozenAt 32 = .ok (.ireturn, 1) := by decide +kernel
theorem dX10_frozenAt_33 : decode cX10_frozenAt 33 = .ok (.aload_n 0, 1) := by decide +kernel
theorem dX10_frozenAt_34 : decode cX10_frozenAt 34 = .ok (.getfield 26, 3) := by decide +kernel
theorem dX10_frozenAt_37 : decode cX10_frozenAt 37 = .ok (.aload 5, 2) := by decide +kernel
theorem dX10_frozenAt_39 : decode cX10_frozenAt 39 = .ok (.getfield 93, 3) := by decide +kernel
theorem dX10_frozenAt_42 : decode cX10_frozenAt 42 = .ok (.lload_n 2, 1) := by decide +kernel
theorem dX10_frozenAt_43 : decode cX10_frozenAt 43 = .ok (.invokevirtual 247, 3) := by decide +kernel
theorem dX10_frozenAt_46 : decode cX10_frozenAt 46 = .ok (.ifCond .eq 18, 3) := by decide +kernel
theorem dX10_frozenAt_49 : decode cX10_frozenAt 49 = .ok (.aload_n 0, 1) := by decide +kernel
theorem dX10_frozenAt_50 : decode cX10_frozenAt 50 = .ok (.getfield 26, 3) := by decide +kernel
theorem dX10_frozenAt_53 : decode cX10_frozenAt 53 = .ok (.getfield 253, 3) := by decide +kernel
theorem dX10_frozenAt_56 : decode cX10_frozenAt 56 = .ok (.iload 6, 2) := by decide +kernel
theorem dX10_frozenAt_58 : decode cX10_frozenAt 58 = .ok (.invokevirtual 262, 3) := by decide +kernel
theorem dX10_frozenAt_61 : decode cX10_frozenAt 61 = .ok (.goto 5, 3) := by decide +kernel
theorem dX10_frozenAt_64 : decode cX10_frozenAt 64 = .ok (.bipush (-2), 2) := by decide +kernel
theorem dX10_frozenAt_66 : decode cX10_frozenAt 66 = .ok (.ireturn, 1) := by decide +kernel
set_option maxRecDepth 20000 in
theorem ggX10_shared_X10_tableAt : GoodIn wsX10_shared wsX10_tableAt := goodIn_r _ [7, 8, 9, 10, 6, 11, 43, 44, 45, 46, 47, 48, 49] (by decide +kernel) (by decide +kernel)
set_option maxRecDepth 20000 in
theorem gX10_shared_X10_tableAt : GoodIn wsX10_shared (wsV RX10 74 RX10 yX10_tableAt wsX10_tableAt) := goodIn_app (goodIn_of _ (by decide +kernel)) ggX10_shared_X10_tableAt
set_option maxRecDepth 20000 in
theorem ggX10_shared_X2_sharedWith : GoodIn wsX10_shared wsX2_sharedWith := goodIn_r _ [16, 17, 18, 19, 20, 21, 22, 15, 23, 24, 25, 26, 27, 40, 41, 42] (by decide +kernel) (by decide +kernel)
set_option maxRecDepth 20000 in
theorem gX10_shared_X2_sharedWith : GoodIn wsX10_shared (wsV RX10 265 RX2 yX2_sharedWith wsX2_sharedWith) := goodIn_app (goodIn_of _ (by decide +kernel)) ggX10_shared_X2_sharedWith
theorem dX10_shared_0 : decode cX10_shared 0 = .ok (.aload_n 0, 1) := by decide +kernel
theorem dX10_shared_1 : decode cX10_shared 1 = .ok (.iload_n 1, 1) := by decide +kernel
theorem dX10_shared_2 : decode cX10_shared 2 = .ok (.invokevirtual 74, 3) := by decide +kernel
theorem dX10_shared_5 : decode cX10_shared 5 = .ok (.astore 4, 2) := by decide +kernel
theorem dX10_shared_7 : decode cX10_shared 7 = .ok (.aload_n 0, 1) := by decide +kernel
theorem dX10_shared_8 : decode cX10_shared 8 = .ok (.iload_n 2, 1) := by decide +kernel
theorem dX10_shared_9 : decode cX10_shared 9 = .ok (.invokevirtual 74, 3) := by decide +kernel
theorem dX10_shared_12 : decode cX10_shared 12 = .ok (.astore 5, 2) := by decide +kernel
theorem dX10_shared_14 : decode cX10_shared 14 = .ok (.aload 4, 2) := by decide +kernel
theorem dX10_shared_16 : decode cX10_shared 16 = .ok (.ifnull 8, 3) := by decide +kernel
theorem dX10_shared_19 : decode cX10_shared 19 = .ok (.aload 5, 2) := by decide +kernel
theorem dX10_shared_21 : decode cX10_shared 21 = .ok (.ifnonnull 5, 3) := by decide +kernel
theorem dX10_shared_24 : decode cX10_shared 24 = .ok (.iconst (-1), 1) := by decide +kernel
theorem dX10_shared_25 : decode cX10_shared 25 = .ok (.ireturn, 1) := by decide +kernel
theorem dX10_shared_26 : decode cX10_shared 26 = .ok (.aload 4, 2) := by decide +kernel
theorem dX10_shared_28 : decode cX10_shared 28 = .ok (.getfield 93, 3) := by decide +kernel
theorem dX10_shared_31 : decode cX10_shared 31 = .ok (.aload 5, 2) := by decide +kernel
theorem dX10_shared_33 : decode cX10_shared 33 = .ok (.getfield 93, 3) := by decide +kernel
theorem dX10_shared_36 : decode cX10_shared 36 = .ok (.iconst 0, 1) := by decide +kernel
theorem dX10_shared_37 : decode cX10_shared 37 = .ok (.invokevirtual 265, 3) := by decide +kernel
theorem dX10_shared_40 : decode cX10_shared 40 = .ok (.istore 6, 2) := by decide +kernel
theorem dX10_shared_42 : decode cX10_shared 42 = .ok (.iload_n 3, 1) := by decide +kernel
theorem dX10_shared_43 : decode cX10_shared 43 = .ok (.tableswitch 80 0 3 #[29, 32, 53, 65], 29) := by decide +kernel
theorem dX10_shared_72 : decode cX10_shared 72 = .ok (.iload 6, 2) := by decide +kernel
theorem dX10_shared_74 : decode cX10_shared 74 = .ok (.ireturn, 1) := by decide +kernel
theorem dX10_shared_75 : decode cX10_shared 75 = .ok (.aload 4, 2) := by decide +kernel
theorem dX10_shared_77 : decode cX10_shared 77 = .ok (.getfield 93, 3) := by decide +kernel
theorem dX10_shared_80 : decode cX10_shared 80 = .ok (.getfield 121, 3) := by decide +kernel
theorem dX10_shared_83 : decode cX10_shared 83 = .ok (.aload 5, 2) := by decide +kernel
theorem dX10_shared_85 : decode cX10_shared 85 = .ok (.getfield 93, 3) := by decide +kernel
theorem dX10_shared_88 : decode cX10_shared 88 = .ok (.getfield 121, 3) := by decide +kernel
theorem dX10_shared_91 : decode cX10_shared 91 = .ok (.iadd, 1) := by decide +kernel
theorem dX10_shared_92 : decode cX10_shared 92 = .ok (.iload 6, 2) := by decide +kernel
theorem dX10_shared_94 : decode cX10_shared 94 = .ok (.isub, 1) := by decide +kernel
theorem dX10_shared_95 : decode cX10_shared 95 = .ok (.ireturn, 1) := by decide +kernel
theorem dX10_shared_96 : decode cX10_shared 96 = .ok (.aload 4, 2) := by decide +kernel
theorem dX10_shared_98 : decode cX10_shared 98 = .ok (.getfield 93, 3) := by decide +kernel
theorem dX10_shared_101 : decode cX10_shared 101 = .ok (.getfield 121, 3) := by decide +kernel
theorem dX10_shared_104 : decode cX10_shared 104 = .ok (.iload 6, 2) := by decide +kernel
theorem dX10_shared_106 : decode cX10_shared 106 = .ok (.isub, 1) := by decide +kernel
theorem dX10_shared_107 : decode cX10_shared 107 = .ok (.ireturn, 1) := by decide +kernel
theorem dX10_shared_108 : decode cX10_shared 108 = .ok (.aload 4, 2) := by decide +kernel
theorem dX10_shared_110 : decode cX10_shared 110 = .ok (.getfield 93, 3) := by decide +kernel
theorem dX10_shared_113 : decode cX10_shared 113 = .ok (.aload 5, 2) := by decide +kernel
theorem dX10_shared_115 : decode cX10_shared 115 = .ok (.getfield 93, 3) := by decide +kernel
theorem dX10_shared_118 : decode cX10_shared 118 = .ok (.iconst 1, 1) := by decide +kernel
theorem dX10_shared_119 : decode cX10_shared 119 = .ok (.invokevirtual 265, 3) := by decide +kernel
theorem dX10_shared_122 : decode cX10_shared 122 = .ok (.ireturn, 1) := by decide +kernel
theorem dX10_shared_123 : decode cX10_shared 123 = .ok (.iconst (-1), 1) := by decide +kernel
theorem dX10_shared_124 : decode cX10_shared 124 = .ok (.ireturn, 1) := by decide +kernel
set_option maxRecDepth 20000 in
theorem ggX10_join_X10_tableAt : GoodIn wsX10_join wsX10_tableAt := goodIn_r _ [7, 8, 9, 10, 6, 11, 199, 200, 201, 202, 203, 204, 205] (by decide +kernel) (by decide +kernel)
set_option maxRecDepth 20000 in
theorem gX10_join_X10_tableAt : GoodIn wsX10_join (wsV RX10 74 RX10 yX10_tableAt wsX10_tableAt) := goodIn_app (goodIn_of _ (by decide +kernel)) ggX10_join_X10_tableAt
set_option maxRecDepth 20000 in
theorem ggX10_join_X2_keyAt : GoodIn wsX10_join wsX2_keyAt := goodIn_r _ [16, 17, 18, 196, 197, 198] (by decide +kernel) (by decide +kernel)
set_option maxRecDepth 20000 in
theorem gX10_join_X2_keyAt : GoodIn wsX10_join (wsV RX10 197 RX2 yX2_keyAt wsX2_keyAt) := goodIn_app (goodIn_of _ (by decide +kernel)) ggX10_join_X2_keyAt
set_option maxRecDepth 20000 in
theorem ggX10_join_X9_isFullFor : GoodIn wsX10_join wsX9_isFullFor := goodIn_r _ [23, 24, 25, 26, 27, 28, 15, 29, 17, 18, 30, 31, 32, 33, 184, 185, 186, 187, 188, 189, 190, 191, 192, 193, 194, 195, 196, 197, 198] (by decide +kernel) (by decide +kernel)
set_option maxRecDepth 20000 in
theorem gX10_join_X9_isFullFor : GoodIn wsX10_join (wsV RX10 80 RX9 yX9_isFullFor wsX9_isFullFor) := goodIn_app (goodIn_of _ (by decide +kernel)) ggX10_join_X9_isFullFor
set_option maxRecDepth 20000 in
theorem ggX10_join_X2_valueAt : GoodIn wsX10_join wsX2_valueAt := goodIn_r _ [37, 17, 38, 196, 197, 198] (by decide +kernel) (by decide +kernel)
set_option maxRecDepth 20000 in
theorem gX10_join_X2_valueAt : GoodIn wsX10_join (wsV RX10 103 RX2 yX2_valueAt wsX2_valueAt) := goodIn_app (goodIn_of _ (by decide +kernel)) ggX10_join_X2_valueAt
set_option maxRecDepth 20000 in
theorem ggX10_join_X9_lay : GoodIn wsX10_join wsX9_lay := goodIn_r _ [42, 24, 43, 44, 45, 46, 47, 48, 49, 50, 51, 52, 53, 54, 22, 55, 56, 57, 58, 26, 27, 28, 15, 29, 17, 18, 30, 31, 32, 33, 59, 60, 61, 62, 63, 64, 65, 66, 67, 6, 68, 69, 70, 71, 72, 73, 74, 75, 76, 77, 78, 79, 80, 81, 82, 83, 84, 85, 86, 87, 88, 89, 90, 91, 92, 93, 94, 95, 96, 97, 98, 99, 100, 101, 102, 103, 104, 105, 106, 107, 108, 109, 110, 111, 112, 113, 114, 115, 116, 117, 38, 118, 119, 120, 121, 25, 122, 123, 124, 125, 126, 127, 128, 129, 130, 131, 132, 133, 134, 135, 136, 137, 138, 139, 140, 141, 142, 143, 144, 145, 146, 147, 148, 149, 150, 151, 152, 153, 154, 155, 156, 157, 158, 159, 160, 161, 162, 163, 164, 165, 166, 167, 168, 169, 170, 171, 172, 173, 174, 175, 176, 177, 178, 179, 180, 181, 182, 183, 184, 185, 186, 187, 188, 189, 190, 191, 192, 193, 194, 195, 196, 197, 198, 206, 207, 208, 209, 210, 211, 212, 213, 214, 215, 216, 217, 218, 219, 220, 221, 222] (by decide +kernel) (by decide +kernel)
set_option maxRecDepth 20000 in
theorem gX10_join_X9_lay : GoodIn wsX10_join (wsV RX10 87 RX9 yX9_lay wsX9_lay) := goodIn_app (goodIn_of _ (by decide +kernel)) ggX10_join_X9_lay
theorem dX10_join_0 : decode cX10_join 0 = .ok (.aload_n 0, 1) := by decide +kernel
theorem dX10_join_1 : decode cX10_join 1 = .ok (.iload_n 1, 1) := by decide +kernel
theorem dX10_join_2 : decode cX10_join 2 = .ok (.invokevirtual 74, 3) := by decide +kernel
theorem dX10_join_5 : decode cX10_join 5 = .ok (.astore_n 3, 1) := by decide +kernel
theorem dX10_join_6 : decode cX10_join 6 = .ok (.aload_n 0, 1) := by decide +kernel
theorem dX10_join_7 : decode cX10_join 7 = .ok (.iload_n 2, 1) := by decide +kernel
theorem dX10_join_8 : decode cX10_join 8 = .ok (.invokevirtual 74, 3) := by decide +kernel
theorem dX10_join_11 : decode cX10_join 11 = .ok (.astore 4, 2) := by decide +kernel
theorem dX10_join_13 : decode cX10_join 13 = .ok (.aload_n 3, 1) := by decide +kernel
theorem dX10_join_14 : decode cX10_join 14 = .ok (.ifnull 13, 3) := by decide +kernel
theorem dX10_join_17 : decode cX10_join 17 = .ok (.aload 4, 2) := by decide +kernel
theorem dX10_join_19 : decode cX10_join 19 = .ok (.ifnull 8, 3) := by decide +kernel
theorem dX10_join_22 : decode cX10_join 22 = .ok (.iload_n 1, 1) := by decide +kernel
theorem dX10_join_23 : decode cX10_join 23 = .ok (.iload_n 2, 1) := by decide +kernel
theorem dX10_join_24 : decode cX10_join 24 = .ok (.if_icmp .ne 6, 3) := by decide +kernel
theorem dX10_join_27 : decode cX10_join 27 = .ok (.bipush (-2), 2) := by decide +kernel
theorem dX10_join_29 : decode cX10_join 29 = .ok (.ireturn, 1) := by decide +kernel
theorem dX10_join_30 : decode cX10_join 30 = .ok (.iconst 0, 1) := by decide +kernel
theorem dX10_join_31 : decode cX10_join 31 = .ok (.istore 5, 2) := by decide +kernel
theorem dX10_join_33 : decode cX10_join 33 = .ok (.iconst 0, 1) := by decide +kernel
theorem dX10_join_34 : decode cX10_join 34 = .ok (.istore 6, 2) := by decide +kernel
theorem dX10_join_36 : decode cX10_join 36 = .ok (.iload 6, 2) := by decide +kernel
theorem dX10_join_38 : decode cX10_join 38 = .ok (.aload 4, 2) := by decide +kernel
theorem dX10_join_40 : decode cX10_join 40 = .ok (.getfield 93, 3) := by decide +kernel
theorem dX10_join_43 : decode cX10_join 43 = .ok (.getfield 121, 3) := by decide +kernel
theorem dX10_join_46 : decode cX10_join 46 = .ok (.if_icmp .ge 55, 3) := by decide +kernel
theorem dX10_join_49 : decode cX10_join 49 = .ok (.aload 4, 2) := by decide +kernel
theorem dX10_join_51 : decode cX10_join 51 = .ok (.getfield 93, 3) := by decide +kernel
theorem dX10_join_54 : decode cX10_join 54 = .ok (.iload 6, 2) := by decide +kernel
theorem dX10_join_56 : decode cX10_join 56 = .ok (.invokevirtual 197, 3) := by decide +kernel
theorem dX10_join_59 : decode cX10_join 59 = .ok (.istore 7, 2) := by decide +kernel
theorem dX10_join_61 : decode cX10_join 61 = .ok (.aload_n 3, 1) := by decide +kernel
theorem dX10_join_62 : decode cX10_join 62 = .ok (.iload 7, 2) := by decide +kernel
theorem dX10_join_64 : decode cX10_join 64 = .ok (.invokevirtual 80, 3) := by decide +kernel
theorem dX10_join_67 : decode cX10_join 67 = .ok (.ifCond .eq 6, 3) := by decide +kernel
theorem dX10_join_70 : decode cX10_join 70 = .ok (.goto 31, 3) := by decide +kernel
theorem dX10_join_73 : decode cX10_join 73 = .ok (.aload_n 3, 1) := by decide +kernel
theorem dX10_join_74 : decode cX10_join 74 = .ok (.iload 7, 2) := by decide +kernel
theorem dX10_join_76 : decode cX10_join 76 = .ok (.aload 4, 2) := by decide +kernel
theorem dX10_join_78 : decode cX10_join 78 = .ok (.getfield 93, 3) := by decide +kernel
theorem dX10_join_81 : decode cX10_join 81 = .ok (.iload 6, 2) := by decide +kernel
theorem dX10_join_83 : decode cX10_join 83 = .ok (.invokevirtual 103, 3) := by decide +kernel
theorem dX10_join_86 : decode cX10_join 86 = .ok (.invokevirtual 87, 3) := by decide +kernel
theorem dX10_join_89 : decode cX10_join 89 = .ok (.ifCond .eq 6, 3) := by decide +kernel
theorem dX10_join_92 : decode cX10_join 92 = .ok (.iinc 5 1, 3) := by decide +kernel
theorem dX10_join_95 : decode cX10_join 95 = .ok (.iinc 6 1, 3) := by decide +kernel
theorem dX10_join_98 : decode cX10_join 98 = .ok (.goto (-62), 3) := by decide +kernel
theorem dX10_join_101 : decode cX10_join 101 = .ok (.iload 5, 2) := by decide +kernel
theorem dX10_join_103 : decode cX10_join 103 = .ok (.ireturn, 1) := by decide +kernel
set_option maxRecDepth 20000 in
theorem ggX10_cut_X10_tableAt : GoodIn wsX10_cut wsX10_tableAt := goodIn_r _ [7, 8, 9, 10, 6, 11, 150, 151, 152, 153, 154, 155, 156] (by decide +kernel) (by decide +kernel)
set_option maxRecDepth 20000 in
theorem gX10_cut_X10_tableAt : GoodIn wsX10_cut (wsV RX10 74 RX10 yX10_tableAt wsX10_tableAt) := goodIn_app (goodIn_of _ (by decide +kernel)) ggX10_cut_X10_tableAt
set_option maxRecDepth 20000 in
theorem ggX10_cut_X2_keyAt : GoodIn wsX10_cut wsX2_keyAt := goodIn_r _ [16, 17, 18, 147, 148, 149] (by decide +kernel) (by decide +kernel)
set_option maxRecDepth 20000 in
theorem gX10_cut_X2_keyAt : GoodIn wsX10_cut (wsV RX10 197 RX2 yX2_keyAt wsX2_keyAt) := goodIn_app (goodIn_of _ (by decide +kernel)) ggX10_cut_X2_keyAt
set_option maxRecDepth 20000 in
theorem ggX10_cut_X2_find : GoodIn wsX10_cut wsX2_find := goodIn_r _ [22, 17, 18, 23, 24, 25, 15, 26, 147, 148, 149] (by decide +kernel) (by decide +kernel)
set_option maxRecDepth 20000 in
theorem gX10_cut_X2_find : GoodIn wsX10_cut (wsV RX10 97 RX2 yX2_find wsX2_find) := goodIn_app (goodIn_of _ (by decide +kernel)) ggX10_cut_X2_find
set_option maxRecDepth 20000 in
theorem ggX10_cut_X9_take : GoodIn wsX10_cut wsX9_take := goodIn_r _ [31, 32, 33, 34, 35, 36, 37, 20, 21, 15, 22, 17, 18, 23, 24, 25, 26, 38, 39, 40, 41, 42, 43, 44, 45, 46, 47, 48, 49, 50, 51, 52, 53, 54, 55, 56, 57, 58, 59, 30, 60, 61, 62, 63, 64, 65, 66, 67, 68, 69, 70, 71, 72, 73, 74, 75, 76, 77, 78, 79, 80, 81, 82, 83, 84, 85, 86, 87, 88, 89, 90, 91, 92, 93, 94, 95, 96, 97, 98, 99, 100, 101, 102, 103, 104, 105, 6, 106, 107, 108, 109, 110, 111, 112, 113, 114, 115, 116, 117, 118, 119, 120, 121, 122, 123, 124, 125, 126, 127, 128, 129, 130, 131, 132, 133, 134, 135, 136, 137, 138, 139, 140, 141, 142, 143, 144, 145, 146, 147, 148, 149, 157, 158, 159, 160, 161, 162, 163, 164, 165, 166, 167, 168, 169, 170, 171, 172, 173] (by decide +kernel) (by decide +kernel)
set_option maxRecDepth 20000 in
theorem gX10_cut_X9_take : GoodIn wsX10_cut (wsV RX10 106 RX9 yX9_take wsX9_take) := goodIn_app (goodIn_of _ (by decide +kernel)) ggX10_cut_X9_take
theorem dX10_cut_0 : decode cX10_cut 0 = .ok (.aload_n 0, 1) := by decide +kernel
theorem dX10_cut_1 : decode cX10_cut 1 = .ok (.iload_n 1, 1) := by decide +kernel
theorem dX10_cut_2 : decode cX10_cut 2 = .ok (.invokevirtual 74, 3) := by decide +kernel
theorem dX10_cut_5 : decode cX10_cut 5 = .ok (.astore 4, 2) := by decide +kernel
theorem dX10_cut_7 : decode cX10_cut 7 = .ok (.aload_n 0, 1) := by decide +kernel
theorem dX10_cut_8 : decode cX10_cut 8 = .ok (.iload_n 2, 1) := by decide +kernel
theorem dX10_cut_9 : decode cX10_cut 9 = .ok (.invokevirtual 74, 3) := by decide +kernel
theorem dX10_cut_12 : decode cX10_cut 12 = .ok (.astore 5, 2) := by decide +kernel
theorem dX10_cut_14 : decode cX10_cut 14 = .ok (.aload 4, 2) := by decide +kernel
theorem dX10_cut_16 : decode cX10_cut 16 = .ok (.ifnull 13, 3) := by decide +kernel
theorem dX10_cut_19 : decode cX10_cut 19 = .ok (.aload 5, 2) := by decide +kernel
theorem dX10_cut_21 : decode cX10_cut 21 = .ok (.ifnull 8, 3) := by decide +kernel
theorem dX10_cut_24 : decode cX10_cut 24 = .ok (.iload_n 1, 1) := by decide +kernel
theorem dX10_cut_25 : decode cX10_cut 25 = .ok (.iload_n 2, 1) := by decide +kernel
theorem dX10_cut_26 : decode cX10_cut 26 = .ok (.if_icmp .ne 6, 3) := by decide +kernel
theorem dX10_cut_29 : decode cX10_cut 29 = .ok (.bipush (-2), 2) := by decide +kernel
theorem dX10_cut_31 : decode cX10_cut 31 = .ok (.ireturn, 1) := by decide +kernel
theorem dX10_cut_32 : decode cX10_cut 32 = .ok (.iconst 0, 1) := by decide +kernel
theorem dX10_cut_33 : decode cX10_cut 33 = .ok (.istore 6, 2) := by decide +kernel
theorem dX10_cut_35 : decode cX10_cut 35 = .ok (.iconst 0, 1) := by decide +kernel
theorem dX10_cut_36 : decode cX10_cut 36 = .ok (.istore 7, 2) := by decide +kernel
theorem dX10_cut_38 : decode cX10_cut 38 = .ok (.aload 4, 2) := by decide +kernel
theorem dX10_cut_40 : decode cX10_cut 40 = .ok (.getfield 93, 3) := by decide +kernel
theorem dX10_cut_43 : decode cX10_cut 43 = .ok (.getfield 121, 3) := by decide +kernel
theorem dX10_cut_46 : decode cX10_cut 46 = .ok (.istore 8, 2) := by decide +kernel
theorem dX10_cut_48 : decode cX10_cut 48 = .ok (.iload 8, 2) := by decide +kernel
theorem dX10_cut_50 : decode cX10_cut 50 = .ok (.ifCond .le 60, 3) := by decide +kernel
theorem dX10_cut_53 : decode cX10_cut 53 = .ok (.aload 4, 2) := by decide +kernel
theorem dX10_cut_55 : decode cX10_cut 55 = .ok (.getfield 93, 3) := by decide +kernel
theorem dX10_cut_58 : decode cX10_cut 58 = .ok (.iload 7, 2) := by decide +kernel
theorem dX10_cut_60 : decode cX10_cut 60 = .ok (.invokevirtual 197, 3) := by decide +kernel
theorem dX10_cut_63 : decode cX10_cut 63 = .ok (.istore 9, 2) := by decide +kernel
theorem dX10_cut_65 : decode cX10_cut 65 = .ok (.aload 5, 2) := by decide +kernel
theorem dX10_cut_67 : decode cX10_cut 67 = .ok (.getfield 93, 3) := by decide +kernel
theorem dX10_cut_70 : decode cX10_cut 70 = .ok (.iload 9, 2) := by decide +kernel
theorem dX10_cut_72 : decode cX10_cut 72 = .ok (.invokevirtual 97, 3) := by decide +kernel
theorem dX10_cut_75 : decode cX10_cut 75 = .ok (.ifCond .lt 7, 3) := by decide +kernel
theorem dX10_cut_78 : decode cX10_cut 78 = .ok (.iconst 1, 1) := by decide +kernel
theorem dX10_cut_79 : decode cX10_cut 79 = .ok (.goto 4, 3) := by decide +kernel
theorem dX10_cut_82 : decode cX10_cut 82 = .ok (.iconst 0, 1) := by decide +kernel
theorem dX10_cut_83 : decode cX10_cut 83 = .ok (.iload_n 3, 1) := by decide +kernel
theorem dX10_cut_84 : decode cX10_cut 84 = .ok (.if_icmp .ne 17, 3) := by decide +kernel
theorem dX10_cut_87 : decode cX10_cut 87 = .ok (.aload 4, 2) := by decide +kernel
theorem dX10_cut_89 : decode cX10_cut 89 = .ok (.iload 9, 2) := by decide +kernel
theorem dX10_cut_91 : decode cX10_cut 91 = .ok (.invokevirtual 106, 3) := by decide +kernel
theorem dX10_cut_94 : decode cX10_cut 94 = .ok (.pop, 1) := by decide +kernel
theorem dX10_cut_95 : decode cX10_cut 95 = .ok (.iinc 6 1, 3) := by decide +kernel
theorem dX10_cut_98 : decode cX10_cut 98 = .ok (.goto 6, 3) := by decide +kernel
theorem dX10_cut_101 : decode cX10_cut 101 = .ok (.iinc 7 1, 3) := by decide +kernel
theorem dX10_cut_104 : decode cX10_cut 104 = .ok (.iinc 8 (-1), 3) := by decide +kernel
theorem dX10_cut_107 : decode cX10_cut 107 = .ok (.goto (-59), 3) := by decide +kernel
theorem dX10_cut_110 : decode cX10_cut 110 = .ok (.iload 6, 2) := by decide +kernel
theorem dX10_cut_112 : decode cX10_cut 112 = .ok (.ireturn, 1) := by decide +kernel
set_option maxRecDepth 20000 in
theorem ggX10_values_X10_tableAt : GoodIn wsX10_values wsX10_tableAt := goodIn_r _ [8, 9, 10, 11, 7, 12, 45, 46, 47, 48, 49, 50, 51] (by decide +kernel) (by decide +kernel)
set_option maxRecDepth 20000 in
theorem gX10_values_X10_tableAt : GoodIn wsX10_values (wsV RX10 74 RX10 yX10_tableAt wsX10_tableAt) := goodIn_app (goodIn_of _ (by decide +kernel)) ggX10_values_X10_tableAt
set_option maxRecDepth 20000 in
theorem ggX10_values_X2_greatest : GoodIn wsX10_values wsX2_greatest := goodIn_r _ [17, 18, 19, 52, 53, 54] (by decide +kernel) (by decide +kernel)
set_option maxRecDepth 20000 in
theorem gX10_values_X2_greatest : GoodIn wsX10_values (wsV RX10 269 RX2 yX2_greatest wsX2_greatest) := goodIn_app (goodIn_of _ (by decide +kernel)) ggX10_values_X2_greatest
set_option maxRecDepth 20000 in
theorem ggX10_values_X2_keyAt : GoodIn wsX10_values wsX2_keyAt := goodIn_r _ [23, 18, 24, 52, 53, 54] (by decide +kernel) (by decide +kernel)
set_option maxRecDepth 20000 in
theorem gX10_values_X2_keyAt : GoodIn wsX10_values (wsV RX10 197 RX2 yX2_keyAt wsX2_keyAt) := goodIn_app (goodIn_of _ (by decide +kernel)) ggX10_values_X2_keyAt
set_option maxRecDepth 20000 in
theorem ggX10_values_X2_valueAt : GoodIn wsX10_values wsX2_valueAt := goodIn_r _ [28, 18, 19, 52, 53, 54] (by decide +kernel) (by decide +kernel)
set_option maxRecDepth 20000 in
theorem gX10_values_X2_valueAt : GoodIn wsX10_values (wsV RX10 103 RX2 yX2_valueAt wsX2_valueAt) := goodIn_app (goodIn_of _ (by decide +kernel)) ggX10_values_X2_valueAt
set_option maxRecDepth 20000 in
theorem ggX10_values_X2_valueSum : GoodIn wsX10_values wsX2_valueSum := goodIn_r _ [32, 18, 19, 52, 53, 54] (by decide +kernel) (by decide +kernel)
set_option maxRecDepth 20000 in
theorem gX10_values_X2_valueSum : GoodIn wsX10_values (wsV RX10 272 RX2 yX2_valueSum wsX2_valueSum) := goodIn_app (goodIn_of _ (by decide +kernel)) ggX10_values_X2_valueSum
theorem dX10_values_0 : decode cX10_values 0 = .ok (.aload_n 0, 1) := by decide +kernel
theorem dX10_values_1 : decode cX10_values 1 = .ok (.iload_n 1, 1) := by decide +kernel
theorem dX10_values_2 : decode cX10_values 2 = .ok (.invokevirtual 74, 3) := by decide +kernel
theorem dX10_values_5 : decode cX10_values 5 = .ok (.astore_n 3, 1) := by decide +kernel
theorem dX10_values_6 : decode cX10_values 6 = .ok (.aload_n 3, 1) := by decide +kernel
theorem dX10_values_7 : decode cX10_values 7 = .ok (.ifnonnull 7, 3) := by decide +kernel
theorem dX10_values_10 : decode cX10_values 10 = .ok (.ldc2_w 91, 3) := by decide +kernel
theorem dX10_values_13 : decode cX10_values 13 = .ok (.lreturn, 1) := by decide +kernel
theorem dX10_values_14 : decode cX10_values 14 = .ok (.aload_n 3, 1) := by decide +kernel
theorem dX10_values_15 : decode cX10_values 15 = .ok (.getfield 93, 3) := by decide +kernel
theorem dX10_values_18 : decode cX10_values 18 = .ok (.invokevirtual 269, 3) := by decide +kernel
theorem dX10_values_21 : decode cX10_values 21 = .ok (.istore 4, 2) := by decide +kernel
theorem dX10_values_23 : decode cX10_values 23 = .ok (.iload_n 2, 1) := by decide +kernel
theorem dX10_values_24 : decode cX10_values 24 = .ok (.tableswitch 80 0 2 #[28, 50, 72], 28) := by decide +kernel
theorem dX10_values_52 : decode cX10_values 52 = .ok (.iload 4, 2) := by decide +kernel
theorem dX10_values_54 : decode cX10_values 54 = .ok (.ifCond .ge 9, 3) := by decide +kernel
theorem dX10_values_57 : decode cX10_values 57 = .ok (.ldc2_w 183, 3) := by decide +kernel
theorem dX10_values_60 : decode cX10_values 60 = .ok (.goto 13, 3) := by decide +kernel
theorem dX10_values_63 : decode cX10_values 63 = .ok (.aload_n 3, 1) := by decide +kernel
theorem dX10_values_64 : decode cX10_values 64 = .ok (.getfield 93, 3) := by decide +kernel
theorem dX10_values_67 : decode cX10_values 67 = .ok (.iload 4, 2) := by decide +kernel
theorem dX10_values_69 : decode cX10_values 69 = .ok (.invokevirtual 197, 3) := by decide +kernel
theorem dX10_values_72 : decode cX10_values 72 = .ok (.i2l, 1) := by decide +kernel
theorem dX10_values_73 : decode cX10_values 73 = .ok (.lreturn, 1) := by decide +kernel
theorem dX10_values_74 : decode cX10_values 74 = .ok (.iload 4, 2) := by decide +kernel
theorem dX10_values_76 : decode cX10_values 76 = .ok (.ifCond .ge 9, 3) := by decide +kernel
theorem dX10_values_79 : decode cX10_values 79 = .ok (.ldc2_w 91, 3) := by decide +kernel
theorem dX10_values_82 : decode cX10_values 82 = .ok (.goto 13, 3) := by decide +kernel
theorem dX10_values_85 : decode cX10_values 85 = .ok (.aload_n 3, 1) := by decide +kernel
theorem dX10_values_86 : decode cX10_values 86 = .ok (.getfield 93, 3) := by decide +kernel
theorem dX10_values_89 : decode cX10_values 89 = .ok (.iload 4, 2) := by decide +kernel
theorem dX10_values_91 : decode cX10_values 91 = .ok (.invokevirtual 103, 3) := by decide +kernel
theorem dX10_values_94 : decode cX10_values 94 = .ok (.i2l, 1) := by decide +kernel
theorem dX10_values_95 : decode cX10_values 95 = .ok (.lreturn, 1) := by decide +kernel
theorem dX10_values_96 : decode cX10_values 96 = .ok (.aload_n 3, 1) := by decide +kernel
theorem dX10_values_97 : decode cX10_values 97 = .ok (.getfield 93, 3) := by decide +kernel
theorem dX10_values_100 : decode cX10_values 100 = .ok (.invokevirtual 272, 3) := by decide +kernel
theorem dX10_values_103 : decode cX10_values 103 = .ok (.lreturn, 1) := by decide +kernel
theorem dX10_values_104 : decode cX10_values 104 = .ok (.ldc2_w 91, 3) := by decide +kernel
theorem dX10_values_107 : decode cX10_values 107 = .ok (.lreturn, 1) := by decide +kernel
set_option maxRecDepth 20000 in
theorem ggX10_run_X10_tableAt : GoodIn wsX10_run wsX10_tableAt := goodIn_r _ [12, 13, 14, 15, 11, 16, 466, 467, 468, 469, 470, 471, 472] (by decide +kernel) (by decide +kernel)
set_option maxRecDepth 20000 in
theorem gX10_run_X10_tableAt : GoodIn wsX10_run (wsV RX10 74 RX10 yX10_tableAt wsX10_tableAt) := goodIn_app (goodIn_of _ (by decide +kernel)) ggX10_run_X10_tableAt
set_option maxRecDepth 20000 in
theorem ggX10_run_X6_parse : GoodIn wsX10_run wsX6_parse := goodIn_r _ [21, 22, 23, 24, 25, 26, 27, 28, 29, 30, 31, 32, 33, 34, 20, 35, 36, 37, 38, 39, 40, 41, 42, 43, 44, 45, 46, 47, 48, 49, 50, 51, 52, 53, 54, 55, 56, 57, 58, 59, 60, 61, 62, 63, 64, 65, 66, 67, 68, 69, 70, 71, 72, 73, 74, 75, 76, 77, 78, 79, 80, 81, 82, 83, 84, 85, 86, 87, 88, 89, 90, 91, 92, 93, 94, 95, 96, 97, 98, 99, 100, 101, 102, 103, 104, 105, 106, 107, 108, 109, 110, 111, 112, 113, 114, 115, 116, 117, 118, 119, 120, 121, 122, 123, 124, 125, 126, 127, 128, 129, 130, 131, 132, 133, 134, 135, 136, 137, 138, 139, 140, 141, 142, 143, 144, 145, 146, 147, 148, 149, 150, 151, 152, 153, 154, 155, 156, 157, 158, 159, 160, 161, 162, 163, 164, 165, 166, 167, 168, 169, 170, 171, 172, 173, 174, 175, 176, 177, 178, 179, 180, 181, 182, 183, 184, 185, 186, 187, 188, 189, 190, 191, 192, 193, 194, 195, 196, 197, 198, 199, 200, 201, 202, 203, 204, 205, 206, 207, 208, 209, 210, 211, 212, 213, 214, 215, 216, 217, 218, 219, 220, 221, 222, 223, 473, 474, 475, 476, 477, 478, 479, 480, 481, 482, 483, 484, 485, 486, 487, 496, 497, 498, 499, 500, 501, 502, 503, 504, 505, 506] (by decide +kernel) (by decide +kernel)
set_option maxRecDepth 20000 in
theorem gX10_run_X6_parse : GoodIn wsX10_run (wsV RX10 276 RX6 yX6_parse wsX6_parse) := goodIn_app (goodIn_of _ (by decide +kernel)) ggX10_run_X6_parse
set_option maxRecDepth 20000 in
theorem ggX10_run_X4_begin : GoodIn wsX10_run wsX4_begin := goodIn_r _ [228, 229, 230, 231, 232, 233, 234, 488, 489, 490, 491, 492, 493, 494, 495] (by decide +kernel) (by decide +kernel)
set_option maxRecDepth 20000 in
theorem gX10_run_X4_begin : GoodIn wsX10_run (wsV RX10 280 RX4 yX4_begin wsX4_begin) := goodIn_app (goodIn_of _ (by decide +kernel)) ggX10_run_X4_begin
set_option maxRecDepth 20000 in
theorem ggX10_run_X4_work : GoodIn wsX10_run wsX4_work := goodIn_r _ [238, 239, 240, 232, 241, 242, 233, 243, 231, 244, 245, 246, 247, 227, 248, 234, 249, 250, 251, 252, 253, 254, 255, 256, 257, 258, 259, 260, 261, 229, 262, 263, 264, 265, 266, 165, 166, 160, 167, 162, 168, 267, 268, 269, 270, 230, 271, 272, 273, 274, 275, 276, 11, 277, 278, 279, 280, 281, 282, 283, 284, 285, 286, 287, 288, 289, 290, 291, 292, 293, 294, 295, 296, 297, 298, 299, 300, 301, 302, 303, 304, 305, 306, 307, 308, 309, 310, 311, 312, 313, 314, 315, 316, 317, 318, 319, 320, 321, 322, 323, 324, 325, 326, 327, 328, 329, 330, 331, 332, 333, 334, 335, 336, 337, 338, 339, 340, 341, 342, 343, 344, 345, 346, 347, 348, 349, 350, 351, 352, 353, 354, 355, 356, 357, 358, 359, 360, 361, 362, 363, 364, 365, 366, 367, 368, 369, 370, 371, 372, 373, 374, 375, 376, 377, 378, 379, 380, 381, 382, 383, 384, 385, 386, 387, 388, 389, 390, 391, 392, 393, 394, 46, 395, 396, 397, 398, 45, 47, 399, 400, 401, 402, 403, 404, 405, 406, 407, 408, 409, 410, 411, 412, 413, 414, 415, 416, 417, 418, 419, 420, 421, 422, 423, 424, 425, 426, 427, 428, 429, 430, 431, 432, 433, 434, 435, 436, 437, 438, 439, 440, 441, 442, 443, 444, 445, 446, 447, 448, 449, 450, 451, 452, 453, 454, 455, 456, 457, 458, 459, 460, 461, 462, 463, 464, 465, 496, 497, 498, 499, 488, 489, 490, 491, 492, 493, 494, 495, 507, 508, 509, 510, 511, 512, 513, 514, 515, 516, 517, 518, 519, 520, 521, 522, 523, 524, 525, 526, 527, 528, 529, 530, 531, 532, 533, 534, 535, 536, 537, 538] (by decide +kernel) (by decide +kernel)
set_option maxRecDepth 20000 in
theorem gX10_run_X4_work : GoodIn wsX10_run (wsV RX10 289 RX4 yX4_work wsX4_work) := goodIn_app (goodIn_of _ (by decide +kernel)) ggX10_run_X4_work
theorem dX10_run_0 : decode cX10_run 0 = .ok (.aload_n 0, 1) := by decide +kernel
theorem dX10_run_1 : decode cX10_run 1 = .ok (.iload_n 1, 1) := by decide +kernel
theorem dX10_run_2 : decode cX10_run 2 = .ok (.invokevirtual 74, 3) := by decide +kernel
theorem dX10_run_5 : decode cX10_run 5 = .ok (.astore_n 2, 1) := by decide +kernel
theorem dX10_run_6 : decode cX10_run 6 = .ok (.aload_n 2, 1) := by decide +kernel
theorem dX10_run_7 : decode cX10_run 7 = .ok (.ifnonnull 6, 3) := by decide +kernel
theorem dX10_run_10 : decode cX10_run 10 = .ok (.bipush (-2), 2) := by decide +kernel
theorem dX10_run_12 : decode cX10_run 12 = .ok (.ireturn, 1) := by decide +kernel
theorem dX10_run_13 : decode cX10_run 13 = .ok (.aload_n 0, 1) := by decide +kernel
theorem dX10_run_14 : decode cX10_run 14 = .ok (.getfield 40, 3) := by decide +kernel
theorem dX10_run_17 : decode cX10_run 17 = .ok (.aload_n 0, 1) := by decide +kernel
theorem dX10_run_18 : decode cX10_run 18 = .ok (.getfield 15, 3) := by decide +kernel
theorem dX10_run_21 : decode cX10_run 21 = .ok (.aload_n 0, 1) := by decide +kernel
theorem dX10_run_22 : decode cX10_run 22 = .ok (.getfield 19, 3) := by decide +kernel
theorem dX10_run_25 : decode cX10_run 25 = .ok (.invokevirtual 276, 3) := by decide +kernel
theorem dX10_run_28 : decode cX10_run 28 = .ok (.aload_n 0, 1) := by decide +kernel
theorem dX10_run_29 : decode cX10_run 29 = .ok (.iconst 0, 1) := by decide +kernel
theorem dX10_run_30 : decode cX10_run 30 = .ok (.putfield 19, 3) := by decide +kernel
theorem dX10_run_33 : decode cX10_run 33 = .ok (.aload_n 0, 1) := by decide +kernel
theorem dX10_run_34 : decode cX10_run 34 = .ok (.getfield 47, 3) := by decide +kernel
theorem dX10_run_37 : decode cX10_run 37 = .ok (.invokevirtual 280, 3) := by decide +kernel
theorem dX10_run_40 : decode cX10_run 40 = .ok (.aload_n 0, 1) := by decide +kernel
theorem dX10_run_41 : decode cX10_run 41 = .ok (.getfield 40, 3) := by decide +kernel
theorem dX10_run_44 : decode cX10_run 44 = .ok (.getfield 282, 3) := by decide +kernel
theorem dX10_run_47 : decode cX10_run 47 = .ok (.ifCond .eq 5, 3) := by decide +kernel
theorem dX10_run_50 : decode cX10_run 50 = .ok (.iconst (-1), 1) := by decide +kernel
theorem dX10_run_51 : decode cX10_run 51 = .ok (.ireturn, 1) := by decide +kernel
theorem dX10_run_52 : decode cX10_run 52 = .ok (.aload_n 0, 1) := by decide +kernel
theorem dX10_run_53 : decode cX10_run 53 = .ok (.getfield 47, 3) := by decide +kernel
theorem dX10_run_56 : decode cX10_run 56 = .ok (.aload_n 0, 1) := by decide +kernel
theorem dX10_run_57 : decode cX10_run 57 = .ok (.getfield 40, 3) := by decide +kernel
theorem dX10_run_60 : decode cX10_run 60 = .ok (.getfield 285, 3) := by decide +kernel
theorem dX10_run_63 : decode cX10_run 63 = .ok (.aload_n 2, 1) := by decide +kernel
theorem dX10_run_64 : decode cX10_run 64 = .ok (.invokevirtual 289, 3) := by decide +kernel
theorem dX10_run_67 : decode cX10_run 67 = .ok (.aload_n 0, 1) := by decide +kernel
theorem dX10_run_68 : decode cX10_run 68 = .ok (.getfield 47, 3) := by decide +kernel
theorem dX10_run_71 : decode cX10_run 71 = .ok (.getfield 293, 3) := by decide +kernel
theorem dX10_run_74 : decode cX10_run 74 = .ok (.ireturn, 1) := by decide +kernel
theorem dX10_ran_0 : decode cX10_ran 0 = .ok (.aload_n 0, 1) := by decide +kernel
theorem dX10_ran_1 : decode cX10_ran 1 = .ok (.getfield 40, 3) := by decide +kernel
theorem dX10_ran_4 : decode cX10_ran 4 = .ok (.getfield 282, 3) := by decide +kernel
theorem dX10_ran_7 : decode cX10_ran 7 = .ok (.ifCond .eq 7, 3) := by decide +kernel
theorem dX10_ran_10 : decode cX10_ran 10 = .ok (.iconst 1, 1) := by decide +kernel
theorem dX10_ran_11 : decode cX10_ran 11 = .ok (.goto 4, 3) := by decide +kernel
theorem dX10_ran_14 : decode cX10_ran 14 = .ok (.iconst 0, 1) := by decide +kernel
theorem dX10_ran_15 : decode cX10_ran 15 = .ok (.istore_n 2, 1) := by decide +kernel
theorem dX10_ran_16 : decode cX10_ran 16 = .ok (.iload_n 1, 1) := by decide +kernel
theorem dX10_ran_17 : decode cX10_ran 17 = .ok (.tableswitch 120 0 5 #[39, 48, 67, 86, 95, 104], 39) := by decide +kernel
theorem dX10_ran_56 : decode cX10_ran 56 = .ok (.aload_n 0, 1) := by decide +kernel
theorem dX10_ran_57 : decode cX10_ran 57 = .ok (.getfield 40, 3) := by decide +kernel
theorem dX10_ran_60 : decode cX10_ran 60 = .ok (.getfield 282, 3) := by decide +kernel
theorem dX10_ran_63 : decode cX10_ran 63 = .ok (.i2l, 1) := by decide +kernel
theorem dX10_ran_64 : decode cX10_ran 64 = .ok (.lreturn, 1) := by decide +kernel
theorem dX10_ran_65 : decode cX10_ran 65 = .ok (.iload_n 2, 1) := by decide +kernel
theorem dX10_ran_66 : decode cX10_ran 66 = .ok (.ifCond .eq 14, 3) := by decide +kernel
theorem dX10_ran_69 : decode cX10_ran 69 = .ok (.aload_n 0, 1) := by decide +kernel
theorem dX10_ran_70 : decode cX10_ran 70 = .ok (.getfield 40, 3) := by decide +kernel
theorem dX10_ran_73 : decode cX10_ran 73 = .ok (.getfield 296, 3) := by decide +kernel
theorem dX10_ran_76 : decode cX10_ran 76 = .ok (.i2l, 1) := by decide +kernel
theorem dX10_ran_77 : decode cX10_ran 77 = .ok (.goto 6, 3) := by decide +kernel
theorem dX10_ran_80 : decode cX10_ran 80 = .ok (.ldc2_w 183, 3) := by decide +kernel
theorem dX10_ran_83 : decode cX10_ran 83 = .ok (.lreturn, 1) := by decide +kernel
theorem dX10_ran_84 : decode cX10_ran 84 = .ok (.iload_n 2, 1) := by decide +kernel
theorem dX10_ran_85 : decode cX10_ran 85 = .ok (.ifCond .eq 14, 3) := by decide +kernel
theorem dX10_ran_88 : decode cX10_ran 88 = .ok (.aload_n 0, 1) := by decide +kernel
theorem dX10_ran_89 : decode cX10_ran 89 = .ok (.getfield 40, 3) := by decide +kernel
theorem dX10_ran_92 : decode cX10_ran 92 = .ok (.getfield 299, 3) := by decide +kernel
theorem dX10_ran_95 : decode cX10_ran 95 = .ok (.i2l, 1) := by decide +kernel
theorem dX10_ran_96 : decode cX10_ran 96 = .ok (.goto 6, 3) := by decide +kernel
theorem dX10_ran_99 : decode cX10_ran 99 = .ok (.ldc2_w 183, 3) := by decide +kernel
theorem dX10_ran_102 : decode cX10_ran 102 = .ok (.lreturn, 1) := by decide +kernel
theorem dX10_ran_103 : decode cX10_ran 103 = .ok (.aload_n 0, 1) := by decide +kernel
theorem dX10_ran_104 : decode cX10_ran 104 = .ok (.getfield 47, 3) := by decide +kernel
theorem dX10_ran_107 : decode cX10_ran 107 = .ok (.getfield 302, 3) := by decide +kernel
theorem dX10_ran_110 : decode cX10_ran 110 = .ok (.i2l, 1) := by decide +kernel
theorem dX10_ran_111 : decode cX10_ran 111 = .ok (.lreturn, 1) := by decide +kernel
theorem dX10_ran_112 : decode cX10_ran 112 = .ok (.aload_n 0, 1) := by decide +kernel
theorem dX10_ran_113 : decode cX10_ran 113 = .ok (.getfield 47, 3) := by decide +kernel
theorem dX10_ran_116 : decode cX10_ran 116 = .ok (.getfield 305, 3) := by decide +kernel
theorem dX10_ran_119 : decode cX10_ran 119 = .ok (.i2l, 1) := by decide +kernel
theorem dX10_ran_120 : decode cX10_ran 120 = .ok (.lreturn, 1) := by decide +kernel
theorem dX10_ran_121 : decode cX10_ran 121 = .ok (.aload_n 0, 1) := by decide +kernel
theorem dX10_ran_122 : decode cX10_ran 122 = .ok (.getfield 47, 3) := by decide +kernel
theorem dX10_ran_125 : decode cX10_ran 125 = .ok (.getfield 308, 3) := by decide +kernel
theorem dX10_ran_128 : decode cX10_ran 128 = .ok (.ifCond .eq 7, 3) := by decide +kernel
theorem dX10_ran_131 : decode cX10_ran 131 = .ok (.lconst 1, 1) := by decide +kernel
theorem dX10_ran_132 : decode cX10_ran 132 = .ok (.goto 4, 3) := by decide +kernel
theorem dX10_ran_135 : decode cX10_ran 135 = .ok (.lconst 0, 1) := by decide +kernel
theorem dX10_ran_136 : decode cX10_ran 136 = .ok (.lreturn, 1) := by decide +kernel
theorem dX10_ran_137 : decode cX10_ran 137 = .ok (.ldc2_w 91, 3) := by decide +kernel
theorem dX10_ran_140 : decode cX10_ran 140 = .ok (.lreturn, 1) := by decide +kernel
set_option maxRecDepth 20000 in
theorem ggX10_image_X10_tableAt : GoodIn wsX10_image wsX10_tableAt := goodIn_r _ [7, 8, 9, 10, 6, 11, 42, 43, 44, 45, 46, 47, 48] (by decide +kernel) (by decide +kernel)
set_option maxRecDepth 20000 in
theorem gX10_image_X10_tableAt : GoodIn wsX10_image (wsV RX10 74 RX10 yX10_tableAt wsX10_tableAt) := goodIn_app (goodIn_of _ (by decide +kernel)) ggX10_image_X10_tableAt
set_option maxRecDepth 20000 in
theorem ggX10_image_X1_write : GoodIn wsX10_image wsX1_write := goodIn_r _ [16, 17, 18, 19, 20, 21, 22, 23, 24, 25, 26, 6, 27, 28, 29, 30, 31, 32, 33, 34, 35, 36, 37, 38, 39, 40, 41, 51, 52, 53, 54, 55, 56, 57, 58, 59, 60, 61, 62, 49, 50, 63, 64, 65, 66, 67, 68, 69] (by decide +kernel) (by decide +kernel)
set_option maxRecDepth 20000 in
theorem gX10_image_X1_write : GoodIn wsX10_image (wsV RX10 312 RX1 yX1_write wsX1_write) := goodIn_app (goodIn_of _ (by decide +kernel)) ggX10_image_X1_write
theorem dX10_image_0 : decode cX10_image 0 = .ok (.aload_n 0, 1) := by decide +kernel
theorem dX10_image_1 : decode cX10_image 1 = .ok (.iload_n 1, 1) := by decide +kernel
theorem dX10_image_2 : decode cX10_image 2 = .ok (.invokevirtual 74, 3) := by decide +kernel
theorem dX10_image_5 : decode cX10_image 5 = .ok (.astore_n 2, 1) := by decide +kernel
theorem dX10_image_6 : decode cX10_image 6 = .ok (.aload_n 2, 1) := by decide +kernel
theorem dX10_image_7 : decode cX10_image 7 = .ok (.ifnonnull 5, 3) := by decide +kernel
theorem dX10_image_10 : decode cX10_image 10 = .ok (.iconst (-1), 1) := by decide +kernel
theorem dX10_image_11 : decode cX10_image 11 = .ok (.ireturn, 1) := by decide +kernel
theorem dX10_image_12 : decode cX10_image 12 = .ok (.aload_n 0, 1) := by decide +kernel
theorem dX10_image_13 : decode cX10_image 13 = .ok (.getfield 33, 3) := by decide +kernel
theorem dX10_image_16 : decode cX10_image 16 = .ok (.aload_n 2, 1) := by decide +kernel
theorem dX10_image_17 : decode cX10_image 17 = .ok (.invokevirtual 312, 3) := by decide +kernel
theorem dX10_image_20 : decode cX10_image 20 = .ok (.aload_n 0, 1) := by decide +kernel
theorem dX10_image_21 : decode cX10_image 21 = .ok (.getfield 33, 3) := by decide +kernel
theorem dX10_image_24 : decode cX10_image 24 = .ok (.getfield 316, 3) := by decide +kernel
theorem dX10_image_27 : decode cX10_image 27 = .ok (.ireturn, 1) := by decide +kernel
theorem dX10_octet_0 : decode cX10_octet 0 = .ok (.iload_n 1, 1) := by decide +kernel
theorem dX10_octet_1 : decode cX10_octet 1 = .ok (.ifCond .lt 14, 3) := by decide +kernel
theorem dX10_octet_4 : decode cX10_octet 4 = .ok (.iload_n 1, 1) := by decide +kernel
theorem dX10_octet_5 : decode cX10_octet 5 = .ok (.aload_n 0, 1) := by decide +kernel
theorem dX10_octet_6 : decode cX10_octet 6 = .ok (.getfield 33, 3) := by decide +kernel
theorem dX10_octet_9 : decode cX10_octet 9 = .ok (.getfield 316, 3) := by decide +kernel
theorem dX10_octet_12 : decode cX10_octet 12 = .ok (.if_icmp .lt 7, 3) := by decide +kernel
theorem dX10_octet_15 : decode cX10_octet 15 = .ok (.iconst (-1), 1) := by decide +kernel
theorem dX10_octet_16 : decode cX10_octet 16 = .ok (.goto 12, 3) := by decide +kernel
theorem dX10_octet_19 : decode cX10_octet 19 = .ok (.aload_n 0, 1) := by decide +kernel
theorem dX10_octet_20 : decode cX10_octet 20 = .ok (.getfield 33, 3) := by decide +kernel
theorem dX10_octet_23 : decode cX10_octet 23 = .ok (.getfield 319, 3) := by decide +kernel
theorem dX10_octet_26 : decode cX10_octet 26 = .ok (.iload_n 1, 1) := by decide +kernel
theorem dX10_octet_27 : decode cX10_octet 27 = .ok (.iaload, 1) := by decide +kernel
theorem dX10_octet_28 : decode cX10_octet 28 = .ok (.ireturn, 1) := by decide +kernel
set_option maxRecDepth 20000 in
theorem ggX10_back_X10_isTableNumber : GoodIn wsX10_back wsX10_isTableNumber := goodIn_r _ [7] (by decide +kernel) (by decide +kernel)
set_option maxRecDepth 20000 in
theorem gX10_back_X10_isTableNumber : GoodIn wsX10_back (va_wsS RX10 55 yX10_isTableNumber wsX10_isTableNumber) := goodIn_app (goodIn_of _ (by decide +kernel)) ggX10_back_X10_isTableNumber
set_option maxRecDepth 20000 in
theorem ggX10_back_X10_isImage : GoodIn wsX10_back wsX10_isImage := goodIn_r _ [10, 11, 12, 6, 13, 14, 15, 16, 17, 18, 19, 20, 21, 22, 23, 24, 25, 26] (by decide +kernel) (by decide +kernel)
set_option maxRecDepth 20000 in
theorem gX10_back_X10_isImage : GoodIn wsX10_back (va_wsS RX10 322 yX10_isImage wsX10_isImage) := goodIn_app (goodIn_of _ (by decide +kernel)) ggX10_back_X10_isImage
set_option maxRecDepth 20000 in
theorem ggX10_back_X10_slot : GoodIn wsX10_back wsX10_slot := goodIn_r _ [30, 31, 32, 33, 34, 35, 36, 37, 38, 39, 40, 41, 42, 43, 44, 45, 46, 47, 48, 49, 50, 51, 52, 53, 54, 55, 56, 57, 58, 59, 60, 61, 62, 63, 64, 65, 66, 67, 68, 69, 70, 71, 72, 73, 74, 173, 174, 175, 176, 177, 178, 179, 180, 181, 182, 183, 184, 185, 186, 187, 188, 189, 190, 191, 192, 193, 194, 195, 196, 197, 198, 199, 200, 201, 202, 203, 204, 205, 206, 207, 208, 209, 210, 211] (by decide +kernel) (by decide +kernel)
set_option maxRecDepth 20000 in
theorem gX10_back_X10_slot : GoodIn wsX10_back (wsV RX10 63 RX10 yX10_slot wsX10_slot) := goodIn_app (goodIn_of _ (by decide +kernel)) ggX10_back_X10_slot
set_option maxRecDepth 20000 in
theorem ggX10_back_X10_spreadOf : GoodIn wsX10_back wsX10_spreadOf := goodIn_r _ [13] (by decide +kernel) (by decide +kernel)
set_option maxRecDepth 20000 in
theorem gX10_back_X10_spreadOf : GoodIn wsX10_back (va_wsS RX10 326 yX10_spreadOf wsX10_spreadOf) := goodIn_app (goodIn_of _ (by decide +kernel)) ggX10_back_X10_spreadOf
set_option maxRecDepth 20000 in
theorem ggX10_back_X10_readLong : GoodIn wsX10_back wsX10_readLong := goodIn_r _ [77, 78, 17, 18, 6, 19] (by decide +kernel) (by decide +kernel)
set_option maxRecDepth 20000 in
theorem gX10_back_X10_readLong : GoodIn wsX10_back (va_wsS RX10 330 yX10_readLong wsX10_readLong) := goodIn_app (goodIn_of _ (by decide +kernel)) ggX10_back_X10_readLong
set_option maxRecDepth 20000 in
theorem ggX10_back_X9_begin : GoodIn wsX10_back wsX9_begin := goodIn_r _ [82, 83, 84, 85, 86, 87, 88, 89, 44, 48, 90, 91, 92, 93, 43, 94, 95, 96, 180, 181, 182, 183, 184, 185, 186, 187, 188, 189, 190, 191, 196, 197, 198, 192, 193, 194, 195] (by decide +kernel) (by decide +kernel)
set_option maxRecDepth 20000 in
theorem gX10_back_X9_begin : GoodIn wsX10_back (wsV RX10 67 RX9 yX9_begin wsX9_begin) := goodIn_app (goodIn_of _ (by decide +kernel)) ggX10_back_X9_begin
set_option maxRecDepth 20000 in
theorem ggX10_back_X10_readInt : GoodIn wsX10_back wsX10_readInt := goodIn_r _ [19] (by decide +kernel) (by decide +kernel)
set_option maxRecDepth 20000 in
theorem gX10_back_X10_readInt : GoodIn wsX10_back (va_wsS RX10 334 yX10_readInt wsX10_readInt) := goodIn_app (goodIn_of _ (by decide +kernel)) ggX10_back_X10_readInt
set_option maxRecDepth 20000 in
theorem ggX10_back_X2_insert : GoodIn wsX10_back wsX2_insert := goodIn_r _ [100, 101, 61, 102, 103, 104, 105, 62, 196, 197, 198] (by decide +kernel) (by decide +kernel)
set_option maxRecDepth 20000 in
theorem gX10_back_X2_insert : GoodIn wsX10_back (wsV RX10 338 RX2 yX2_insert wsX2_insert) := goodIn_app (goodIn_of _ (by decide +kernel)) ggX10_back_X2_insert
set_option maxRecDepth 20000 in
theorem ggX10_back_X9_buildAll : GoodIn wsX10_back wsX9_buildAll := goodIn_r _ [109, 48, 90, 85, 110, 111, 89, 84, 112, 113, 114, 115, 44, 52, 116, 117, 118, 119, 120, 121, 122, 123, 124, 125, 43, 126, 95, 127, 128, 129, 130, 131, 132, 96, 133, 134, 135, 51, 136, 137, 138, 139, 140, 141, 142, 143, 144, 72, 67, 145, 146, 147, 148, 149, 6, 150, 151, 152, 153, 154, 34, 155, 83, 156, 157, 158, 159, 160, 68, 71, 74, 161, 162, 163, 164, 165, 69, 166, 70, 167, 73, 168, 169, 170, 171, 172, 180, 181, 182, 183, 184, 185, 186, 187, 188, 189, 190, 191, 196, 197, 198, 192, 193, 194, 195, 199, 200, 201, 202, 203, 204, 205, 206, 207, 208, 209, 210, 211] (by decide +kernel) (by decide +kernel)
set_option maxRecDepth 20000 in
theorem gX10_back_X9_buildAll : GoodIn wsX10_back (wsV RX10 71 RX9 yX9_buildAll wsX9_buildAll) := goodIn_app (goodIn_of _ (by decide +kernel)) ggX10_back_X9_buildAll
theorem dX10_back_0 : decode cX10_back 0 = .ok (.iload_n 1, 1) := by decide +kernel
theorem dX10_back_1 : decode cX10_back 1 = .ok (.invokestatic 55, 3) := by decide +kernel
theorem dX10_back_4 : decode cX10_back 4 = .ok (.ifCond .ne 6, 3) := by decide +kernel
theorem dX10_back_7 : decode cX10_back 7 = .ok (.bipush (-2), 2) := by decide +kernel
theorem dX10_back_9 : decode cX10_back 9 = .ok (.ireturn, 1) := by decide +kernel
theorem dX10_back_10 : decode cX10_back 10 = .ok (.aload_n 0, 1) := by decide +kernel
theorem dX10_back_11 : decode cX10_back 11 = .ok (.getfield 19, 3) := by decide +kernel
theorem dX10_back_14 : decode cX10_back 14 = .ok (.istore_n 2, 1) := by decide +kernel
theorem dX10_back_15 : decode cX10_back 15 = .ok (.aload_n 0, 1) := by decide +kernel
theorem dX10_back_16 : decode cX10_back 16 = .ok (.iconst 0, 1) := by decide +kernel
theorem dX10_back_17 : decode cX10_back 17 = .ok (.putfield 19, 3) := by decide +kernel
theorem dX10_back_20 : decode cX10_back 20 = .ok (.aload_n 0, 1) := by decide +kernel
theorem dX10_back_21 : decode cX10_back 21 = .ok (.getfield 15, 3) := by decide +kernel
theorem dX10_back_24 : decode cX10_back 24 = .ok (.iload_n 2, 1) := by decide +kernel
theorem dX10_back_25 : decode cX10_back 25 = .ok (.invokestatic 322, 3) := by decide +kernel
theorem dX10_back_28 : decode cX10_back 28 = .ok (.ifCond .ne 5, 3) := by decide +kernel
theorem dX10_back_31 : decode cX10_back 31 = .ok (.iconst (-1), 1) := by decide +kernel
theorem dX10_back_32 : decode cX10_back 32 = .ok (.ireturn, 1) := by decide +kernel
theorem dX10_back_33 : decode cX10_back 33 = .ok (.aload_n 0, 1) := by decide +kernel
theorem dX10_back_34 : decode cX10_back 34 = .ok (.iload_n 1, 1) := by decide +kernel
theorem dX10_back_35 : decode cX10_back 35 = .ok (.invokevirtual 63, 3) := by decide +kernel
theorem dX10_back_38 : decode cX10_back 38 = .ok (.astore_n 3, 1) := by decide +kernel
theorem dX10_back_39 : decode cX10_back 39 = .ok (.aload_n 3, 1) := by decide +kernel
theorem dX10_back_40 : decode cX10_back 40 = .ok (.aload_n 0, 1) := by decide +kernel
theorem dX10_back_41 : decode cX10_back 41 = .ok (.getfield 15, 3) := by decide +kernel
theorem dX10_back_44 : decode cX10_back 44 = .ok (.iconst 0, 1) := by decide +kernel
theorem dX10_back_45 : decode cX10_back 45 = .ok (.iaload, 1) := by decide +kernel
theorem dX10_back_46 : decode cX10_back 46 = .ok (.aload_n 0, 1) := by decide +kernel
theorem dX10_back_47 : decode cX10_back 47 = .ok (.getfield 15, 3) := by decide +kernel
theorem dX10_back_50 : decode cX10_back 50 = .ok (.invokestatic 326, 3) := by decide +kernel
theorem dX10_back_53 : decode cX10_back 53 = .ok (.aload_n 0, 1) := by decide +kernel
theorem dX10_back_54 : decode cX10_back 54 = .ok (.getfield 15, 3) := by decide +kernel
theorem dX10_back_57 : decode cX10_back 57 = .ok (.iconst 3, 1) := by decide +kernel
theorem dX10_back_58 : decode cX10_back 58 = .ok (.iaload, 1) := by decide +kernel
theorem dX10_back_59 : decode cX10_back 59 = .ok (.aload_n 0, 1) := by decide +kernel
theorem dX10_back_60 : decode cX10_back 60 = .ok (.getfield 15, 3) := by decide +kernel
theorem dX10_back_63 : decode cX10_back 63 = .ok (.iconst 4, 1) := by decide +kernel
theorem dX10_back_64 : decode cX10_back 64 = .ok (.invokestatic 330, 3) := by decide +kernel
theorem dX10_back_67 : decode cX10_back 67 = .ok (.invokevirtual 67, 3) := by decide +kernel
theorem dX10_back_70 : decode cX10_back 70 = .ok (.aload_n 0, 1) := by decide +kernel
theorem dX10_back_71 : decode cX10_back 71 = .ok (.getfield 15, 3) := by decide +kernel
theorem dX10_back_74 : decode cX10_back 74 = .ok (.bipush 12, 2) := by decide +kernel
theorem dX10_back_76 : decode cX10_back 76 = .ok (.iaload, 1) := by decide +kernel
theorem dX10_back_77 : decode cX10_back 77 = .ok (.istore 4, 2) := by decide +kernel
theorem dX10_back_79 : decode cX10_back 79 = .ok (.iconst 0, 1) := by decide +kernel
theorem dX10_back_80 : decode cX10_back 80 = .ok (.istore 5, 2) := by decide +kernel
theorem dX10_back_82 : decode cX10_back 82 = .ok (.iload 5, 2) := by decide +kernel
theorem dX10_back_84 : decode cX10_back 84 = .ok (.iload 4, 2) := by decide +kernel
theorem dX10_back_86 : decode cX10_back 86 = .ok (.if_icmp .ge 48, 3) := by decide +kernel
theorem dX10_back_89 : decode cX10_back 89 = .ok (.bipush 13, 2) := by decide +kernel
theorem dX10_back_91 : decode cX10_back 91 = .ok (.bipush 8, 2) := by decide +kernel
theorem dX10_back_93 : decode cX10_back 93 = .ok (.iload 5, 2) := by decide +kernel
theorem dX10_back_95 : decode cX10_back 95 = .ok (.imul, 1) := by decide +kernel
theorem dX10_back_96 : decode cX10_back 96 = .ok (.iadd, 1) := by decide +kernel
theorem dX10_back_97 : decode cX10_back 97 = .ok (.istore 6, 2) := by decide +kernel
theorem dX10_back_99 : decode cX10_back 99 = .ok (.aload_n 3, 1) := by decide +kernel
theorem dX10_back_100 : decode cX10_back 100 = .ok (.getfield 93, 3) := by decide +kernel
theorem dX10_back_103 : decode cX10_back 103 = .ok (.iload 5, 2) := by decide +kernel
theorem dX10_back_105 : decode cX10_back 105 = .ok (.aload_n 0, 1) := by decide +kernel
theorem dX10_back_106 : decode cX10_back 106 = .ok (.getfield 15, 3) := by decide +kernel
theorem dX10_back_109 : decode cX10_back 109 = .ok (.iload 6, 2) := by decide +kernel
theorem dX10_back_111 : decode cX10_back 111 = .ok (.invokestatic 334, 3) := by decide +kernel
theorem dX10_back_114 : decode cX10_back 114 = .ok (.aload_n 0, 1) := by decide +kernel
theorem dX10_back_115 : decode cX10_back 115 = .ok (.getfield 15, 3) := by decide +kernel
theorem dX10_back_118 : decode cX10_back 118 = .ok (.iload 6, 2) := by decide +kernel
theorem dX10_back_120 : decode cX10_back 120 = .ok (.iconst 4, 1) := by decide +kernel
theorem dX10_back_121 : decode cX10_back 121 = .ok (.iadd, 1) := by decide +kernel
theorem dX10_back_122 : decode cX10_back 122 = .ok (.invokestatic 334, 3) := by decide +kernel
theorem dX10_back_125 : decode cX10_back 125 = .ok (.invokevirtual 338, 3) := by decide +kernel
theorem dX10_back_128 : decode cX10_back 128 = .ok (.iinc 5 1, 3) := by decide +kernel
theorem dX10_back_131 : decode cX10_back 131 = .ok (.goto (-49), 3) := by decide +kernel
theorem dX10_back_134 : decode cX10_back 134 = .ok (.aload_n 3, 1) := by decide +kernel
theorem dX10_back_135 : decode cX10_back 135 = .ok (.invokevirtual 71, 3) := by decide +kernel
theorem dX10_back_138 : decode cX10_back 138 = .ok (.iload 4, 2) := by decide +kernel
theorem dX10_back_140 : decode cX10_back 140 = .ok (.ireturn, 1) := by decide +kernel
set_option maxRecDepth 20000 in
theorem ggX10_copy_X10_tableAt : GoodIn wsX10_copy wsX10_tableAt := goodIn_r _ [5, 6, 7, 8, 4, 9, 106, 107, 108, 109, 110, 111, 112] (by decide +kernel) (by decide +kernel)
set_option maxRecDepth 20000 in
theorem gX10_copy_X10_tableAt : GoodIn wsX10_copy (wsV RX10 74 RX10 yX10_tableAt wsX10_tableAt) := goodIn_app (goodIn_of _ (by decide +kernel)) ggX10_copy_X10_tableAt
set_option maxRecDepth 20000 in
theorem ggX10_copy_X10_isTableNumber : GoodIn wsX10_copy wsX10_isTableNumber := goodIn_r _ [9] (by decide +kernel) (by decide +kernel)
set_option maxRecDepth 20000 in
theorem gX10_copy_X10_isTableNumber : GoodIn wsX10_copy (va_wsS RX10 55 yX10_isTableNumber wsX10_isTableNumber) := goodIn_app (goodIn_of _ (by decide +kernel)) ggX10_copy_X10_isTableNumber
set_option maxRecDepth 20000 in
theorem ggX10_copy_X10_slot : GoodIn wsX10_copy wsX10_slot := goodIn_r _ [13, 6, 14, 15, 16, 17, 18, 19, 20, 21, 22, 23, 24, 25, 26, 27, 28, 29, 30, 31, 32, 33, 34, 35, 36, 37, 38, 39, 40, 41, 42, 43, 44, 45, 46, 47, 48, 49, 50, 51, 52, 53, 54, 55, 56, 106, 107, 108, 109, 110, 111, 112, 113, 114, 115, 116, 117, 118, 119, 120, 121, 122, 123, 124, 125, 126, 127, 128, 129, 130, 131, 132, 133, 134, 135, 136, 137, 138, 139, 140, 141, 142, 143, 144] (by decide +kernel) (by decide +kernel)
set_option maxRecDepth 20000 in
theorem gX10_copy_X10_slot : GoodIn wsX10_copy (wsV RX10 63 RX10 yX10_slot wsX10_slot) := goodIn_app (goodIn_of _ (by decide +kernel)) ggX10_copy_X10_slot
set_option maxRecDepth 20000 in
theorem ggX10_copy_X9_become : GoodIn wsX10_copy wsX9_become := goodIn_r _ [60, 61, 62, 63, 26, 64, 65, 66, 67, 68, 69, 70, 71, 30, 34, 72, 73, 74, 16, 75, 76, 77, 78, 79, 25, 80, 81, 82, 83, 84, 85, 29, 86, 87, 43, 88, 89, 90, 91, 44, 92, 93, 94, 33, 95, 96, 97, 98, 99, 100, 49, 101, 50, 51, 52, 54, 55, 102, 103, 104, 105, 113, 114, 115, 116, 117, 118, 119, 120, 121, 122, 123, 124, 125, 126, 127, 128, 129, 130, 131, 132, 133, 134, 135, 136, 137, 138, 139, 140, 141, 142, 143, 144] (by decide +kernel) (by decide +kernel)
set_option maxRecDepth 20000 in
theorem gX10_copy_X9_become : GoodIn wsX10_copy (wsV RX10 342 RX9 yX9_become wsX9_become) := goodIn_app (goodIn_of _ (by decide +kernel)) ggX10_copy_X9_become
theorem dX10_copy_0 : decode cX10_copy 0 = .ok (.aload_n 0, 1) := by decide +kernel
theorem dX10_copy_1 : decode cX10_copy 1 = .ok (.iload_n 2, 1) := by decide +kernel
theorem dX10_copy_2 : decode cX10_copy 2 = .ok (.invokevirtual 74, 3) := by decide +kernel
theorem dX10_copy_5 : decode cX10_copy 5 = .ok (.astore_n 3, 1) := by decide +kernel
theorem dX10_copy_6 : decode cX10_copy 6 = .ok (.iload_n 1, 1) := by decide +kernel
theorem dX10_copy_7 : decode cX10_copy 7 = .ok (.invokestatic 55, 3) := by decide +kernel
theorem dX10_copy_10 : decode cX10_copy 10 = .ok (.ifCond .eq 12, 3) := by decide +kernel
theorem dX10_copy_13 : decode cX10_copy 13 = .ok (.aload_n 3, 1) := by decide +kernel
theorem dX10_copy_14 : decode cX10_copy 14 = .ok (.ifnull 8, 3) := by decide +kernel
theorem dX10_copy_17 : decode cX10_copy 17 = .ok (.iload_n 1, 1) := by decide +kernel
theorem dX10_copy_18 : decode cX10_copy 18 = .ok (.iload_n 2, 1) := by decide +kernel
theorem dX10_copy_19 : decode cX10_copy 19 = .ok (.if_icmp .ne 6, 3) := by decide +kernel
theorem dX10_copy_22 : decode cX10_copy 22 = .ok (.bipush (-2), 2) := by decide +kernel
theorem dX10_copy_24 : decode cX10_copy 24 = .ok (.ireturn, 1) := by decide +kernel
theorem dX10_copy_25 : decode cX10_copy 25 = .ok (.aload_n 0, 1) := by decide +kernel
theorem dX10_copy_26 : decode cX10_copy 26 = .ok (.iload_n 1, 1) := by decide +kernel
theorem dX10_copy_27 : decode cX10_copy 27 = .ok (.invokevirtual 63, 3) := by decide +kernel
theorem dX10_copy_30 : decode cX10_copy 30 = .ok (.aload_n 3, 1) := by decide +kernel
theorem dX10_copy_31 : decode cX10_copy 31 = .ok (.invokevirtual 342, 3) := by decide +kernel
theorem dX10_copy_34 : decode cX10_copy 34 = .ok (.iconst 1, 1) := by decide +kernel
theorem dX10_copy_35 : decode cX10_copy 35 = .ok (.ireturn, 1) := by decide +kernel
set_option maxRecDepth 20000 in
theorem ggX10_count_X10_countTables : GoodIn wsX10_count wsX10_countTables := goodIn_r _ [6, 7, 14, 15, 16, 17, 18, 19, 20] (by decide +kernel) (by decide +kernel)
set_option maxRecDepth 20000 in
theorem gX10_count_X10_countTables : GoodIn wsX10_count (wsV RX10 345 RX10 yX10_countTables wsX10_countTables) := goodIn_app (goodIn_of _ (by decide +kernel)) ggX10_count_X10_countTables
set_option maxRecDepth 20000 in
theorem ggX10_count_X10_countKeys : GoodIn wsX10_count wsX10_countKeys := goodIn_r _ [11, 7, 12, 13, 14, 15, 16, 17, 18, 19, 20, 21, 22, 23, 24, 25, 26, 27, 28, 29, 30, 31, 32, 33, 34, 35] (by decide +kernel) (by decide +kernel)
set_option maxRecDepth 20000 in
theorem gX10_count_X10_countKeys : GoodIn wsX10_count (wsV RX10 348 RX10 yX10_countKeys wsX10_countKeys) := goodIn_app (goodIn_of _ (by decide +kernel)) ggX10_count_X10_countKeys
theorem dX10_count_0 : decode cX10_count 0 = .ok (.iload_n 1, 1) := by decide +kernel
theorem dX10_count_1 : decode cX10_count 1 = .ok (.tableswitch 42 0 2 #[27, 32, 37], 27) := by decide +kernel
theorem dX10_count_28 : decode cX10_count 28 = .ok (.aload_n 0, 1) := by decide +kernel
theorem dX10_count_29 : decode cX10_count 29 = .ok (.invokevirtual 345, 3) := by decide +kernel
theorem dX10_count_32 : decode cX10_count 32 = .ok (.ireturn, 1) := by decide +kernel
theorem dX10_count_33 : decode cX10_count 33 = .ok (.aload_n 0, 1) := by decide +kernel
theorem dX10_count_34 : decode cX10_count 34 = .ok (.invokevirtual 348, 3) := by decide +kernel
theorem dX10_count_37 : decode cX10_count 37 = .ok (.ireturn, 1) := by decide +kernel
theorem dX10_count_38 : decode cX10_count 38 = .ok (.aload_n 0, 1) := by decide +kernel
theorem dX10_count_39 : decode cX10_count 39 = .ok (.getfield 19, 3) := by decide +kernel
theorem dX10_count_42 : decode cX10_count 42 = .ok (.ireturn, 1) := by decide +kernel
theorem dX10_count_43 : decode cX10_count 43 = .ok (.iconst (-1), 1) := by decide +kernel
theorem dX10_count_44 : decode cX10_count 44 = .ok (.ireturn, 1) := by decide +kernel
theorem dX10_countTables_0 : decode cX10_countTables 0 = .ok (.iconst 0, 1) := by decide +kernel
theorem dX10_countTables_1 : decode cX10_countTables 1 = .ok (.istore_n 1, 1) := by decide +kernel
theorem dX10_countTables_2 : decode cX10_countTables 2 = .ok (.iconst 0, 1) := by decide +kernel
theorem dX10_countTables_3 : decode cX10_countTables 3 = .ok (.istore_n 2, 1) := by decide +kernel
theorem dX10_countTables_4 : decode cX10_countTables 4 = .ok (.iload_n 2, 1) := by decide +kernel
theorem dX10_countTables_5 : decode cX10_countTables 5 = .ok (.iconst 4, 1) := by decide +kernel
theorem dX10_countTables_6 : decode cX10_countTables 6 = .ok (.if_icmp .ge 21, 3) := by decide +kernel
theorem dX10_countTables_9 : decode cX10_countTables 9 = .ok (.aload_n 0, 1) := by decide +kernel
theorem dX10_countTables_10 : decode cX10_countTables 10 = .ok (.getfield 11, 3) := by decide +kernel
theorem dX10_countTables_13 : decode cX10_countTables 13 = .ok (.iload_n 2, 1) := by decide +kernel
theorem dX10_countTables_14 : decode cX10_countTables 14 = .ok (.aaload, 1) := by decide +kernel
theorem dX10_countTables_15 : decode cX10_countTables 15 = .ok (.ifnull 6, 3) := by decide +kernel
theorem dX10_countTables_18 : decode cX10_countTables 18 = .ok (.iinc 1 1, 3) := by decide +kernel
theorem dX10_countTables_21 : decode cX10_countTables 21 = .ok (.iinc 2 1, 3) := by decide +kernel
theorem dX10_countTables_24 : decode cX10_countTables 24 = .ok (.goto (-20), 3) := by decide +kernel
theorem dX10_countTables_27 : decode cX10_countTables 27 = .ok (.iload_n 1, 1) := by decide +kernel
theorem dX10_countTables_28 : decode cX10_countTables 28 = .ok (.ireturn, 1) := by decide +kernel
theorem dX10_countKeys_0 : decode cX10_countKeys 0 = .ok (.iconst 0, 1) := by decide +kernel
theorem dX10_countKeys_1 : decode cX10_countKeys 1 = .ok (.istore_n 1, 1) := by decide +kernel
theorem dX10_countKeys_2 : decode cX10_countKeys 2 = .ok (.iconst 0, 1) := by decide +kernel
theorem dX10_countKeys_3 : decode cX10_countKeys 3 = .ok (.istore_n 2, 1) := by decide +kernel
theorem dX10_countKeys_4 : decode cX10_countKeys 4 = .ok (.iload_n 2, 1) := by decide +kernel
theorem dX10_countKeys_5 : decode cX10_countKeys 5 = .ok (.iconst 4, 1) := by decide +kernel
theorem dX10_countKeys_6 : decode cX10_countKeys 6 = .ok (.if_icmp .ge 33, 3) := by decide +kernel
theorem dX10_countKeys_9 : decode cX10_countKeys 9 = .ok (.aload_n 0, 1) := by decide +kernel
theorem dX10_countKeys_10 : decode cX10_countKeys 10 = .ok (.getfield 11, 3) := by decide +kernel
theorem dX10_countKeys_13 : decode cX10_countKeys 13 = .ok (.iload_n 2, 1) := by decide +kernel
theorem dX10_countKeys_14 : decode cX10_countKeys 14 = .ok (.aaload, 1) := by decide +kernel
theorem dX10_countKeys_15 : decode cX10_countKeys 15 = .ok (.ifnull 18, 3) := by decide +kernel
theorem dX10_countKeys_18 : decode cX10_countKeys 18 = .ok (.iload_n 1, 1) := by decide +kernel
theorem dX10_countKeys_19 : decode cX10_countKeys 19 = .ok (.aload_n 0, 1) := by decide +kernel
theorem dX10_countKeys_20 : decode cX10_countKeys 20 = .ok (.getfield 11, 3) := by decide +kernel
theorem dX10_countKeys_23 : decode cX10_countKeys 23 = .ok (.iload_n 2, 1) := by decide +kernel
theorem dX10_countKeys_24 : decode cX10_countKeys 24 = .ok (.aaload, 1) := by decide +kernel
theorem dX10_countKeys_25 : decode cX10_countKeys 25 = .ok (.getfield 93, 3) := by decide +kernel
theorem dX10_countKeys_28 : decode cX10_countKeys 28 = .ok (.getfield 121, 3) := by decide +kernel
theorem dX10_countKeys_31 : decode cX10_countKeys 31 = .ok (.iadd, 1) := by decide +kernel
theorem dX10_countKeys_32 : decode cX10_countKeys 32 = .ok (.istore_n 1, 1) := by decide +kernel
theorem dX10_countKeys_33 : decode cX10_countKeys 33 = .ok (.iinc 2 1, 3) := by decide +kernel
theorem dX10_countKeys_36 : decode cX10_countKeys 36 = .ok (.goto (-32), 3) := by decide +kernel
theorem dX10_countKeys_39 : decode cX10_countKeys 39 = .ok (.iload_n 1, 1) := by decide +kernel
theorem dX10_countKeys_40 : decode cX10_countKeys 40 = .ok (.ireturn, 1) := by decide +kernel
set_option maxRecDepth 20000 in
theorem ggX10_tableAt_X10_isTableNumber : GoodIn wsX10_tableAt wsX10_isTableNumber := goodIn_r _ [5] (by decide +kernel) (by decide +kernel)
set_option maxRecDepth 20000 in
theorem gX10_tableAt_X10_isTableNumber : GoodIn wsX10_tableAt (va_wsS RX10 55 yX10_isTableNumber wsX10_isTableNumber) := goodIn_app (goodIn_of _ (by decide +kernel)) ggX10_tableAt_X10_isTableNumber
theorem dX10_tableAt_0 : decode cX10_tableAt 0 = .ok (.iload_n 1, 1) := by decide +kernel
theorem dX10_tableAt_1 : decode cX10_tableAt 1 = .ok (.invokestatic 55, 3) := by decide +kernel
theorem dX10_tableAt_4 : decode cX10_tableAt 4 = .ok (.ifCond .eq 12, 3) := by decide +kernel
theorem dX10_tableAt_7 : decode cX10_tableAt 7 = .ok (.aload_n 0, 1) := by decide +kernel
theorem dX10_tableAt_8 : decode cX10_tableAt 8 = .ok (.getfield 11, 3) := by decide +kernel
theorem dX10_tableAt_11 : decode cX10_tableAt 11 = .ok (.iload_n 1, 1) := by decide +kernel
theorem dX10_tableAt_12 : decode cX10_tableAt 12 = .ok (.aaload, 1) := by decide +kernel
theorem dX10_tableAt_13 : decode cX10_tableAt 13 = .ok (.goto 4, 3) := by decide +kernel
theorem dX10_tableAt_16 : decode cX10_tableAt 16 = .ok (.aconst_null, 1) := by decide +kernel
theorem dX10_tableAt_17 : decode cX10_tableAt 17 = .ok (.areturn, 1) := by decide +kernel
set_option maxRecDepth 20000 in
theorem ggX10_slot_X9_init : GoodIn wsX10_slot wsX9_init := goodIn_r _ [7, 8, 9, 10, 11, 12, 13, 14, 15, 16, 17, 18, 19, 20, 21, 22, 23, 24, 25, 26, 27, 28, 29, 30, 31, 32, 33, 34, 35, 36, 37, 38, 39, 40, 41, 42, 43, 44, 64, 65, 66, 67, 52, 53, 54, 55, 56, 57, 58, 59, 60, 61, 62, 63, 68, 69, 70, 71, 72, 73, 74, 75, 76, 77, 78, 79, 80, 81, 82, 83] (by decide +kernel) (by decide +kernel)
set_option maxRecDepth 20000 in
theorem gX10_slot_X9_init : GoodIn wsX10_slot (wsX9_init) := ggX10_slot_X9_init
theorem dX10_slot_0 : decode cX10_slot 0 = .ok (.aload_n 0, 1) := by decide +kernel
theorem dX10_slot_1 : decode cX10_slot 1 = .ok (.getfield 11, 3) := by decide +kernel
theorem dX10_slot_4 : decode cX10_slot 4 = .ok (.iload_n 1, 1) := by decide +kernel
theorem dX10_slot_5 : decode cX10_slot 5 = .ok (.aaload, 1) := by decide +kernel
theorem dX10_slot_6 : decode cX10_slot 6 = .ok (.astore_n 2, 1) := by decide +kernel
theorem dX10_slot_7 : decode cX10_slot 7 = .ok (.aload_n 2, 1) := by decide +kernel
theorem dX10_slot_8 : decode cX10_slot 8 = .ok (.ifnonnull 18, 3) := by decide +kernel
theorem dX10_slot_11 : decode cX10_slot 11 = .ok (.new 9, 3) := by decide +kernel
theorem dX10_slot_14 : decode cX10_slot 14 = .ok (.dup, 1) := by decide +kernel
theorem dX10_slot_15 : decode cX10_slot 15 = .ok (.invokespecial 351, 3) := by decide +kernel
theorem dX10_slot_18 : decode cX10_slot 18 = .ok (.astore_n 2, 1) := by decide +kernel
theorem dX10_slot_19 : decode cX10_slot 19 = .ok (.aload_n 0, 1) := by decide +kernel
theorem dX10_slot_20 : decode cX10_slot 20 = .ok (.getfield 11, 3) := by decide +kernel
theorem dX10_slot_23 : decode cX10_slot 23 = .ok (.iload_n 1, 1) := by decide +kernel
theorem dX10_slot_24 : decode cX10_slot 24 = .ok (.aload_n 2, 1) := by decide +kernel
theorem dX10_slot_25 : decode cX10_slot 25 = .ok (.aastore, 1) := by decide +kernel
theorem dX10_slot_26 : decode cX10_slot 26 = .ok (.aload_n 2, 1) := by decide +kernel
theorem dX10_slot_27 : decode cX10_slot 27 = .ok (.areturn, 1) := by decide +kernel
theorem dX10_isTableNumber_0 : decode cX10_isTableNumber 0 = .ok (.iload_n 0, 1) := by decide +kernel
theorem dX10_isTableNumber_1 : decode cX10_isTableNumber 1 = .ok (.ifCond .lt 12, 3) := by decide +kernel
theorem dX10_isTableNumber_4 : decode cX10_isTableNumber 4 = .ok (.iload_n 0, 1) := by decide +kernel
theorem dX10_isTableNumber_5 : decode cX10_isTableNumber 5 = .ok (.iconst 4, 1) := by decide +kernel
theorem dX10_isTableNumber_6 : decode cX10_isTableNumber 6 = .ok (.if_icmp .ge 7, 3) := by decide +kernel
theorem dX10_isTableNumber_9 : decode cX10_isTableNumber 9 = .ok (.iconst 1, 1) := by decide +kernel
theorem dX10_isTableNumber_10 : decode cX10_isTableNumber 10 = .ok (.goto 4, 3) := by decide +kernel
theorem dX10_isTableNumber_13 : decode cX10_isTableNumber 13 = .ok (.iconst 0, 1) := by decide +kernel
theorem dX10_isTableNumber_14 : decode cX10_isTableNumber 14 = .ok (.ireturn, 1) := by decide +kernel
theorem dX10_areSettings_0 : decode cX10_areSettings 0 = .ok (.iload_n 0, 1) := by decide +kernel
theorem dX10_areSettings_1 : decode cX10_areSettings 1 = .ok (.bipush 8, 2) := by decide +kernel
theorem dX10_areSettings_3 : decode cX10_areSettings 3 = .ok (.if_icmp .lt 37, 3) := by decide +kernel
theorem dX10_areSettings_6 : decode cX10_areSettings 6 = .ok (.iload_n 0, 1) := by decide +kernel
theorem dX10_areSettings_7 : decode cX10_areSettings 7 = .ok (.bipush 64, 2) := by decide +kernel
theorem dX10_areSettings_9 : decode cX10_areSettings 9 = .ok (.if_icmp .gt 31, 3) := by decide +kernel
theorem dX10_areSettings_12 : decode cX10_areSettings 12 = .ok (.iload_n 1, 1) := by decide +kernel
theorem dX10_areSettings_13 : decode cX10_areSettings 13 = .ok (.bipush 25, 2) := by decide +kernel
theorem dX10_areSettings_15 : decode cX10_areSettings 15 = .ok (.if_icmp .lt 25, 3) := by decide +kernel
theorem dX10_areSettings_18 : decode cX10_areSettings 18 = .ok (.iload_n 1, 1) := by decide +kernel
theorem dX10_areSettings_19 : decode cX10_areSettings 19 = .ok (.sipush 400, 3) := by decide +kernel
theorem dX10_areSettings_22 : decode cX10_areSettings 22 = .ok (.if_icmp .gt 18, 3) := by decide +kernel
theorem dX10_areSettings_25 : decode cX10_areSettings 25 = .ok (.iload_n 2, 1) := by decide +kernel
theorem dX10_areSettings_26 : decode cX10_areSettings 26 = .ok (.ifCond .lt 14, 3) := by decide +kernel
theorem dX10_areSettings_29 : decode cX10_areSettings 29 = .ok (.iload_n 2, 1) := by decide +kernel
theorem dX10_areSettings_30 : decode cX10_areSettings 30 = .ok (.sipush 200, 3) := by decide +kernel
theorem dX10_areSettings_33 : decode cX10_areSettings 33 = .ok (.if_icmp .gt 7, 3) := by decide +kernel
theorem dX10_areSettings_36 : decode cX10_areSettings 36 = .ok (.iconst 1, 1) := by decide +kernel
theorem dX10_areSettings_37 : decode cX10_areSettings 37 = .ok (.goto 4, 3) := by decide +kernel
theorem dX10_areSettings_40 : decode cX10_areSettings 40 = .ok (.iconst 0, 1) := by decide +kernel
theorem dX10_areSettings_41 : decode cX10_areSettings 41 = .ok (.ireturn, 1) := by decide +kernel
theorem dX10_writeInt_0 : decode cX10_writeInt 0 = .ok (.iload_n 1, 1) := by decide +kernel
theorem dX10_writeInt_1 : decode cX10_writeInt 1 = .ok (.ifCond .lt 11, 3) := by decide +kernel
theorem dX10_writeInt_4 : decode cX10_writeInt 4 = .ok (.iload_n 1, 1) := by decide +kernel
theorem dX10_writeInt_5 : decode cX10_writeInt 5 = .ok (.iconst 4, 1) := by decide +kernel
theorem dX10_writeInt_6 : decode cX10_writeInt 6 = .ok (.iadd, 1) := by decide +kernel
theorem dX10_writeInt_7 : decode cX10_writeInt 7 = .ok (.aload_n 0, 1) := by decide +kernel
theorem dX10_writeInt_8 : decode cX10_writeInt 8 = .ok (.arraylength, 1) := by decide +kernel
theorem dX10_writeInt_9 : decode cX10_writeInt 9 = .ok (.if_icmp .le 4, 3) := by decide +kernel
theorem dX10_writeInt_12 : decode cX10_writeInt 12 = .ok (.return_, 1) := by decide +kernel
theorem dX10_writeInt_13 : decode cX10_writeInt 13 = .ok (.iconst 0, 1) := by decide +kernel
theorem dX10_writeInt_14 : decode cX10_writeInt 14 = .ok (.istore_n 3, 1) := by decide +kernel
theorem dX10_writeInt_15 : decode cX10_writeInt 15 = .ok (.iload_n 3, 1) := by decide +kernel
theorem dX10_writeInt_16 : decode cX10_writeInt 16 = .ok (.iconst 4, 1) := by decide +kernel
theorem dX10_writeInt_17 : decode cX10_writeInt 17 = .ok (.if_icmp .ge 27, 3) := by decide +kernel
theorem dX10_writeInt_20 : decode cX10_writeInt 20 = .ok (.aload_n 0, 1) := by decide +kernel
theorem dX10_writeInt_21 : decode cX10_writeInt 21 = .ok (.iload_n 1, 1) := by decide +kernel
theorem dX10_writeInt_22 : decode cX10_writeInt 22 = .ok (.iload_n 3, 1) := by decide +kernel
theorem dX10_writeInt_23 : decode cX10_writeInt 23 = .ok (.iadd, 1) := by decide +kernel
theorem dX10_writeInt_24 : decode cX10_writeInt 24 = .ok (.iload_n 2, 1) := by decide +kernel
theorem dX10_writeInt_25 : decode cX10_writeInt 25 = .ok (.bipush 24, 2) := by decide +kernel
theorem dX10_writeInt_27 : decode cX10_writeInt 27 = .ok (.bipush 8, 2) := by decide +kernel
theorem dX10_writeInt_29 : decode cX10_writeInt 29 = .ok (.iload_n 3, 1) := by decide +kernel
theorem dX10_writeInt_30 : decode cX10_writeInt 30 = .ok (.imul, 1) := by decide +kernel
theorem dX10_writeInt_31 : decode cX10_writeInt 31 = .ok (.isub, 1) := by decide +kernel
theorem dX10_writeInt_32 : decode cX10_writeInt 32 = .ok (.iushr, 1) := by decide +kernel
theorem dX10_writeInt_33 : decode cX10_writeInt 33 = .ok (.sipush 255, 3) := by decide +kernel
theorem dX10_writeInt_36 : decode cX10_writeInt 36 = .ok (.iand, 1) := by decide +kernel
theorem dX10_writeInt_37 : decode cX10_writeInt 37 = .ok (.iastore, 1) := by decide +kernel
theorem dX10_writeInt_38 : decode cX10_writeInt 38 = .ok (.iinc 3 1, 3) := by decide +kernel
theorem dX10_writeInt_41 : decode cX10_writeInt 41 = .ok (.goto (-26), 3) := by decide +kernel
theorem dX10_writeInt_44 : decode cX10_writeInt 44 = .ok (.return_, 1) := by decide +kernel
set_option maxRecDepth 20000 in
theorem ggX10_isImage_X10_spreadOf : GoodIn wsX10_isImage wsX10_spreadOf := goodIn_r _ [4] (by decide +kernel) (by decide +kernel)
set_option maxRecDepth 20000 in
theorem gX10_isImage_X10_spreadOf : GoodIn wsX10_isImage (va_wsS RX10 326 yX10_spreadOf wsX10_spreadOf) := goodIn_app (goodIn_of _ (by decide +kernel)) ggX10_isImage_X10_spreadOf
set_option maxRecDepth 20000 in
theorem ggX10_isImage_X10_areSettings : GoodIn wsX10_isImage wsX10_areSettings := goodIn_r _ [7] (by decide +kernel) (by decide +kernel)
set_option maxRecDepth 20000 in
theorem gX10_isImage_X10_areSettings : GoodIn wsX10_isImage (va_wsS RX10 59 yX10_areSettings wsX10_areSettings) := goodIn_app (goodIn_of _ (by decide +kernel)) ggX10_isImage_X10_areSettings
set_option maxRecDepth 20000 in
theorem ggX10_isImage_X10_readInt : GoodIn wsX10_isImage wsX10_readInt := goodIn_r _ [10] (by decide +kernel) (by decide +kernel)
set_option maxRecDepth 20000 in
theorem gX10_isImage_X10_readInt : GoodIn wsX10_isImage (va_wsS RX10 334 yX10_readInt wsX10_readInt) := goodIn_app (goodIn_of _ (by decide +kernel)) ggX10_isImage_X10_readInt
set_option maxRecDepth 20000 in
theorem ggX10_isImage_X10_isKey : GoodIn wsX10_isImage wsX10_isKey := goodIn_r _ [13, 14] (by decide +kernel) (by decide +kernel)
set_option maxRecDepth 20000 in
theorem gX10_isImage_X10_isKey : GoodIn wsX10_isImage (va_wsS RX10 77 yX10_isKey wsX10_isKey) := goodIn_app (goodIn_of _ (by decide +kernel)) ggX10_isImage_X10_isKey
set_option maxRecDepth 20000 in
theorem ggX10_isImage_X10_checkOf : GoodIn wsX10_isImage wsX10_checkOf := goodIn_r _ [17] (by decide +kernel) (by decide +kernel)
set_option maxRecDepth 20000 in
theorem gX10_isImage_X10_checkOf : GoodIn wsX10_isImage (va_wsS RX10 357 yX10_checkOf wsX10_checkOf) := goodIn_app (goodIn_of _ (by decide +kernel)) ggX10_isImage_X10_checkOf
theorem dX10_isImage_0 : decode cX10_isImage 0 = .ok (.iload_n 1, 1) := by decide +kernel
theorem dX10_isImage_1 : decode cX10_isImage 1 = .ok (.bipush 14, 2) := by decide +kernel
theorem dX10_isImage_3 : decode cX10_isImage 3 = .ok (.if_icmp .lt 9, 3) := by decide +kernel
theorem dX10_isImage_6 : decode cX10_isImage 6 = .ok (.iload_n 1, 1) := by decide +kernel
theorem dX10_isImage_7 : decode cX10_isImage 7 = .ok (.aload_n 0, 1) := by decide +kernel
theorem dX10_isImage_8 : decode cX10_isImage 8 = .ok (.arraylength, 1) := by decide +kernel
theorem dX10_isImage_9 : decode cX10_isImage 9 = .ok (.if_icmp .le 5, 3) := by decide +kernel
theorem dX10_isImage_12 : decode cX10_isImage 12 = .ok (.iconst 0, 1) := by decide +kernel
theorem dX10_isImage_13 : decode cX10_isImage 13 = .ok (.ireturn, 1) := by decide +kernel
theorem dX10_isImage_14 : decode cX10_isImage 14 = .ok (.aload_n 0, 1) := by decide +kernel
theorem dX10_isImage_15 : decode cX10_isImage 15 = .ok (.bipush 12, 2) := by decide +kernel
theorem dX10_isImage_17 : decode cX10_isImage 17 = .ok (.iaload, 1) := by decide +kernel
theorem dX10_isImage_18 : decode cX10_isImage 18 = .ok (.istore_n 2, 1) := by decide +kernel
theorem dX10_isImage_19 : decode cX10_isImage 19 = .ok (.iload_n 2, 1) := by decide +kernel
theorem dX10_isImage_20 : decode cX10_isImage 20 = .ok (.sipush 160, 3) := by decide +kernel
theorem dX10_isImage_23 : decode cX10_isImage 23 = .ok (.if_icmp .gt 16, 3) := by decide +kernel
theorem dX10_isImage_26 : decode cX10_isImage 26 = .ok (.iload_n 1, 1) := by decide +kernel
theorem dX10_isImage_27 : decode cX10_isImage 27 = .ok (.bipush 13, 2) := by decide +kernel
theorem dX10_isImage_29 : decode cX10_isImage 29 = .ok (.bipush 8, 2) := by decide +kernel
theorem dX10_isImage_31 : decode cX10_isImage 31 = .ok (.iload_n 2, 1) := by decide +kernel
theorem dX10_isImage_32 : decode cX10_isImage 32 = .ok (.imul, 1) := by decide +kernel
theorem dX10_isImage_33 : decode cX10_isImage 33 = .ok (.iadd, 1) := by decide +kernel
theorem dX10_isImage_34 : decode cX10_isImage 34 = .ok (.iconst 1, 1) := by decide +kernel
theorem dX10_isImage_35 : decode cX10_isImage 35 = .ok (.iadd, 1) := by decide +kernel
theorem dX10_isImage_36 : decode cX10_isImage 36 = .ok (.if_icmp .eq 5, 3) := by decide +kernel
theorem dX10_isImage_39 : decode cX10_isImage 39 = .ok (.iconst 0, 1) := by decide +kernel
theorem dX10_isImage_40 : decode cX10_isImage 40 = .ok (.ireturn, 1) := by decide +kernel
theorem dX10_isImage_41 : decode cX10_isImage 41 = .ok (.aload_n 0, 1) := by decide +kernel
theorem dX10_isImage_42 : decode cX10_isImage 42 = .ok (.iconst 0, 1) := by decide +kernel
theorem dX10_isImage_43 : decode cX10_isImage 43 = .ok (.iaload, 1) := by decide +kernel
theorem dX10_isImage_44 : decode cX10_isImage 44 = .ok (.aload_n 0, 1) := by decide +kernel
theorem dX10_isImage_45 : decode cX10_isImage 45 = .ok (.invokestatic 326, 3) := by decide +kernel
theorem dX10_isImage_48 : decode cX10_isImage 48 = .ok (.aload_n 0, 1) := by decide +kernel
theorem dX10_isImage_49 : decode cX10_isImage 49 = .ok (.iconst 3, 1) := by decide +kernel
theorem dX10_isImage_50 : decode cX10_isImage 50 = .ok (.iaload, 1) := by decide +kernel
theorem dX10_isImage_51 : decode cX10_isImage 51 = .ok (.invokestatic 59, 3) := by decide +kernel
theorem dX10_isImage_54 : decode cX10_isImage 54 = .ok (.ifCond .ne 5, 3) := by decide +kernel
theorem dX10_isImage_57 : decode cX10_isImage 57 = .ok (.iconst 0, 1) := by decide +kernel
theorem dX10_isImage_58 : decode cX10_isImage 58 = .ok (.ireturn, 1) := by decide +kernel
theorem dX10_isImage_59 : decode cX10_isImage 59 = .ok (.iconst (-1), 1) := by decide +kernel
theorem dX10_isImage_60 : decode cX10_isImage 60 = .ok (.istore_n 3, 1) := by decide +kernel
theorem dX10_isImage_61 : decode cX10_isImage 61 = .ok (.iconst 0, 1) := by decide +kernel
theorem dX10_isImage_62 : decode cX10_isImage 62 = .ok (.istore 4, 2) := by decide +kernel
theorem dX10_isImage_64 : decode cX10_isImage 64 = .ok (.iload 4, 2) := by decide +kernel
theorem dX10_isImage_66 : decode cX10_isImage 66 = .ok (.iload_n 2, 1) := by decide +kernel
theorem dX10_isImage_67 : decode cX10_isImage 67 = .ok (.if_icmp .ge 42, 3) := by decide +kernel
theorem dX10_isImage_70 : decode cX10_isImage 70 = .ok (.aload_n 0, 1) := by decide +kernel
theorem dX10_isImage_71 : decode cX10_isImage 71 = .ok (.bipush 13, 2) := by decide +kernel
theorem dX10_isImage_73 : decode cX10_isImage 73 = .ok (.bipush 8, 2) := by decide +kernel
theorem dX10_isImage_75 : decode cX10_isImage 75 = .ok (.iload 4, 2) := by decide +kernel
theorem dX10_isImage_77 : decode cX10_isImage 77 = .ok (.imul, 1) := by decide +kernel
theorem dX10_isImage_78 : decode cX10_isImage 78 = .ok (.iadd, 1) := by decide +kernel
theorem dX10_isImage_79 : decode cX10_isImage 79 = .ok (.invokestatic 334, 3) := by decide +kernel
theorem dX10_isImage_82 : decode cX10_isImage 82 = .ok (.istore 5, 2) := by decide +kernel
theorem dX10_isImage_84 : decode cX10_isImage 84 = .ok (.iload 5, 2) := by decide +kernel
theorem dX10_isImage_86 : decode cX10_isImage 86 = .ok (.invokestatic 77, 3) := by decide +kernel
theorem dX10_isImage_89 : decode cX10_isImage 89 = .ok (.ifCond .eq 9, 3) := by decide +kernel
theorem dX10_isImage_92 : decode cX10_isImage 92 = .ok (.iload 5, 2) := by decide +kernel
theorem dX10_isImage_94 : decode cX10_isImage 94 = .ok (.iload_n 3, 1) := by decide +kernel
theorem dX10_isImage_95 : decode cX10_isImage 95 = .ok (.if_icmp .gt 5, 3) := by decide +kernel
theorem dX10_isImage_98 : decode cX10_isImage 98 = .ok (.iconst 0, 1) := by decide +kernel
theorem dX10_isImage_99 : decode cX10_isImage 99 = .ok (.ireturn, 1) := by decide +kernel
theorem dX10_isImage_100 : decode cX10_isImage 100 = .ok (.iload 5, 2) := by decide +kernel
theorem dX10_isImage_102 : decode cX10_isImage 102 = .ok (.istore_n 3, 1) := by decide +kernel
theorem dX10_isImage_103 : decode cX10_isImage 103 = .ok (.iinc 4 1, 3) := by decide +kernel
theorem dX10_isImage_106 : decode cX10_isImage 106 = .ok (.goto (-42), 3) := by decide +kernel
theorem dX10_isImage_109 : decode cX10_isImage 109 = .ok (.aload_n 0, 1) := by decide +kernel
theorem dX10_isImage_110 : decode cX10_isImage 110 = .ok (.iload_n 1, 1) := by decide +kernel
theorem dX10_isImage_111 : decode cX10_isImage 111 = .ok (.iconst 1, 1) := by decide +kernel
theorem dX10_isImage_112 : decode cX10_isImage 112 = .ok (.isub, 1) := by decide +kernel
theorem dX10_isImage_113 : decode cX10_isImage 113 = .ok (.iaload, 1) := by decide +kernel
theorem dX10_isImage_114 : decode cX10_isImage 114 = .ok (.aload_n 0, 1) := by decide +kernel
theorem dX10_isImage_115 : decode cX10_isImage 115 = .ok (.iload_n 1, 1) := by decide +kernel
theorem dX10_isImage_116 : decode cX10_isImage 116 = .ok (.iconst 1, 1) := by decide +kernel
theorem dX10_isImage_117 : decode cX10_isImage 117 = .ok (.isub, 1) := by decide +kernel
theorem dX10_isImage_118 : decode cX10_isImage 118 = .ok (.invokestatic 357, 3) := by decide +kernel
theorem dX10_isImage_121 : decode cX10_isImage 121 = .ok (.if_icmp .ne 7, 3) := by decide +kernel
theorem dX10_isImage_124 : decode cX10_isImage 124 = .ok (.iconst 1, 1) := by decide +kernel
theorem dX10_isImage_125 : decode cX10_isImage 125 = .ok (.goto 4, 3) := by decide +kernel
theorem dX10_isImage_128 : decode cX10_isImage 128 = .ok (.iconst 0, 1) := by decide +kernel
theorem dX10_isImage_129 : decode cX10_isImage 129 = .ok (.ireturn, 1) := by decide +kernel
