theorem dX6_accept_0 : decode cX6_accept 0 = .ok (.aload_n 0, 1) := by decide +kernel
theorem dX6_accept_1 : decode cX6_accept 1 = .ok (.getfield 39, 3) := by decide +kernel
theorem dX6_accept_4 : decode cX6_accept 4 = .ok (.tableswitch 76 0 4 #[36, 44, 52, 60, 68], 36) := by decide +kernel
theorem dX6_accept_40 : decode cX6_accept 40 = .ok (.aload_n 0, 1) := by decide +kernel
theorem dX6_accept_41 : decode cX6_accept 41 = .ok (.iload_n 1, 1) := by decide +kernel
theorem dX6_accept_42 : decode cX6_accept 42 = .ok (.invokevirtual 82, 3) := by decide +kernel
theorem dX6_accept_45 : decode cX6_accept 45 = .ok (.goto 40, 3) := by decide +kernel
theorem dX6_accept_48 : decode cX6_accept 48 = .ok (.aload_n 0, 1) := by decide +kernel
theorem dX6_accept_49 : decode cX6_accept 49 = .ok (.iload_n 1, 1) := by decide +kernel
theorem dX6_accept_50 : decode cX6_accept 50 = .ok (.invokevirtual 85, 3) := by decide +kernel
theorem dX6_accept_53 : decode cX6_accept 53 = .ok (.goto 32, 3) := by decide +kernel
theorem dX6_accept_56 : decode cX6_accept 56 = .ok (.aload_n 0, 1) := by decide +kernel
theorem dX6_accept_57 : decode cX6_accept 57 = .ok (.iload_n 1, 1) := by decide +kernel
theorem dX6_accept_58 : decode cX6_accept 58 = .ok (.invokevirtual 88, 3) := by decide +kernel
theorem dX6_accept_61 : decode cX6_accept 61 = .ok (.goto 24, 3) := by decide +kernel
theorem dX6_accept_64 : decode cX6_accept 64 = .ok (.aload_n 0, 1) := by decide +kernel
theorem dX6_accept_65 : decode cX6_accept 65 = .ok (.iload_n 1, 1) := by decide +kernel
theorem dX6_accept_66 : decode cX6_accept 66 = .ok (.invokevirtual 91, 3) := by decide +kernel
theorem dX6_accept_69 : decode cX6_accept 69 = .ok (.goto 16, 3) := by decide +kernel
theorem dX6_accept_72 : decode cX6_accept 72 = .ok (.aload_n 0, 1) := by decide +kernel
theorem dX6_accept_73 : decode cX6_accept 73 = .ok (.iload_n 1, 1) := by decide +kernel
theorem dX6_accept_74 : decode cX6_accept 74 = .ok (.invokevirtual 94, 3) := by decide +kernel
theorem dX6_accept_77 : decode cX6_accept 77 = .ok (.goto 8, 3) := by decide +kernel
theorem dX6_accept_80 : decode cX6_accept 80 = .ok (.aload_n 0, 1) := by decide +kernel
theorem dX6_accept_81 : decode cX6_accept 81 = .ok (.iload_n 1, 1) := by decide +kernel
theorem dX6_accept_82 : decode cX6_accept 82 = .ok (.invokevirtual 97, 3) := by decide +kernel
theorem dX6_accept_85 : decode cX6_accept 85 = .ok (.return_, 1) := by decide +kernel
theorem dX6_acceptStatement_0 : decode cX6_acceptStatement 0 = .ok (.aload_n 0, 1) := by decide +kernel
theorem dX6_acceptStatement_1 : decode cX6_acceptStatement 1 = .ok (.aload_n 0, 1) := by decide +kernel
theorem dX6_acceptStatement_2 : decode cX6_acceptStatement 2 = .ok (.getfield 21, 3) := by decide +kernel
theorem dX6_acceptStatement_5 : decode cX6_acceptStatement 5 = .ok (.getfield 79, 3) := by decide +kernel
theorem dX6_acceptStatement_8 : decode cX6_acceptStatement 8 = .ok (.putfield 100, 3) := by decide +kernel
theorem dX6_acceptStatement_11 : decode cX6_acceptStatement 11 = .ok (.aload_n 0, 1) := by decide +kernel
theorem dX6_acceptStatement_12 : decode cX6_acceptStatement 12 = .ok (.iload_n 1, 1) := by decide +kernel
theorem dX6_acceptStatement_13 : decode cX6_acceptStatement 13 = .ok (.putfield 103, 3) := by decide +kernel
theorem dX6_acceptStatement_16 : decode cX6_acceptStatement 16 = .ok (.iload_n 1, 1) := by decide +kernel
theorem dX6_acceptStatement_17 : decode cX6_acceptStatement 17 = .ok (.tableswitch 77 3 9 #[43, 77, 43, 43, 43, 64, 51], 43) := by decide +kernel
theorem dX6_acceptStatement_60 : decode cX6_acceptStatement 60 = .ok (.aload_n 0, 1) := by decide +kernel
theorem dX6_acceptStatement_61 : decode cX6_acceptStatement 61 = .ok (.iconst 1, 1) := by decide +kernel
theorem dX6_acceptStatement_62 : decode cX6_acceptStatement 62 = .ok (.putfield 39, 3) := by decide +kernel
theorem dX6_acceptStatement_65 : decode cX6_acceptStatement 65 = .ok (.goto 34, 3) := by decide +kernel
theorem dX6_acceptStatement_68 : decode cX6_acceptStatement 68 = .ok (.aload_n 0, 1) := by decide +kernel
theorem dX6_acceptStatement_69 : decode cX6_acceptStatement 69 = .ok (.iconst 1, 1) := by decide +kernel
theorem dX6_acceptStatement_70 : decode cX6_acceptStatement 70 = .ok (.putfield 42, 3) := by decide +kernel
theorem dX6_acceptStatement_73 : decode cX6_acceptStatement 73 = .ok (.aload_n 0, 1) := by decide +kernel
theorem dX6_acceptStatement_74 : decode cX6_acceptStatement 74 = .ok (.iconst 1, 1) := by decide +kernel
theorem dX6_acceptStatement_75 : decode cX6_acceptStatement 75 = .ok (.putfield 39, 3) := by decide +kernel
theorem dX6_acceptStatement_78 : decode cX6_acceptStatement 78 = .ok (.goto 21, 3) := by decide +kernel
theorem dX6_acceptStatement_81 : decode cX6_acceptStatement 81 = .ok (.aload_n 0, 1) := by decide +kernel
theorem dX6_acceptStatement_82 : decode cX6_acceptStatement 82 = .ok (.iconst 1, 1) := by decide +kernel
theorem dX6_acceptStatement_83 : decode cX6_acceptStatement 83 = .ok (.putfield 42, 3) := by decide +kernel
theorem dX6_acceptStatement_86 : decode cX6_acceptStatement 86 = .ok (.aload_n 0, 1) := by decide +kernel
theorem dX6_acceptStatement_87 : decode cX6_acceptStatement 87 = .ok (.iconst 3, 1) := by decide +kernel
theorem dX6_acceptStatement_88 : decode cX6_acceptStatement 88 = .ok (.putfield 39, 3) := by decide +kernel
theorem dX6_acceptStatement_91 : decode cX6_acceptStatement 91 = .ok (.goto 8, 3) := by decide +kernel
theorem dX6_acceptStatement_94 : decode cX6_acceptStatement 94 = .ok (.aload_n 0, 1) := by decide +kernel
theorem dX6_acceptStatement_95 : decode cX6_acceptStatement 95 = .ok (.iload_n 1, 1) := by decide +kernel
theorem dX6_acceptStatement_96 : decode cX6_acceptStatement 96 = .ok (.invokevirtual 106, 3) := by decide +kernel
theorem dX6_acceptStatement_99 : decode cX6_acceptStatement 99 = .ok (.return_, 1) := by decide +kernel
theorem dX6_acceptEnd_0 : decode cX6_acceptEnd 0 = .ok (.iload_n 1, 1) := by decide +kernel
theorem dX6_acceptEnd_1 : decode cX6_acceptEnd 1 = .ok (.bipush 93, 2) := by decide +kernel
theorem dX6_acceptEnd_3 : decode cX6_acceptEnd 3 = .ok (.if_icmp .ne 17, 3) := by decide +kernel
theorem dX6_acceptEnd_6 : decode cX6_acceptEnd 6 = .ok (.aload_n 0, 1) := by decide +kernel
theorem dX6_acceptEnd_7 : decode cX6_acceptEnd 7 = .ok (.getfield 49, 3) := by decide +kernel
theorem dX6_acceptEnd_10 : decode cX6_acceptEnd 10 = .ok (.ifCond .le 10, 3) := by decide +kernel
theorem dX6_acceptEnd_13 : decode cX6_acceptEnd 13 = .ok (.aload_n 0, 1) := by decide +kernel
theorem dX6_acceptEnd_14 : decode cX6_acceptEnd 14 = .ok (.invokevirtual 109, 3) := by decide +kernel
theorem dX6_acceptEnd_17 : decode cX6_acceptEnd 17 = .ok (.goto 27, 3) := by decide +kernel
theorem dX6_acceptEnd_20 : decode cX6_acceptEnd 20 = .ok (.iload_n 1, 1) := by decide +kernel
theorem dX6_acceptEnd_21 : decode cX6_acceptEnd 21 = .ok (.ifCond .ne 19, 3) := by decide +kernel
theorem dX6_acceptEnd_24 : decode cX6_acceptEnd 24 = .ok (.aload_n 0, 1) := by decide +kernel
theorem dX6_acceptEnd_25 : decode cX6_acceptEnd 25 = .ok (.getfield 49, 3) := by decide +kernel
theorem dX6_acceptEnd_28 : decode cX6_acceptEnd 28 = .ok (.ifCond .ne 12, 3) := by decide +kernel
theorem dX6_acceptEnd_31 : decode cX6_acceptEnd 31 = .ok (.aload_n 0, 1) := by decide +kernel
theorem dX6_acceptEnd_32 : decode cX6_acceptEnd 32 = .ok (.bipush 6, 2) := by decide +kernel
theorem dX6_acceptEnd_34 : decode cX6_acceptEnd 34 = .ok (.putfield 39, 3) := by decide +kernel
theorem dX6_acceptEnd_37 : decode cX6_acceptEnd 37 = .ok (.goto 7, 3) := by decide +kernel
theorem dX6_acceptEnd_40 : decode cX6_acceptEnd 40 = .ok (.aload_n 0, 1) := by decide +kernel
theorem dX6_acceptEnd_41 : decode cX6_acceptEnd 41 = .ok (.invokevirtual 112, 3) := by decide +kernel
theorem dX6_acceptEnd_44 : decode cX6_acceptEnd 44 = .ok (.return_, 1) := by decide +kernel
theorem dX6_acceptUnit_0 : decode cX6_acceptUnit 0 = .ok (.iload_n 1, 1) := by decide +kernel
theorem dX6_acceptUnit_1 : decode cX6_acceptUnit 1 = .ok (.lookupswitch 105 #[(2, 43), (10, 43), (11, 43), (40, 66)], 43) := by decide +kernel
theorem dX6_acceptUnit_44 : decode cX6_acceptUnit 44 = .ok (.aload_n 0, 1) := by decide +kernel
theorem dX6_acceptUnit_45 : decode cX6_acceptUnit 45 = .ok (.getfield 12, 3) := by decide +kernel
theorem dX6_acceptUnit_48 : decode cX6_acceptUnit 48 = .ok (.iload_n 1, 1) := by decide +kernel
theorem dX6_acceptUnit_49 : decode cX6_acceptUnit 49 = .ok (.aload_n 0, 1) := by decide +kernel
theorem dX6_acceptUnit_50 : decode cX6_acceptUnit 50 = .ok (.getfield 21, 3) := by decide +kernel
theorem dX6_acceptUnit_53 : decode cX6_acceptUnit 53 = .ok (.getfield 115, 3) := by decide +kernel
theorem dX6_acceptUnit_56 : decode cX6_acceptUnit 56 = .ok (.invokevirtual 118, 3) := by decide +kernel
theorem dX6_acceptUnit_59 : decode cX6_acceptUnit 59 = .ok (.aload_n 0, 1) := by decide +kernel
theorem dX6_acceptUnit_60 : decode cX6_acceptUnit 60 = .ok (.iconst 2, 1) := by decide +kernel
theorem dX6_acceptUnit_61 : decode cX6_acceptUnit 61 = .ok (.putfield 39, 3) := by decide +kernel
theorem dX6_acceptUnit_64 : decode cX6_acceptUnit 64 = .ok (.goto 46, 3) := by decide +kernel
theorem dX6_acceptUnit_67 : decode cX6_acceptUnit 67 = .ok (.aload_n 0, 1) := by decide +kernel
theorem dX6_acceptUnit_68 : decode cX6_acceptUnit 68 = .ok (.dup, 1) := by decide +kernel
theorem dX6_acceptUnit_69 : decode cX6_acceptUnit 69 = .ok (.getfield 46, 3) := by decide +kernel
theorem dX6_acceptUnit_72 : decode cX6_acceptUnit 72 = .ok (.iconst 1, 1) := by decide +kernel
theorem dX6_acceptUnit_73 : decode cX6_acceptUnit 73 = .ok (.iadd, 1) := by decide +kernel
theorem dX6_acceptUnit_74 : decode cX6_acceptUnit 74 = .ok (.putfield 46, 3) := by decide +kernel
theorem dX6_acceptUnit_77 : decode cX6_acceptUnit 77 = .ok (.aload_n 0, 1) := by decide +kernel
theorem dX6_acceptUnit_78 : decode cX6_acceptUnit 78 = .ok (.getfield 46, 3) := by decide +kernel
theorem dX6_acceptUnit_81 : decode cX6_acceptUnit 81 = .ok (.bipush 8, 2) := by decide +kernel
theorem dX6_acceptUnit_83 : decode cX6_acceptUnit 83 = .ok (.if_icmp .le 15, 3) := by decide +kernel
theorem dX6_acceptUnit_86 : decode cX6_acceptUnit 86 = .ok (.aload_n 0, 1) := by decide +kernel
theorem dX6_acceptUnit_87 : decode cX6_acceptUnit 87 = .ok (.iconst 3, 1) := by decide +kernel
theorem dX6_acceptUnit_88 : decode cX6_acceptUnit 88 = .ok (.aload_n 0, 1) := by decide +kernel
theorem dX6_acceptUnit_89 : decode cX6_acceptUnit 89 = .ok (.getfield 21, 3) := by decide +kernel
theorem dX6_acceptUnit_92 : decode cX6_acceptUnit 92 = .ok (.getfield 79, 3) := by decide +kernel
theorem dX6_acceptUnit_95 : decode cX6_acceptUnit 95 = .ok (.invokevirtual 55, 3) := by decide +kernel
theorem dX6_acceptUnit_98 : decode cX6_acceptUnit 98 = .ok (.aload_n 0, 1) := by decide +kernel
theorem dX6_acceptUnit_99 : decode cX6_acceptUnit 99 = .ok (.iload_n 1, 1) := by decide +kernel
theorem dX6_acceptUnit_100 : decode cX6_acceptUnit 100 = .ok (.invokevirtual 121, 3) := by decide +kernel
theorem dX6_acceptUnit_103 : decode cX6_acceptUnit 103 = .ok (.goto 7, 3) := by decide +kernel
theorem dX6_acceptUnit_106 : decode cX6_acceptUnit 106 = .ok (.aload_n 0, 1) := by decide +kernel
theorem dX6_acceptUnit_107 : decode cX6_acceptUnit 107 = .ok (.invokevirtual 112, 3) := by decide +kernel
theorem dX6_acceptUnit_110 : decode cX6_acceptUnit 110 = .ok (.return_, 1) := by decide +kernel
theorem dX6_acceptBehindUnit_0 : decode cX6_acceptBehindUnit 0 = .ok (.iload_n 1, 1) := by decide +kernel
theorem dX6_acceptBehindUnit_1 : decode cX6_acceptBehindUnit 1 = .ok (.invokestatic 124, 3) := by decide +kernel
theorem dX6_acceptBehindUnit_4 : decode cX6_acceptBehindUnit 4 = .ok (.ifCond .le 24, 3) := by decide +kernel
theorem dX6_acceptBehindUnit_7 : decode cX6_acceptBehindUnit 7 = .ok (.aload_n 0, 1) := by decide +kernel
theorem dX6_acceptBehindUnit_8 : decode cX6_acceptBehindUnit 8 = .ok (.iload_n 1, 1) := by decide +kernel
theorem dX6_acceptBehindUnit_9 : decode cX6_acceptBehindUnit 9 = .ok (.invokestatic 124, 3) := by decide +kernel
theorem dX6_acceptBehindUnit_12 : decode cX6_acceptBehindUnit 12 = .ok (.invokevirtual 128, 3) := by decide +kernel
theorem dX6_acceptBehindUnit_15 : decode cX6_acceptBehindUnit 15 = .ok (.aload_n 0, 1) := by decide +kernel
theorem dX6_acceptBehindUnit_16 : decode cX6_acceptBehindUnit 16 = .ok (.iload_n 1, 1) := by decide +kernel
theorem dX6_acceptBehindUnit_17 : decode cX6_acceptBehindUnit 17 = .ok (.invokevirtual 121, 3) := by decide +kernel
theorem dX6_acceptBehindUnit_20 : decode cX6_acceptBehindUnit 20 = .ok (.aload_n 0, 1) := by decide +kernel
theorem dX6_acceptBehindUnit_21 : decode cX6_acceptBehindUnit 21 = .ok (.iconst 1, 1) := by decide +kernel
theorem dX6_acceptBehindUnit_22 : decode cX6_acceptBehindUnit 22 = .ok (.putfield 39, 3) := by decide +kernel
theorem dX6_acceptBehindUnit_25 : decode cX6_acceptBehindUnit 25 = .ok (.goto 23, 3) := by decide +kernel
theorem dX6_acceptBehindUnit_28 : decode cX6_acceptBehindUnit 28 = .ok (.aload_n 0, 1) := by decide +kernel
theorem dX6_acceptBehindUnit_29 : decode cX6_acceptBehindUnit 29 = .ok (.getfield 46, 3) := by decide +kernel
theorem dX6_acceptBehindUnit_32 : decode cX6_acceptBehindUnit 32 = .ok (.ifCond .le 11, 3) := by decide +kernel
theorem dX6_acceptBehindUnit_35 : decode cX6_acceptBehindUnit 35 = .ok (.aload_n 0, 1) := by decide +kernel
theorem dX6_acceptBehindUnit_36 : decode cX6_acceptBehindUnit 36 = .ok (.iload_n 1, 1) := by decide +kernel
theorem dX6_acceptBehindUnit_37 : decode cX6_acceptBehindUnit 37 = .ok (.invokevirtual 131, 3) := by decide +kernel
theorem dX6_acceptBehindUnit_40 : decode cX6_acceptBehindUnit 40 = .ok (.goto 8, 3) := by decide +kernel
theorem dX6_acceptBehindUnit_43 : decode cX6_acceptBehindUnit 43 = .ok (.aload_n 0, 1) := by decide +kernel
theorem dX6_acceptBehindUnit_44 : decode cX6_acceptBehindUnit 44 = .ok (.iload_n 1, 1) := by decide +kernel
theorem dX6_acceptBehindUnit_45 : decode cX6_acceptBehindUnit 45 = .ok (.invokevirtual 134, 3) := by decide +kernel
theorem dX6_acceptBehindUnit_48 : decode cX6_acceptBehindUnit 48 = .ok (.return_, 1) := by decide +kernel
theorem dX6_acceptClosing_0 : decode cX6_acceptClosing 0 = .ok (.iload_n 1, 1) := by decide +kernel
theorem dX6_acceptClosing_1 : decode cX6_acceptClosing 1 = .ok (.bipush 41, 2) := by decide +kernel
theorem dX6_acceptClosing_3 : decode cX6_acceptClosing 3 = .ok (.if_icmp .eq 8, 3) := by decide +kernel
theorem dX6_acceptClosing_6 : decode cX6_acceptClosing 6 = .ok (.aload_n 0, 1) := by decide +kernel
theorem dX6_acceptClosing_7 : decode cX6_acceptClosing 7 = .ok (.invokevirtual 112, 3) := by decide +kernel
theorem dX6_acceptClosing_10 : decode cX6_acceptClosing 10 = .ok (.return_, 1) := by decide +kernel
theorem dX6_acceptClosing_11 : decode cX6_acceptClosing 11 = .ok (.aload_n 0, 1) := by decide +kernel
theorem dX6_acceptClosing_12 : decode cX6_acceptClosing 12 = .ok (.iconst 1, 1) := by decide +kernel
theorem dX6_acceptClosing_13 : decode cX6_acceptClosing 13 = .ok (.invokevirtual 128, 3) := by decide +kernel
theorem dX6_acceptClosing_16 : decode cX6_acceptClosing 16 = .ok (.aload_n 0, 1) := by decide +kernel
theorem dX6_acceptClosing_17 : decode cX6_acceptClosing 17 = .ok (.dup, 1) := by decide +kernel
theorem dX6_acceptClosing_18 : decode cX6_acceptClosing 18 = .ok (.getfield 46, 3) := by decide +kernel
theorem dX6_acceptClosing_21 : decode cX6_acceptClosing 21 = .ok (.iconst 1, 1) := by decide +kernel
theorem dX6_acceptClosing_22 : decode cX6_acceptClosing 22 = .ok (.isub, 1) := by decide +kernel
theorem dX6_acceptClosing_23 : decode cX6_acceptClosing 23 = .ok (.putfield 46, 3) := by decide +kernel
theorem dX6_acceptClosing_26 : decode cX6_acceptClosing 26 = .ok (.aload_n 0, 1) := by decide +kernel
theorem dX6_acceptClosing_27 : decode cX6_acceptClosing 27 = .ok (.getfield 52, 3) := by decide +kernel
theorem dX6_acceptClosing_30 : decode cX6_acceptClosing 30 = .ok (.ifCond .le 13, 3) := by decide +kernel
theorem dX6_acceptClosing_33 : decode cX6_acceptClosing 33 = .ok (.aload_n 0, 1) := by decide +kernel
theorem dX6_acceptClosing_34 : decode cX6_acceptClosing 34 = .ok (.dup, 1) := by decide +kernel
theorem dX6_acceptClosing_35 : decode cX6_acceptClosing 35 = .ok (.getfield 52, 3) := by decide +kernel
theorem dX6_acceptClosing_38 : decode cX6_acceptClosing 38 = .ok (.iconst 1, 1) := by decide +kernel
theorem dX6_acceptClosing_39 : decode cX6_acceptClosing 39 = .ok (.isub, 1) := by decide +kernel
theorem dX6_acceptClosing_40 : decode cX6_acceptClosing 40 = .ok (.putfield 52, 3) := by decide +kernel
theorem dX6_acceptClosing_43 : decode cX6_acceptClosing 43 = .ok (.return_, 1) := by decide +kernel
theorem dX6_acceptSumEnd_0 : decode cX6_acceptSumEnd 0 = .ok (.aload_n 0, 1) := by decide +kernel
theorem dX6_acceptSumEnd_1 : decode cX6_acceptSumEnd 1 = .ok (.iconst 1, 1) := by decide +kernel
theorem dX6_acceptSumEnd_2 : decode cX6_acceptSumEnd 2 = .ok (.invokevirtual 128, 3) := by decide +kernel
theorem dX6_acceptSumEnd_5 : decode cX6_acceptSumEnd 5 = .ok (.aload_n 0, 1) := by decide +kernel
theorem dX6_acceptSumEnd_6 : decode cX6_acceptSumEnd 6 = .ok (.getfield 103, 3) := by decide +kernel
theorem dX6_acceptSumEnd_9 : decode cX6_acceptSumEnd 9 = .ok (.iconst 3, 1) := by decide +kernel
theorem dX6_acceptSumEnd_10 : decode cX6_acceptSumEnd 10 = .ok (.if_icmp .ne 21, 3) := by decide +kernel
theorem dX6_acceptSumEnd_13 : decode cX6_acceptSumEnd 13 = .ok (.iload_n 1, 1) := by decide +kernel
theorem dX6_acceptSumEnd_14 : decode cX6_acceptSumEnd 14 = .ok (.iconst 4, 1) := by decide +kernel
theorem dX6_acceptSumEnd_15 : decode cX6_acceptSumEnd 15 = .ok (.if_icmp .ne 16, 3) := by decide +kernel
theorem dX6_acceptSumEnd_18 : decode cX6_acceptSumEnd 18 = .ok (.aload_n 0, 1) := by decide +kernel
theorem dX6_acceptSumEnd_19 : decode cX6_acceptSumEnd 19 = .ok (.iconst 4, 1) := by decide +kernel
theorem dX6_acceptSumEnd_20 : decode cX6_acceptSumEnd 20 = .ok (.putfield 103, 3) := by decide +kernel
theorem dX6_acceptSumEnd_23 : decode cX6_acceptSumEnd 23 = .ok (.aload_n 0, 1) := by decide +kernel
theorem dX6_acceptSumEnd_24 : decode cX6_acceptSumEnd 24 = .ok (.iconst 1, 1) := by decide +kernel
theorem dX6_acceptSumEnd_25 : decode cX6_acceptSumEnd 25 = .ok (.putfield 39, 3) := by decide +kernel
theorem dX6_acceptSumEnd_28 : decode cX6_acceptSumEnd 28 = .ok (.goto 87, 3) := by decide +kernel
theorem dX6_acceptSumEnd_31 : decode cX6_acceptSumEnd 31 = .ok (.aload_n 0, 1) := by decide +kernel
theorem dX6_acceptSumEnd_32 : decode cX6_acceptSumEnd 32 = .ok (.getfield 103, 3) := by decide +kernel
theorem dX6_acceptSumEnd_35 : decode cX6_acceptSumEnd 35 = .ok (.bipush 9, 2) := by decide +kernel
theorem dX6_acceptSumEnd_37 : decode cX6_acceptSumEnd 37 = .ok (.if_icmp .ne 19, 3) := by decide +kernel
theorem dX6_acceptSumEnd_40 : decode cX6_acceptSumEnd 40 = .ok (.iload_n 1, 1) := by decide +kernel
theorem dX6_acceptSumEnd_41 : decode cX6_acceptSumEnd 41 = .ok (.bipush 91, 2) := by decide +kernel
theorem dX6_acceptSumEnd_43 : decode cX6_acceptSumEnd 43 = .ok (.if_icmp .ne 13, 3) := by decide +kernel
theorem dX6_acceptSumEnd_46 : decode cX6_acceptSumEnd 46 = .ok (.aload_n 0, 1) := by decide +kernel
theorem dX6_acceptSumEnd_47 : decode cX6_acceptSumEnd 47 = .ok (.bipush 9, 2) := by decide +kernel
theorem dX6_acceptSumEnd_49 : decode cX6_acceptSumEnd 49 = .ok (.iconst 0, 1) := by decide +kernel
theorem dX6_acceptSumEnd_50 : decode cX6_acceptSumEnd 50 = .ok (.invokevirtual 137, 3) := by decide +kernel
theorem dX6_acceptSumEnd_53 : decode cX6_acceptSumEnd 53 = .ok (.goto 62, 3) := by decide +kernel
theorem dX6_acceptSumEnd_56 : decode cX6_acceptSumEnd 56 = .ok (.aload_n 0, 1) := by decide +kernel
theorem dX6_acceptSumEnd_57 : decode cX6_acceptSumEnd 57 = .ok (.getfield 103, 3) := by decide +kernel
theorem dX6_acceptSumEnd_60 : decode cX6_acceptSumEnd 60 = .ok (.iconst 3, 1) := by decide +kernel
theorem dX6_acceptSumEnd_61 : decode cX6_acceptSumEnd 61 = .ok (.if_icmp .eq 50, 3) := by decide +kernel
theorem dX6_acceptSumEnd_64 : decode cX6_acceptSumEnd 64 = .ok (.aload_n 0, 1) := by decide +kernel
theorem dX6_acceptSumEnd_65 : decode cX6_acceptSumEnd 65 = .ok (.getfield 103, 3) := by decide +kernel
theorem dX6_acceptSumEnd_68 : decode cX6_acceptSumEnd 68 = .ok (.bipush 9, 2) := by decide +kernel
theorem dX6_acceptSumEnd_70 : decode cX6_acceptSumEnd 70 = .ok (.if_icmp .eq 41, 3) := by decide +kernel
theorem dX6_acceptSumEnd_73 : decode cX6_acceptSumEnd 73 = .ok (.iload_n 1, 1) := by decide +kernel
theorem dX6_acceptSumEnd_74 : decode cX6_acceptSumEnd 74 = .ok (.bipush 59, 2) := by decide +kernel
theorem dX6_acceptSumEnd_76 : decode cX6_acceptSumEnd 76 = .ok (.if_icmp .ne 35, 3) := by decide +kernel
theorem dX6_acceptSumEnd_79 : decode cX6_acceptSumEnd 79 = .ok (.aload_n 0, 1) := by decide +kernel
theorem dX6_acceptSumEnd_80 : decode cX6_acceptSumEnd 80 = .ok (.getfield 12, 3) := by decide +kernel
theorem dX6_acceptSumEnd_83 : decode cX6_acceptSumEnd 83 = .ok (.aload_n 0, 1) := by decide +kernel
theorem dX6_acceptSumEnd_84 : decode cX6_acceptSumEnd 84 = .ok (.getfield 103, 3) := by decide +kernel
theorem dX6_acceptSumEnd_87 : decode cX6_acceptSumEnd 87 = .ok (.iconst 4, 1) := by decide +kernel
theorem dX6_acceptSumEnd_88 : decode cX6_acceptSumEnd 88 = .ok (.if_icmp .ne 7, 3) := by decide +kernel
theorem dX6_acceptSumEnd_91 : decode cX6_acceptSumEnd 91 = .ok (.iconst 3, 1) := by decide +kernel
theorem dX6_acceptSumEnd_92 : decode cX6_acceptSumEnd 92 = .ok (.goto 7, 3) := by decide +kernel
theorem dX6_acceptSumEnd_95 : decode cX6_acceptSumEnd 95 = .ok (.aload_n 0, 1) := by decide +kernel
theorem dX6_acceptSumEnd_96 : decode cX6_acceptSumEnd 96 = .ok (.getfield 103, 3) := by decide +kernel
theorem dX6_acceptSumEnd_99 : decode cX6_acceptSumEnd 99 = .ok (.iconst 0, 1) := by decide +kernel
theorem dX6_acceptSumEnd_100 : decode cX6_acceptSumEnd 100 = .ok (.invokevirtual 118, 3) := by decide +kernel
theorem dX6_acceptSumEnd_103 : decode cX6_acceptSumEnd 103 = .ok (.aload_n 0, 1) := by decide +kernel
theorem dX6_acceptSumEnd_104 : decode cX6_acceptSumEnd 104 = .ok (.iconst 0, 1) := by decide +kernel
theorem dX6_acceptSumEnd_105 : decode cX6_acceptSumEnd 105 = .ok (.putfield 39, 3) := by decide +kernel
theorem dX6_acceptSumEnd_108 : decode cX6_acceptSumEnd 108 = .ok (.goto 7, 3) := by decide +kernel
theorem dX6_acceptSumEnd_111 : decode cX6_acceptSumEnd 111 = .ok (.aload_n 0, 1) := by decide +kernel
theorem dX6_acceptSumEnd_112 : decode cX6_acceptSumEnd 112 = .ok (.invokevirtual 112, 3) := by decide +kernel
theorem dX6_acceptSumEnd_115 : decode cX6_acceptSumEnd 115 = .ok (.return_, 1) := by decide +kernel
theorem dX6_acceptRounds_0 : decode cX6_acceptRounds 0 = .ok (.iload_n 1, 1) := by decide +kernel
theorem dX6_acceptRounds_1 : decode cX6_acceptRounds 1 = .ok (.iconst 2, 1) := by decide +kernel
theorem dX6_acceptRounds_2 : decode cX6_acceptRounds 2 = .ok (.if_icmp .eq 8, 3) := by decide +kernel
theorem dX6_acceptRounds_5 : decode cX6_acceptRounds 5 = .ok (.aload_n 0, 1) := by decide +kernel
theorem dX6_acceptRounds_6 : decode cX6_acceptRounds 6 = .ok (.invokevirtual 112, 3) := by decide +kernel
theorem dX6_acceptRounds_9 : decode cX6_acceptRounds 9 = .ok (.return_, 1) := by decide +kernel
theorem dX6_acceptRounds_10 : decode cX6_acceptRounds 10 = .ok (.aload_n 0, 1) := by decide +kernel
theorem dX6_acceptRounds_11 : decode cX6_acceptRounds 11 = .ok (.aload_n 0, 1) := by decide +kernel
theorem dX6_acceptRounds_12 : decode cX6_acceptRounds 12 = .ok (.getfield 21, 3) := by decide +kernel
theorem dX6_acceptRounds_15 : decode cX6_acceptRounds 15 = .ok (.getfield 115, 3) := by decide +kernel
theorem dX6_acceptRounds_18 : decode cX6_acceptRounds 18 = .ok (.putfield 140, 3) := by decide +kernel
theorem dX6_acceptRounds_21 : decode cX6_acceptRounds 21 = .ok (.aload_n 0, 1) := by decide +kernel
theorem dX6_acceptRounds_22 : decode cX6_acceptRounds 22 = .ok (.getfield 140, 3) := by decide +kernel
theorem dX6_acceptRounds_25 : decode cX6_acceptRounds 25 = .ok (.sipush 200, 3) := by decide +kernel
theorem dX6_acceptRounds_28 : decode cX6_acceptRounds 28 = .ok (.if_icmp .le 15, 3) := by decide +kernel
theorem dX6_acceptRounds_31 : decode cX6_acceptRounds 31 = .ok (.aload_n 0, 1) := by decide +kernel
theorem dX6_acceptRounds_32 : decode cX6_acceptRounds 32 = .ok (.iconst 2, 1) := by decide +kernel
theorem dX6_acceptRounds_33 : decode cX6_acceptRounds 33 = .ok (.aload_n 0, 1) := by decide +kernel
theorem dX6_acceptRounds_34 : decode cX6_acceptRounds 34 = .ok (.getfield 21, 3) := by decide +kernel
theorem dX6_acceptRounds_37 : decode cX6_acceptRounds 37 = .ok (.getfield 79, 3) := by decide +kernel
theorem dX6_acceptRounds_40 : decode cX6_acceptRounds 40 = .ok (.invokevirtual 55, 3) := by decide +kernel
theorem dX6_acceptRounds_43 : decode cX6_acceptRounds 43 = .ok (.aload_n 0, 1) := by decide +kernel
theorem dX6_acceptRounds_44 : decode cX6_acceptRounds 44 = .ok (.iconst 4, 1) := by decide +kernel
theorem dX6_acceptRounds_45 : decode cX6_acceptRounds 45 = .ok (.putfield 39, 3) := by decide +kernel
theorem dX6_acceptRounds_48 : decode cX6_acceptRounds 48 = .ok (.return_, 1) := by decide +kernel
theorem dX6_acceptOpening_0 : decode cX6_acceptOpening 0 = .ok (.iload_n 1, 1) := by decide +kernel
theorem dX6_acceptOpening_1 : decode cX6_acceptOpening 1 = .ok (.bipush 91, 2) := by decide +kernel
theorem dX6_acceptOpening_3 : decode cX6_acceptOpening 3 = .ok (.if_icmp .ne 16, 3) := by decide +kernel
theorem dX6_acceptOpening_6 : decode cX6_acceptOpening 6 = .ok (.aload_n 0, 1) := by decide +kernel
theorem dX6_acceptOpening_7 : decode cX6_acceptOpening 7 = .ok (.bipush 8, 2) := by decide +kernel
theorem dX6_acceptOpening_9 : decode cX6_acceptOpening 9 = .ok (.aload_n 0, 1) := by decide +kernel
theorem dX6_acceptOpening_10 : decode cX6_acceptOpening 10 = .ok (.getfield 140, 3) := by decide +kernel
theorem dX6_acceptOpening_13 : decode cX6_acceptOpening 13 = .ok (.invokevirtual 137, 3) := by decide +kernel
theorem dX6_acceptOpening_16 : decode cX6_acceptOpening 16 = .ok (.goto 7, 3) := by decide +kernel
theorem dX6_acceptOpening_19 : decode cX6_acceptOpening 19 = .ok (.aload_n 0, 1) := by decide +kernel
theorem dX6_acceptOpening_20 : decode cX6_acceptOpening 20 = .ok (.invokevirtual 112, 3) := by decide +kernel
theorem dX6_acceptOpening_23 : decode cX6_acceptOpening 23 = .ok (.return_, 1) := by decide +kernel
theorem dX6_acceptBehindBlock_0 : decode cX6_acceptBehindBlock 0 = .ok (.iload_n 1, 1) := by decide +kernel
theorem dX6_acceptBehindBlock_1 : decode cX6_acceptBehindBlock 1 = .ok (.bipush 59, 2) := by decide +kernel
theorem dX6_acceptBehindBlock_3 : decode cX6_acceptBehindBlock 3 = .ok (.if_icmp .ne 11, 3) := by decide +kernel
theorem dX6_acceptBehindBlock_6 : decode cX6_acceptBehindBlock 6 = .ok (.aload_n 0, 1) := by decide +kernel
theorem dX6_acceptBehindBlock_7 : decode cX6_acceptBehindBlock 7 = .ok (.iconst 0, 1) := by decide +kernel
theorem dX6_acceptBehindBlock_8 : decode cX6_acceptBehindBlock 8 = .ok (.putfield 39, 3) := by decide +kernel
theorem dX6_acceptBehindBlock_11 : decode cX6_acceptBehindBlock 11 = .ok (.goto 7, 3) := by decide +kernel
theorem dX6_acceptBehindBlock_14 : decode cX6_acceptBehindBlock 14 = .ok (.aload_n 0, 1) := by decide +kernel
theorem dX6_acceptBehindBlock_15 : decode cX6_acceptBehindBlock 15 = .ok (.invokevirtual 112, 3) := by decide +kernel
theorem dX6_acceptBehindBlock_18 : decode cX6_acceptBehindBlock 18 = .ok (.return_, 1) := by decide +kernel
def own_k_aBehindBlock : List Cond := [.methodLink RX6 112 yX6_refuse, .instanceMethod yX6_refuse, .selects RX6 yX6_refuse yX6_refuse, .initialized RX6, .fieldLink RX6 39 "ClashFree$Parser" "state" "I"]
def wp_k_aBehindBlock : List Cond := .code yX6_acceptBehindBlock cX6_acceptBehindBlock 2 none :: (own_k_aBehindBlock ++ (wp_k_refuse ++ (wsX60 ++ ([] : List Cond))))
set_option maxRecDepth 20000 in
theorem inown_k_aBehindBlock : ∀ w ∈ own_k_aBehindBlock, w ∈ lw_tbl := mem_places [1043, 1045, 15, 111, 336] (by decide +kernel)
set_option maxRecDepth 20000 in
theorem in_k_aBehindBlock : ∀ w ∈ wp_k_aBehindBlock, w ∈ lw_tbl := List.forall_mem_cons.mpr ⟨List.mem_of_getElem? (i := 1089) (by decide +kernel), List.forall_mem_append.mpr ⟨inown_k_aBehindBlock, List.forall_mem_append.mpr ⟨in_k_refuse, List.forall_mem_append.mpr ⟨lwb_X6, fun _ h => absurd h List.not_mem_nil⟩⟩⟩⟩
set_option maxRecDepth 20000 in
theorem good_k_aBehindBlock : wp_k_aBehindBlock.all goodWord = true := by decide +kernel
set_option maxRecDepth 20000 in
theorem g_k_aBehindBlock_k_refuse_112 : GoodIn wp_k_aBehindBlock (wsV RX6 112 RX6 yX6_refuse wp_k_refuse) := goodIn_sub (List.forall_mem_append.mpr ⟨List.forall_mem_cons.mpr ⟨(List.mem_of_getElem? (i := 1) rfl), List.forall_mem_cons.mpr ⟨(List.mem_of_getElem? (i := 2) rfl), List.forall_mem_cons.mpr ⟨(List.mem_of_getElem? (i := 3) rfl), List.forall_mem_cons.mpr ⟨(List.mem_of_getElem? (i := 4) rfl), fun _ h => absurd h List.not_mem_nil⟩⟩⟩⟩, (fun _ h => (List.mem_cons_of_mem _ (List.mem_append_right _ (List.mem_append_left _ h))))⟩) (by decide +kernel)
set_option maxHeartbeats 4000000 in
set_option maxRecDepth 100000 in
theorem k_aBehindBlock (l : Launch) (D : va_G) (sz : Nat) (oq : Nat → Nat) (cI : ClassId) (qf : Int32) (qp : Int32) (qd : Int32) (qs : Int32) (qt : Int32) (qb : Int32) (qh : Int32) (qr : Int32) (qn : Int32) (bk : Nat) (wz : Nat) (fO : Nat → Int32) (fW : Nat → Int32) (pz : Nat) (fK : Nat → Int32) (fN : Nat → Int32) (fL : Nat → Int32) (tx : Value) (zl : Int32) (ta : Int32) (be : Int32) (ki : Int32) (nu : Int32) (wo : Int32) (z1 : Int32) (kc : Nat) (num : Nat) (sg : SM) (hz : z1 = nI kc) (hkc : kc ≤ 255) (hnu : kc = 2 → nu = nI num ∧ num ≤ 999999) (hM : MatS sg qs qt qr qn bk fO wz fW pz fK fN fL) (hpw : pz + wz ≤ 600) (hpk : kc = 0 ∨ pz + wz < 600) (hst : sg.1 = 5) : Met l yX6_acceptBehindBlock wp_k_aBehindBlock ({ frames := 2, cells := 0, slots := 0, locals := 42 }) (PcWC D [.ref (oq 0), .int z1] sz [(oq 0, .inr (6, gPs oq qf qp qd qs qt qb qh qr qn (nI bk) (nI wz))), (oq 6, .inl (cI, 5, .inl fO)), (oq 7, .inl (cI, 600, .inl fW)), (oq 1, .inr (7, [.int (nI pz), .ref (oq 2), .ref (oq 3), .ref (oq 4)])), (oq 2, .inl (cI, 600, .inl fK)), (oq 3, .inl (cI, 600, .inl fN)), (oq 4, .inl (cI, 600, .inl fL)), (oq 5, .inr (8, [tx, .int zl, .int ta, .int be, .int ki, .int nu, .int wo]))] [(cI, .int)]) (va_Qv (fun (u : (Int32) × (Int32) × (Int32) × (Int32) × (Int32) × (Int32) × (Int32) × (Int32) × (Int32) × (Nat) × (Nat) × (Nat → Int32) × (Nat → Int32) × (Nat) × (Nat → Int32) × (Nat → Int32) × (Nat → Int32)) => AccP sg kc num qf u.1 (fun t => MatS t u.2.2.2.1 u.2.2.2.2.1 u.2.2.2.2.2.2.2.1 u.2.2.2.2.2.2.2.2.1 u.2.2.2.2.2.2.2.2.2.1 u.2.2.2.2.2.2.2.2.2.2.2.1 u.2.2.2.2.2.2.2.2.2.2.1 u.2.2.2.2.2.2.2.2.2.2.2.2.1 u.2.2.2.2.2.2.2.2.2.2.2.2.2.1 u.2.2.2.2.2.2.2.2.2.2.2.2.2.2.1 u.2.2.2.2.2.2.2.2.2.2.2.2.2.2.2.1 u.2.2.2.2.2.2.2.2.2.2.2.2.2.2.2.2) ∧ (u.2.2.2.2.2.2.2.2.2.2.2.2.2.1 + u.2.2.2.2.2.2.2.2.2.2.1 ≤ pz + wz ∨ (¬ kc = 0 ∧ u.2.2.2.2.2.2.2.2.2.2.2.2.2.1 + u.2.2.2.2.2.2.2.2.2.2.1 ≤ pz + wz + 1))) (fun (u : (Int32) × (Int32) × (Int32) × (Int32) × (Int32) × (Int32) × (Int32) × (Int32) × (Int32) × (Nat) × (Nat) × (Nat → Int32) × (Nat → Int32) × (Nat) × (Nat → Int32) × (Nat → Int32) × (Nat → Int32)) t => va_P D vwCl [(oq 0, .inr (6, gPs oq u.1 u.2.1 u.2.2.1 u.2.2.2.1 u.2.2.2.2.1 u.2.2.2.2.2.1 u.2.2.2.2.2.2.1 u.2.2.2.2.2.2.2.1 u.2.2.2.2.2.2.2.2.1 (nI u.2.2.2.2.2.2.2.2.2.1) (nI u.2.2.2.2.2.2.2.2.2.2.1))), (oq 6, .inl (cI, 5, .inl u.2.2.2.2.2.2.2.2.2.2.2.1)), (oq 7, .inl (cI, 600, .inl u.2.2.2.2.2.2.2.2.2.2.2.2.1)), (oq 1, .inr (7, [.int (nI u.2.2.2.2.2.2.2.2.2.2.2.2.2.1), .ref (oq 2), .ref (oq 3), .ref (oq 4)])), (oq 2, .inl (cI, 600, .inl u.2.2.2.2.2.2.2.2.2.2.2.2.2.2.1)), (oq 3, .inl (cI, 600, .inl u.2.2.2.2.2.2.2.2.2.2.2.2.2.2.2.1)), (oq 4, .inl (cI, 600, .inl u.2.2.2.2.2.2.2.2.2.2.2.2.2.2.2.2)), (oq 5, .inr (8, [tx, .int zl, .int ta, .int be, .int ki, .int nu, .int wo]))] t.heap ∧ va_K D vwCl [(cI, .int)] t ∧ va_D (va_A [(oq 0, .inr (6, gPs oq qf qp qd qs qt qb qh qr qn (nI bk) (nI wz))), (oq 6, .inl (cI, 5, .inl fO)), (oq 7, .inl (cI, 600, .inl fW)), (oq 1, .inr (7, [.int (nI pz), .ref (oq 2), .ref (oq 3), .ref (oq 4)])), (oq 2, .inl (cI, 600, .inl fK)), (oq 3, .inl (cI, 600, .inl fN)), (oq 4, .inl (cI, 600, .inl fL)), (oq 5, .inr (8, [tx, .int zl, .int ta, .int be, .int ki, .int nu, .int wo]))] sz) [(oq 0, .inr (6, gPs oq u.1 u.2.1 u.2.2.1 u.2.2.2.1 u.2.2.2.2.1 u.2.2.2.2.2.1 u.2.2.2.2.2.2.1 u.2.2.2.2.2.2.2.1 u.2.2.2.2.2.2.2.2.1 (nI u.2.2.2.2.2.2.2.2.2.1) (nI u.2.2.2.2.2.2.2.2.2.2.1))), (oq 6, .inl (cI, 5, .inl u.2.2.2.2.2.2.2.2.2.2.2.1)), (oq 7, .inl (cI, 600, .inl u.2.2.2.2.2.2.2.2.2.2.2.2.1)), (oq 1, .inr (7, [.int (nI u.2.2.2.2.2.2.2.2.2.2.2.2.2.1), .ref (oq 2), .ref (oq 3), .ref (oq 4)])), (oq 2, .inl (cI, 600, .inl u.2.2.2.2.2.2.2.2.2.2.2.2.2.2.1)), (oq 3, .inl (cI, 600, .inl u.2.2.2.2.2.2.2.2.2.2.2.2.2.2.2.1)), (oq 4, .inl (cI, 600, .inl u.2.2.2.2.2.2.2.2.2.2.2.2.2.2.2.2)), (oq 5, .inr (8, [tx, .int zl, .int ta, .int be, .int ki, .int nu, .int wo]))]) (va_A [(oq 0, .inr (6, gPs oq qf qp qd qs qt qb qh qr qn (nI bk) (nI wz))), (oq 6, .inl (cI, 5, .inl fO)), (oq 7, .inl (cI, 600, .inl fW)), (oq 1, .inr (7, [.int (nI pz), .ref (oq 2), .ref (oq 3), .ref (oq 4)])), (oq 2, .inl (cI, 600, .inl fK)), (oq 3, .inl (cI, 600, .inl fN)), (oq 4, .inl (cI, 600, .inl fL)), (oq 5, .inr (8, [tx, .int zl, .int ta, .int be, .int ki, .int nu, .int wo]))] sz)) 0 0 (va_A [(oq 0, .inr (6, gPs oq qf qp qd qs qt qb qh qr qn (nI bk) (nI wz))), (oq 6, .inl (cI, 5, .inl fO)), (oq 7, .inl (cI, 600, .inl fW)), (oq 1, .inr (7, [.int (nI pz), .ref (oq 2), .ref (oq 3), .ref (oq 4)])), (oq 2, .inl (cI, 600, .inl fK)), (oq 3, .inl (cI, 600, .inl fN)), (oq 4, .inl (cI, 600, .inl fL)), (oq 5, .inr (8, [tx, .int zl, .int ta, .int be, .int ki, .int nu, .int wo]))] sz) := by
  refine Met.ofW (cc := cX6_acceptBehindBlock) (maxL := 2) (ret := none) (by decide) rfl ?_
  intro p e s m args below meth c s₁ B hml hv
  obtain ⟨rfl, hsz, hP, hK, hD0, hN⟩ := hv
  have hx := B.exec
  have hb := B.bytes
  have hr := B.returns
  have hts := atoms_spec (ws := wp_k_aBehindBlock) B.pre
  have hin_X6 : ∀ w ∈ wsX60, w ∈ wp_k_aBehindBlock := fun _ h => (List.mem_cons_of_mem _ (List.mem_append_right _ (List.mem_append_right _ (List.mem_append_left _ h))))
  have hown : s.vm.findClass RX6 = some m.cls := findClass_of_methodNamed B.named
  have hlocks := B.notSynchronized
  subst hsz
  have hD := hD0.self (sz := s.heap.size)
  generalize hAe : va_A [(oq 0, .inr (6, gPs oq qf qp qd qs qt qb qh qr qn (nI bk) (nI wz))), (oq 6, .inl (cI, 5, .inl fO)), (oq 7, .inl (cI, 600, .inl fW)), (oq 1, .inr (7, [.int (nI pz), .ref (oq 2), .ref (oq 3), .ref (oq 4)])), (oq 2, .inl (cI, 600, .inl fK)), (oq 3, .inl (cI, 600, .inl fN)), (oq 4, .inl (cI, 600, .inl fL)), (oq 5, .inr (8, [tx, .int zl, .int ta, .int be, .int ki, .int nu, .int wo]))] s.heap.size = A at hD ⊢
  have hA : ∀ q : Nat, s.heap.size ≤ q → A q := fun q h => by rw [← hAe]; exact Or.inr h
  have hS : va_S A s.heap s.heap [] := va_S.rf
  have hP : va_P D vwCl [(oq 0, .inr (6, gPs oq qf qp qd qs qt qb qh qr qn (nI bk) (nI wz))), (oq 6, .inl (cI, 5, .inl fO)), (oq 7, .inl (cI, 600, .inl fW)), (oq 1, .inr (7, [.int (nI pz), .ref (oq 2), .ref (oq 3), .ref (oq 4)])), (oq 2, .inl (cI, 600, .inl fK)), (oq 3, .inl (cI, 600, .inl fN)), (oq 4, .inl (cI, 600, .inl fL)), (oq 5, .inr (8, [tx, .int zl, .int ta, .int be, .int ki, .int nu, .int wo]))] s.heap := hP
  have hl := lv_entry ([.ref (oq 0), .int z1]) (n := 2) (Nat.le_of_ble_eq_true rfl)
  rw [lg_entry_eq]
  generalize (lg_sl ([.ref (oq 0), .int z1]) ++ List.replicate (2 - (lg_sl ([.ref (oq 0), .int z1])).length) Slot.unset).toArray = ls at hl ⊢
  have hl : lv_has ls 2 [(0, .ref (oq 0)), (1, .int z1)] := hl
  obtain rfl : qs = 5 := hM.1.1.trans (congrArg nI hst)
  have hMb := hM.2.2.2.2.1.1
  have hMb5 := hM.2.2.2.2.1.2.1
  have hMn := hM.2.2.2.1
  have hMw := hM.2.2.2.2.2.1.1
  have hMg := hM.2.2.2.2.2.2.1
  refine lv_iload_n hx hb dX6_acceptBehindBlock_0 rfl (lv_at hl 1 rfl) ?_
  refine lv_bipush (v := 59) hx hb dX6_acceptBehindBlock_1 (by decide) ?_
  refine lv_icmp_ne (tgt := 14) hx hb dX6_acceptBehindBlock_3 (by decide) (fun hc1 => ?_) (fun hc1 => ?_)
  ·
    refine lv_aload_n hx hb dX6_acceptBehindBlock_14 rfl (lv_at hl 0 rfl) ?_
    have hPc := hP.sub (ws' := [(oq 0, .inr (6, gPs oq qf qp qd 5 qt qb qh qr qn (nI bk) (nI wz))), (oq 5, .inr (8, [tx, .int zl, .int ta, .int be, .int ki, .int nu, .int wo]))]) [0, 7] rfl
    have hKc := hK.sub (tys' := []) [] rfl
    have hDc := hD.sub (ws' := [(oq 0, .inr (6, gPs oq qf qp qd 5 qt qb qh qr qn (nI bk) (nI wz))), (oq 5, .inr (8, [tx, .int zl, .int ta, .int be, .int ki, .int nu, .int wo]))]) [0, 7] (by decide) rfl
    have hFc := va_free (wc := [(oq 0, .inr (6, gPs oq qf qp qd 5 qt qb qh qr qn (nI bk) (nI wz))), (oq 5, .inr (8, [tx, .int zl, .int ta, .int be, .int ki, .int nu, .int wo]))]) hD hS hA [0, 7] rfl
    refine va_callv (va_runV (As := []) (rest := []) ⟨hx, hb, hml, hown, hts⟩ (k_refuse l D _ oq cI qf qp qd 5 qt qb qh qr qn bk wz tx zl ta be ki nu wo) (cwV 0 hts g_k_aBehindBlock_k_refuse_112 rfl rfl rfl (by decide +kernel) ⟨(Nat.le_of_ble_eq_true rfl), (Nat.le_of_ble_eq_true rfl)⟩) (PcWC_V (q0 := 0) hPc hKc hDc hN rfl rfl) rfl rfl hl.1 rfl (lv_room (Nat.le_of_ble_eq_true rfl)) dX6_acceptBehindBlock_15 ⟨(Nat.le_of_ble_eq_true rfl), (Nat.le_of_ble_eq_true rfl)⟩) hS (fun q _ h => hFc q h) hFc (fun uu tt H locs htt hvm hw hB hz1 hk1 hS => ?_)
    obtain ⟨w3, w4, w5, w6⟩ := uu
    obtain ⟨hP1, hK1, hD1⟩ := hB
    rw [htt] at hP1
    have hK1 := va_K.moved hvm.symm hK1
    have hP1 : va_P D vwCl [(oq 0, .inr (6, gPs oq w3 w4 w5 5 qt qb w6 qr qn (nI bk) (nI wz))), (oq 5, .inr (8, [tx, .int zl, .int ta, .int be, .int ki, .int nu, .int wo]))] H := hP1
    obtain ⟨hP, hD⟩ := va_join (wr := [(oq 6, .inl (cI, 5, .inl fO)), (oq 7, .inl (cI, 600, .inl fW)), (oq 1, .inr (7, [.int (nI pz), .ref (oq 2), .ref (oq 3), .ref (oq 4)])), (oq 2, .inl (cI, 600, .inl fK)), (oq 3, .inl (cI, 600, .inl fN)), (oq 4, .inl (cI, 600, .inl fL))]) (w1 := [(oq 0, .inr (6, gPs oq w3 w4 w5 5 qt qb w6 qr qn (nI bk) (nI wz))), (oq 5, .inr (8, [tx, .int zl, .int ta, .int be, .int ki, .int nu, .int wo]))]) hP hD [0, 7] [1, 2, 3, 4, 5, 6] rfl rfl (by decide) (by decide) hk1 hFc hP1 hD1
    have hP : va_P D vwCl [(oq 6, .inl (cI, 5, .inl fO)), (oq 7, .inl (cI, 600, .inl fW)), (oq 1, .inr (7, [.int (nI pz), .ref (oq 2), .ref (oq 3), .ref (oq 4)])), (oq 2, .inl (cI, 600, .inl fK)), (oq 3, .inl (cI, 600, .inl fN)), (oq 4, .inl (cI, 600, .inl fL)), (oq 0, .inr (6, gPs oq w3 w4 w5 5 qt qb w6 qr qn (nI bk) (nI wz))), (oq 5, .inr (8, [tx, .int zl, .int ta, .int be, .int ki, .int nu, .int wo]))] H := hP
    have hD : va_D A [(oq 6, .inl (cI, 5, .inl fO)), (oq 7, .inl (cI, 600, .inl fW)), (oq 1, .inr (7, [.int (nI pz), .ref (oq 2), .ref (oq 3), .ref (oq 4)])), (oq 2, .inl (cI, 600, .inl fK)), (oq 3, .inl (cI, 600, .inl fN)), (oq 4, .inl (cI, 600, .inl fL)), (oq 0, .inr (6, gPs oq w3 w4 w5 5 qt qb w6 qr qn (nI bk) (nI wz))), (oq 5, .inr (8, [tx, .int zl, .int ta, .int be, .int ki, .int nu, .int wo]))] := hD
    try dsimp only at hw
    clear hz1 hk1 hFc hPc hKc hDc
    obtain ⟨hrf7, rfl⟩ := hw
    have hP : va_P D vwCl [(oq 6, .inl (cI, 5, .inl fO)), (oq 7, .inl (cI, 600, .inl fW)), (oq 1, .inr (7, [.int (nI pz), .ref (oq 2), .ref (oq 3), .ref (oq 4)])), (oq 2, .inl (cI, 600, .inl fK)), (oq 3, .inl (cI, 600, .inl fN)), (oq 4, .inl (cI, 600, .inl fL)), (oq 0, .inr (6, gPs oq w3 w4 w5 5 qt qb 0 qr qn (nI bk) (nI wz))), (oq 5, .inr (8, [tx, .int zl, .int ta, .int be, .int ki, .int nu, .int wo]))] H := hP
    have hD : va_D A [(oq 6, .inl (cI, 5, .inl fO)), (oq 7, .inl (cI, 600, .inl fW)), (oq 1, .inr (7, [.int (nI pz), .ref (oq 2), .ref (oq 3), .ref (oq 4)])), (oq 2, .inl (cI, 600, .inl fK)), (oq 3, .inl (cI, 600, .inl fN)), (oq 4, .inl (cI, 600, .inl fL)), (oq 0, .inr (6, gPs oq w3 w4 w5 5 qt qb 0 qr qn (nI bk) (nI wz))), (oq 5, .inr (8, [tx, .int zl, .int ta, .int be, .int ki, .int nu, .int wo]))] := hD
    exact W.vret hx hb hr (fun t ht hW => ⟨⟨(w3, w4, w5, 5, qt, qb, 0, qr, qn, bk, wz, fO, fW, pz, fK, fN, fL), rfl, (by (try dsimp only); first | done | exact ⟨acc_bad (hM) (fun _ => (stp_5 hst).trans (if_neg (fun q => hc1 (hz.trans (congrArg nI q))))) hrf7, by omega⟩), by rw [ht]; exact hP.sub [6, 0, 1, 2, 3, 4, 5, 7] rfl, va_K.moved hW.alike (hK.sub [0] rfl), hD.sub [6, 0, 1, 2, 3, 4, 5, 7] (by decide) rfl⟩, hS.F ht⟩) hS.2.2 dX6_acceptBehindBlock_18
  ·
    have hk : kc = 59 := (nI_eq (b := 59) (by omega) (by decide)).mp (hz.symm.trans hc1)
    refine lv_aload_n hx hb dX6_acceptBehindBlock_6 rfl (lv_at hl 0 rfl) ?_
    refine lv_iconst (v := 0) hx hb dX6_acceptBehindBlock_7 (by decide) ?_
    refine va_put (D := D) (ci := 6) (v := .int 0) (ty := .int) (C := RX6) (T := TX6) (N := 15) hx hb hts hin_X6 tyX6 tyX6_ok nmX6 hown hK hP hD hS 0 rfl rfl 5 (by decide) (hts (.fieldLink RX6 39 "ClashFree$Parser" "state" "I") (List.mem_of_getElem? (i := 5) rfl)) (fun _ h9 => h9) rfl (by decide +kernel) rfl rfl (Nat.le_of_ble_eq_true rfl) dX6_acceptBehindBlock_8 (fun H locs hP hD hS => ?_)
    have hP : va_P D vwCl [(oq 0, .inr (6, gPs oq qf qp qd 0 qt qb qh qr qn (nI bk) (nI wz))), (oq 6, .inl (cI, 5, .inl fO)), (oq 7, .inl (cI, 600, .inl fW)), (oq 1, .inr (7, [.int (nI pz), .ref (oq 2), .ref (oq 3), .ref (oq 4)])), (oq 2, .inl (cI, 600, .inl fK)), (oq 3, .inl (cI, 600, .inl fN)), (oq 4, .inl (cI, 600, .inl fL)), (oq 5, .inr (8, [tx, .int zl, .int ta, .int be, .int ki, .int nu, .int wo]))] H := hP
    have hD : va_D A [(oq 0, .inr (6, gPs oq qf qp qd 0 qt qb qh qr qn (nI bk) (nI wz))), (oq 6, .inl (cI, 5, .inl fO)), (oq 7, .inl (cI, 600, .inl fW)), (oq 1, .inr (7, [.int (nI pz), .ref (oq 2), .ref (oq 3), .ref (oq 4)])), (oq 2, .inl (cI, 600, .inl fK)), (oq 3, .inl (cI, 600, .inl fN)), (oq 4, .inl (cI, 600, .inl fL)), (oq 5, .inr (8, [tx, .int zl, .int ta, .int be, .int ki, .int nu, .int wo]))] := hD
    refine lv_goto (tgt := 18) hx hb dX6_acceptBehindBlock_11 (by decide) ?_
    exact W.vret hx hb hr (fun t ht hW => ⟨⟨(qf, qp, qd, 0, qt, qb, qh, qr, qn, bk, wz, fO, fW, pz, fK, fN, fL), rfl, (by (try dsimp only); first | done | exact ⟨acc_ok (hM.nst (st := 0) (tt := sg.2.1) (rr := sg.2.2.1) (by decide) (fun q => absurd q (by decide)) (fun q => absurd q (by decide))) (fun _ => (stp_5 hst).trans (if_pos hk)) (fun hd => absurd hd (nDoom (Or.inl hst))) (fun q => by omega), by omega⟩), by rw [ht]; exact hP.sub [0, 1, 2, 3, 4, 5, 6, 7] rfl, va_K.moved hW.alike (hK.sub [0] rfl), hD.sub [0, 1, 2, 3, 4, 5, 6, 7] (by decide) rfl⟩, hS.F ht⟩) hS.2.2 dX6_acceptBehindBlock_18

def own_k_aRounds : List Cond := [.fieldLink RX6 21 "ClashFree$Parser" "scan" "LClashFree$Scanner;", .fieldLink RX6 115 "ClashFree$Scanner" "number" "I", .fieldLink RX6 140 "ClashFree$Parser" "rounds" "I", .fieldLink RX6 39 "ClashFree$Parser" "state" "I", .fieldLink RX6 79 "ClashFree$Scanner" "at" "I", .methodLink RX6 55 yX6_note, .instanceMethod yX6_note, .selects RX6 yX6_note yX6_note, .initialized RX6, .methodLink RX6 112 yX6_refuse, .instanceMethod yX6_refuse, .selects RX6 yX6_refuse yX6_refuse]
def wp_k_aRounds : List Cond := .code yX6_acceptRounds cX6_acceptRounds 2 none :: (own_k_aRounds ++ (wp_k_note ++ (wp_k_refuse ++ (wsX60 ++ (wsX80 ++ ([] : List Cond))))))
set_option maxRecDepth 20000 in
theorem inown_k_aRounds : ∀ w ∈ own_k_aRounds, w ∈ lw_tbl := mem_places [335, 310, 340, 336, 305, 915, 917, 4, 111, 1043, 1045, 15] (by decide +kernel)
set_option maxRecDepth 20000 in
theorem in_k_aRounds : ∀ w ∈ wp_k_aRounds, w ∈ lw_tbl := List.forall_mem_cons.mpr ⟨List.mem_of_getElem? (i := 1081) (by decide +kernel), List.forall_mem_append.mpr ⟨inown_k_aRounds, List.forall_mem_append.mpr ⟨in_k_note, List.forall_mem_append.mpr ⟨in_k_refuse, List.forall_mem_append.mpr ⟨lwb_X6, List.forall_mem_append.mpr ⟨lwb_X8, fun _ h => absurd h List.not_mem_nil⟩⟩⟩⟩⟩⟩
set_option maxRecDepth 20000 in
theorem good_k_aRounds : wp_k_aRounds.all goodWord = true := by decide +kernel
set_option maxRecDepth 20000 in
theorem g_k_aRounds_k_note_55 : GoodIn wp_k_aRounds (wsV RX6 55 RX6 yX6_note wp_k_note) := goodIn_sub (List.forall_mem_append.mpr ⟨List.forall_mem_cons.mpr ⟨(List.mem_of_getElem? (i := 6) rfl), List.forall_mem_cons.mpr ⟨(List.mem_of_getElem? (i := 7) rfl), List.forall_mem_cons.mpr ⟨(List.mem_of_getElem? (i := 8) rfl), List.forall_mem_cons.mpr ⟨(List.mem_of_getElem? (i := 9) rfl), fun _ h => absurd h List.not_mem_nil⟩⟩⟩⟩, (fun _ h => (List.mem_cons_of_mem _ (List.mem_append_right _ (List.mem_append_left _ h))))⟩) (by decide +kernel)
set_option maxRecDepth 20000 in
theorem g_k_aRounds_k_refuse_112 : GoodIn wp_k_aRounds (wsV RX6 112 RX6 yX6_refuse wp_k_refuse) := goodIn_sub (List.forall_mem_append.mpr ⟨List.forall_mem_cons.mpr ⟨(List.mem_of_getElem? (i := 10) rfl), List.forall_mem_cons.mpr ⟨(List.mem_of_getElem? (i := 11) rfl), List.forall_mem_cons.mpr ⟨(List.mem_of_getElem? (i := 12) rfl), List.forall_mem_cons.mpr ⟨(List.mem_of_getElem? (i := 9) rfl), fun _ h => absurd h List.not_mem_nil⟩⟩⟩⟩, (fun _ h => (List.mem_cons_of_mem _ (List.mem_append_right _ (List.mem_append_right _ (List.mem_append_left _ h)))))⟩) (by decide +kernel)
set_option maxHeartbeats 4000000 in
set_option maxRecDepth 100000 in
theorem k_aRounds (l : Launch) (D : va_G) (sz : Nat) (oq : Nat → Nat) (cI : ClassId) (qf : Int32) (qp : Int32) (qd : Int32) (qs : Int32) (qt : Int32) (qb : Int32) (qh : Int32) (qr : Int32) (qn : Int32) (bk : Nat) (wz : Nat) (fO : Nat → Int32) (fW : Nat → Int32) (pz : Nat) (fK : Nat → Int32) (fN : Nat → Int32) (fL : Nat → Int32) (tx : Value) (zl : Int32) (ta : Int32) (be : Int32) (ki : Int32) (nu : Int32) (wo : Int32) (z1 : Int32) (kc : Nat) (num : Nat) (sg : SM) (hz : z1 = nI kc) (hkc : kc ≤ 255) (hnu : kc = 2 → nu = nI num ∧ num ≤ 999999) (hM : MatS sg qs qt qr qn bk fO wz fW pz fK fN fL) (hpw : pz + wz ≤ 600) (hpk : kc = 0 ∨ pz + wz < 600) (hst : sg.1 = 3) : Met l yX6_acceptRounds wp_k_aRounds ({ frames := 2, cells := 0, slots := 0, locals := 42 }) (PcWC D [.ref (oq 0), .int z1] sz [(oq 0, .inr (6, gPs oq qf qp qd qs qt qb qh qr qn (nI bk) (nI wz))), (oq 6, .inl (cI, 5, .inl fO)), (oq 7, .inl (cI, 600, .inl fW)), (oq 1, .inr (7, [.int (nI pz), .ref (oq 2), .ref (oq 3), .ref (oq 4)])), (oq 2, .inl (cI, 600, .inl fK)), (oq 3, .inl (cI, 600, .inl fN)), (oq 4, .inl (cI, 600, .inl fL)), (oq 5, .inr (8, [tx, .int zl, .int ta, .int be, .int ki, .int nu, .int wo]))] [(cI, .int)]) (va_Qv (fun (u : (Int32) × (Int32) × (Int32) × (Int32) × (Int32) × (Int32) × (Int32) × (Int32) × (Int32) × (Nat) × (Nat) × (Nat → Int32) × (Nat → Int32) × (Nat) × (Nat → Int32) × (Nat → Int32) × (Nat → Int32)) => AccP sg kc num qf u.1 (fun t => MatS t u.2.2.2.1 u.2.2.2.2.1 u.2.2.2.2.2.2.2.1 u.2.2.2.2.2.2.2.2.1 u.2.2.2.2.2.2.2.2.2.1 u.2.2.2.2.2.2.2.2.2.2.2.1 u.2.2.2.2.2.2.2.2.2.2.1 u.2.2.2.2.2.2.2.2.2.2.2.2.1 u.2.2.2.2.2.2.2.2.2.2.2.2.2.1 u.2.2.2.2.2.2.2.2.2.2.2.2.2.2.1 u.2.2.2.2.2.2.2.2.2.2.2.2.2.2.2.1 u.2.2.2.2.2.2.2.2.2.2.2.2.2.2.2.2) ∧ (u.2.2.2.2.2.2.2.2.2.2.2.2.2.1 + u.2.2.2.2.2.2.2.2.2.2.1 ≤ pz + wz ∨ (¬ kc = 0 ∧ u.2.2.2.2.2.2.2.2.2.2.2.2.2.1 + u.2.2.2.2.2.2.2.2.2.2.1 ≤ pz + wz + 1))) (fun (u : (Int32) × (Int32) × (Int32) × (Int32) × (Int32) × (Int32) × (Int32) × (Int32) × (Int32) × (Nat) × (Nat) × (Nat → Int32) × (Nat → Int32) × (Nat) × (Nat → Int32) × (Nat → Int32) × (Nat → Int32)) t => va_P D vwCl [(oq 0, .inr (6, gPs oq u.1 u.2.1 u.2.2.1 u.2.2.2.1 u.2.2.2.2.1 u.2.2.2.2.2.1 u.2.2.2.2.2.2.1 u.2.2.2.2.2.2.2.1 u.2.2.2.2.2.2.2.2.1 (nI u.2.2.2.2.2.2.2.2.2.1) (nI u.2.2.2.2.2.2.2.2.2.2.1))), (oq 6, .inl (cI, 5, .inl u.2.2.2.2.2.2.2.2.2.2.2.1)), (oq 7, .inl (cI, 600, .inl u.2.2.2.2.2.2.2.2.2.2.2.2.1)), (oq 1, .inr (7, [.int (nI u.2.2.2.2.2.2.2.2.2.2.2.2.2.1), .ref (oq 2), .ref (oq 3), .ref (oq 4)])), (oq 2, .inl (cI, 600, .inl u.2.2.2.2.2.2.2.2.2.2.2.2.2.2.1)), (oq 3, .inl (cI, 600, .inl u.2.2.2.2.2.2.2.2.2.2.2.2.2.2.2.1)), (oq 4, .inl (cI, 600, .inl u.2.2.2.2.2.2.2.2.2.2.2.2.2.2.2.2)), (oq 5, .inr (8, [tx, .int zl, .int ta, .int be, .int ki, .int nu, .int wo]))] t.heap ∧ va_K D vwCl [(cI, .int)] t ∧ va_D (va_A [(oq 0, .inr (6, gPs oq qf qp qd qs qt qb qh qr qn (nI bk) (nI wz))), (oq 6, .inl (cI, 5, .inl fO)), (oq 7, .inl (cI, 600, .inl fW)), (oq 1, .inr (7, [.int (nI pz), .ref (oq 2), .ref (oq 3), .ref (oq 4)])), (oq 2, .inl (cI, 600, .inl fK)), (oq 3, .inl (cI, 600, .inl fN)), (oq 4, .inl (cI, 600, .inl fL)), (oq 5, .inr (8, [tx, .int zl, .int ta, .int be, .int ki, .int nu, .int wo]))] sz) [(oq 0, .inr (6, gPs oq u.1 u.2.1 u.2.2.1 u.2.2.2.1 u.2.2.2.2.1 u.2.2.2.2.2.1 u.2.2.2.2.2.2.1 u.2.2.2.2.2.2.2.1 u.2.2.2.2.2.2.2.2.1 (nI u.2.2.2.2.2.2.2.2.2.1) (nI u.2.2.2.2.2.2.2.2.2.2.1))), (oq 6, .inl (cI, 5, .inl u.2.2.2.2.2.2.2.2.2.2.2.1)), (oq 7, .inl (cI, 600, .inl u.2.2.2.2.2.2.2.2.2.2.2.2.1)), (oq 1, .inr (7, [.int (nI u.2.2.2.2.2.2.2.2.2.2.2.2.2.1), .ref (oq 2), .ref (oq 3), .ref (oq 4)])), (oq 2, .inl (cI, 600, .inl u.2.2.2.2.2.2.2.2.2.2.2.2.2.2.1)), (oq 3, .inl (cI, 600, .inl u.2.2.2.2.2.2.2.2.2.2.2.2.2.2.2.1)), (oq 4, .inl (cI, 600, .inl u.2.2.2.2.2.2.2.2.2.2.2.2.2.2.2.2)), (oq 5, .inr (8, [tx, .int zl, .int ta, .int be, .int ki, .int nu, .int wo]))]) (va_A [(oq 0, .inr (6, gPs oq qf qp qd qs qt qb qh qr qn (nI bk) (nI wz))), (oq 6, .inl (cI, 5, .inl fO)), (oq 7, .inl (cI, 600, .inl fW)), (oq 1, .inr (7, [.int (nI pz), .ref (oq 2), .ref (oq 3), .ref (oq 4)])), (oq 2, .inl (cI, 600, .inl fK)), (oq 3, .inl (cI, 600, .inl fN)), (oq 4, .inl (cI, 600, .inl fL)), (oq 5, .inr (8, [tx, .int zl, .int ta, .int be, .int ki, .int nu, .int wo]))] sz)) 0 0 (va_A [(oq 0, .inr (6, gPs oq qf qp qd qs qt qb qh qr qn (nI bk) (nI wz))), (oq 6, .inl (cI, 5, .inl fO)), (oq 7, .inl (cI, 600, .inl fW)), (oq 1, .inr (7, [.int (nI pz), .ref (oq 2), .ref (oq 3), .ref (oq 4)])), (oq 2, .inl (cI, 600, .inl fK)), (oq 3, .inl (cI, 600, .inl fN)), (oq 4, .inl (cI, 600, .inl fL)), (oq 5, .inr (8, [tx, .int zl, .int ta, .int be, .int ki, .int nu, .int wo]))] sz) := by
  refine Met.ofW (cc := cX6_acceptRounds) (maxL := 2) (ret := none) (by decide) rfl ?_
  intro p e s m args below meth c s₁ B hml hv
  obtain ⟨rfl, hsz, hP, hK, hD0, hN⟩ := hv
  have hx := B.exec
  have hb := B.bytes
  have hr := B.returns
  have hts := atoms_spec (ws := wp_k_aRounds) B.pre
  have hin_X6 : ∀ w ∈ wsX60, w ∈ wp_k_aRounds := fun _ h => (List.mem_cons_of_mem _ (List.mem_append_right _ (List.mem_append_right _ (List.mem_append_right _ (List.mem_append_left _ h)))))
  have hin_X8 : ∀ w ∈ wsX80, w ∈ wp_k_aRounds := fun _ h => (List.mem_cons_of_mem _ (List.mem_append_right _ (List.mem_append_right _ (List.mem_append_right _ (List.mem_append_right _ (List.mem_append_left _ h))))))
  have hown : s.vm.findClass RX6 = some m.cls := findClass_of_methodNamed B.named
  have hlocks := B.notSynchronized
  subst hsz
  have hD := hD0.self (sz := s.heap.size)
  generalize hAe : va_A [(oq 0, .inr (6, gPs oq qf qp qd qs qt qb qh qr qn (nI bk) (nI wz))), (oq 6, .inl (cI, 5, .inl fO)), (oq 7, .inl (cI, 600, .inl fW)), (oq 1, .inr (7, [.int (nI pz), .ref (oq 2), .ref (oq 3), .ref (oq 4)])), (oq 2, .inl (cI, 600, .inl fK)), (oq 3, .inl (cI, 600, .inl fN)), (oq 4, .inl (cI, 600, .inl fL)), (oq 5, .inr (8, [tx, .int zl, .int ta, .int be, .int ki, .int nu, .int wo]))] s.heap.size = A at hD ⊢
  have hA : ∀ q : Nat, s.heap.size ≤ q → A q := fun q h => by rw [← hAe]; exact Or.inr h
  have hS : va_S A s.heap s.heap [] := va_S.rf
  have hP : va_P D vwCl [(oq 0, .inr (6, gPs oq qf qp qd qs qt qb qh qr qn (nI bk) (nI wz))), (oq 6, .inl (cI, 5, .inl fO)), (oq 7, .inl (cI, 600, .inl fW)), (oq 1, .inr (7, [.int (nI pz), .ref (oq 2), .ref (oq 3), .ref (oq 4)])), (oq 2, .inl (cI, 600, .inl fK)), (oq 3, .inl (cI, 600, .inl fN)), (oq 4, .inl (cI, 600, .inl fL)), (oq 5, .inr (8, [tx, .int zl, .int ta, .int be, .int ki, .int nu, .int wo]))] s.heap := hP
  have hl := lv_entry ([.ref (oq 0), .int z1]) (n := 2) (Nat.le_of_ble_eq_true rfl)
  rw [lg_entry_eq]
  generalize (lg_sl ([.ref (oq 0), .int z1]) ++ List.replicate (2 - (lg_sl ([.ref (oq 0), .int z1])).length) Slot.unset).toArray = ls at hl ⊢
  have hl : lv_has ls 2 [(0, .ref (oq 0)), (1, .int z1)] := hl
  obtain rfl : qs = 3 := hM.1.1.trans (congrArg nI hst)
  have hMb := hM.2.2.2.2.1.1
  have hMb5 := hM.2.2.2.2.1.2.1
  have hMn := hM.2.2.2.1
  have hMw := hM.2.2.2.2.2.1.1
  have hMg := hM.2.2.2.2.2.2.1
  refine lv_iload_n hx hb dX6_acceptRounds_0 rfl (lv_at hl 1 rfl) ?_
  refine lv_iconst (v := 2) hx hb dX6_acceptRounds_1 (by decide) ?_
  refine lv_icmp_eq (tgt := 10) hx hb dX6_acceptRounds_2 (by decide) (fun hc1 => ?_) (fun hc1 => ?_)
  ·
    have hk : kc = 2 := (nI_eq (b := 2) (by omega) (by decide)).mp (hz.symm.trans hc1)
    obtain ⟨hnuE, hnum⟩ := hnu hk
    refine lv_aload_n hx hb dX6_acceptRounds_10 rfl (lv_at hl 0 rfl) ?_
    refine lv_aload_n hx hb dX6_acceptRounds_11 rfl (lv_at hl 0 rfl) ?_
    refine va_get (D := D) (ci := 6) (v := .ref (oq 5)) (C := RX6) (T := TX6) (N := 15) hx hb hts hin_X6 hown hK hP 0 rfl rfl 4 (by decide) (hts (.fieldLink RX6 21 "ClashFree$Parser" "scan" "LClashFree$Scanner;") (List.mem_of_getElem? (i := 1) rfl)) (fun _ h9 => h9) rfl dX6_acceptRounds_12 ?_
    refine va_get (D := D) (ci := 8) (v := .int nu) (C := RX8) (T := TX8) (N := 7) hx hb hts hin_X8 hown hK hP 7 rfl rfl 5 (by decide) (hts (.fieldLink RX6 115 "ClashFree$Scanner" "number" "I") (List.mem_of_getElem? (i := 2) rfl)) (fun _ h9 => h9) rfl dX6_acceptRounds_15 ?_
    refine va_put (D := D) (ci := 6) (v := .int nu) (ty := .int) (C := RX6) (T := TX6) (N := 15) hx hb hts hin_X6 tyX6 tyX6_ok nmX6 hown hK hP hD hS 0 rfl rfl 9 (by decide) (hts (.fieldLink RX6 140 "ClashFree$Parser" "rounds" "I") (List.mem_of_getElem? (i := 3) rfl)) (fun _ h9 => h9) rfl (by decide +kernel) rfl rfl (Nat.le_of_ble_eq_true rfl) dX6_acceptRounds_18 (fun H locs hP hD hS => ?_)
    have hP : va_P D vwCl [(oq 0, .inr (6, gPs oq qf qp qd 3 qt qb qh nu qn (nI bk) (nI wz))), (oq 6, .inl (cI, 5, .inl fO)), (oq 7, .inl (cI, 600, .inl fW)), (oq 1, .inr (7, [.int (nI pz), .ref (oq 2), .ref (oq 3), .ref (oq 4)])), (oq 2, .inl (cI, 600, .inl fK)), (oq 3, .inl (cI, 600, .inl fN)), (oq 4, .inl (cI, 600, .inl fL)), (oq 5, .inr (8, [tx, .int zl, .int ta, .int be, .int ki, .int nu, .int wo]))] H := hP
    have hD : va_D A [(oq 0, .inr (6, gPs oq qf qp qd 3 qt qb qh nu qn (nI bk) (nI wz))), (oq 6, .inl (cI, 5, .inl fO)), (oq 7, .inl (cI, 600, .inl fW)), (oq 1, .inr (7, [.int (nI pz), .ref (oq 2), .ref (oq 3), .ref (oq 4)])), (oq 2, .inl (cI, 600, .inl fK)), (oq 3, .inl (cI, 600, .inl fN)), (oq 4, .inl (cI, 600, .inl fL)), (oq 5, .inr (8, [tx, .int zl, .int ta, .int be, .int ki, .int nu, .int wo]))] := hD
    refine lv_aload_n hx hb dX6_acceptRounds_21 rfl (lv_at hl 0 rfl) ?_
    refine va_get (D := D) (ci := 6) (v := .int nu) (C := RX6) (T := TX6) (N := 15) hx hb hts hin_X6 hown hK hP 0 rfl rfl 9 (by decide) (hts (.fieldLink RX6 140 "ClashFree$Parser" "rounds" "I") (List.mem_of_getElem? (i := 3) rfl)) (fun _ h9 => h9) rfl dX6_acceptRounds_22 ?_
    refine lv_sipush (v := 200) hx hb dX6_acceptRounds_25 (by decide) ?_
    refine lv_icmp_le (tgt := 43) hx hb dX6_acceptRounds_28 (by decide) (fun hc2 => ?_) (fun hc2 => ?_)
    ·
      have hle : num ≤ 200 := (nI_leI (b := 200) (by omega) (by decide)).mp (hnuE ▸ hc2)
      refine lv_aload_n hx hb dX6_acceptRounds_43 rfl (lv_at hl 0 rfl) ?_
      refine lv_iconst (v := 4) hx hb dX6_acceptRounds_44 (by decide) ?_
      refine va_put (D := D) (ci := 6) (v := .int 4) (ty := .int) (C := RX6) (T := TX6) (N := 15) hx hb hts hin_X6 tyX6 tyX6_ok nmX6 hown hK hP hD hS 0 rfl rfl 5 (by decide) (hts (.fieldLink RX6 39 "ClashFree$Parser" "state" "I") (List.mem_of_getElem? (i := 4) rfl)) (fun _ h9 => h9) rfl (by decide +kernel) rfl rfl (Nat.le_of_ble_eq_true rfl) dX6_acceptRounds_45 (fun H locs hP hD hS => ?_)
      have hP : va_P D vwCl [(oq 0, .inr (6, gPs oq qf qp qd 4 qt qb qh nu qn (nI bk) (nI wz))), (oq 6, .inl (cI, 5, .inl fO)), (oq 7, .inl (cI, 600, .inl fW)), (oq 1, .inr (7, [.int (nI pz), .ref (oq 2), .ref (oq 3), .ref (oq 4)])), (oq 2, .inl (cI, 600, .inl fK)), (oq 3, .inl (cI, 600, .inl fN)), (oq 4, .inl (cI, 600, .inl fL)), (oq 5, .inr (8, [tx, .int zl, .int ta, .int be, .int ki, .int nu, .int wo]))] H := hP
      have hD : va_D A [(oq 0, .inr (6, gPs oq qf qp qd 4 qt qb qh nu qn (nI bk) (nI wz))), (oq 6, .inl (cI, 5, .inl fO)), (oq 7, .inl (cI, 600, .inl fW)), (oq 1, .inr (7, [.int (nI pz), .ref (oq 2), .ref (oq 3), .ref (oq 4)])), (oq 2, .inl (cI, 600, .inl fK)), (oq 3, .inl (cI, 600, .inl fN)), (oq 4, .inl (cI, 600, .inl fL)), (oq 5, .inr (8, [tx, .int zl, .int ta, .int be, .int ki, .int nu, .int wo]))] := hD
      exact W.vret hx hb hr (fun t ht hW => ⟨⟨(qf, qp, qd, 4, qt, qb, qh, nu, qn, bk, wz, fO, fW, pz, fK, fN, fL), rfl, (by (try dsimp only); first | done | exact ⟨acc_ok (hM.nst (st := 4) (tt := sg.2.1) (rr := num) (by decide) (fun q => absurd q (by decide)) (fun _ => ⟨hnuE, by omega⟩)) (fun _ => (stp_3 hst).trans (if_pos ⟨hk, hle⟩)) (fun hd => ⟨hd.1, Or.inr (Or.inl rfl)⟩) (fun q => by omega), by omega⟩), by rw [ht]; exact hP.sub [0, 1, 2, 3, 4, 5, 6, 7] rfl, va_K.moved hW.alike (hK.sub [0] rfl), hD.sub [0, 1, 2, 3, 4, 5, 6, 7] (by decide) rfl⟩, hS.F ht⟩) hS.2.2 dX6_acceptRounds_48
    ·
      have hgt : ¬ num ≤ 200 := fun q => hc2 (by rw [hnuE]; exact nI_le (b := 200) q (by decide))
      refine lv_aload_n hx hb dX6_acceptRounds_31 rfl (lv_at hl 0 rfl) ?_
      refine lv_iconst (v := 2) hx hb dX6_acceptRounds_32 (by decide) ?_
      refine lv_aload_n hx hb dX6_acceptRounds_33 rfl (lv_at hl 0 rfl) ?_
      refine va_get (D := D) (ci := 6) (v := .ref (oq 5)) (C := RX6) (T := TX6) (N := 15) hx hb hts hin_X6 hown hK hP 0 rfl rfl 4 (by decide) (hts (.fieldLink RX6 21 "ClashFree$Parser" "scan" "LClashFree$Scanner;") (List.mem_of_getElem? (i := 1) rfl)) (fun _ h9 => h9) rfl dX6_acceptRounds_34 ?_
      refine va_get (D := D) (ci := 8) (v := .int ta) (C := RX8) (T := TX8) (N := 7) hx hb hts hin_X8 hown hK hP 7 rfl rfl 2 (by decide) (hts (.fieldLink RX6 79 "ClashFree$Scanner" "at" "I") (List.mem_of_getElem? (i := 5) rfl)) (fun _ h9 => h9) rfl dX6_acceptRounds_37 ?_
      have hPc := hP.sub (ws' := [(oq 0, .inr (6, gPs oq qf qp qd 3 qt qb qh nu qn (nI bk) (nI wz)))]) [0] rfl
      have hKc := hK.sub (tys' := []) [] rfl
      have hDc := hD.sub (ws' := [(oq 0, .inr (6, gPs oq qf qp qd 3 qt qb qh nu qn (nI bk) (nI wz)))]) [0] (by decide) rfl
      have hFc := va_free (wc := [(oq 0, .inr (6, gPs oq qf qp qd 3 qt qb qh nu qn (nI bk) (nI wz)))]) hD hS hA [0] rfl
      refine va_callv (va_runV (As := [.int 2, .int ta]) (rest := []) ⟨hx, hb, hml, hown, hts⟩ (k_note l D _ oq cI qf qp qd 3 qt qb qh nu qn bk wz 2 ta (by decide)) (cwV 2 hts g_k_aRounds_k_note_55 rfl rfl rfl (by decide +kernel) ⟨(Nat.le_of_ble_eq_true rfl), (Nat.le_of_ble_eq_true rfl)⟩) (PcWC_V (q0 := 0) hPc hKc hDc hN rfl rfl) rfl rfl hl.1 rfl (lv_room (Nat.le_of_ble_eq_true rfl)) dX6_acceptRounds_40 ⟨(Nat.le_of_ble_eq_true rfl), (Nat.le_of_ble_eq_true rfl)⟩) hS (fun q _ h => hFc q h) hFc (fun uu tt H locs htt hvm hw hB hz1 hk1 hS => ?_)
      obtain ⟨w4, w5, w6⟩ := uu
      obtain ⟨hP1, hK1, hD1⟩ := hB
      rw [htt] at hP1
      have hK1 := va_K.moved hvm.symm hK1
      have hP1 : va_P D vwCl [(oq 0, .inr (6, gPs oq w4 w5 w6 3 qt qb qh nu qn (nI bk) (nI wz)))] H := hP1
      obtain ⟨hP, hD⟩ := va_join (wr := [(oq 6, .inl (cI, 5, .inl fO)), (oq 7, .inl (cI, 600, .inl fW)), (oq 1, .inr (7, [.int (nI pz), .ref (oq 2), .ref (oq 3), .ref (oq 4)])), (oq 2, .inl (cI, 600, .inl fK)), (oq 3, .inl (cI, 600, .inl fN)), (oq 4, .inl (cI, 600, .inl fL)), (oq 5, .inr (8, [tx, .int zl, .int ta, .int be, .int ki, .int nu, .int wo]))]) (w1 := [(oq 0, .inr (6, gPs oq w4 w5 w6 3 qt qb qh nu qn (nI bk) (nI wz)))]) hP hD [0] [1, 2, 3, 4, 5, 6, 7] rfl rfl (by decide) (by decide) hk1 hFc hP1 hD1
      have hP : va_P D vwCl [(oq 6, .inl (cI, 5, .inl fO)), (oq 7, .inl (cI, 600, .inl fW)), (oq 1, .inr (7, [.int (nI pz), .ref (oq 2), .ref (oq 3), .ref (oq 4)])), (oq 2, .inl (cI, 600, .inl fK)), (oq 3, .inl (cI, 600, .inl fN)), (oq 4, .inl (cI, 600, .inl fL)), (oq 5, .inr (8, [tx, .int zl, .int ta, .int be, .int ki, .int nu, .int wo])), (oq 0, .inr (6, gPs oq w4 w5 w6 3 qt qb qh nu qn (nI bk) (nI wz)))] H := hP
      have hD : va_D A [(oq 6, .inl (cI, 5, .inl fO)), (oq 7, .inl (cI, 600, .inl fW)), (oq 1, .inr (7, [.int (nI pz), .ref (oq 2), .ref (oq 3), .ref (oq 4)])), (oq 2, .inl (cI, 600, .inl fK)), (oq 3, .inl (cI, 600, .inl fN)), (oq 4, .inl (cI, 600, .inl fL)), (oq 5, .inr (8, [tx, .int zl, .int ta, .int be, .int ki, .int nu, .int wo])), (oq 0, .inr (6, gPs oq w4 w5 w6 3 qt qb qh nu qn (nI bk) (nI wz)))] := hD
      try dsimp only at hw
      clear hz1 hk1 hFc hPc hKc hDc
      have hnt7 := hw
      refine lv_aload_n hx hb dX6_acceptRounds_43 rfl (lv_at hl 0 rfl) ?_
      refine lv_iconst (v := 4) hx hb dX6_acceptRounds_44 (by decide) ?_
      refine va_put (D := D) (ci := 6) (v := .int 4) (ty := .int) (C := RX6) (T := TX6) (N := 15) hx hb hts hin_X6 tyX6 tyX6_ok nmX6 hown hK hP hD hS 7 rfl rfl 5 (by decide) (hts (.fieldLink RX6 39 "ClashFree$Parser" "state" "I") (List.mem_of_getElem? (i := 4) rfl)) (fun _ h9 => h9) rfl (by decide +kernel) rfl rfl (Nat.le_of_ble_eq_true rfl) dX6_acceptRounds_45 (fun H locs hP hD hS => ?_)
      have hP : va_P D vwCl [(oq 6, .inl (cI, 5, .inl fO)), (oq 7, .inl (cI, 600, .inl fW)), (oq 1, .inr (7, [.int (nI pz), .ref (oq 2), .ref (oq 3), .ref (oq 4)])), (oq 2, .inl (cI, 600, .inl fK)), (oq 3, .inl (cI, 600, .inl fN)), (oq 4, .inl (cI, 600, .inl fL)), (oq 5, .inr (8, [tx, .int zl, .int ta, .int be, .int ki, .int nu, .int wo])), (oq 0, .inr (6, gPs oq w4 w5 w6 4 qt qb qh nu qn (nI bk) (nI wz)))] H := hP
      have hD : va_D A [(oq 6, .inl (cI, 5, .inl fO)), (oq 7, .inl (cI, 600, .inl fW)), (oq 1, .inr (7, [.int (nI pz), .ref (oq 2), .ref (oq 3), .ref (oq 4)])), (oq 2, .inl (cI, 600, .inl fK)), (oq 3, .inl (cI, 600, .inl fN)), (oq 4, .inl (cI, 600, .inl fL)), (oq 5, .inr (8, [tx, .int zl, .int ta, .int be, .int ki, .int nu, .int wo])), (oq 0, .inr (6, gPs oq w4 w5 w6 4 qt qb qh nu qn (nI bk) (nI wz)))] := hD
      exact W.vret hx hb hr (fun t ht hW => ⟨⟨(w4, w5, w6, 4, qt, qb, qh, nu, qn, bk, wz, fO, fW, pz, fK, fN, fL), rfl, (by (try dsimp only); first | done | exact ⟨acc_bad (hM.nst (st := 4) (tt := sg.2.1) (rr := num) (by decide) (fun q => absurd q (by decide)) (fun _ => ⟨hnuE, by omega⟩)) (fun _ => (stp_3 hst).trans (if_neg (fun q => hgt q.2))) hnt7, by omega⟩), by rw [ht]; exact hP.sub [7, 0, 1, 2, 3, 4, 5, 6] rfl, va_K.moved hW.alike (hK.sub [0] rfl), hD.sub [7, 0, 1, 2, 3, 4, 5, 6] (by decide) rfl⟩, hS.F ht⟩) hS.2.2 dX6_acceptRounds_48
  ·
    refine lv_aload_n hx hb dX6_acceptRounds_5 rfl (lv_at hl 0 rfl) ?_
    have hPc := hP.sub (ws' := [(oq 0, .inr (6, gPs oq qf qp qd 3 qt qb qh qr qn (nI bk) (nI wz))), (oq 5, .inr (8, [tx, .int zl, .int ta, .int be, .int ki, .int nu, .int wo]))]) [0, 7] rfl
    have hKc := hK.sub (tys' := []) [] rfl
    have hDc := hD.sub (ws' := [(oq 0, .inr (6, gPs oq qf qp qd 3 qt qb qh qr qn (nI bk) (nI wz))), (oq 5, .inr (8, [tx, .int zl, .int ta, .int be, .int ki, .int nu, .int wo]))]) [0, 7] (by decide) rfl
    have hFc := va_free (wc := [(oq 0, .inr (6, gPs oq qf qp qd 3 qt qb qh qr qn (nI bk) (nI wz))), (oq 5, .inr (8, [tx, .int zl, .int ta, .int be, .int ki, .int nu, .int wo]))]) hD hS hA [0, 7] rfl
    refine va_callv (va_runV (As := []) (rest := []) ⟨hx, hb, hml, hown, hts⟩ (k_refuse l D _ oq cI qf qp qd 3 qt qb qh qr qn bk wz tx zl ta be ki nu wo) (cwV 0 hts g_k_aRounds_k_refuse_112 rfl rfl rfl (by decide +kernel) ⟨(Nat.le_of_ble_eq_true rfl), (Nat.le_of_ble_eq_true rfl)⟩) (PcWC_V (q0 := 0) hPc hKc hDc hN rfl rfl) rfl rfl hl.1 rfl (lv_room (Nat.le_of_ble_eq_true rfl)) dX6_acceptRounds_6 ⟨(Nat.le_of_ble_eq_true rfl), (Nat.le_of_ble_eq_true rfl)⟩) hS (fun q _ h => hFc q h) hFc (fun uu tt H locs htt hvm hw hB hz1 hk1 hS => ?_)
    obtain ⟨w9, w10, w11, w12⟩ := uu
    obtain ⟨hP1, hK1, hD1⟩ := hB
    rw [htt] at hP1
    have hK1 := va_K.moved hvm.symm hK1
    have hP1 : va_P D vwCl [(oq 0, .inr (6, gPs oq w9 w10 w11 3 qt qb w12 qr qn (nI bk) (nI wz))), (oq 5, .inr (8, [tx, .int zl, .int ta, .int be, .int ki, .int nu, .int wo]))] H := hP1
    obtain ⟨hP, hD⟩ := va_join (wr := [(oq 6, .inl (cI, 5, .inl fO)), (oq 7, .inl (cI, 600, .inl fW)), (oq 1, .inr (7, [.int (nI pz), .ref (oq 2), .ref (oq 3), .ref (oq 4)])), (oq 2, .inl (cI, 600, .inl fK)), (oq 3, .inl (cI, 600, .inl fN)), (oq 4, .inl (cI, 600, .inl fL))]) (w1 := [(oq 0, .inr (6, gPs oq w9 w10 w11 3 qt qb w12 qr qn (nI bk) (nI wz))), (oq 5, .inr (8, [tx, .int zl, .int ta, .int be, .int ki, .int nu, .int wo]))]) hP hD [0, 7] [1, 2, 3, 4, 5, 6] rfl rfl (by decide) (by decide) hk1 hFc hP1 hD1
    have hP : va_P D vwCl [(oq 6, .inl (cI, 5, .inl fO)), (oq 7, .inl (cI, 600, .inl fW)), (oq 1, .inr (7, [.int (nI pz), .ref (oq 2), .ref (oq 3), .ref (oq 4)])), (oq 2, .inl (cI, 600, .inl fK)), (oq 3, .inl (cI, 600, .inl fN)), (oq 4, .inl (cI, 600, .inl fL)), (oq 0, .inr (6, gPs oq w9 w10 w11 3 qt qb w12 qr qn (nI bk) (nI wz))), (oq 5, .inr (8, [tx, .int zl, .int ta, .int be, .int ki, .int nu, .int wo]))] H := hP
    have hD : va_D A [(oq 6, .inl (cI, 5, .inl fO)), (oq 7, .inl (cI, 600, .inl fW)), (oq 1, .inr (7, [.int (nI pz), .ref (oq 2), .ref (oq 3), .ref (oq 4)])), (oq 2, .inl (cI, 600, .inl fK)), (oq 3, .inl (cI, 600, .inl fN)), (oq 4, .inl (cI, 600, .inl fL)), (oq 0, .inr (6, gPs oq w9 w10 w11 3 qt qb w12 qr qn (nI bk) (nI wz))), (oq 5, .inr (8, [tx, .int zl, .int ta, .int be, .int ki, .int nu, .int wo]))] := hD
    try dsimp only at hw
    clear hz1 hk1 hFc hPc hKc hDc
    obtain ⟨hrf13, rfl⟩ := hw
    have hP : va_P D vwCl [(oq 6, .inl (cI, 5, .inl fO)), (oq 7, .inl (cI, 600, .inl fW)), (oq 1, .inr (7, [.int (nI pz), .ref (oq 2), .ref (oq 3), .ref (oq 4)])), (oq 2, .inl (cI, 600, .inl fK)), (oq 3, .inl (cI, 600, .inl fN)), (oq 4, .inl (cI, 600, .inl fL)), (oq 0, .inr (6, gPs oq w9 w10 w11 3 qt qb 0 qr qn (nI bk) (nI wz))), (oq 5, .inr (8, [tx, .int zl, .int ta, .int be, .int ki, .int nu, .int wo]))] H := hP
    have hD : va_D A [(oq 6, .inl (cI, 5, .inl fO)), (oq 7, .inl (cI, 600, .inl fW)), (oq 1, .inr (7, [.int (nI pz), .ref (oq 2), .ref (oq 3), .ref (oq 4)])), (oq 2, .inl (cI, 600, .inl fK)), (oq 3, .inl (cI, 600, .inl fN)), (oq 4, .inl (cI, 600, .inl fL)), (oq 0, .inr (6, gPs oq w9 w10 w11 3 qt qb 0 qr qn (nI bk) (nI wz))), (oq 5, .inr (8, [tx, .int zl, .int ta, .int be, .int ki, .int nu, .int wo]))] := hD
    exact W.vret hx hb hr (fun t ht hW => ⟨⟨(w9, w10, w11, 3, qt, qb, 0, qr, qn, bk, wz, fO, fW, pz, fK, fN, fL), rfl, (by (try dsimp only); first | done | exact ⟨acc_bad (hM) (fun _ => (stp_3 hst).trans (if_neg (fun q => hc1 (hz.trans (congrArg nI q.1))))) hrf13, by omega⟩), by rw [ht]; exact hP.sub [6, 0, 1, 2, 3, 4, 5, 7] rfl, va_K.moved hW.alike (hK.sub [0] rfl), hD.sub [6, 0, 1, 2, 3, 4, 5, 7] (by decide) rfl⟩, hS.F ht⟩) hS.2.2 dX6_acceptRounds_9

def own_k_aOpening : List Cond := [.methodLink RX6 112 yX6_refuse, .instanceMethod yX6_refuse, .selects RX6 yX6_refuse yX6_refuse, .initialized RX6, .fieldLink RX6 140 "ClashFree$Parser" "rounds" "I", .methodLink RX6 137 yX6_open, .instanceMethod yX6_open, .selects RX6 yX6_open yX6_open]
def wp_k_aOpening : List Cond := .code yX6_acceptOpening cX6_acceptOpening 2 none :: (own_k_aOpening ++ (wp_k_refuse ++ (wp_k_open ++ (wsX60 ++ ([] : List Cond)))))
set_option maxRecDepth 20000 in
theorem inown_k_aOpening : ∀ w ∈ own_k_aOpening, w ∈ lw_tbl := mem_places [1043, 1045, 15, 111, 340, 1074, 1076, 22] (by decide +kernel)
set_option maxRecDepth 20000 in
theorem in_k_aOpening : ∀ w ∈ wp_k_aOpening, w ∈ lw_tbl := List.forall_mem_cons.mpr ⟨List.mem_of_getElem? (i := 1085) (by decide +kernel), List.forall_mem_append.mpr ⟨inown_k_aOpening, List.forall_mem_append.mpr ⟨in_k_refuse, List.forall_mem_append.mpr ⟨in_k_open, List.forall_mem_append.mpr ⟨lwb_X6, fun _ h => absurd h List.not_mem_nil⟩⟩⟩⟩⟩
set_option maxRecDepth 20000 in
theorem good_k_aOpening : wp_k_aOpening.all goodWord = true := by decide +kernel
set_option maxRecDepth 20000 in
theorem g_k_aOpening_k_refuse_112 : GoodIn wp_k_aOpening (wsV RX6 112 RX6 yX6_refuse wp_k_refuse) := goodIn_sub (List.forall_mem_append.mpr ⟨List.forall_mem_cons.mpr ⟨(List.mem_of_getElem? (i := 1) rfl), List.forall_mem_cons.mpr ⟨(List.mem_of_getElem? (i := 2) rfl), List.forall_mem_cons.mpr ⟨(List.mem_of_getElem? (i := 3) rfl), List.forall_mem_cons.mpr ⟨(List.mem_of_getElem? (i := 4) rfl), fun _ h => absurd h List.not_mem_nil⟩⟩⟩⟩, (fun _ h => (List.mem_cons_of_mem _ (List.mem_append_right _ (List.mem_append_left _ h))))⟩) (by decide +kernel)
set_option maxRecDepth 20000 in
theorem g_k_aOpening_k_open_137 : GoodIn wp_k_aOpening (wsV RX6 137 RX6 yX6_open wp_k_open) := goodIn_sub (List.forall_mem_append.mpr ⟨List.forall_mem_cons.mpr ⟨(List.mem_of_getElem? (i := 6) rfl), List.forall_mem_cons.mpr ⟨(List.mem_of_getElem? (i := 7) rfl), List.forall_mem_cons.mpr ⟨(List.mem_of_getElem? (i := 8) rfl), List.forall_mem_cons.mpr ⟨(List.mem_of_getElem? (i := 4) rfl), fun _ h => absurd h List.not_mem_nil⟩⟩⟩⟩, (fun _ h => (List.mem_cons_of_mem _ (List.mem_append_right _ (List.mem_append_right _ (List.mem_append_left _ h)))))⟩) (by decide +kernel)
set_option maxHeartbeats 4000000 in
set_option maxRecDepth 100000 in
theorem k_aOpening (l : Launch) (D : va_G) (sz : Nat) (oq : Nat → Nat) (cI : ClassId) (qf : Int32) (qp : Int32) (qd : Int32) (qs : Int32) (qt : Int32) (qb : Int32) (qh : Int32) (qr : Int32) (qn : Int32) (bk : Nat) (wz : Nat) (fO : Nat → Int32) (fW : Nat → Int32) (pz : Nat) (fK : Nat → Int32) (fN : Nat → Int32) (fL : Nat → Int32) (tx : Value) (zl : Int32) (ta : Int32) (be : Int32) (ki : Int32) (nu : Int32) (wo : Int32) (z1 : Int32) (kc : Nat) (num : Nat) (sg : SM) (hz : z1 = nI kc) (hkc : kc ≤ 255) (hnu : kc = 2 → nu = nI num ∧ num ≤ 999999) (hM : MatS sg qs qt qr qn bk fO wz fW pz fK fN fL) (hpw : pz + wz ≤ 600) (hpk : kc = 0 ∨ pz + wz < 600) (hst : sg.1 = 4) : Met l yX6_acceptOpening wp_k_aOpening ({ frames := 2, cells := 0, slots := 0, locals := 44 }) (PcWC D [.ref (oq 0), .int z1] sz [(oq 0, .inr (6, gPs oq qf qp qd qs qt qb qh qr qn (nI bk) (nI wz))), (oq 6, .inl (cI, 5, .inl fO)), (oq 7, .inl (cI, 600, .inl fW)), (oq 1, .inr (7, [.int (nI pz), .ref (oq 2), .ref (oq 3), .ref (oq 4)])), (oq 2, .inl (cI, 600, .inl fK)), (oq 3, .inl (cI, 600, .inl fN)), (oq 4, .inl (cI, 600, .inl fL)), (oq 5, .inr (8, [tx, .int zl, .int ta, .int be, .int ki, .int nu, .int wo]))] [(cI, .int)]) (va_Qv (fun (u : (Int32) × (Int32) × (Int32) × (Int32) × (Int32) × (Int32) × (Int32) × (Int32) × (Int32) × (Nat) × (Nat) × (Nat → Int32) × (Nat → Int32) × (Nat) × (Nat → Int32) × (Nat → Int32) × (Nat → Int32)) => AccP sg kc num qf u.1 (fun t => MatS t u.2.2.2.1 u.2.2.2.2.1 u.2.2.2.2.2.2.2.1 u.2.2.2.2.2.2.2.2.1 u.2.2.2.2.2.2.2.2.2.1 u.2.2.2.2.2.2.2.2.2.2.2.1 u.2.2.2.2.2.2.2.2.2.2.1 u.2.2.2.2.2.2.2.2.2.2.2.2.1 u.2.2.2.2.2.2.2.2.2.2.2.2.2.1 u.2.2.2.2.2.2.2.2.2.2.2.2.2.2.1 u.2.2.2.2.2.2.2.2.2.2.2.2.2.2.2.1 u.2.2.2.2.2.2.2.2.2.2.2.2.2.2.2.2) ∧ (u.2.2.2.2.2.2.2.2.2.2.2.2.2.1 + u.2.2.2.2.2.2.2.2.2.2.1 ≤ pz + wz ∨ (¬ kc = 0 ∧ u.2.2.2.2.2.2.2.2.2.2.2.2.2.1 + u.2.2.2.2.2.2.2.2.2.2.1 ≤ pz + wz + 1))) (fun (u : (Int32) × (Int32) × (Int32) × (Int32) × (Int32) × (Int32) × (Int32) × (Int32) × (Int32) × (Nat) × (Nat) × (Nat → Int32) × (Nat → Int32) × (Nat) × (Nat → Int32) × (Nat → Int32) × (Nat → Int32)) t => va_P D vwCl [(oq 0, .inr (6, gPs oq u.1 u.2.1 u.2.2.1 u.2.2.2.1 u.2.2.2.2.1 u.2.2.2.2.2.1 u.2.2.2.2.2.2.1 u.2.2.2.2.2.2.2.1 u.2.2.2.2.2.2.2.2.1 (nI u.2.2.2.2.2.2.2.2.2.1) (nI u.2.2.2.2.2.2.2.2.2.2.1))), (oq 6, .inl (cI, 5, .inl u.2.2.2.2.2.2.2.2.2.2.2.1)), (oq 7, .inl (cI, 600, .inl u.2.2.2.2.2.2.2.2.2.2.2.2.1)), (oq 1, .inr (7, [.int (nI u.2.2.2.2.2.2.2.2.2.2.2.2.2.1), .ref (oq 2), .ref (oq 3), .ref (oq 4)])), (oq 2, .inl (cI, 600, .inl u.2.2.2.2.2.2.2.2.2.2.2.2.2.2.1)), (oq 3, .inl (cI, 600, .inl u.2.2.2.2.2.2.2.2.2.2.2.2.2.2.2.1)), (oq 4, .inl (cI, 600, .inl u.2.2.2.2.2.2.2.2.2.2.2.2.2.2.2.2)), (oq 5, .inr (8, [tx, .int zl, .int ta, .int be, .int ki, .int nu, .int wo]))] t.heap ∧ va_K D vwCl [(cI, .int)] t ∧ va_D (va_A [(oq 0, .inr (6, gPs oq qf qp qd qs qt qb qh qr qn (nI bk) (nI wz))), (oq 6, .inl (cI, 5, .inl fO)), (oq 7, .inl (cI, 600, .inl fW)), (oq 1, .inr (7, [.int (nI pz), .ref (oq 2), .ref (oq 3), .ref (oq 4)])), (oq 2, .inl (cI, 600, .inl fK)), (oq 3, .inl (cI, 600, .inl fN)), (oq 4, .inl (cI, 600, .inl fL)), (oq 5, .inr (8, [tx, .int zl, .int ta, .int be, .int ki, .int nu, .int wo]))] sz) [(oq 0, .inr (6, gPs oq u.1 u.2.1 u.2.2.1 u.2.2.2.1 u.2.2.2.2.1 u.2.2.2.2.2.1 u.2.2.2.2.2.2.1 u.2.2.2.2.2.2.2.1 u.2.2.2.2.2.2.2.2.1 (nI u.2.2.2.2.2.2.2.2.2.1) (nI u.2.2.2.2.2.2.2.2.2.2.1))), (oq 6, .inl (cI, 5, .inl u.2.2.2.2.2.2.2.2.2.2.2.1)), (oq 7, .inl (cI, 600, .inl u.2.2.2.2.2.2.2.2.2.2.2.2.1)), (oq 1, .inr (7, [.int (nI u.2.2.2.2.2.2.2.2.2.2.2.2.2.1), .ref (oq 2), .ref (oq 3), .ref (oq 4)])), (oq 2, .inl (cI, 600, .inl u.2.2.2.2.2.2.2.2.2.2.2.2.2.2.1)), (oq 3, .inl (cI, 600, .inl u.2.2.2.2.2.2.2.2.2.2.2.2.2.2.2.1)), (oq 4, .inl (cI, 600, .inl u.2.2.2.2.2.2.2.2.2.2.2.2.2.2.2.2)), (oq 5, .inr (8, [tx, .int zl, .int ta, .int be, .int ki, .int nu, .int wo]))]) (va_A [(oq 0, .inr (6, gPs oq qf qp qd qs qt qb qh qr qn (nI bk) (nI wz))), (oq 6, .inl (cI, 5, .inl fO)), (oq 7, .inl (cI, 600, .inl fW)), (oq 1, .inr (7, [.int (nI pz), .ref (oq 2), .ref (oq 3), .ref (oq 4)])), (oq 2, .inl (cI, 600, .inl fK)), (oq 3, .inl (cI, 600, .inl fN)), (oq 4, .inl (cI, 600, .inl fL)), (oq 5, .inr (8, [tx, .int zl, .int ta, .int be, .int ki, .int nu, .int wo]))] sz)) 0 0 (va_A [(oq 0, .inr (6, gPs oq qf qp qd qs qt qb qh qr qn (nI bk) (nI wz))), (oq 6, .inl (cI, 5, .inl fO)), (oq 7, .inl (cI, 600, .inl fW)), (oq 1, .inr (7, [.int (nI pz), .ref (oq 2), .ref (oq 3), .ref (oq 4)])), (oq 2, .inl (cI, 600, .inl fK)), (oq 3, .inl (cI, 600, .inl fN)), (oq 4, .inl (cI, 600, .inl fL)), (oq 5, .inr (8, [tx, .int zl, .int ta, .int be, .int ki, .int nu, .int wo]))] sz) := by
  refine Met.ofW (cc := cX6_acceptOpening) (maxL := 2) (ret := none) (by decide) rfl ?_
  intro p e s m args below meth c s₁ B hml hv
  obtain ⟨rfl, hsz, hP, hK, hD0, hN⟩ := hv
  have hx := B.exec
  have hb := B.bytes
  have hr := B.returns
  have hts := atoms_spec (ws := wp_k_aOpening) B.pre
  have hin_X6 : ∀ w ∈ wsX60, w ∈ wp_k_aOpening := fun _ h => (List.mem_cons_of_mem _ (List.mem_append_right _ (List.mem_append_right _ (List.mem_append_right _ (List.mem_append_left _ h)))))
  have hown : s.vm.findClass RX6 = some m.cls := findClass_of_methodNamed B.named
  have hlocks := B.notSynchronized
  subst hsz
  have hD := hD0.self (sz := s.heap.size)
  generalize hAe : va_A [(oq 0, .inr (6, gPs oq qf qp qd qs qt qb qh qr qn (nI bk) (nI wz))), (oq 6, .inl (cI, 5, .inl fO)), (oq 7, .inl (cI, 600, .inl fW)), (oq 1, .inr (7, [.int (nI pz), .ref (oq 2), .ref (oq 3), .ref (oq 4)])), (oq 2, .inl (cI, 600, .inl fK)), (oq 3, .inl (cI, 600, .inl fN)), (oq 4, .inl (cI, 600, .inl fL)), (oq 5, .inr (8, [tx, .int zl, .int ta, .int be, .int ki, .int nu, .int wo]))] s.heap.size = A at hD ⊢
  have hA : ∀ q : Nat, s.heap.size ≤ q → A q := fun q h => by rw [← hAe]; exact Or.inr h
  have hS : va_S A s.heap s.heap [] := va_S.rf
  have hP : va_P D vwCl [(oq 0, .inr (6, gPs oq qf qp qd qs qt qb qh qr qn (nI bk) (nI wz))), (oq 6, .inl (cI, 5, .inl fO)), (oq 7, .inl (cI, 600, .inl fW)), (oq 1, .inr (7, [.int (nI pz), .ref (oq 2), .ref (oq 3), .ref (oq 4)])), (oq 2, .inl (cI, 600, .inl fK)), (oq 3, .inl (cI, 600, .inl fN)), (oq 4, .inl (cI, 600, .inl fL)), (oq 5, .inr (8, [tx, .int zl, .int ta, .int be, .int ki, .int nu, .int wo]))] s.heap := hP
  have hl := lv_entry ([.ref (oq 0), .int z1]) (n := 2) (Nat.le_of_ble_eq_true rfl)
  rw [lg_entry_eq]
  generalize (lg_sl ([.ref (oq 0), .int z1]) ++ List.replicate (2 - (lg_sl ([.ref (oq 0), .int z1])).length) Slot.unset).toArray = ls at hl ⊢
  have hl : lv_has ls 2 [(0, .ref (oq 0)), (1, .int z1)] := hl
  obtain rfl : qs = 4 := hM.1.1.trans (congrArg nI hst)
  have hMb := hM.2.2.2.2.1.1
  have hMb5 := hM.2.2.2.2.1.2.1
  have hMn := hM.2.2.2.1
  have hMw := hM.2.2.2.2.2.1.1
  have hMg := hM.2.2.2.2.2.2.1
  refine lv_iload_n hx hb dX6_acceptOpening_0 rfl (lv_at hl 1 rfl) ?_
  refine lv_bipush (v := 91) hx hb dX6_acceptOpening_1 (by decide) ?_
  refine lv_icmp_ne (tgt := 19) hx hb dX6_acceptOpening_3 (by decide) (fun hc1 => ?_) (fun hc1 => ?_)
  ·
    refine lv_aload_n hx hb dX6_acceptOpening_19 rfl (lv_at hl 0 rfl) ?_
    have hPc := hP.sub (ws' := [(oq 0, .inr (6, gPs oq qf qp qd 4 qt qb qh qr qn (nI bk) (nI wz))), (oq 5, .inr (8, [tx, .int zl, .int ta, .int be, .int ki, .int nu, .int wo]))]) [0, 7] rfl
    have hKc := hK.sub (tys' := []) [] rfl
    have hDc := hD.sub (ws' := [(oq 0, .inr (6, gPs oq qf qp qd 4 qt qb qh qr qn (nI bk) (nI wz))), (oq 5, .inr (8, [tx, .int zl, .int ta, .int be, .int ki, .int nu, .int wo]))]) [0, 7] (by decide) rfl
    have hFc := va_free (wc := [(oq 0, .inr (6, gPs oq qf qp qd 4 qt qb qh qr qn (nI bk) (nI wz))), (oq 5, .inr (8, [tx, .int zl, .int ta, .int be, .int ki, .int nu, .int wo]))]) hD hS hA [0, 7] rfl
    refine va_callv (va_runV (As := []) (rest := []) ⟨hx, hb, hml, hown, hts⟩ (k_refuse l D _ oq cI qf qp qd 4 qt qb qh qr qn bk wz tx zl ta be ki nu wo) (cwV 0 hts g_k_aOpening_k_refuse_112 rfl rfl rfl (by decide +kernel) ⟨(Nat.le_of_ble_eq_true rfl), (Nat.le_of_ble_eq_true rfl)⟩) (PcWC_V (q0 := 0) hPc hKc hDc hN rfl rfl) rfl rfl hl.1 rfl (lv_room (Nat.le_of_ble_eq_true rfl)) dX6_acceptOpening_20 ⟨(Nat.le_of_ble_eq_true rfl), (Nat.le_of_ble_eq_true rfl)⟩) hS (fun q _ h => hFc q h) hFc (fun uu tt H locs htt hvm hw hB hz1 hk1 hS => ?_)
    obtain ⟨w3, w4, w5, w6⟩ := uu
    obtain ⟨hP1, hK1, hD1⟩ := hB
    rw [htt] at hP1
    have hK1 := va_K.moved hvm.symm hK1
    have hP1 : va_P D vwCl [(oq 0, .inr (6, gPs oq w3 w4 w5 4 qt qb w6 qr qn (nI bk) (nI wz))), (oq 5, .inr (8, [tx, .int zl, .int ta, .int be, .int ki, .int nu, .int wo]))] H := hP1
    obtain ⟨hP, hD⟩ := va_join (wr := [(oq 6, .inl (cI, 5, .inl fO)), (oq 7, .inl (cI, 600, .inl fW)), (oq 1, .inr (7, [.int (nI pz), .ref (oq 2), .ref (oq 3), .ref (oq 4)])), (oq 2, .inl (cI, 600, .inl fK)), (oq 3, .inl (cI, 600, .inl fN)), (oq 4, .inl (cI, 600, .inl fL))]) (w1 := [(oq 0, .inr (6, gPs oq w3 w4 w5 4 qt qb w6 qr qn (nI bk) (nI wz))), (oq 5, .inr (8, [tx, .int zl, .int ta, .int be, .int ki, .int nu, .int wo]))]) hP hD [0, 7] [1, 2, 3, 4, 5, 6] rfl rfl (by decide) (by decide) hk1 hFc hP1 hD1
    have hP : va_P D vwCl [(oq 6, .inl (cI, 5, .inl fO)), (oq 7, .inl (cI, 600, .inl fW)), (oq 1, .inr (7, [.int (nI pz), .ref (oq 2), .ref (oq 3), .ref (oq 4)])), (oq 2, .inl (cI, 600, .inl fK)), (oq 3, .inl (cI, 600, .inl fN)), (oq 4, .inl (cI, 600, .inl fL)), (oq 0, .inr (6, gPs oq w3 w4 w5 4 qt qb w6 qr qn (nI bk) (nI wz))), (oq 5, .inr (8, [tx, .int zl, .int ta, .int be, .int ki, .int nu, .int wo]))] H := hP
    have hD : va_D A [(oq 6, .inl (cI, 5, .inl fO)), (oq 7, .inl (cI, 600, .inl fW)), (oq 1, .inr (7, [.int (nI pz), .ref (oq 2), .ref (oq 3), .ref (oq 4)])), (oq 2, .inl (cI, 600, .inl fK)), (oq 3, .inl (cI, 600, .inl fN)), (oq 4, .inl (cI, 600, .inl fL)), (oq 0, .inr (6, gPs oq w3 w4 w5 4 qt qb w6 qr qn (nI bk) (nI wz))), (oq 5, .inr (8, [tx, .int zl, .int ta, .int be, .int ki, .int nu, .int wo]))] := hD
    try dsimp only at hw
    clear hz1 hk1 hFc hPc hKc hDc
    obtain ⟨hrf7, rfl⟩ := hw
    have hP : va_P D vwCl [(oq 6, .inl (cI, 5, .inl fO)), (oq 7, .inl (cI, 600, .inl fW)), (oq 1, .inr (7, [.int (nI pz), .ref (oq 2), .ref (oq 3), .ref (oq 4)])), (oq 2, .inl (cI, 600, .inl fK)), (oq 3, .inl (cI, 600, .inl fN)), (oq 4, .inl (cI, 600, .inl fL)), (oq 0, .inr (6, gPs oq w3 w4 w5 4 qt qb 0 qr qn (nI bk) (nI wz))), (oq 5, .inr (8, [tx, .int zl, .int ta, .int be, .int ki, .int nu, .int wo]))] H := hP
    have hD : va_D A [(oq 6, .inl (cI, 5, .inl fO)), (oq 7, .inl (cI, 600, .inl fW)), (oq 1, .inr (7, [.int (nI pz), .ref (oq 2), .ref (oq 3), .ref (oq 4)])), (oq 2, .inl (cI, 600, .inl fK)), (oq 3, .inl (cI, 600, .inl fN)), (oq 4, .inl (cI, 600, .inl fL)), (oq 0, .inr (6, gPs oq w3 w4 w5 4 qt qb 0 qr qn (nI bk) (nI wz))), (oq 5, .inr (8, [tx, .int zl, .int ta, .int be, .int ki, .int nu, .int wo]))] := hD
    exact W.vret hx hb hr (fun t ht hW => ⟨⟨(w3, w4, w5, 4, qt, qb, 0, qr, qn, bk, wz, fO, fW, pz, fK, fN, fL), rfl, (by (try dsimp only); first | done | exact ⟨acc_bad (hM) (fun _ => (stp_4 hst).trans (if_neg (fun q => hc1 (hz.trans (congrArg nI q))))) hrf7, by omega⟩), by rw [ht]; exact hP.sub [6, 0, 1, 2, 3, 4, 5, 7] rfl, va_K.moved hW.alike (hK.sub [0] rfl), hD.sub [6, 0, 1, 2, 3, 4, 5, 7] (by decide) rfl⟩, hS.F ht⟩) hS.2.2 dX6_acceptOpening_23
  ·
    have hk : kc = 91 := (nI_eq (b := 91) (by omega) (by decide)).mp (hz.symm.trans hc1)
    refine lv_aload_n hx hb dX6_acceptOpening_6 rfl (lv_at hl 0 rfl) ?_
    refine lv_bipush (v := 8) hx hb dX6_acceptOpening_7 (by decide) ?_
    refine lv_aload_n hx hb dX6_acceptOpening_9 rfl (lv_at hl 0 rfl) ?_
    refine va_get (D := D) (ci := 6) (v := .int qr) (C := RX6) (T := TX6) (N := 15) hx hb hts hin_X6 hown hK hP 0 rfl rfl 9 (by decide) (hts (.fieldLink RX6 140 "ClashFree$Parser" "rounds" "I") (List.mem_of_getElem? (i := 5) rfl)) (fun _ h9 => h9) rfl dX6_acceptOpening_10 ?_
    have hPc := hP.sub (ws' := [(oq 0, .inr (6, gPs oq qf qp qd 4 qt qb qh qr qn (nI bk) (nI wz))), (oq 6, .inl (cI, 5, .inl fO)), (oq 1, .inr (7, [.int (nI pz), .ref (oq 2), .ref (oq 3), .ref (oq 4)])), (oq 2, .inl (cI, 600, .inl fK)), (oq 3, .inl (cI, 600, .inl fN)), (oq 4, .inl (cI, 600, .inl fL))]) [0, 1, 3, 4, 5, 6] rfl
    have hKc := hK.sub (tys' := [(cI, .int)]) [0] rfl
    have hDc := hD.sub (ws' := [(oq 0, .inr (6, gPs oq qf qp qd 4 qt qb qh qr qn (nI bk) (nI wz))), (oq 6, .inl (cI, 5, .inl fO)), (oq 1, .inr (7, [.int (nI pz), .ref (oq 2), .ref (oq 3), .ref (oq 4)])), (oq 2, .inl (cI, 600, .inl fK)), (oq 3, .inl (cI, 600, .inl fN)), (oq 4, .inl (cI, 600, .inl fL))]) [0, 1, 3, 4, 5, 6] (by decide) rfl
    have hFc := va_free (wc := [(oq 0, .inr (6, gPs oq qf qp qd 4 qt qb qh qr qn (nI bk) (nI wz))), (oq 6, .inl (cI, 5, .inl fO)), (oq 1, .inr (7, [.int (nI pz), .ref (oq 2), .ref (oq 3), .ref (oq 4)])), (oq 2, .inl (cI, 600, .inl fK)), (oq 3, .inl (cI, 600, .inl fN)), (oq 4, .inl (cI, 600, .inl fL))]) hD hS hA [0, 1, 3, 4, 5, 6] rfl
    refine va_callv (va_runV (As := [.int 8, .int qr]) (rest := []) ⟨hx, hb, hml, hown, hts⟩ (k_open l D _ oq cI qf qp qd 4 qt qb qh qr qn bk wz fO pz fK fN fL 8 qr (by omega) (by omega)) (cwV 2 hts g_k_aOpening_k_open_137 rfl rfl rfl (by decide +kernel) ⟨(Nat.le_of_ble_eq_true rfl), (Nat.le_of_ble_eq_true rfl)⟩) (PcWC_V (q0 := 0) hPc hKc hDc hN rfl rfl) rfl rfl hl.1 rfl (lv_room (Nat.le_of_ble_eq_true rfl)) dX6_acceptOpening_13 ⟨(Nat.le_of_ble_eq_true rfl), (Nat.le_of_ble_eq_true rfl)⟩) hS (fun q _ h => hFc q h) hFc (fun uu tt H locs htt hvm hw hB hz1 hk1 hS => ?_)
    obtain ⟨w9, w10, w11, w12, w13, w14, w15, w16, w17, w18, w19⟩ := uu
    obtain ⟨hP1, hK1, hD1⟩ := hB
    rw [htt] at hP1
    have hK1 := va_K.moved hvm.symm hK1
    have hP1 : va_P D vwCl [(oq 0, .inr (6, gPs oq w9 w10 w11 w13 qt qb w12 qr qn (nI w14) (nI wz))), (oq 6, .inl (cI, 5, .inl w15)), (oq 1, .inr (7, [.int (nI w16), .ref (oq 2), .ref (oq 3), .ref (oq 4)])), (oq 2, .inl (cI, 600, .inl w17)), (oq 3, .inl (cI, 600, .inl w18)), (oq 4, .inl (cI, 600, .inl w19))] H := hP1
    obtain ⟨hP, hD⟩ := va_join (wr := [(oq 7, .inl (cI, 600, .inl fW)), (oq 5, .inr (8, [tx, .int zl, .int ta, .int be, .int ki, .int nu, .int wo]))]) (w1 := [(oq 0, .inr (6, gPs oq w9 w10 w11 w13 qt qb w12 qr qn (nI w14) (nI wz))), (oq 6, .inl (cI, 5, .inl w15)), (oq 1, .inr (7, [.int (nI w16), .ref (oq 2), .ref (oq 3), .ref (oq 4)])), (oq 2, .inl (cI, 600, .inl w17)), (oq 3, .inl (cI, 600, .inl w18)), (oq 4, .inl (cI, 600, .inl w19))]) hP hD [0, 1, 3, 4, 5, 6] [2, 7] rfl rfl (by decide) (by decide) hk1 hFc hP1 hD1
    have hP : va_P D vwCl [(oq 7, .inl (cI, 600, .inl fW)), (oq 5, .inr (8, [tx, .int zl, .int ta, .int be, .int ki, .int nu, .int wo])), (oq 0, .inr (6, gPs oq w9 w10 w11 w13 qt qb w12 qr qn (nI w14) (nI wz))), (oq 6, .inl (cI, 5, .inl w15)), (oq 1, .inr (7, [.int (nI w16), .ref (oq 2), .ref (oq 3), .ref (oq 4)])), (oq 2, .inl (cI, 600, .inl w17)), (oq 3, .inl (cI, 600, .inl w18)), (oq 4, .inl (cI, 600, .inl w19))] H := hP
    have hD : va_D A [(oq 7, .inl (cI, 600, .inl fW)), (oq 5, .inr (8, [tx, .int zl, .int ta, .int be, .int ki, .int nu, .int wo])), (oq 0, .inr (6, gPs oq w9 w10 w11 w13 qt qb w12 qr qn (nI w14) (nI wz))), (oq 6, .inl (cI, 5, .inl w15)), (oq 1, .inr (7, [.int (nI w16), .ref (oq 2), .ref (oq 3), .ref (oq 4)])), (oq 2, .inl (cI, 600, .inl w17)), (oq 3, .inl (cI, 600, .inl w18)), (oq 4, .inl (cI, 600, .inl w19))] := hD
    try dsimp only at hw
    clear hz1 hk1 hFc hPc hKc hDc
    obtain ⟨rfl, hw⟩ := hw
    rcases hw with ⟨hop20, hop20q, rfl, rfl, rfl, rfl, rfl, rfl, rfl⟩ | ⟨hop20, hop20f, hop20e0, hop20e1, hop20e2, hop20e3, hop20e4, hop20e5, hop20e6⟩
    ·
      replace hop20q := hop20q.symm
      subst hop20q
      have hP : va_P D vwCl [(oq 7, .inl (cI, 600, .inl fW)), (oq 5, .inr (8, [tx, .int zl, .int ta, .int be, .int ki, .int nu, .int wo])), (oq 0, .inr (6, gPs oq qf w10 w11 0 qt qb 0 qr qn (nI (bk + 1)) (nI wz))), (oq 6, .inl (cI, 5, .inl (upd fO bk (nI pz)))), (oq 1, .inr (7, [.int (nI (pz + 1)), .ref (oq 2), .ref (oq 3), .ref (oq 4)])), (oq 2, .inl (cI, 600, .inl (upd fK pz 8))), (oq 3, .inl (cI, 600, .inl (upd fN pz qr))), (oq 4, .inl (cI, 600, .inl (upd fL pz 0)))] H := hP
      have hD : va_D A [(oq 7, .inl (cI, 600, .inl fW)), (oq 5, .inr (8, [tx, .int zl, .int ta, .int be, .int ki, .int nu, .int wo])), (oq 0, .inr (6, gPs oq qf w10 w11 0 qt qb 0 qr qn (nI (bk + 1)) (nI wz))), (oq 6, .inl (cI, 5, .inl (upd fO bk (nI pz)))), (oq 1, .inr (7, [.int (nI (pz + 1)), .ref (oq 2), .ref (oq 3), .ref (oq 4)])), (oq 2, .inl (cI, 600, .inl (upd fK pz 8))), (oq 3, .inl (cI, 600, .inl (upd fN pz qr))), (oq 4, .inl (cI, 600, .inl (upd fL pz 0)))] := hD
      refine lv_goto (tgt := 23) hx hb dX6_acceptOpening_16 (by decide) ?_
      exact W.vret hx hb hr (fun t ht hW => ⟨⟨(qf, w10, w11, 0, qt, qb, 0, qr, qn, (bk + 1), wz, (upd fO bk (nI pz)), fW, (pz + 1), (upd fK pz 8), (upd fN pz qr), (upd fL pz 0)), rfl, (by (try dsimp only); first | done | exact ⟨acc_ok (hM.op (k := 8) (by decide) (fun _ => hM.2.2.1 hst) hop20) (fun _ => (stp_4 hst).trans (if_pos hk)) (fun hd => absurd hd.1 (by omega)) (fun q => by omega), by omega⟩), by rw [ht]; exact hP.sub [2, 3, 0, 4, 5, 6, 7, 1] rfl, va_K.moved hW.alike (hK.sub [0] rfl), hD.sub [2, 3, 0, 4, 5, 6, 7, 1] (by decide) rfl⟩, hS.F ht⟩) hS.2.2 dX6_acceptOpening_23
    ·
      replace hop20e0 := hop20e0.symm
      subst hop20e0
      replace hop20e1 := hop20e1.symm
      subst hop20e1
      replace hop20e2 := hop20e2.symm
      subst hop20e2
      replace hop20e3 := hop20e3.symm
      subst hop20e3
      replace hop20e4 := hop20e4.symm
      subst hop20e4
      replace hop20e5 := hop20e5.symm
      subst hop20e5
      replace hop20e6 := hop20e6.symm
      subst hop20e6
      have hP : va_P D vwCl [(oq 7, .inl (cI, 600, .inl fW)), (oq 5, .inr (8, [tx, .int zl, .int ta, .int be, .int ki, .int nu, .int wo])), (oq 0, .inr (6, gPs oq w9 w10 w11 4 qt qb 0 qr qn (nI bk) (nI wz))), (oq 6, .inl (cI, 5, .inl fO)), (oq 1, .inr (7, [.int (nI pz), .ref (oq 2), .ref (oq 3), .ref (oq 4)])), (oq 2, .inl (cI, 600, .inl fK)), (oq 3, .inl (cI, 600, .inl fN)), (oq 4, .inl (cI, 600, .inl fL))] H := hP
      have hD : va_D A [(oq 7, .inl (cI, 600, .inl fW)), (oq 5, .inr (8, [tx, .int zl, .int ta, .int be, .int ki, .int nu, .int wo])), (oq 0, .inr (6, gPs oq w9 w10 w11 4 qt qb 0 qr qn (nI bk) (nI wz))), (oq 6, .inl (cI, 5, .inl fO)), (oq 1, .inr (7, [.int (nI pz), .ref (oq 2), .ref (oq 3), .ref (oq 4)])), (oq 2, .inl (cI, 600, .inl fK)), (oq 3, .inl (cI, 600, .inl fN)), (oq 4, .inl (cI, 600, .inl fL))] := hD
      refine lv_goto (tgt := 23) hx hb dX6_acceptOpening_16 (by decide) ?_
      exact W.vret hx hb hr (fun t ht hW => ⟨⟨(w9, w10, w11, 4, qt, qb, 0, qr, qn, bk, wz, fO, fW, pz, fK, fN, fL), rfl, (by (try dsimp only); first | done | exact ⟨acc_bad (hM) (fun hd => absurd ⟨by omega, Or.inr (Or.inl hst)⟩ hd) hop20f, by omega⟩), by rw [ht]; exact hP.sub [2, 3, 0, 4, 5, 6, 7, 1] rfl, va_K.moved hW.alike (hK.sub [0] rfl), hD.sub [2, 3, 0, 4, 5, 6, 7, 1] (by decide) rfl⟩, hS.F ht⟩) hS.2.2 dX6_acceptOpening_23

def own_k_aEnd : List Cond := [.methodLink RX6 112 yX6_refuse, .instanceMethod yX6_refuse, .selects RX6 yX6_refuse yX6_refuse, .initialized RX6, .fieldLink RX6 49 "ClashFree$Parser" "blocks" "I", .fieldLink RX6 39 "ClashFree$Parser" "state" "I", .methodLink RX6 109 yX6_close, .instanceMethod yX6_close, .selects RX6 yX6_close yX6_close]
def wp_k_aEnd : List Cond := .code yX6_acceptEnd cX6_acceptEnd 2 none :: (own_k_aEnd ++ (wp_k_refuse ++ (wp_k_close ++ (wsX60 ++ ([] : List Cond)))))
set_option maxRecDepth 20000 in
theorem inown_k_aEnd : ∀ w ∈ own_k_aEnd, w ∈ lw_tbl := mem_places [1043, 1045, 15, 111, 342, 336, 1027, 1029, 14] (by decide +kernel)
set_option maxRecDepth 20000 in
theorem in_k_aEnd : ∀ w ∈ wp_k_aEnd, w ∈ lw_tbl := List.forall_mem_cons.mpr ⟨List.mem_of_getElem? (i := 1026) (by decide +kernel), List.forall_mem_append.mpr ⟨inown_k_aEnd, List.forall_mem_append.mpr ⟨in_k_refuse, List.forall_mem_append.mpr ⟨in_k_close, List.forall_mem_append.mpr ⟨lwb_X6, fun _ h => absurd h List.not_mem_nil⟩⟩⟩⟩⟩
set_option maxRecDepth 20000 in
theorem good_k_aEnd : wp_k_aEnd.all goodWord = true := by decide +kernel
set_option maxRecDepth 20000 in
theorem g_k_aEnd_k_refuse_112 : GoodIn wp_k_aEnd (wsV RX6 112 RX6 yX6_refuse wp_k_refuse) := goodIn_sub (List.forall_mem_append.mpr ⟨List.forall_mem_cons.mpr ⟨(List.mem_of_getElem? (i := 1) rfl), List.forall_mem_cons.mpr ⟨(List.mem_of_getElem? (i := 2) rfl), List.forall_mem_cons.mpr ⟨(List.mem_of_getElem? (i := 3) rfl), List.forall_mem_cons.mpr ⟨(List.mem_of_getElem? (i := 4) rfl), fun _ h => absurd h List.not_mem_nil⟩⟩⟩⟩, (fun _ h => (List.mem_cons_of_mem _ (List.mem_append_right _ (List.mem_append_left _ h))))⟩) (by decide +kernel)
set_option maxRecDepth 20000 in
theorem g_k_aEnd_k_close_109 : GoodIn wp_k_aEnd (wsV RX6 109 RX6 yX6_close wp_k_close) := goodIn_sub (List.forall_mem_append.mpr ⟨List.forall_mem_cons.mpr ⟨(List.mem_of_getElem? (i := 7) rfl), List.forall_mem_cons.mpr ⟨(List.mem_of_getElem? (i := 8) rfl), List.forall_mem_cons.mpr ⟨(List.mem_of_getElem? (i := 9) rfl), List.forall_mem_cons.mpr ⟨(List.mem_of_getElem? (i := 4) rfl), fun _ h => absurd h List.not_mem_nil⟩⟩⟩⟩, (fun _ h => (List.mem_cons_of_mem _ (List.mem_append_right _ (List.mem_append_right _ (List.mem_append_left _ h)))))⟩) (by decide +kernel)
set_option maxHeartbeats 4000000 in
set_option maxRecDepth 100000 in
theorem k_aEnd (l : Launch) (D : va_G) (sz : Nat) (oq : Nat → Nat) (cI : ClassId) (qf : Int32) (qp : Int32) (qd : Int32) (qs : Int32) (qt : Int32) (qb : Int32) (qh : Int32) (qr : Int32) (qn : Int32) (bk : Nat) (wz : Nat) (fO : Nat → Int32) (fW : Nat → Int32) (pz : Nat) (fK : Nat → Int32) (fN : Nat → Int32) (fL : Nat → Int32) (tx : Value) (zl : Int32) (ta : Int32) (be : Int32) (ki : Int32) (nu : Int32) (wo : Int32) (z1 : Int32) (kc : Nat) (num : Nat) (sg : SM) (hz : z1 = nI kc) (hkc : kc ≤ 255) (hnu : kc = 2 → nu = nI num ∧ num ≤ 999999) (hM : MatS sg qs qt qr qn bk fO wz fW pz fK fN fL) (hpw : pz + wz ≤ 600) (hpk : kc = 0 ∨ pz + wz < 600) (hst : sg.1 = 0) (hke : ¬ (kc = 3 ∨ kc = 5 ∨ kc = 6 ∨ kc = 7 ∨ kc = 8 ∨ kc = 9)) : Met l yX6_acceptEnd wp_k_aEnd ({ frames := 2, cells := 0, slots := 0, locals := 43 }) (PcWC D [.ref (oq 0), .int z1] sz [(oq 0, .inr (6, gPs oq qf qp qd qs qt qb qh qr qn (nI bk) (nI wz))), (oq 6, .inl (cI, 5, .inl fO)), (oq 7, .inl (cI, 600, .inl fW)), (oq 1, .inr (7, [.int (nI pz), .ref (oq 2), .ref (oq 3), .ref (oq 4)])), (oq 2, .inl (cI, 600, .inl fK)), (oq 3, .inl (cI, 600, .inl fN)), (oq 4, .inl (cI, 600, .inl fL)), (oq 5, .inr (8, [tx, .int zl, .int ta, .int be, .int ki, .int nu, .int wo]))] [(cI, .int)]) (va_Qv (fun (u : (Int32) × (Int32) × (Int32) × (Int32) × (Int32) × (Int32) × (Int32) × (Int32) × (Int32) × (Nat) × (Nat) × (Nat → Int32) × (Nat → Int32) × (Nat) × (Nat → Int32) × (Nat → Int32) × (Nat → Int32)) => AccP sg kc num qf u.1 (fun t => MatS t u.2.2.2.1 u.2.2.2.2.1 u.2.2.2.2.2.2.2.1 u.2.2.2.2.2.2.2.2.1 u.2.2.2.2.2.2.2.2.2.1 u.2.2.2.2.2.2.2.2.2.2.2.1 u.2.2.2.2.2.2.2.2.2.2.1 u.2.2.2.2.2.2.2.2.2.2.2.2.1 u.2.2.2.2.2.2.2.2.2.2.2.2.2.1 u.2.2.2.2.2.2.2.2.2.2.2.2.2.2.1 u.2.2.2.2.2.2.2.2.2.2.2.2.2.2.2.1 u.2.2.2.2.2.2.2.2.2.2.2.2.2.2.2.2) ∧ (u.2.2.2.2.2.2.2.2.2.2.2.2.2.1 + u.2.2.2.2.2.2.2.2.2.2.1 ≤ pz + wz ∨ (¬ kc = 0 ∧ u.2.2.2.2.2.2.2.2.2.2.2.2.2.1 + u.2.2.2.2.2.2.2.2.2.2.1 ≤ pz + wz + 1))) (fun (u : (Int32) × (Int32) × (Int32) × (Int32) × (Int32) × (Int32) × (Int32) × (Int32) × (Int32) × (Nat) × (Nat) × (Nat → Int32) × (Nat → Int32) × (Nat) × (Nat → Int32) × (Nat → Int32) × (Nat → Int32)) t => va_P D vwCl [(oq 0, .inr (6, gPs oq u.1 u.2.1 u.2.2.1 u.2.2.2.1 u.2.2.2.2.1 u.2.2.2.2.2.1 u.2.2.2.2.2.2.1 u.2.2.2.2.2.2.2.1 u.2.2.2.2.2.2.2.2.1 (nI u.2.2.2.2.2.2.2.2.2.1) (nI u.2.2.2.2.2.2.2.2.2.2.1))), (oq 6, .inl (cI, 5, .inl u.2.2.2.2.2.2.2.2.2.2.2.1)), (oq 7, .inl (cI, 600, .inl u.2.2.2.2.2.2.2.2.2.2.2.2.1)), (oq 1, .inr (7, [.int (nI u.2.2.2.2.2.2.2.2.2.2.2.2.2.1), .ref (oq 2), .ref (oq 3), .ref (oq 4)])), (oq 2, .inl (cI, 600, .inl u.2.2.2.2.2.2.2.2.2.2.2.2.2.2.1)), (oq 3, .inl (cI, 600, .inl u.2.2.2.2.2.2.2.2.2.2.2.2.2.2.2.1)), (oq 4, .inl (cI, 600, .inl u.2.2.2.2.2.2.2.2.2.2.2.2.2.2.2.2)), (oq 5, .inr (8, [tx, .int zl, .int ta, .int be, .int ki, .int nu, .int wo]))] t.heap ∧ va_K D vwCl [(cI, .int)] t ∧ va_D (va_A [(oq 0, .inr (6, gPs oq qf qp qd qs qt qb qh qr qn (nI bk) (nI wz))), (oq 6, .inl (cI, 5, .inl fO)), (oq 7, .inl (cI, 600, .inl fW)), (oq 1, .inr (7, [.int (nI pz), .ref (oq 2), .ref (oq 3), .ref (oq 4)])), (oq 2, .inl (cI, 600, .inl fK)), (oq 3, .inl (cI, 600, .inl fN)), (oq 4, .inl (cI, 600, .inl fL)), (oq 5, .inr (8, [tx, .int zl, .int ta, .int be, .int ki, .int nu, .int wo]))] sz) [(oq 0, .inr (6, gPs oq u.1 u.2.1 u.2.2.1 u.2.2.2.1 u.2.2.2.2.1 u.2.2.2.2.2.1 u.2.2.2.2.2.2.1 u.2.2.2.2.2.2.2.1 u.2.2.2.2.2.2.2.2.1 (nI u.2.2.2.2.2.2.2.2.2.1) (nI u.2.2.2.2.2.2.2.2.2.2.1))), (oq 6, .inl (cI, 5, .inl u.2.2.2.2.2.2.2.2.2.2.2.1)), (oq 7, .inl (cI, 600, .inl u.2.2.2.2.2.2.2.2.2.2.2.2.1)), (oq 1, .inr (7, [.int (nI u.2.2.2.2.2.2.2.2.2.2.2.2.2.1), .ref (oq 2), .ref (oq 3), .ref (oq 4)])), (oq 2, .inl (cI, 600, .inl u.2.2.2.2.2.2.2.2.2.2.2.2.2.2.1)), (oq 3, .inl (cI, 600, .inl u.2.2.2.2.2.2.2.2.2.2.2.2.2.2.2.1)), (oq 4, .inl (cI, 600, .inl u.2.2.2.2.2.2.2.2.2.2.2.2.2.2.2.2)), (oq 5, .inr (8, [tx, .int zl, .int ta, .int be, .int ki, .int nu, .int wo]))]) (va_A [(oq 0, .inr (6, gPs oq qf qp qd qs qt qb qh qr qn (nI bk) (nI wz))), (oq 6, .inl (cI, 5, .inl fO)), (oq 7, .inl (cI, 600, .inl fW)), (oq 1, .inr (7, [.int (nI pz), .ref (oq 2), .ref (oq 3), .ref (oq 4)])), (oq 2, .inl (cI, 600, .inl fK)), (oq 3, .inl (cI, 600, .inl fN)), (oq 4, .inl (cI, 600, .inl fL)), (oq 5, .inr (8, [tx, .int zl, .int ta, .int be, .int ki, .int nu, .int wo]))] sz)) 0 0 (va_A [(oq 0, .inr (6, gPs oq qf qp qd qs qt qb qh qr qn (nI bk) (nI wz))), (oq 6, .inl (cI, 5, .inl fO)), (oq 7, .inl (cI, 600, .inl fW)), (oq 1, .inr (7, [.int (nI pz), .ref (oq 2), .ref (oq 3), .ref (oq 4)])), (oq 2, .inl (cI, 600, .inl fK)), (oq 3, .inl (cI, 600, .inl fN)), (oq 4, .inl (cI, 600, .inl fL)), (oq 5, .inr (8, [tx, .int zl, .int ta, .int be, .int ki, .int nu, .int wo]))] sz) := by
  refine Met.ofW (cc := cX6_acceptEnd) (maxL := 2) (ret := none) (by decide) rfl ?_
  intro p e s m args below meth c s₁ B hml hv
  obtain ⟨rfl, hsz, hP, hK, hD0, hN⟩ := hv
  have hx := B.exec
  have hb := B.bytes
  have hr := B.returns
  have hts := atoms_spec (ws := wp_k_aEnd) B.pre
  have hin_X6 : ∀ w ∈ wsX60, w ∈ wp_k_aEnd := fun _ h => (List.mem_cons_of_mem _ (List.mem_append_right _ (List.mem_append_right _ (List.mem_append_right _ (List.mem_append_left _ h)))))
  have hown : s.vm.findClass RX6 = some m.cls := findClass_of_methodNamed B.named
  have hlocks := B.notSynchronized
  subst hsz
  have hD := hD0.self (sz := s.heap.size)
  generalize hAe : va_A [(oq 0, .inr (6, gPs oq qf qp qd qs qt qb qh qr qn (nI bk) (nI wz))), (oq 6, .inl (cI, 5, .inl fO)), (oq 7, .inl (cI, 600, .inl fW)), (oq 1, .inr (7, [.int (nI pz), .ref (oq 2), .ref (oq 3), .ref (oq 4)])), (oq 2, .inl (cI, 600, .inl fK)), (oq 3, .inl (cI, 600, .inl fN)), (oq 4, .inl (cI, 600, .inl fL)), (oq 5, .inr (8, [tx, .int zl, .int ta, .int be, .int ki, .int nu, .int wo]))] s.heap.size = A at hD ⊢
  have hA : ∀ q : Nat, s.heap.size ≤ q → A q := fun q h => by rw [← hAe]; exact Or.inr h
  have hS : va_S A s.heap s.heap [] := va_S.rf
  have hP : va_P D vwCl [(oq 0, .inr (6, gPs oq qf qp qd qs qt qb qh qr qn (nI bk) (nI wz))), (oq 6, .inl (cI, 5, .inl fO)), (oq 7, .inl (cI, 600, .inl fW)), (oq 1, .inr (7, [.int (nI pz), .ref (oq 2), .ref (oq 3), .ref (oq 4)])), (oq 2, .inl (cI, 600, .inl fK)), (oq 3, .inl (cI, 600, .inl fN)), (oq 4, .inl (cI, 600, .inl fL)), (oq 5, .inr (8, [tx, .int zl, .int ta, .int be, .int ki, .int nu, .int wo]))] s.heap := hP
  have hl := lv_entry ([.ref (oq 0), .int z1]) (n := 2) (Nat.le_of_ble_eq_true rfl)
  rw [lg_entry_eq]
  generalize (lg_sl ([.ref (oq 0), .int z1]) ++ List.replicate (2 - (lg_sl ([.ref (oq 0), .int z1])).length) Slot.unset).toArray = ls at hl ⊢
  have hl : lv_has ls 2 [(0, .ref (oq 0)), (1, .int z1)] := hl
  obtain rfl : qs = 0 := hM.1.1.trans (congrArg nI hst)
  have hMb := hM.2.2.2.2.1.1
  have hMb5 := hM.2.2.2.2.1.2.1
  have hMn := hM.2.2.2.1
  have hMw := hM.2.2.2.2.2.1.1
  have hMg := hM.2.2.2.2.2.2.1
  refine lv_iload_n hx hb dX6_acceptEnd_0 rfl (lv_at hl 1 rfl) ?_
  refine lv_bipush (v := 93) hx hb dX6_acceptEnd_1 (by decide) ?_
  refine lv_icmp_ne (tgt := 20) hx hb dX6_acceptEnd_3 (by decide) (fun hc1 => ?_) (fun hc1 => ?_)
  ·
    have hk : ¬ kc = 93 := fun q => hc1 (hz.trans (congrArg nI q))
    refine lv_iload_n hx hb dX6_acceptEnd_20 rfl (lv_at hl 1 rfl) ?_
    refine lv_if_ne (tgt := 40) hx hb dX6_acceptEnd_21 (by decide) (fun hc2 => ?_) (fun hc2 => ?_)
    ·
      have hk0 : ¬ kc = 0 := fun q => hc2 (hz.trans (congrArg nI q))
      refine lv_aload_n hx hb dX6_acceptEnd_40 rfl (lv_at hl 0 rfl) ?_
      have hPc := hP.sub (ws' := [(oq 0, .inr (6, gPs oq qf qp qd 0 qt qb qh qr qn (nI bk) (nI wz))), (oq 5, .inr (8, [tx, .int zl, .int ta, .int be, .int ki, .int nu, .int wo]))]) [0, 7] rfl
      have hKc := hK.sub (tys' := []) [] rfl
      have hDc := hD.sub (ws' := [(oq 0, .inr (6, gPs oq qf qp qd 0 qt qb qh qr qn (nI bk) (nI wz))), (oq 5, .inr (8, [tx, .int zl, .int ta, .int be, .int ki, .int nu, .int wo]))]) [0, 7] (by decide) rfl
      have hFc := va_free (wc := [(oq 0, .inr (6, gPs oq qf qp qd 0 qt qb qh qr qn (nI bk) (nI wz))), (oq 5, .inr (8, [tx, .int zl, .int ta, .int be, .int ki, .int nu, .int wo]))]) hD hS hA [0, 7] rfl
      refine va_callv (va_runV (As := []) (rest := []) ⟨hx, hb, hml, hown, hts⟩ (k_refuse l D _ oq cI qf qp qd 0 qt qb qh qr qn bk wz tx zl ta be ki nu wo) (cwV 0 hts g_k_aEnd_k_refuse_112 rfl rfl rfl (by decide +kernel) ⟨(Nat.le_of_ble_eq_true rfl), (Nat.le_of_ble_eq_true rfl)⟩) (PcWC_V (q0 := 0) hPc hKc hDc hN rfl rfl) rfl rfl hl.1 rfl (lv_room (Nat.le_of_ble_eq_true rfl)) dX6_acceptEnd_41 ⟨(Nat.le_of_ble_eq_true rfl), (Nat.le_of_ble_eq_true rfl)⟩) hS (fun q _ h => hFc q h) hFc (fun uu tt H locs htt hvm hw hB hz1 hk1 hS => ?_)
      obtain ⟨w4, w5, w6, w7⟩ := uu
      obtain ⟨hP1, hK1, hD1⟩ := hB
      rw [htt] at hP1
      have hK1 := va_K.moved hvm.symm hK1
      have hP1 : va_P D vwCl [(oq 0, .inr (6, gPs oq w4 w5 w6 0 qt qb w7 qr qn (nI bk) (nI wz))), (oq 5, .inr (8, [tx, .int zl, .int ta, .int be, .int ki, .int nu, .int wo]))] H := hP1
      obtain ⟨hP, hD⟩ := va_join (wr := [(oq 6, .inl (cI, 5, .inl fO)), (oq 7, .inl (cI, 600, .inl fW)), (oq 1, .inr (7, [.int (nI pz), .ref (oq 2), .ref (oq 3), .ref (oq 4)])), (oq 2, .inl (cI, 600, .inl fK)), (oq 3, .inl (cI, 600, .inl fN)), (oq 4, .inl (cI, 600, .inl fL))]) (w1 := [(oq 0, .inr (6, gPs oq w4 w5 w6 0 qt qb w7 qr qn (nI bk) (nI wz))), (oq 5, .inr (8, [tx, .int zl, .int ta, .int be, .int ki, .int nu, .int wo]))]) hP hD [0, 7] [1, 2, 3, 4, 5, 6] rfl rfl (by decide) (by decide) hk1 hFc hP1 hD1
      have hP : va_P D vwCl [(oq 6, .inl (cI, 5, .inl fO)), (oq 7, .inl (cI, 600, .inl fW)), (oq 1, .inr (7, [.int (nI pz), .ref (oq 2), .ref (oq 3), .ref (oq 4)])), (oq 2, .inl (cI, 600, .inl fK)), (oq 3, .inl (cI, 600, .inl fN)), (oq 4, .inl (cI, 600, .inl fL)), (oq 0, .inr (6, gPs oq w4 w5 w6 0 qt qb w7 qr qn (nI bk) (nI wz))), (oq 5, .inr (8, [tx, .int zl, .int ta, .int be, .int ki, .int nu, .int wo]))] H := hP
      have hD : va_D A [(oq 6, .inl (cI, 5, .inl fO)), (oq 7, .inl (cI, 600, .inl fW)), (oq 1, .inr (7, [.int (nI pz), .ref (oq 2), .ref (oq 3), .ref (oq 4)])), (oq 2, .inl (cI, 600, .inl fK)), (oq 3, .inl (cI, 600, .inl fN)), (oq 4, .inl (cI, 600, .inl fL)), (oq 0, .inr (6, gPs oq w4 w5 w6 0 qt qb w7 qr qn (nI bk) (nI wz))), (oq 5, .inr (8, [tx, .int zl, .int ta, .int be, .int ki, .int nu, .int wo]))] := hD
      try dsimp only at hw
      clear hz1 hk1 hFc hPc hKc hDc
      obtain ⟨hrf8, rfl⟩ := hw
      have hP : va_P D vwCl [(oq 6, .inl (cI, 5, .inl fO)), (oq 7, .inl (cI, 600, .inl fW)), (oq 1, .inr (7, [.int (nI pz), .ref (oq 2), .ref (oq 3), .ref (oq 4)])), (oq 2, .inl (cI, 600, .inl fK)), (oq 3, .inl (cI, 600, .inl fN)), (oq 4, .inl (cI, 600, .inl fL)), (oq 0, .inr (6, gPs oq w4 w5 w6 0 qt qb 0 qr qn (nI bk) (nI wz))), (oq 5, .inr (8, [tx, .int zl, .int ta, .int be, .int ki, .int nu, .int wo]))] H := hP
      have hD : va_D A [(oq 6, .inl (cI, 5, .inl fO)), (oq 7, .inl (cI, 600, .inl fW)), (oq 1, .inr (7, [.int (nI pz), .ref (oq 2), .ref (oq 3), .ref (oq 4)])), (oq 2, .inl (cI, 600, .inl fK)), (oq 3, .inl (cI, 600, .inl fN)), (oq 4, .inl (cI, 600, .inl fL)), (oq 0, .inr (6, gPs oq w4 w5 w6 0 qt qb 0 qr qn (nI bk) (nI wz))), (oq 5, .inr (8, [tx, .int zl, .int ta, .int be, .int ki, .int nu, .int wo]))] := hD
      exact W.vret hx hb hr (fun t ht hW => ⟨⟨(w4, w5, w6, 0, qt, qb, 0, qr, qn, bk, wz, fO, fW, pz, fK, fN, fL), rfl, (by (try dsimp only); first | done | exact ⟨acc_bad (hM) (fun _ => st0_no hst hke (fun q => by omega) (fun q => by omega)) hrf8, by omega⟩), by rw [ht]; exact hP.sub [6, 0, 1, 2, 3, 4, 5, 7] rfl, va_K.moved hW.alike (hK.sub [0] rfl), hD.sub [6, 0, 1, 2, 3, 4, 5, 7] (by decide) rfl⟩, hS.F ht⟩) hS.2.2 dX6_acceptEnd_44
    ·
      have hk0 : kc = 0 := (nI_eq (b := 0) (by omega) (by decide)).mp (hz.symm.trans hc2)
      refine lv_aload_n hx hb dX6_acceptEnd_24 rfl (lv_at hl 0 rfl) ?_
      refine va_get (D := D) (ci := 6) (v := .int (nI bk)) (C := RX6) (T := TX6) (N := 15) hx hb hts hin_X6 hown hK hP 0 rfl rfl 11 (by decide) (hts (.fieldLink RX6 49 "ClashFree$Parser" "blocks" "I") (List.mem_of_getElem? (i := 5) rfl)) (fun _ h9 => h9) rfl dX6_acceptEnd_25 ?_
      refine lv_if_ne (tgt := 40) hx hb dX6_acceptEnd_28 (by decide) (fun hc9 => ?_) (fun hc9 => ?_)
      ·
        have hbn : ¬ bk = 0 := fun q => hc9 (congrArg nI q)
        refine lv_aload_n hx hb dX6_acceptEnd_40 rfl (lv_at hl 0 rfl) ?_
        have hPc := hP.sub (ws' := [(oq 0, .inr (6, gPs oq qf qp qd 0 qt qb qh qr qn (nI bk) (nI wz))), (oq 5, .inr (8, [tx, .int zl, .int ta, .int be, .int ki, .int nu, .int wo]))]) [0, 7] rfl
        have hKc := hK.sub (tys' := []) [] rfl
        have hDc := hD.sub (ws' := [(oq 0, .inr (6, gPs oq qf qp qd 0 qt qb qh qr qn (nI bk) (nI wz))), (oq 5, .inr (8, [tx, .int zl, .int ta, .int be, .int ki, .int nu, .int wo]))]) [0, 7] (by decide) rfl
        have hFc := va_free (wc := [(oq 0, .inr (6, gPs oq qf qp qd 0 qt qb qh qr qn (nI bk) (nI wz))), (oq 5, .inr (8, [tx, .int zl, .int ta, .int be, .int ki, .int nu, .int wo]))]) hD hS hA [0, 7] rfl
        refine va_callv (va_runV (As := []) (rest := []) ⟨hx, hb, hml, hown, hts⟩ (k_refuse l D _ oq cI qf qp qd 0 qt qb qh qr qn bk wz tx zl ta be ki nu wo) (cwV 0 hts g_k_aEnd_k_refuse_112 rfl rfl rfl (by decide +kernel) ⟨(Nat.le_of_ble_eq_true rfl), (Nat.le_of_ble_eq_true rfl)⟩) (PcWC_V (q0 := 0) hPc hKc hDc hN rfl rfl) rfl rfl hl.1 rfl (lv_room (Nat.le_of_ble_eq_true rfl)) dX6_acceptEnd_41 ⟨(Nat.le_of_ble_eq_true rfl), (Nat.le_of_ble_eq_true rfl)⟩) hS (fun q _ h => hFc q h) hFc (fun uu tt H locs htt hvm hw hB hz1 hk1 hS => ?_)
        obtain ⟨w11, w12, w13, w14⟩ := uu
        obtain ⟨hP1, hK1, hD1⟩ := hB
        rw [htt] at hP1
        have hK1 := va_K.moved hvm.symm hK1
        have hP1 : va_P D vwCl [(oq 0, .inr (6, gPs oq w11 w12 w13 0 qt qb w14 qr qn (nI bk) (nI wz))), (oq 5, .inr (8, [tx, .int zl, .int ta, .int be, .int ki, .int nu, .int wo]))] H := hP1
        obtain ⟨hP, hD⟩ := va_join (wr := [(oq 6, .inl (cI, 5, .inl fO)), (oq 7, .inl (cI, 600, .inl fW)), (oq 1, .inr (7, [.int (nI pz), .ref (oq 2), .ref (oq 3), .ref (oq 4)])), (oq 2, .inl (cI, 600, .inl fK)), (oq 3, .inl (cI, 600, .inl fN)), (oq 4, .inl (cI, 600, .inl fL))]) (w1 := [(oq 0, .inr (6, gPs oq w11 w12 w13 0 qt qb w14 qr qn (nI bk) (nI wz))), (oq 5, .inr (8, [tx, .int zl, .int ta, .int be, .int ki, .int nu, .int wo]))]) hP hD [0, 7] [1, 2, 3, 4, 5, 6] rfl rfl (by decide) (by decide) hk1 hFc hP1 hD1
        have hP : va_P D vwCl [(oq 6, .inl (cI, 5, .inl fO)), (oq 7, .inl (cI, 600, .inl fW)), (oq 1, .inr (7, [.int (nI pz), .ref (oq 2), .ref (oq 3), .ref (oq 4)])), (oq 2, .inl (cI, 600, .inl fK)), (oq 3, .inl (cI, 600, .inl fN)), (oq 4, .inl (cI, 600, .inl fL)), (oq 0, .inr (6, gPs oq w11 w12 w13 0 qt qb w14 qr qn (nI bk) (nI wz))), (oq 5, .inr (8, [tx, .int zl, .int ta, .int be, .int ki, .int nu, .int wo]))] H := hP
        have hD : va_D A [(oq 6, .inl (cI, 5, .inl fO)), (oq 7, .inl (cI, 600, .inl fW)), (oq 1, .inr (7, [.int (nI pz), .ref (oq 2), .ref (oq 3), .ref (oq 4)])), (oq 2, .inl (cI, 600, .inl fK)), (oq 3, .inl (cI, 600, .inl fN)), (oq 4, .inl (cI, 600, .inl fL)), (oq 0, .inr (6, gPs oq w11 w12 w13 0 qt qb w14 qr qn (nI bk) (nI wz))), (oq 5, .inr (8, [tx, .int zl, .int ta, .int be, .int ki, .int nu, .int wo]))] := hD
        try dsimp only at hw
        clear hz1 hk1 hFc hPc hKc hDc
        obtain ⟨hrf15, rfl⟩ := hw
        have hP : va_P D vwCl [(oq 6, .inl (cI, 5, .inl fO)), (oq 7, .inl (cI, 600, .inl fW)), (oq 1, .inr (7, [.int (nI pz), .ref (oq 2), .ref (oq 3), .ref (oq 4)])), (oq 2, .inl (cI, 600, .inl fK)), (oq 3, .inl (cI, 600, .inl fN)), (oq 4, .inl (cI, 600, .inl fL)), (oq 0, .inr (6, gPs oq w11 w12 w13 0 qt qb 0 qr qn (nI bk) (nI wz))), (oq 5, .inr (8, [tx, .int zl, .int ta, .int be, .int ki, .int nu, .int wo]))] H := hP
        have hD : va_D A [(oq 6, .inl (cI, 5, .inl fO)), (oq 7, .inl (cI, 600, .inl fW)), (oq 1, .inr (7, [.int (nI pz), .ref (oq 2), .ref (oq 3), .ref (oq 4)])), (oq 2, .inl (cI, 600, .inl fK)), (oq 3, .inl (cI, 600, .inl fN)), (oq 4, .inl (cI, 600, .inl fL)), (oq 0, .inr (6, gPs oq w11 w12 w13 0 qt qb 0 qr qn (nI bk) (nI wz))), (oq 5, .inr (8, [tx, .int zl, .int ta, .int be, .int ki, .int nu, .int wo]))] := hD
        exact W.vret hx hb hr (fun t ht hW => ⟨⟨(w11, w12, w13, 0, qt, qb, 0, qr, qn, bk, wz, fO, fW, pz, fK, fN, fL), rfl, (by (try dsimp only); first | done | exact ⟨acc_bad (hM) (fun _ => st0_no hst hke (fun q => by omega) (fun q => by omega)) hrf15, by omega⟩), by rw [ht]; exact hP.sub [6, 0, 1, 2, 3, 4, 5, 7] rfl, va_K.moved hW.alike (hK.sub [0] rfl), hD.sub [6, 0, 1, 2, 3, 4, 5, 7] (by decide) rfl⟩, hS.F ht⟩) hS.2.2 dX6_acceptEnd_44
      ·
        have hb0 : bk = 0 := (nI_eq (b := 0) (by omega) (by decide)).mp hc9
        refine lv_aload_n hx hb dX6_acceptEnd_31 rfl (lv_at hl 0 rfl) ?_
        refine lv_bipush (v := 6) hx hb dX6_acceptEnd_32 (by decide) ?_
        refine va_put (D := D) (ci := 6) (v := .int 6) (ty := .int) (C := RX6) (T := TX6) (N := 15) hx hb hts hin_X6 tyX6 tyX6_ok nmX6 hown hK hP hD hS 0 rfl rfl 5 (by decide) (hts (.fieldLink RX6 39 "ClashFree$Parser" "state" "I") (List.mem_of_getElem? (i := 6) rfl)) (fun _ h9 => h9) rfl (by decide +kernel) rfl rfl (Nat.le_of_ble_eq_true rfl) dX6_acceptEnd_34 (fun H locs hP hD hS => ?_)
        have hP : va_P D vwCl [(oq 0, .inr (6, gPs oq qf qp qd 6 qt qb qh qr qn (nI bk) (nI wz))), (oq 6, .inl (cI, 5, .inl fO)), (oq 7, .inl (cI, 600, .inl fW)), (oq 1, .inr (7, [.int (nI pz), .ref (oq 2), .ref (oq 3), .ref (oq 4)])), (oq 2, .inl (cI, 600, .inl fK)), (oq 3, .inl (cI, 600, .inl fN)), (oq 4, .inl (cI, 600, .inl fL)), (oq 5, .inr (8, [tx, .int zl, .int ta, .int be, .int ki, .int nu, .int wo]))] H := hP
        have hD : va_D A [(oq 0, .inr (6, gPs oq qf qp qd 6 qt qb qh qr qn (nI bk) (nI wz))), (oq 6, .inl (cI, 5, .inl fO)), (oq 7, .inl (cI, 600, .inl fW)), (oq 1, .inr (7, [.int (nI pz), .ref (oq 2), .ref (oq 3), .ref (oq 4)])), (oq 2, .inl (cI, 600, .inl fK)), (oq 3, .inl (cI, 600, .inl fN)), (oq 4, .inl (cI, 600, .inl fL)), (oq 5, .inr (8, [tx, .int zl, .int ta, .int be, .int ki, .int nu, .int wo]))] := hD
        refine lv_goto (tgt := 44) hx hb dX6_acceptEnd_37 (by decide) ?_
        exact W.vret hx hb hr (fun t ht hW => ⟨⟨(qf, qp, qd, 6, qt, qb, qh, qr, qn, bk, wz, fO, fW, pz, fK, fN, fL), rfl, (by (try dsimp only); first | done | exact ⟨acc_ok (hM.nst (st := 6) (tt := 0) (rr := sg.2.2.1) (by decide) (fun q => absurd q (by decide)) (fun q => absurd q (by decide))) (fun _ => by rw [hk0]; exact st0_end hst (by omega)) (fun hd => absurd hd (nDoom (Or.inr (Or.inl hst)))) (fun _ => rfl), by omega⟩), by rw [ht]; exact hP.sub [0, 1, 2, 3, 4, 5, 6, 7] rfl, va_K.moved hW.alike (hK.sub [0] rfl), hD.sub [0, 1, 2, 3, 4, 5, 6, 7] (by decide) rfl⟩, hS.F ht⟩) hS.2.2 dX6_acceptEnd_44
  ·
    have hk : kc = 93 := (nI_eq (b := 93) (by omega) (by decide)).mp (hz.symm.trans hc1)
    refine lv_aload_n hx hb dX6_acceptEnd_6 rfl (lv_at hl 0 rfl) ?_
    refine va_get (D := D) (ci := 6) (v := .int (nI bk)) (C := RX6) (T := TX6) (N := 15) hx hb hts hin_X6 hown hK hP 0 rfl rfl 11 (by decide) (hts (.fieldLink RX6 49 "ClashFree$Parser" "blocks" "I") (List.mem_of_getElem? (i := 5) rfl)) (fun _ h9 => h9) rfl dX6_acceptEnd_7 ?_
    refine lv_if_le (tgt := 20) hx hb dX6_acceptEnd_10 (by decide) (fun hc16 => ?_) (fun hc16 => ?_)
    ·
      have hb0 : bk = 0 := by
        have := (nI_leI (b := 0) (by omega) (by decide)).mp hc16
        omega
      refine lv_iload_n hx hb dX6_acceptEnd_20 rfl (lv_at hl 1 rfl) ?_
      refine lv_if_ne (tgt := 40) hx hb dX6_acceptEnd_21 (by decide) (fun hc17 => ?_) (fun hc17 => ?_)
      ·
        have hk0 : ¬ kc = 0 := fun q => hc17 (hz.trans (congrArg nI q))
        refine lv_aload_n hx hb dX6_acceptEnd_40 rfl (lv_at hl 0 rfl) ?_
        have hPc := hP.sub (ws' := [(oq 0, .inr (6, gPs oq qf qp qd 0 qt qb qh qr qn (nI bk) (nI wz))), (oq 5, .inr (8, [tx, .int zl, .int ta, .int be, .int ki, .int nu, .int wo]))]) [0, 7] rfl
        have hKc := hK.sub (tys' := []) [] rfl
        have hDc := hD.sub (ws' := [(oq 0, .inr (6, gPs oq qf qp qd 0 qt qb qh qr qn (nI bk) (nI wz))), (oq 5, .inr (8, [tx, .int zl, .int ta, .int be, .int ki, .int nu, .int wo]))]) [0, 7] (by decide) rfl
        have hFc := va_free (wc := [(oq 0, .inr (6, gPs oq qf qp qd 0 qt qb qh qr qn (nI bk) (nI wz))), (oq 5, .inr (8, [tx, .int zl, .int ta, .int be, .int ki, .int nu, .int wo]))]) hD hS hA [0, 7] rfl
        refine va_callv (va_runV (As := []) (rest := []) ⟨hx, hb, hml, hown, hts⟩ (k_refuse l D _ oq cI qf qp qd 0 qt qb qh qr qn bk wz tx zl ta be ki nu wo) (cwV 0 hts g_k_aEnd_k_refuse_112 rfl rfl rfl (by decide +kernel) ⟨(Nat.le_of_ble_eq_true rfl), (Nat.le_of_ble_eq_true rfl)⟩) (PcWC_V (q0 := 0) hPc hKc hDc hN rfl rfl) rfl rfl hl.1 rfl (lv_room (Nat.le_of_ble_eq_true rfl)) dX6_acceptEnd_41 ⟨(Nat.le_of_ble_eq_true rfl), (Nat.le_of_ble_eq_true rfl)⟩) hS (fun q _ h => hFc q h) hFc (fun uu tt H locs htt hvm hw hB hz1 hk1 hS => ?_)
        obtain ⟨w19, w20, w21, w22⟩ := uu
        obtain ⟨hP1, hK1, hD1⟩ := hB
        rw [htt] at hP1
        have hK1 := va_K.moved hvm.symm hK1
        have hP1 : va_P D vwCl [(oq 0, .inr (6, gPs oq w19 w20 w21 0 qt qb w22 qr qn (nI bk) (nI wz))), (oq 5, .inr (8, [tx, .int zl, .int ta, .int be, .int ki, .int nu, .int wo]))] H := hP1
        obtain ⟨hP, hD⟩ := va_join (wr := [(oq 6, .inl (cI, 5, .inl fO)), (oq 7, .inl (cI, 600, .inl fW)), (oq 1, .inr (7, [.int (nI pz), .ref (oq 2), .ref (oq 3), .ref (oq 4)])), (oq 2, .inl (cI, 600, .inl fK)), (oq 3, .inl (cI, 600, .inl fN)), (oq 4, .inl (cI, 600, .inl fL))]) (w1 := [(oq 0, .inr (6, gPs oq w19 w20 w21 0 qt qb w22 qr qn (nI bk) (nI wz))), (oq 5, .inr (8, [tx, .int zl, .int ta, .int be, .int ki, .int nu, .int wo]))]) hP hD [0, 7] [1, 2, 3, 4, 5, 6] rfl rfl (by decide) (by decide) hk1 hFc hP1 hD1
        have hP : va_P D vwCl [(oq 6, .inl (cI, 5, .inl fO)), (oq 7, .inl (cI, 600, .inl fW)), (oq 1, .inr (7, [.int (nI pz), .ref (oq 2), .ref (oq 3), .ref (oq 4)])), (oq 2, .inl (cI, 600, .inl fK)), (oq 3, .inl (cI, 600, .inl fN)), (oq 4, .inl (cI, 600, .inl fL)), (oq 0, .inr (6, gPs oq w19 w20 w21 0 qt qb w22 qr qn (nI bk) (nI wz))), (oq 5, .inr (8, [tx, .int zl, .int ta, .int be, .int ki, .int nu, .int wo]))] H := hP
        have hD : va_D A [(oq 6, .inl (cI, 5, .inl fO)), (oq 7, .inl (cI, 600, .inl fW)), (oq 1, .inr (7, [.int (nI pz), .ref (oq 2), .ref (oq 3), .ref (oq 4)])), (oq 2, .inl (cI, 600, .inl fK)), (oq 3, .inl (cI, 600, .inl fN)), (oq 4, .inl (cI, 600, .inl fL)), (oq 0, .inr (6, gPs oq w19 w20 w21 0 qt qb w22 qr qn (nI bk) (nI wz))), (oq 5, .inr (8, [tx, .int zl, .int ta, .int be, .int ki, .int nu, .int wo]))] := hD
        try dsimp only at hw
        clear hz1 hk1 hFc hPc hKc hDc
        obtain ⟨hrf23, rfl⟩ := hw
        have hP : va_P D vwCl [(oq 6, .inl (cI, 5, .inl fO)), (oq 7, .inl (cI, 600, .inl fW)), (oq 1, .inr (7, [.int (nI pz), .ref (oq 2), .ref (oq 3), .ref (oq 4)])), (oq 2, .inl (cI, 600, .inl fK)), (oq 3, .inl (cI, 600, .inl fN)), (oq 4, .inl (cI, 600, .inl fL)), (oq 0, .inr (6, gPs oq w19 w20 w21 0 qt qb 0 qr qn (nI bk) (nI wz))), (oq 5, .inr (8, [tx, .int zl, .int ta, .int be, .int ki, .int nu, .int wo]))] H := hP
        have hD : va_D A [(oq 6, .inl (cI, 5, .inl fO)), (oq 7, .inl (cI, 600, .inl fW)), (oq 1, .inr (7, [.int (nI pz), .ref (oq 2), .ref (oq 3), .ref (oq 4)])), (oq 2, .inl (cI, 600, .inl fK)), (oq 3, .inl (cI, 600, .inl fN)), (oq 4, .inl (cI, 600, .inl fL)), (oq 0, .inr (6, gPs oq w19 w20 w21 0 qt qb 0 qr qn (nI bk) (nI wz))), (oq 5, .inr (8, [tx, .int zl, .int ta, .int be, .int ki, .int nu, .int wo]))] := hD
        exact W.vret hx hb hr (fun t ht hW => ⟨⟨(w19, w20, w21, 0, qt, qb, 0, qr, qn, bk, wz, fO, fW, pz, fK, fN, fL), rfl, (by (try dsimp only); first | done | exact ⟨acc_bad (hM) (fun _ => st0_no hst hke (fun q => by omega) (fun q => by omega)) hrf23, by omega⟩), by rw [ht]; exact hP.sub [6, 0, 1, 2, 3, 4, 5, 7] rfl, va_K.moved hW.alike (hK.sub [0] rfl), hD.sub [6, 0, 1, 2, 3, 4, 5, 7] (by decide) rfl⟩, hS.F ht⟩) hS.2.2 dX6_acceptEnd_44
      ·
        have hk0 : kc = 0 := (nI_eq (b := 0) (by omega) (by decide)).mp (hz.symm.trans hc17)
        refine lv_aload_n hx hb dX6_acceptEnd_24 rfl (lv_at hl 0 rfl) ?_
        refine va_get (D := D) (ci := 6) (v := .int (nI bk)) (C := RX6) (T := TX6) (N := 15) hx hb hts hin_X6 hown hK hP 0 rfl rfl 11 (by decide) (hts (.fieldLink RX6 49 "ClashFree$Parser" "blocks" "I") (List.mem_of_getElem? (i := 5) rfl)) (fun _ h9 => h9) rfl dX6_acceptEnd_25 ?_
        refine lv_if_ne (tgt := 40) hx hb dX6_acceptEnd_28 (by decide) (fun hc24 => ?_) (fun hc24 => ?_)
        ·
          have hbn : ¬ bk = 0 := fun q => hc24 (congrArg nI q)
          refine lv_aload_n hx hb dX6_acceptEnd_40 rfl (lv_at hl 0 rfl) ?_
          have hPc := hP.sub (ws' := [(oq 0, .inr (6, gPs oq qf qp qd 0 qt qb qh qr qn (nI bk) (nI wz))), (oq 5, .inr (8, [tx, .int zl, .int ta, .int be, .int ki, .int nu, .int wo]))]) [0, 7] rfl
          have hKc := hK.sub (tys' := []) [] rfl
          have hDc := hD.sub (ws' := [(oq 0, .inr (6, gPs oq qf qp qd 0 qt qb qh qr qn (nI bk) (nI wz))), (oq 5, .inr (8, [tx, .int zl, .int ta, .int be, .int ki, .int nu, .int wo]))]) [0, 7] (by decide) rfl
          have hFc := va_free (wc := [(oq 0, .inr (6, gPs oq qf qp qd 0 qt qb qh qr qn (nI bk) (nI wz))), (oq 5, .inr (8, [tx, .int zl, .int ta, .int be, .int ki, .int nu, .int wo]))]) hD hS hA [0, 7] rfl
          refine va_callv (va_runV (As := []) (rest := []) ⟨hx, hb, hml, hown, hts⟩ (k_refuse l D _ oq cI qf qp qd 0 qt qb qh qr qn bk wz tx zl ta be ki nu wo) (cwV 0 hts g_k_aEnd_k_refuse_112 rfl rfl rfl (by decide +kernel) ⟨(Nat.le_of_ble_eq_true rfl), (Nat.le_of_ble_eq_true rfl)⟩) (PcWC_V (q0 := 0) hPc hKc hDc hN rfl rfl) rfl rfl hl.1 rfl (lv_room (Nat.le_of_ble_eq_true rfl)) dX6_acceptEnd_41 ⟨(Nat.le_of_ble_eq_true rfl), (Nat.le_of_ble_eq_true rfl)⟩) hS (fun q _ h => hFc q h) hFc (fun uu tt H locs htt hvm hw hB hz1 hk1 hS => ?_)
          obtain ⟨w26, w27, w28, w29⟩ := uu
          obtain ⟨hP1, hK1, hD1⟩ := hB
          rw [htt] at hP1
          have hK1 := va_K.moved hvm.symm hK1
          have hP1 : va_P D vwCl [(oq 0, .inr (6, gPs oq w26 w27 w28 0 qt qb w29 qr qn (nI bk) (nI wz))), (oq 5, .inr (8, [tx, .int zl, .int ta, .int be, .int ki, .int nu, .int wo]))] H := hP1
          obtain ⟨hP, hD⟩ := va_join (wr := [(oq 6, .inl (cI, 5, .inl fO)), (oq 7, .inl (cI, 600, .inl fW)), (oq 1, .inr (7, [.int (nI pz), .ref (oq 2), .ref (oq 3), .ref (oq 4)])), (oq 2, .inl (cI, 600, .inl fK)), (oq 3, .inl (cI, 600, .inl fN)), (oq 4, .inl (cI, 600, .inl fL))]) (w1 := [(oq 0, .inr (6, gPs oq w26 w27 w28 0 qt qb w29 qr qn (nI bk) (nI wz))), (oq 5, .inr (8, [tx, .int zl, .int ta, .int be, .int ki, .int nu, .int wo]))]) hP hD [0, 7] [1, 2, 3, 4, 5, 6] rfl rfl (by decide) (by decide) hk1 hFc hP1 hD1
          have hP : va_P D vwCl [(oq 6, .inl (cI, 5, .inl fO)), (oq 7, .inl (cI, 600, .inl fW)), (oq 1, .inr (7, [.int (nI pz), .ref (oq 2), .ref (oq 3), .ref (oq 4)])), (oq 2, .inl (cI, 600, .inl fK)), (oq 3, .inl (cI, 600, .inl fN)), (oq 4, .inl (cI, 600, .inl fL)), (oq 0, .inr (6, gPs oq w26 w27 w28 0 qt qb w29 qr qn (nI bk) (nI wz))), (oq 5, .inr (8, [tx, .int zl, .int ta, .int be, .int ki, .int nu, .int wo]))] H := hP
          have hD : va_D A [(oq 6, .inl (cI, 5, .inl fO)), (oq 7, .inl (cI, 600, .inl fW)), (oq 1, .inr (7, [.int (nI pz), .ref (oq 2), .ref (oq 3), .ref (oq 4)])), (oq 2, .inl (cI, 600, .inl fK)), (oq 3, .inl (cI, 600, .inl fN)), (oq 4, .inl (cI, 600, .inl fL)), (oq 0, .inr (6, gPs oq w26 w27 w28 0 qt qb w29 qr qn (nI bk) (nI wz))), (oq 5, .inr (8, [tx, .int zl, .int ta, .int be, .int ki, .int nu, .int wo]))] := hD
          try dsimp only at hw
          clear hz1 hk1 hFc hPc hKc hDc
          obtain ⟨hrf30, rfl⟩ := hw
          have hP : va_P D vwCl [(oq 6, .inl (cI, 5, .inl fO)), (oq 7, .inl (cI, 600, .inl fW)), (oq 1, .inr (7, [.int (nI pz), .ref (oq 2), .ref (oq 3), .ref (oq 4)])), (oq 2, .inl (cI, 600, .inl fK)), (oq 3, .inl (cI, 600, .inl fN)), (oq 4, .inl (cI, 600, .inl fL)), (oq 0, .inr (6, gPs oq w26 w27 w28 0 qt qb 0 qr qn (nI bk) (nI wz))), (oq 5, .inr (8, [tx, .int zl, .int ta, .int be, .int ki, .int nu, .int wo]))] H := hP
          have hD : va_D A [(oq 6, .inl (cI, 5, .inl fO)), (oq 7, .inl (cI, 600, .inl fW)), (oq 1, .inr (7, [.int (nI pz), .ref (oq 2), .ref (oq 3), .ref (oq 4)])), (oq 2, .inl (cI, 600, .inl fK)), (oq 3, .inl (cI, 600, .inl fN)), (oq 4, .inl (cI, 600, .inl fL)), (oq 0, .inr (6, gPs oq w26 w27 w28 0 qt qb 0 qr qn (nI bk) (nI wz))), (oq 5, .inr (8, [tx, .int zl, .int ta, .int be, .int ki, .int nu, .int wo]))] := hD
          exact W.vret hx hb hr (fun t ht hW => ⟨⟨(w26, w27, w28, 0, qt, qb, 0, qr, qn, bk, wz, fO, fW, pz, fK, fN, fL), rfl, (by (try dsimp only); first | done | exact ⟨acc_bad (hM) (fun _ => st0_no hst hke (fun q => by omega) (fun q => by omega)) hrf30, by omega⟩), by rw [ht]; exact hP.sub [6, 0, 1, 2, 3, 4, 5, 7] rfl, va_K.moved hW.alike (hK.sub [0] rfl), hD.sub [6, 0, 1, 2, 3, 4, 5, 7] (by decide) rfl⟩, hS.F ht⟩) hS.2.2 dX6_acceptEnd_44
        ·
          have hb0 : bk = 0 := (nI_eq (b := 0) (by omega) (by decide)).mp hc24
          refine lv_aload_n hx hb dX6_acceptEnd_31 rfl (lv_at hl 0 rfl) ?_
          refine lv_bipush (v := 6) hx hb dX6_acceptEnd_32 (by decide) ?_
          refine va_put (D := D) (ci := 6) (v := .int 6) (ty := .int) (C := RX6) (T := TX6) (N := 15) hx hb hts hin_X6 tyX6 tyX6_ok nmX6 hown hK hP hD hS 0 rfl rfl 5 (by decide) (hts (.fieldLink RX6 39 "ClashFree$Parser" "state" "I") (List.mem_of_getElem? (i := 6) rfl)) (fun _ h9 => h9) rfl (by decide +kernel) rfl rfl (Nat.le_of_ble_eq_true rfl) dX6_acceptEnd_34 (fun H locs hP hD hS => ?_)
          have hP : va_P D vwCl [(oq 0, .inr (6, gPs oq qf qp qd 6 qt qb qh qr qn (nI bk) (nI wz))), (oq 6, .inl (cI, 5, .inl fO)), (oq 7, .inl (cI, 600, .inl fW)), (oq 1, .inr (7, [.int (nI pz), .ref (oq 2), .ref (oq 3), .ref (oq 4)])), (oq 2, .inl (cI, 600, .inl fK)), (oq 3, .inl (cI, 600, .inl fN)), (oq 4, .inl (cI, 600, .inl fL)), (oq 5, .inr (8, [tx, .int zl, .int ta, .int be, .int ki, .int nu, .int wo]))] H := hP
          have hD : va_D A [(oq 0, .inr (6, gPs oq qf qp qd 6 qt qb qh qr qn (nI bk) (nI wz))), (oq 6, .inl (cI, 5, .inl fO)), (oq 7, .inl (cI, 600, .inl fW)), (oq 1, .inr (7, [.int (nI pz), .ref (oq 2), .ref (oq 3), .ref (oq 4)])), (oq 2, .inl (cI, 600, .inl fK)), (oq 3, .inl (cI, 600, .inl fN)), (oq 4, .inl (cI, 600, .inl fL)), (oq 5, .inr (8, [tx, .int zl, .int ta, .int be, .int ki, .int nu, .int wo]))] := hD
          refine lv_goto (tgt := 44) hx hb dX6_acceptEnd_37 (by decide) ?_
          exact W.vret hx hb hr (fun t ht hW => ⟨⟨(qf, qp, qd, 6, qt, qb, qh, qr, qn, bk, wz, fO, fW, pz, fK, fN, fL), rfl, (by (try dsimp only); first | done | exact ⟨acc_ok (hM.nst (st := 6) (tt := 0) (rr := sg.2.2.1) (by decide) (fun q => absurd q (by decide)) (fun q => absurd q (by decide))) (fun _ => by rw [hk0]; exact st0_end hst (by omega)) (fun hd => absurd hd (nDoom (Or.inr (Or.inl hst)))) (fun _ => rfl), by omega⟩), by rw [ht]; exact hP.sub [0, 1, 2, 3, 4, 5, 6, 7] rfl, va_K.moved hW.alike (hK.sub [0] rfl), hD.sub [0, 1, 2, 3, 4, 5, 6, 7] (by decide) rfl⟩, hS.F ht⟩) hS.2.2 dX6_acceptEnd_44
    ·
      have hb1 : 1 ≤ bk := by
        rcases Nat.eq_zero_or_pos bk with z | z
        · exact absurd (by rw [z]; decide) hc16
        · exact z
      refine lv_aload_n hx hb dX6_acceptEnd_13 rfl (lv_at hl 0 rfl) ?_
      have hPc := hP.sub (ws' := [(oq 0, .inr (6, gPs oq qf qp qd 0 qt qb qh qr qn (nI bk) (nI wz))), (oq 6, .inl (cI, 5, .inl fO)), (oq 1, .inr (7, [.int (nI pz), .ref (oq 2), .ref (oq 3), .ref (oq 4)])), (oq 2, .inl (cI, 600, .inl fK)), (oq 3, .inl (cI, 600, .inl fN)), (oq 4, .inl (cI, 600, .inl fL))]) [0, 1, 3, 4, 5, 6] rfl
      have hKc := hK.sub (tys' := [(cI, .int)]) [0] rfl
      have hDc := hD.sub (ws' := [(oq 0, .inr (6, gPs oq qf qp qd 0 qt qb qh qr qn (nI bk) (nI wz))), (oq 6, .inl (cI, 5, .inl fO)), (oq 1, .inr (7, [.int (nI pz), .ref (oq 2), .ref (oq 3), .ref (oq 4)])), (oq 2, .inl (cI, 600, .inl fK)), (oq 3, .inl (cI, 600, .inl fN)), (oq 4, .inl (cI, 600, .inl fL))]) [0, 1, 3, 4, 5, 6] (by decide) rfl
      have hFc := va_free (wc := [(oq 0, .inr (6, gPs oq qf qp qd 0 qt qb qh qr qn (nI bk) (nI wz))), (oq 6, .inl (cI, 5, .inl fO)), (oq 1, .inr (7, [.int (nI pz), .ref (oq 2), .ref (oq 3), .ref (oq 4)])), (oq 2, .inl (cI, 600, .inl fK)), (oq 3, .inl (cI, 600, .inl fN)), (oq 4, .inl (cI, 600, .inl fL))]) hD hS hA [0, 1, 3, 4, 5, 6] rfl
      refine va_callv (va_runV (As := []) (rest := []) ⟨hx, hb, hml, hown, hts⟩ (k_close l D _ oq cI qf qp qd 0 qt qb qh qr qn bk wz fO pz fK fN fL (sg.2.2.2.2.2.1 (bk - 1)) sg.2.2.2.2.2.2.2.2 (by omega) (by omega) (by omega) (hM.2.2.2.2.1.2.2.1 _ (by omega)) (hM.2.2.2.2.1.2.2.2 _ (by omega)) hM.2.2.2.2.2.2) (cwV 0 hts g_k_aEnd_k_close_109 rfl rfl rfl (by decide +kernel) ⟨(Nat.le_of_ble_eq_true rfl), (Nat.le_of_ble_eq_true rfl)⟩) (PcWC_V (q0 := 0) hPc hKc hDc hN rfl rfl) rfl rfl hl.1 rfl (lv_room (Nat.le_of_ble_eq_true rfl)) dX6_acceptEnd_14 ⟨(Nat.le_of_ble_eq_true rfl), (Nat.le_of_ble_eq_true rfl)⟩) hS (fun q _ h => hFc q h) hFc (fun uu tt H locs htt hvm hw hB hz1 hk1 hS => ?_)
      obtain ⟨w32, w33, w34, w35, w36, w37⟩ := uu
      obtain ⟨hP1, hK1, hD1⟩ := hB
      rw [htt] at hP1
      have hK1 := va_K.moved hvm.symm hK1
      have hP1 : va_P D vwCl [(oq 0, .inr (6, gPs oq qf qp qd w32 qt qb qh qr qn (nI w33) (nI wz))), (oq 6, .inl (cI, 5, .inl fO)), (oq 1, .inr (7, [.int (nI w34), .ref (oq 2), .ref (oq 3), .ref (oq 4)])), (oq 2, .inl (cI, 600, .inl w35)), (oq 3, .inl (cI, 600, .inl w36)), (oq 4, .inl (cI, 600, .inl w37))] H := hP1
      obtain ⟨hP, hD⟩ := va_join (wr := [(oq 7, .inl (cI, 600, .inl fW)), (oq 5, .inr (8, [tx, .int zl, .int ta, .int be, .int ki, .int nu, .int wo]))]) (w1 := [(oq 0, .inr (6, gPs oq qf qp qd w32 qt qb qh qr qn (nI w33) (nI wz))), (oq 6, .inl (cI, 5, .inl fO)), (oq 1, .inr (7, [.int (nI w34), .ref (oq 2), .ref (oq 3), .ref (oq 4)])), (oq 2, .inl (cI, 600, .inl w35)), (oq 3, .inl (cI, 600, .inl w36)), (oq 4, .inl (cI, 600, .inl w37))]) hP hD [0, 1, 3, 4, 5, 6] [2, 7] rfl rfl (by decide) (by decide) hk1 hFc hP1 hD1
      have hP : va_P D vwCl [(oq 7, .inl (cI, 600, .inl fW)), (oq 5, .inr (8, [tx, .int zl, .int ta, .int be, .int ki, .int nu, .int wo])), (oq 0, .inr (6, gPs oq qf qp qd w32 qt qb qh qr qn (nI w33) (nI wz))), (oq 6, .inl (cI, 5, .inl fO)), (oq 1, .inr (7, [.int (nI w34), .ref (oq 2), .ref (oq 3), .ref (oq 4)])), (oq 2, .inl (cI, 600, .inl w35)), (oq 3, .inl (cI, 600, .inl w36)), (oq 4, .inl (cI, 600, .inl w37))] H := hP
      have hD : va_D A [(oq 7, .inl (cI, 600, .inl fW)), (oq 5, .inr (8, [tx, .int zl, .int ta, .int be, .int ki, .int nu, .int wo])), (oq 0, .inr (6, gPs oq qf qp qd w32 qt qb qh qr qn (nI w33) (nI wz))), (oq 6, .inl (cI, 5, .inl fO)), (oq 1, .inr (7, [.int (nI w34), .ref (oq 2), .ref (oq 3), .ref (oq 4)])), (oq 2, .inl (cI, 600, .inl w35)), (oq 3, .inl (cI, 600, .inl w36)), (oq 4, .inl (cI, 600, .inl w37))] := hD
      try dsimp only at hw
      clear hz1 hk1 hFc hPc hKc hDc
      obtain ⟨rfl, rfl, hcl38_g, hcl38_p⟩ := hw
      have hP : va_P D vwCl [(oq 7, .inl (cI, 600, .inl fW)), (oq 5, .inr (8, [tx, .int zl, .int ta, .int be, .int ki, .int nu, .int wo])), (oq 0, .inr (6, gPs oq qf qp qd 5 qt qb qh qr qn (nI (bk - 1)) (nI wz))), (oq 6, .inl (cI, 5, .inl fO)), (oq 1, .inr (7, [.int (nI w34), .ref (oq 2), .ref (oq 3), .ref (oq 4)])), (oq 2, .inl (cI, 600, .inl w35)), (oq 3, .inl (cI, 600, .inl w36)), (oq 4, .inl (cI, 600, .inl w37))] H := hP
      have hD : va_D A [(oq 7, .inl (cI, 600, .inl fW)), (oq 5, .inr (8, [tx, .int zl, .int ta, .int be, .int ki, .int nu, .int wo])), (oq 0, .inr (6, gPs oq qf qp qd 5 qt qb qh qr qn (nI (bk - 1)) (nI wz))), (oq 6, .inl (cI, 5, .inl fO)), (oq 1, .inr (7, [.int (nI w34), .ref (oq 2), .ref (oq 3), .ref (oq 4)])), (oq 2, .inl (cI, 600, .inl w35)), (oq 3, .inl (cI, 600, .inl w36)), (oq 4, .inl (cI, 600, .inl w37))] := hD
      refine lv_goto (tgt := 44) hx hb dX6_acceptEnd_17 (by decide) ?_
      exact W.vret hx hb hr (fun t ht hW => ⟨⟨(qf, qp, qd, 5, qt, qb, qh, qr, qn, (bk - 1), wz, fO, fW, w34, w35, w36, w37), rfl, (by (try dsimp only); first | done | exact ⟨acc_ok (hM.cl (tt := 93) hcl38_g) (fun _ => by rw [hk]; exact st0_cl hst (by omega)) (fun hd => absurd hd (nDoom (Or.inr (Or.inl hst)))) (fun q => by omega), by omega⟩), by rw [ht]; exact hP.sub [2, 3, 0, 4, 5, 6, 7, 1] rfl, va_K.moved hW.alike (hK.sub [0] rfl), hD.sub [2, 3, 0, 4, 5, 6, 7, 1] (by decide) rfl⟩, hS.F ht⟩) hS.2.2 dX6_acceptEnd_44

def own_k_aStat : List Cond := [.fieldLink RX6 21 "ClashFree$Parser" "scan" "LClashFree$Scanner;", .fieldLink RX6 79 "ClashFree$Scanner" "at" "I", .fieldLink RX6 100 "ClashFree$Parser" "began" "I", .fieldLink RX6 103 "ClashFree$Parser" "statement" "I", .fieldLink RX6 39 "ClashFree$Parser" "state" "I", .methodLink RX6 106 yX6_acceptEnd, .instanceMethod yX6_acceptEnd, .selects RX6 yX6_acceptEnd yX6_acceptEnd, .initialized RX6, .fieldLink RX6 42 "ClashFree$Parser" "heading" "Z"]
def wp_k_aStat : List Cond := .code yX6_acceptStatement cX6_acceptStatement 2 none :: (own_k_aStat ++ (wp_k_aEnd ++ (wsX60 ++ (wsX80 ++ ([] : List Cond)))))
set_option maxRecDepth 20000 in
theorem inown_k_aStat : ∀ w ∈ own_k_aStat, w ∈ lw_tbl := mem_places [335, 305, 338, 337, 336, 1023, 1025, 13, 111, 339] (by decide +kernel)
set_option maxRecDepth 20000 in
theorem in_k_aStat : ∀ w ∈ wp_k_aStat, w ∈ lw_tbl := List.forall_mem_cons.mpr ⟨List.mem_of_getElem? (i := 1022) (by decide +kernel), List.forall_mem_append.mpr ⟨inown_k_aStat, List.forall_mem_append.mpr ⟨in_k_aEnd, List.forall_mem_append.mpr ⟨lwb_X6, List.forall_mem_append.mpr ⟨lwb_X8, fun _ h => absurd h List.not_mem_nil⟩⟩⟩⟩⟩
set_option maxRecDepth 20000 in
theorem good_k_aStat : wp_k_aStat.all goodWord = true := by decide +kernel
set_option maxRecDepth 20000 in
theorem g_k_aStat_k_aEnd_106 : GoodIn wp_k_aStat (wsV RX6 106 RX6 yX6_acceptEnd wp_k_aEnd) := goodIn_sub (List.forall_mem_append.mpr ⟨List.forall_mem_cons.mpr ⟨(List.mem_of_getElem? (i := 6) rfl), List.forall_mem_cons.mpr ⟨(List.mem_of_getElem? (i := 7) rfl), List.forall_mem_cons.mpr ⟨(List.mem_of_getElem? (i := 8) rfl), List.forall_mem_cons.mpr ⟨(List.mem_of_getElem? (i := 9) rfl), fun _ h => absurd h List.not_mem_nil⟩⟩⟩⟩, (fun _ h => (List.mem_cons_of_mem _ (List.mem_append_right _ (List.mem_append_left _ h))))⟩) (by decide +kernel)
set_option maxHeartbeats 4000000 in
set_option maxRecDepth 100000 in
theorem k_aStat (l : Launch) (D : va_G) (sz : Nat) (oq : Nat → Nat) (cI : ClassId) (qf : Int32) (qp : Int32) (qd : Int32) (qs : Int32) (qt : Int32) (qb : Int32) (qh : Int32) (qr : Int32) (qn : Int32) (bk : Nat) (wz : Nat) (fO : Nat → Int32) (fW : Nat → Int32) (pz : Nat) (fK : Nat → Int32) (fN : Nat → Int32) (fL : Nat → Int32) (tx : Value) (zl : Int32) (ta : Int32) (be : Int32) (ki : Int32) (nu : Int32) (wo : Int32) (z1 : Int32) (kc : Nat) (num : Nat) (sg : SM) (hz : z1 = nI kc) (hkc : kc ≤ 255) (hnu : kc = 2 → nu = nI num ∧ num ≤ 999999) (hM : MatS sg qs qt qr qn bk fO wz fW pz fK fN fL) (hpw : pz + wz ≤ 600) (hpk : kc = 0 ∨ pz + wz < 600) (hst : sg.1 = 0) : Met l yX6_acceptStatement wp_k_aStat ({ frames := 3, cells := 0, slots := 0, locals := 64 }) (PcWC D [.ref (oq 0), .int z1] sz [(oq 0, .inr (6, gPs oq qf qp qd qs qt qb qh qr qn (nI bk) (nI wz))), (oq 6, .inl (cI, 5, .inl fO)), (oq 7, .inl (cI, 600, .inl fW)), (oq 1, .inr (7, [.int (nI pz), .ref (oq 2), .ref (oq 3), .ref (oq 4)])), (oq 2, .inl (cI, 600, .inl fK)), (oq 3, .inl (cI, 600, .inl fN)), (oq 4, .inl (cI, 600, .inl fL)), (oq 5, .inr (8, [tx, .int zl, .int ta, .int be, .int ki, .int nu, .int wo]))] [(cI, .int)]) (va_Qv (fun (u : (Int32) × (Int32) × (Int32) × (Int32) × (Int32) × (Int32) × (Int32) × (Int32) × (Int32) × (Nat) × (Nat) × (Nat → Int32) × (Nat → Int32) × (Nat) × (Nat → Int32) × (Nat → Int32) × (Nat → Int32)) => AccP sg kc num qf u.1 (fun t => MatS t u.2.2.2.1 u.2.2.2.2.1 u.2.2.2.2.2.2.2.1 u.2.2.2.2.2.2.2.2.1 u.2.2.2.2.2.2.2.2.2.1 u.2.2.2.2.2.2.2.2.2.2.2.1 u.2.2.2.2.2.2.2.2.2.2.1 u.2.2.2.2.2.2.2.2.2.2.2.2.1 u.2.2.2.2.2.2.2.2.2.2.2.2.2.1 u.2.2.2.2.2.2.2.2.2.2.2.2.2.2.1 u.2.2.2.2.2.2.2.2.2.2.2.2.2.2.2.1 u.2.2.2.2.2.2.2.2.2.2.2.2.2.2.2.2) ∧ (u.2.2.2.2.2.2.2.2.2.2.2.2.2.1 + u.2.2.2.2.2.2.2.2.2.2.1 ≤ pz + wz ∨ (¬ kc = 0 ∧ u.2.2.2.2.2.2.2.2.2.2.2.2.2.1 + u.2.2.2.2.2.2.2.2.2.2.1 ≤ pz + wz + 1))) (fun (u : (Int32) × (Int32) × (Int32) × (Int32) × (Int32) × (Int32) × (Int32) × (Int32) × (Int32) × (Nat) × (Nat) × (Nat → Int32) × (Nat → Int32) × (Nat) × (Nat → Int32) × (Nat → Int32) × (Nat → Int32)) t => va_P D vwCl [(oq 0, .inr (6, gPs oq u.1 u.2.1 u.2.2.1 u.2.2.2.1 u.2.2.2.2.1 u.2.2.2.2.2.1 u.2.2.2.2.2.2.1 u.2.2.2.2.2.2.2.1 u.2.2.2.2.2.2.2.2.1 (nI u.2.2.2.2.2.2.2.2.2.1) (nI u.2.2.2.2.2.2.2.2.2.2.1))), (oq 6, .inl (cI, 5, .inl u.2.2.2.2.2.2.2.2.2.2.2.1)), (oq 7, .inl (cI, 600, .inl u.2.2.2.2.2.2.2.2.2.2.2.2.1)), (oq 1, .inr (7, [.int (nI u.2.2.2.2.2.2.2.2.2.2.2.2.2.1), .ref (oq 2), .ref (oq 3), .ref (oq 4)])), (oq 2, .inl (cI, 600, .inl u.2.2.2.2.2.2.2.2.2.2.2.2.2.2.1)), (oq 3, .inl (cI, 600, .inl u.2.2.2.2.2.2.2.2.2.2.2.2.2.2.2.1)), (oq 4, .inl (cI, 600, .inl u.2.2.2.2.2.2.2.2.2.2.2.2.2.2.2.2)), (oq 5, .inr (8, [tx, .int zl, .int ta, .int be, .int ki, .int nu, .int wo]))] t.heap ∧ va_K D vwCl [(cI, .int)] t ∧ va_D (va_A [(oq 0, .inr (6, gPs oq qf qp qd qs qt qb qh qr qn (nI bk) (nI wz))), (oq 6, .inl (cI, 5, .inl fO)), (oq 7, .inl (cI, 600, .inl fW)), (oq 1, .inr (7, [.int (nI pz), .ref (oq 2), .ref (oq 3), .ref (oq 4)])), (oq 2, .inl (cI, 600, .inl fK)), (oq 3, .inl (cI, 600, .inl fN)), (oq 4, .inl (cI, 600, .inl fL)), (oq 5, .inr (8, [tx, .int zl, .int ta, .int be, .int ki, .int nu, .int wo]))] sz) [(oq 0, .inr (6, gPs oq u.1 u.2.1 u.2.2.1 u.2.2.2.1 u.2.2.2.2.1 u.2.2.2.2.2.1 u.2.2.2.2.2.2.1 u.2.2.2.2.2.2.2.1 u.2.2.2.2.2.2.2.2.1 (nI u.2.2.2.2.2.2.2.2.2.1) (nI u.2.2.2.2.2.2.2.2.2.2.1))), (oq 6, .inl (cI, 5, .inl u.2.2.2.2.2.2.2.2.2.2.2.1)), (oq 7, .inl (cI, 600, .inl u.2.2.2.2.2.2.2.2.2.2.2.2.1)), (oq 1, .inr (7, [.int (nI u.2.2.2.2.2.2.2.2.2.2.2.2.2.1), .ref (oq 2), .ref (oq 3), .ref (oq 4)])), (oq 2, .inl (cI, 600, .inl u.2.2.2.2.2.2.2.2.2.2.2.2.2.2.1)), (oq 3, .inl (cI, 600, .inl u.2.2.2.2.2.2.2.2.2.2.2.2.2.2.2.1)), (oq 4, .inl (cI, 600, .inl u.2.2.2.2.2.2.2.2.2.2.2.2.2.2.2.2)), (oq 5, .inr (8, [tx, .int zl, .int ta, .int be, .int ki, .int nu, .int wo]))]) (va_A [(oq 0, .inr (6, gPs oq qf qp qd qs qt qb qh qr qn (nI bk) (nI wz))), (oq 6, .inl (cI, 5, .inl fO)), (oq 7, .inl (cI, 600, .inl fW)), (oq 1, .inr (7, [.int (nI pz), .ref (oq 2), .ref (oq 3), .ref (oq 4)])), (oq 2, .inl (cI, 600, .inl fK)), (oq 3, .inl (cI, 600, .inl fN)), (oq 4, .inl (cI, 600, .inl fL)), (oq 5, .inr (8, [tx, .int zl, .int ta, .int be, .int ki, .int nu, .int wo]))] sz)) 0 0 (va_A [(oq 0, .inr (6, gPs oq qf qp qd qs qt qb qh qr qn (nI bk) (nI wz))), (oq 6, .inl (cI, 5, .inl fO)), (oq 7, .inl (cI, 600, .inl fW)), (oq 1, .inr (7, [.int (nI pz), .ref (oq 2), .ref (oq 3), .ref (oq 4)])), (oq 2, .inl (cI, 600, .inl fK)), (oq 3, .inl (cI, 600, .inl fN)), (oq 4, .inl (cI, 600, .inl fL)), (oq 5, .inr (8, [tx, .int zl, .int ta, .int be, .int ki, .int nu, .int wo]))] sz) := by
  refine Met.ofW (cc := cX6_acceptStatement) (maxL := 2) (ret := none) (by decide) rfl ?_
  intro p e s m args below meth c s₁ B hml hv
  obtain ⟨rfl, hsz, hP, hK, hD0, hN⟩ := hv
  have hx := B.exec
  have hb := B.bytes
  have hr := B.returns
  have hts := atoms_spec (ws := wp_k_aStat) B.pre
  have hin_X6 : ∀ w ∈ wsX60, w ∈ wp_k_aStat := fun _ h => (List.mem_cons_of_mem _ (List.mem_append_right _ (List.mem_append_right _ (List.mem_append_left _ h))))
  have hin_X8 : ∀ w ∈ wsX80, w ∈ wp_k_aStat := fun _ h => (List.mem_cons_of_mem _ (List.mem_append_right _ (List.mem_append_right _ (List.mem_append_right _ (List.mem_append_left _ h)))))
  have hown : s.vm.findClass RX6 = some m.cls := findClass_of_methodNamed B.named
  have hlocks := B.notSynchronized
  subst hsz
  have hD := hD0.self (sz := s.heap.size)
  generalize hAe : va_A [(oq 0, .inr (6, gPs oq qf qp qd qs qt qb qh qr qn (nI bk) (nI wz))), (oq 6, .inl (cI, 5, .inl fO)), (oq 7, .inl (cI, 600, .inl fW)), (oq 1, .inr (7, [.int (nI pz), .ref (oq 2), .ref (oq 3), .ref (oq 4)])), (oq 2, .inl (cI, 600, .inl fK)), (oq 3, .inl (cI, 600, .inl fN)), (oq 4, .inl (cI, 600, .inl fL)), (oq 5, .inr (8, [tx, .int zl, .int ta, .int be, .int ki, .int nu, .int wo]))] s.heap.size = A at hD ⊢
  have hA : ∀ q : Nat, s.heap.size ≤ q → A q := fun q h => by rw [← hAe]; exact Or.inr h
  have hS : va_S A s.heap s.heap [] := va_S.rf
  have hP : va_P D vwCl [(oq 0, .inr (6, gPs oq qf qp qd qs qt qb qh qr qn (nI bk) (nI wz))), (oq 6, .inl (cI, 5, .inl fO)), (oq 7, .inl (cI, 600, .inl fW)), (oq 1, .inr (7, [.int (nI pz), .ref (oq 2), .ref (oq 3), .ref (oq 4)])), (oq 2, .inl (cI, 600, .inl fK)), (oq 3, .inl (cI, 600, .inl fN)), (oq 4, .inl (cI, 600, .inl fL)), (oq 5, .inr (8, [tx, .int zl, .int ta, .int be, .int ki, .int nu, .int wo]))] s.heap := hP
  have hl := lv_entry ([.ref (oq 0), .int z1]) (n := 2) (Nat.le_of_ble_eq_true rfl)
  rw [lg_entry_eq]
  generalize (lg_sl ([.ref (oq 0), .int z1]) ++ List.replicate (2 - (lg_sl ([.ref (oq 0), .int z1])).length) Slot.unset).toArray = ls at hl ⊢
  have hl : lv_has ls 2 [(0, .ref (oq 0)), (1, .int z1)] := hl
  obtain rfl : qs = 0 := hM.1.1.trans (congrArg nI hst)
  have hMb := hM.2.2.2.2.1.1
  have hMb5 := hM.2.2.2.2.1.2.1
  have hMn := hM.2.2.2.1
  have hMw := hM.2.2.2.2.2.1.1
  have hMg := hM.2.2.2.2.2.2.1
  refine lv_aload_n hx hb dX6_acceptStatement_0 rfl (lv_at hl 0 rfl) ?_
  refine lv_aload_n hx hb dX6_acceptStatement_1 rfl (lv_at hl 0 rfl) ?_
  refine va_get (D := D) (ci := 6) (v := .ref (oq 5)) (C := RX6) (T := TX6) (N := 15) hx hb hts hin_X6 hown hK hP 0 rfl rfl 4 (by decide) (hts (.fieldLink RX6 21 "ClashFree$Parser" "scan" "LClashFree$Scanner;") (List.mem_of_getElem? (i := 1) rfl)) (fun _ h9 => h9) rfl dX6_acceptStatement_2 ?_
  refine va_get (D := D) (ci := 8) (v := .int ta) (C := RX8) (T := TX8) (N := 7) hx hb hts hin_X8 hown hK hP 7 rfl rfl 2 (by decide) (hts (.fieldLink RX6 79 "ClashFree$Scanner" "at" "I") (List.mem_of_getElem? (i := 2) rfl)) (fun _ h9 => h9) rfl dX6_acceptStatement_5 ?_
  refine va_put (D := D) (ci := 6) (v := .int ta) (ty := .int) (C := RX6) (T := TX6) (N := 15) hx hb hts hin_X6 tyX6 tyX6_ok nmX6 hown hK hP hD hS 0 rfl rfl 7 (by decide) (hts (.fieldLink RX6 100 "ClashFree$Parser" "began" "I") (List.mem_of_getElem? (i := 3) rfl)) (fun _ h9 => h9) rfl (by decide +kernel) rfl rfl (Nat.le_of_ble_eq_true rfl) dX6_acceptStatement_8 (fun H locs hP hD hS => ?_)
  have hP : va_P D vwCl [(oq 0, .inr (6, gPs oq qf qp qd 0 qt ta qh qr qn (nI bk) (nI wz))), (oq 6, .inl (cI, 5, .inl fO)), (oq 7, .inl (cI, 600, .inl fW)), (oq 1, .inr (7, [.int (nI pz), .ref (oq 2), .ref (oq 3), .ref (oq 4)])), (oq 2, .inl (cI, 600, .inl fK)), (oq 3, .inl (cI, 600, .inl fN)), (oq 4, .inl (cI, 600, .inl fL)), (oq 5, .inr (8, [tx, .int zl, .int ta, .int be, .int ki, .int nu, .int wo]))] H := hP
  have hD : va_D A [(oq 0, .inr (6, gPs oq qf qp qd 0 qt ta qh qr qn (nI bk) (nI wz))), (oq 6, .inl (cI, 5, .inl fO)), (oq 7, .inl (cI, 600, .inl fW)), (oq 1, .inr (7, [.int (nI pz), .ref (oq 2), .ref (oq 3), .ref (oq 4)])), (oq 2, .inl (cI, 600, .inl fK)), (oq 3, .inl (cI, 600, .inl fN)), (oq 4, .inl (cI, 600, .inl fL)), (oq 5, .inr (8, [tx, .int zl, .int ta, .int be, .int ki, .int nu, .int wo]))] := hD
  refine lv_aload_n hx hb dX6_acceptStatement_11 rfl (lv_at hl 0 rfl) ?_
  refine lv_iload_n hx hb dX6_acceptStatement_12 rfl (lv_at hl 1 rfl) ?_
  refine va_put (D := D) (ci := 6) (v := .int z1) (ty := .int) (C := RX6) (T := TX6) (N := 15) hx hb hts hin_X6 tyX6 tyX6_ok nmX6 hown hK hP hD hS 0 rfl rfl 6 (by decide) (hts (.fieldLink RX6 103 "ClashFree$Parser" "statement" "I") (List.mem_of_getElem? (i := 4) rfl)) (fun _ h9 => h9) rfl (by decide +kernel) rfl rfl (Nat.le_of_ble_eq_true rfl) dX6_acceptStatement_13 (fun H locs hP hD hS => ?_)
  have hP : va_P D vwCl [(oq 0, .inr (6, gPs oq qf qp qd 0 z1 ta qh qr qn (nI bk) (nI wz))), (oq 6, .inl (cI, 5, .inl fO)), (oq 7, .inl (cI, 600, .inl fW)), (oq 1, .inr (7, [.int (nI pz), .ref (oq 2), .ref (oq 3), .ref (oq 4)])), (oq 2, .inl (cI, 600, .inl fK)), (oq 3, .inl (cI, 600, .inl fN)), (oq 4, .inl (cI, 600, .inl fL)), (oq 5, .inr (8, [tx, .int zl, .int ta, .int be, .int ki, .int nu, .int wo]))] H := hP
  have hD : va_D A [(oq 0, .inr (6, gPs oq qf qp qd 0 z1 ta qh qr qn (nI bk) (nI wz))), (oq 6, .inl (cI, 5, .inl fO)), (oq 7, .inl (cI, 600, .inl fW)), (oq 1, .inr (7, [.int (nI pz), .ref (oq 2), .ref (oq 3), .ref (oq 4)])), (oq 2, .inl (cI, 600, .inl fK)), (oq 3, .inl (cI, 600, .inl fN)), (oq 4, .inl (cI, 600, .inl fL)), (oq 5, .inr (8, [tx, .int zl, .int ta, .int be, .int ki, .int nu, .int wo]))] := hD
  refine lv_iload_n hx hb dX6_acceptStatement_16 rfl (lv_at hl 1 rfl) ?_
  by_cases hs1 : z1 = 3
  ·
    subst hs1
    refine lv_tableIn (off := 43) (tgt := 60) hx hb dX6_acceptStatement_17 (by decide) (by decide) (by decide +kernel) (by decide) ?_
    refine lv_aload_n hx hb dX6_acceptStatement_60 rfl (lv_at hl 0 rfl) ?_
    refine lv_iconst (v := 1) hx hb dX6_acceptStatement_61 (by decide) ?_
    refine va_put (D := D) (ci := 6) (v := .int 1) (ty := .int) (C := RX6) (T := TX6) (N := 15) hx hb hts hin_X6 tyX6 tyX6_ok nmX6 hown hK hP hD hS 0 rfl rfl 5 (by decide) (hts (.fieldLink RX6 39 "ClashFree$Parser" "state" "I") (List.mem_of_getElem? (i := 5) rfl)) (fun _ h9 => h9) rfl (by decide +kernel) rfl rfl (Nat.le_of_ble_eq_true rfl) dX6_acceptStatement_62 (fun H locs hP hD hS => ?_)
    have hP : va_P D vwCl [(oq 0, .inr (6, gPs oq qf qp qd 1 3 ta qh qr qn (nI bk) (nI wz))), (oq 6, .inl (cI, 5, .inl fO)), (oq 7, .inl (cI, 600, .inl fW)), (oq 1, .inr (7, [.int (nI pz), .ref (oq 2), .ref (oq 3), .ref (oq 4)])), (oq 2, .inl (cI, 600, .inl fK)), (oq 3, .inl (cI, 600, .inl fN)), (oq 4, .inl (cI, 600, .inl fL)), (oq 5, .inr (8, [tx, .int zl, .int ta, .int be, .int ki, .int nu, .int wo]))] H := hP
    have hD : va_D A [(oq 0, .inr (6, gPs oq qf qp qd 1 3 ta qh qr qn (nI bk) (nI wz))), (oq 6, .inl (cI, 5, .inl fO)), (oq 7, .inl (cI, 600, .inl fW)), (oq 1, .inr (7, [.int (nI pz), .ref (oq 2), .ref (oq 3), .ref (oq 4)])), (oq 2, .inl (cI, 600, .inl fK)), (oq 3, .inl (cI, 600, .inl fN)), (oq 4, .inl (cI, 600, .inl fL)), (oq 5, .inr (8, [tx, .int zl, .int ta, .int be, .int ki, .int nu, .int wo]))] := hD
    refine lv_goto (tgt := 99) hx hb dX6_acceptStatement_65 (by decide) ?_
    obtain rfl : kc = 3 := (nI_eq (b := 3) (by omega) (by decide)).mp hz.symm
    exact W.vret hx hb hr (fun t ht hW => ⟨⟨(qf, qp, qd, 1, 3, ta, qh, qr, qn, bk, wz, fO, fW, pz, fK, fN, fL), rfl, (by (try dsimp only); first | done | exact ⟨acc_ok (hM.nst (st := 1) (tt := 3) (rr := sg.2.2.1) (by decide) (fun _ => ⟨rfl, by decide⟩) (fun q => absurd q (by decide))) (fun _ => st0_w hst (by decide)) (fun hd => absurd hd (nDoom (Or.inr (Or.inl hst)))) (fun q => absurd q (by decide)), by omega⟩), by rw [ht]; exact hP.sub [0, 1, 2, 3, 4, 5, 6, 7] rfl, va_K.moved hW.alike (hK.sub [0] rfl), hD.sub [0, 1, 2, 3, 4, 5, 6, 7] (by decide) rfl⟩, hS.F ht⟩) hS.2.2 dX6_acceptStatement_99
  by_cases hs2 : z1 = 4
  ·
    subst hs2
    refine lv_tableIn (off := 77) (tgt := 94) hx hb dX6_acceptStatement_17 (by decide) (by decide) (by decide +kernel) (by decide) ?_
    have hk4 : kc = 4 := (nI_eq (b := 4) (by omega) (by decide)).mp hz.symm
    refine lv_aload_n hx hb dX6_acceptStatement_94 rfl (lv_at hl 0 rfl) ?_
    refine lv_iload_n hx hb dX6_acceptStatement_95 rfl (lv_at hl 1 rfl) ?_
    have hPc := hP.sub (ws' := [(oq 0, .inr (6, gPs oq qf qp qd 0 4 ta qh qr qn (nI bk) (nI wz))), (oq 6, .inl (cI, 5, .inl fO)), (oq 7, .inl (cI, 600, .inl fW)), (oq 1, .inr (7, [.int (nI pz), .ref (oq 2), .ref (oq 3), .ref (oq 4)])), (oq 2, .inl (cI, 600, .inl fK)), (oq 3, .inl (cI, 600, .inl fN)), (oq 4, .inl (cI, 600, .inl fL)), (oq 5, .inr (8, [tx, .int zl, .int ta, .int be, .int ki, .int nu, .int wo]))]) [0, 1, 2, 3, 4, 5, 6, 7] rfl
    have hKc := hK.sub (tys' := [(cI, .int)]) [0] rfl
    have hDc := hD.sub (ws' := [(oq 0, .inr (6, gPs oq qf qp qd 0 4 ta qh qr qn (nI bk) (nI wz))), (oq 6, .inl (cI, 5, .inl fO)), (oq 7, .inl (cI, 600, .inl fW)), (oq 1, .inr (7, [.int (nI pz), .ref (oq 2), .ref (oq 3), .ref (oq 4)])), (oq 2, .inl (cI, 600, .inl fK)), (oq 3, .inl (cI, 600, .inl fN)), (oq 4, .inl (cI, 600, .inl fL)), (oq 5, .inr (8, [tx, .int zl, .int ta, .int be, .int ki, .int nu, .int wo]))]) [0, 1, 2, 3, 4, 5, 6, 7] (by decide) rfl
    have hFc := va_free (wc := [(oq 0, .inr (6, gPs oq qf qp qd 0 4 ta qh qr qn (nI bk) (nI wz))), (oq 6, .inl (cI, 5, .inl fO)), (oq 7, .inl (cI, 600, .inl fW)), (oq 1, .inr (7, [.int (nI pz), .ref (oq 2), .ref (oq 3), .ref (oq 4)])), (oq 2, .inl (cI, 600, .inl fK)), (oq 3, .inl (cI, 600, .inl fN)), (oq 4, .inl (cI, 600, .inl fL)), (oq 5, .inr (8, [tx, .int zl, .int ta, .int be, .int ki, .int nu, .int wo]))]) hD hS hA [0, 1, 2, 3, 4, 5, 6, 7] rfl
    refine va_callv (va_runV (As := [.int 4]) (rest := []) ⟨hx, hb, hml, hown, hts⟩ (k_aEnd l D _ oq cI qf qp qd 0 4 ta qh qr qn bk wz fO fW pz fK fN fL tx zl ta be ki nu wo 4 kc num sg hz hkc hnu (⟨hM.1, fun q => absurd q (by omega), hM.2.2⟩) (by omega) hpk hst (by omega)) (cwV 1 hts g_k_aStat_k_aEnd_106 rfl rfl rfl (by decide +kernel) ⟨(Nat.le_of_ble_eq_true rfl), (Nat.le_of_ble_eq_true rfl)⟩) (PcWC_V (q0 := 0) hPc hKc hDc hN rfl rfl) rfl rfl hl.1 rfl (lv_room (Nat.le_of_ble_eq_true rfl)) dX6_acceptStatement_96 ⟨(Nat.le_of_ble_eq_true rfl), (Nat.le_of_ble_eq_true rfl)⟩) hS (fun q _ h => hFc q h) hFc (fun uu tt H locs htt hvm hw hB hz1 hk1 hS => ?_)
    obtain ⟨w4, w5, w6, w7, w8, w9, w10, w11, w12, w13, w14, w15, w16, w17, w18, w19, w20⟩ := uu
    obtain ⟨hP1, hK1, hD1⟩ := hB
    rw [htt] at hP1
    have hK1 := va_K.moved hvm.symm hK1
    have hP1 : va_P D vwCl [(oq 0, .inr (6, gPs oq w4 w5 w6 w7 w8 w9 w10 w11 w12 (nI w13) (nI w14))), (oq 6, .inl (cI, 5, .inl w15)), (oq 7, .inl (cI, 600, .inl w16)), (oq 1, .inr (7, [.int (nI w17), .ref (oq 2), .ref (oq 3), .ref (oq 4)])), (oq 2, .inl (cI, 600, .inl w18)), (oq 3, .inl (cI, 600, .inl w19)), (oq 4, .inl (cI, 600, .inl w20)), (oq 5, .inr (8, [tx, .int zl, .int ta, .int be, .int ki, .int nu, .int wo]))] H := hP1
    obtain ⟨hP, hD⟩ := va_join (wr := []) (w1 := [(oq 0, .inr (6, gPs oq w4 w5 w6 w7 w8 w9 w10 w11 w12 (nI w13) (nI w14))), (oq 6, .inl (cI, 5, .inl w15)), (oq 7, .inl (cI, 600, .inl w16)), (oq 1, .inr (7, [.int (nI w17), .ref (oq 2), .ref (oq 3), .ref (oq 4)])), (oq 2, .inl (cI, 600, .inl w18)), (oq 3, .inl (cI, 600, .inl w19)), (oq 4, .inl (cI, 600, .inl w20)), (oq 5, .inr (8, [tx, .int zl, .int ta, .int be, .int ki, .int nu, .int wo]))]) hP hD [0, 1, 2, 3, 4, 5, 6, 7] [] rfl rfl (by decide) (by decide) hk1 hFc hP1 hD1
    have hP : va_P D vwCl [(oq 0, .inr (6, gPs oq w4 w5 w6 w7 w8 w9 w10 w11 w12 (nI w13) (nI w14))), (oq 6, .inl (cI, 5, .inl w15)), (oq 7, .inl (cI, 600, .inl w16)), (oq 1, .inr (7, [.int (nI w17), .ref (oq 2), .ref (oq 3), .ref (oq 4)])), (oq 2, .inl (cI, 600, .inl w18)), (oq 3, .inl (cI, 600, .inl w19)), (oq 4, .inl (cI, 600, .inl w20)), (oq 5, .inr (8, [tx, .int zl, .int ta, .int be, .int ki, .int nu, .int wo]))] H := hP
    have hD : va_D A [(oq 0, .inr (6, gPs oq w4 w5 w6 w7 w8 w9 w10 w11 w12 (nI w13) (nI w14))), (oq 6, .inl (cI, 5, .inl w15)), (oq 7, .inl (cI, 600, .inl w16)), (oq 1, .inr (7, [.int (nI w17), .ref (oq 2), .ref (oq 3), .ref (oq 4)])), (oq 2, .inl (cI, 600, .inl w18)), (oq 3, .inl (cI, 600, .inl w19)), (oq 4, .inl (cI, 600, .inl w20)), (oq 5, .inr (8, [tx, .int zl, .int ta, .int be, .int ki, .int nu, .int wo]))] := hD
    try dsimp only at hw
    clear hz1 hk1 hFc hPc hKc hDc
    have hac21 := hw
    exact W.vret hx hb hr (fun t ht hW => ⟨⟨(w4, w5, w6, w7, w8, w9, w10, w11, w12, w13, w14, w15, w16, w17, w18, w19, w20), rfl, (by (try dsimp only); first | done | exact hac21), by rw [ht]; exact hP.sub [0, 1, 2, 3, 4, 5, 6, 7] rfl, va_K.moved hW.alike (hK.sub [0] rfl), hD.sub [0, 1, 2, 3, 4, 5, 6, 7] (by decide) rfl⟩, hS.F ht⟩) hS.2.2 dX6_acceptStatement_99
  by_cases hs22 : z1 = 5
  ·
    subst hs22
    refine lv_tableIn (off := 43) (tgt := 60) hx hb dX6_acceptStatement_17 (by decide) (by decide) (by decide +kernel) (by decide) ?_
    refine lv_aload_n hx hb dX6_acceptStatement_60 rfl (lv_at hl 0 rfl) ?_
    refine lv_iconst (v := 1) hx hb dX6_acceptStatement_61 (by decide) ?_
    refine va_put (D := D) (ci := 6) (v := .int 1) (ty := .int) (C := RX6) (T := TX6) (N := 15) hx hb hts hin_X6 tyX6 tyX6_ok nmX6 hown hK hP hD hS 0 rfl rfl 5 (by decide) (hts (.fieldLink RX6 39 "ClashFree$Parser" "state" "I") (List.mem_of_getElem? (i := 5) rfl)) (fun _ h9 => h9) rfl (by decide +kernel) rfl rfl (Nat.le_of_ble_eq_true rfl) dX6_acceptStatement_62 (fun H locs hP hD hS => ?_)
    have hP : va_P D vwCl [(oq 0, .inr (6, gPs oq qf qp qd 1 5 ta qh qr qn (nI bk) (nI wz))), (oq 6, .inl (cI, 5, .inl fO)), (oq 7, .inl (cI, 600, .inl fW)), (oq 1, .inr (7, [.int (nI pz), .ref (oq 2), .ref (oq 3), .ref (oq 4)])), (oq 2, .inl (cI, 600, .inl fK)), (oq 3, .inl (cI, 600, .inl fN)), (oq 4, .inl (cI, 600, .inl fL)), (oq 5, .inr (8, [tx, .int zl, .int ta, .int be, .int ki, .int nu, .int wo]))] H := hP
    have hD : va_D A [(oq 0, .inr (6, gPs oq qf qp qd 1 5 ta qh qr qn (nI bk) (nI wz))), (oq 6, .inl (cI, 5, .inl fO)), (oq 7, .inl (cI, 600, .inl fW)), (oq 1, .inr (7, [.int (nI pz), .ref (oq 2), .ref (oq 3), .ref (oq 4)])), (oq 2, .inl (cI, 600, .inl fK)), (oq 3, .inl (cI, 600, .inl fN)), (oq 4, .inl (cI, 600, .inl fL)), (oq 5, .inr (8, [tx, .int zl, .int ta, .int be, .int ki, .int nu, .int wo]))] := hD
    refine lv_goto (tgt := 99) hx hb dX6_acceptStatement_65 (by decide) ?_
    obtain rfl : kc = 5 := (nI_eq (b := 5) (by omega) (by decide)).mp hz.symm
    exact W.vret hx hb hr (fun t ht hW => ⟨⟨(qf, qp, qd, 1, 5, ta, qh, qr, qn, bk, wz, fO, fW, pz, fK, fN, fL), rfl, (by (try dsimp only); first | done | exact ⟨acc_ok (hM.nst (st := 1) (tt := 5) (rr := sg.2.2.1) (by decide) (fun _ => ⟨rfl, by decide⟩) (fun q => absurd q (by decide))) (fun _ => st0_w hst (by decide)) (fun hd => absurd hd (nDoom (Or.inr (Or.inl hst)))) (fun q => absurd q (by decide)), by omega⟩), by rw [ht]; exact hP.sub [0, 1, 2, 3, 4, 5, 6, 7] rfl, va_K.moved hW.alike (hK.sub [0] rfl), hD.sub [0, 1, 2, 3, 4, 5, 6, 7] (by decide) rfl⟩, hS.F ht⟩) hS.2.2 dX6_acceptStatement_99
  by_cases hs23 : z1 = 6
  ·
    subst hs23
    refine lv_tableIn (off := 43) (tgt := 60) hx hb dX6_acceptStatement_17 (by decide) (by decide) (by decide +kernel) (by decide) ?_
    refine lv_aload_n hx hb dX6_acceptStatement_60 rfl (lv_at hl 0 rfl) ?_
    refine lv_iconst (v := 1) hx hb dX6_acceptStatement_61 (by decide) ?_
    refine va_put (D := D) (ci := 6) (v := .int 1) (ty := .int) (C := RX6) (T := TX6) (N := 15) hx hb hts hin_X6 tyX6 tyX6_ok nmX6 hown hK hP hD hS 0 rfl rfl 5 (by decide) (hts (.fieldLink RX6 39 "ClashFree$Parser" "state" "I") (List.mem_of_getElem? (i := 5) rfl)) (fun _ h9 => h9) rfl (by decide +kernel) rfl rfl (Nat.le_of_ble_eq_true rfl) dX6_acceptStatement_62 (fun H locs hP hD hS => ?_)
    have hP : va_P D vwCl [(oq 0, .inr (6, gPs oq qf qp qd 1 6 ta qh qr qn (nI bk) (nI wz))), (oq 6, .inl (cI, 5, .inl fO)), (oq 7, .inl (cI, 600, .inl fW)), (oq 1, .inr (7, [.int (nI pz), .ref (oq 2), .ref (oq 3), .ref (oq 4)])), (oq 2, .inl (cI, 600, .inl fK)), (oq 3, .inl (cI, 600, .inl fN)), (oq 4, .inl (cI, 600, .inl fL)), (oq 5, .inr (8, [tx, .int zl, .int ta, .int be, .int ki, .int nu, .int wo]))] H := hP
    have hD : va_D A [(oq 0, .inr (6, gPs oq qf qp qd 1 6 ta qh qr qn (nI bk) (nI wz))), (oq 6, .inl (cI, 5, .inl fO)), (oq 7, .inl (cI, 600, .inl fW)), (oq 1, .inr (7, [.int (nI pz), .ref (oq 2), .ref (oq 3), .ref (oq 4)])), (oq 2, .inl (cI, 600, .inl fK)), (oq 3, .inl (cI, 600, .inl fN)), (oq 4, .inl (cI, 600, .inl fL)), (oq 5, .inr (8, [tx, .int zl, .int ta, .int be, .int ki, .int nu, .int wo]))] := hD
    refine lv_goto (tgt := 99) hx hb dX6_acceptStatement_65 (by decide) ?_
    obtain rfl : kc = 6 := (nI_eq (b := 6) (by omega) (by decide)).mp hz.symm
    exact W.vret hx hb hr (fun t ht hW => ⟨⟨(qf, qp, qd, 1, 6, ta, qh, qr, qn, bk, wz, fO, fW, pz, fK, fN, fL), rfl, (by (try dsimp only); first | done | exact ⟨acc_ok (hM.nst (st := 1) (tt := 6) (rr := sg.2.2.1) (by decide) (fun _ => ⟨rfl, by decide⟩) (fun q => absurd q (by decide))) (fun _ => st0_w hst (by decide)) (fun hd => absurd hd (nDoom (Or.inr (Or.inl hst)))) (fun q => absurd q (by decide)), by omega⟩), by rw [ht]; exact hP.sub [0, 1, 2, 3, 4, 5, 6, 7] rfl, va_K.moved hW.alike (hK.sub [0] rfl), hD.sub [0, 1, 2, 3, 4, 5, 6, 7] (by decide) rfl⟩, hS.F ht⟩) hS.2.2 dX6_acceptStatement_99
  by_cases hs24 : z1 = 7
  ·
    subst hs24
    refine lv_tableIn (off := 43) (tgt := 60) hx hb dX6_acceptStatement_17 (by decide) (by decide) (by decide +kernel) (by decide) ?_
    refine lv_aload_n hx hb dX6_acceptStatement_60 rfl (lv_at hl 0 rfl) ?_
    refine lv_iconst (v := 1) hx hb dX6_acceptStatement_61 (by decide) ?_
    refine va_put (D := D) (ci := 6) (v := .int 1) (ty := .int) (C := RX6) (T := TX6) (N := 15) hx hb hts hin_X6 tyX6 tyX6_ok nmX6 hown hK hP hD hS 0 rfl rfl 5 (by decide) (hts (.fieldLink RX6 39 "ClashFree$Parser" "state" "I") (List.mem_of_getElem? (i := 5) rfl)) (fun _ h9 => h9) rfl (by decide +kernel) rfl rfl (Nat.le_of_ble_eq_true rfl) dX6_acceptStatement_62 (fun H locs hP hD hS => ?_)
    have hP : va_P D vwCl [(oq 0, .inr (6, gPs oq qf qp qd 1 7 ta qh qr qn (nI bk) (nI wz))), (oq 6, .inl (cI, 5, .inl fO)), (oq 7, .inl (cI, 600, .inl fW)), (oq 1, .inr (7, [.int (nI pz), .ref (oq 2), .ref (oq 3), .ref (oq 4)])), (oq 2, .inl (cI, 600, .inl fK)), (oq 3, .inl (cI, 600, .inl fN)), (oq 4, .inl (cI, 600, .inl fL)), (oq 5, .inr (8, [tx, .int zl, .int ta, .int be, .int ki, .int nu, .int wo]))] H := hP
    have hD : va_D A [(oq 0, .inr (6, gPs oq qf qp qd 1 7 ta qh qr qn (nI bk) (nI wz))), (oq 6, .inl (cI, 5, .inl fO)), (oq 7, .inl (cI, 600, .inl fW)), (oq 1, .inr (7, [.int (nI pz), .ref (oq 2), .ref (oq 3), .ref (oq 4)])), (oq 2, .inl (cI, 600, .inl fK)), (oq 3, .inl (cI, 600, .inl fN)), (oq 4, .inl (cI, 600, .inl fL)), (oq 5, .inr (8, [tx, .int zl, .int ta, .int be, .int ki, .int nu, .int wo]))] := hD
    refine lv_goto (tgt := 99) hx hb dX6_acceptStatement_65 (by decide) ?_
    obtain rfl : kc = 7 := (nI_eq (b := 7) (by omega) (by decide)).mp hz.symm
    exact W.vret hx hb hr (fun t ht hW => ⟨⟨(qf, qp, qd, 1, 7, ta, qh, qr, qn, bk, wz, fO, fW, pz, fK, fN, fL), rfl, (by (try dsimp only); first | done | exact ⟨acc_ok (hM.nst (st := 1) (tt := 7) (rr := sg.2.2.1) (by decide) (fun _ => ⟨rfl, by decide⟩) (fun q => absurd q (by decide))) (fun _ => st0_w hst (by decide)) (fun hd => absurd hd (nDoom (Or.inr (Or.inl hst)))) (fun q => absurd q (by decide)), by omega⟩), by rw [ht]; exact hP.sub [0, 1, 2, 3, 4, 5, 6, 7] rfl, va_K.moved hW.alike (hK.sub [0] rfl), hD.sub [0, 1, 2, 3, 4, 5, 6, 7] (by decide) rfl⟩, hS.F ht⟩) hS.2.2 dX6_acceptStatement_99
  by_cases hs25 : z1 = 8
  ·
    subst hs25
    refine lv_tableIn (off := 64) (tgt := 81) hx hb dX6_acceptStatement_17 (by decide) (by decide) (by decide +kernel) (by decide) ?_
    refine lv_aload_n hx hb dX6_acceptStatement_81 rfl (lv_at hl 0 rfl) ?_
    refine lv_iconst (v := 1) hx hb dX6_acceptStatement_82 (by decide) ?_
    refine va_put (D := D) (ci := 6) (v := .int 1) (ty := .boolean) (C := RX6) (T := TX6) (N := 15) hx hb hts hin_X6 tyX6 tyX6_ok nmX6 hown hK hP hD hS 0 rfl rfl 8 (by decide) (hts (.fieldLink RX6 42 "ClashFree$Parser" "heading" "Z") (List.mem_of_getElem? (i := 10) rfl)) (fun _ h9 => h9) rfl (by decide +kernel) rfl rfl (Nat.le_of_ble_eq_true rfl) dX6_acceptStatement_83 (fun H locs hP hD hS => ?_)
    have hP : va_P D vwCl [(oq 0, .inr (6, gPs oq qf qp qd 0 8 ta 1 qr qn (nI bk) (nI wz))), (oq 6, .inl (cI, 5, .inl fO)), (oq 7, .inl (cI, 600, .inl fW)), (oq 1, .inr (7, [.int (nI pz), .ref (oq 2), .ref (oq 3), .ref (oq 4)])), (oq 2, .inl (cI, 600, .inl fK)), (oq 3, .inl (cI, 600, .inl fN)), (oq 4, .inl (cI, 600, .inl fL)), (oq 5, .inr (8, [tx, .int zl, .int ta, .int be, .int ki, .int nu, .int wo]))] H := hP
    have hD : va_D A [(oq 0, .inr (6, gPs oq qf qp qd 0 8 ta 1 qr qn (nI bk) (nI wz))), (oq 6, .inl (cI, 5, .inl fO)), (oq 7, .inl (cI, 600, .inl fW)), (oq 1, .inr (7, [.int (nI pz), .ref (oq 2), .ref (oq 3), .ref (oq 4)])), (oq 2, .inl (cI, 600, .inl fK)), (oq 3, .inl (cI, 600, .inl fN)), (oq 4, .inl (cI, 600, .inl fL)), (oq 5, .inr (8, [tx, .int zl, .int ta, .int be, .int ki, .int nu, .int wo]))] := hD
    refine lv_aload_n hx hb dX6_acceptStatement_86 rfl (lv_at hl 0 rfl) ?_
    refine lv_iconst (v := 3) hx hb dX6_acceptStatement_87 (by decide) ?_
    refine va_put (D := D) (ci := 6) (v := .int 3) (ty := .int) (C := RX6) (T := TX6) (N := 15) hx hb hts hin_X6 tyX6 tyX6_ok nmX6 hown hK hP hD hS 0 rfl rfl 5 (by decide) (hts (.fieldLink RX6 39 "ClashFree$Parser" "state" "I") (List.mem_of_getElem? (i := 5) rfl)) (fun _ h9 => h9) rfl (by decide +kernel) rfl rfl (Nat.le_of_ble_eq_true rfl) dX6_acceptStatement_88 (fun H locs hP hD hS => ?_)
    have hP : va_P D vwCl [(oq 0, .inr (6, gPs oq qf qp qd 3 8 ta 1 qr qn (nI bk) (nI wz))), (oq 6, .inl (cI, 5, .inl fO)), (oq 7, .inl (cI, 600, .inl fW)), (oq 1, .inr (7, [.int (nI pz), .ref (oq 2), .ref (oq 3), .ref (oq 4)])), (oq 2, .inl (cI, 600, .inl fK)), (oq 3, .inl (cI, 600, .inl fN)), (oq 4, .inl (cI, 600, .inl fL)), (oq 5, .inr (8, [tx, .int zl, .int ta, .int be, .int ki, .int nu, .int wo]))] H := hP
    have hD : va_D A [(oq 0, .inr (6, gPs oq qf qp qd 3 8 ta 1 qr qn (nI bk) (nI wz))), (oq 6, .inl (cI, 5, .inl fO)), (oq 7, .inl (cI, 600, .inl fW)), (oq 1, .inr (7, [.int (nI pz), .ref (oq 2), .ref (oq 3), .ref (oq 4)])), (oq 2, .inl (cI, 600, .inl fK)), (oq 3, .inl (cI, 600, .inl fN)), (oq 4, .inl (cI, 600, .inl fL)), (oq 5, .inr (8, [tx, .int zl, .int ta, .int be, .int ki, .int nu, .int wo]))] := hD
    refine lv_goto (tgt := 99) hx hb dX6_acceptStatement_91 (by decide) ?_
    obtain rfl : kc = 8 := (nI_eq (b := 8) (by omega) (by decide)).mp hz.symm
    exact W.vret hx hb hr (fun t ht hW => ⟨⟨(qf, qp, qd, 3, 8, ta, 1, qr, qn, bk, wz, fO, fW, pz, fK, fN, fL), rfl, (by (try dsimp only); first | done | exact ⟨(Decidable.em (bk = 5)).elim (fun h5 => acc_doom (hM.nst (st := 3) (tt := 8) (rr := sg.2.2.1) (by decide) (fun _ => ⟨rfl, by decide⟩) (fun q => absurd q (by decide))) ((st0_8 hst).trans (if_pos (by omega))) ⟨by show sg.2.2.2.2.1 = 5; omega, Or.inl rfl⟩ (by decide)) (fun h5 => acc_ok (hM.nst (st := 3) (tt := 8) (rr := sg.2.2.1) (by decide) (fun _ => ⟨rfl, by decide⟩) (fun q => absurd q (by decide))) (fun _ => (st0_8 hst).trans (if_neg (by omega))) (fun hd => absurd hd (nDoom (Or.inr (Or.inl hst)))) (fun q => absurd q (by decide))), by omega⟩), by rw [ht]; exact hP.sub [0, 1, 2, 3, 4, 5, 6, 7] rfl, va_K.moved hW.alike (hK.sub [0] rfl), hD.sub [0, 1, 2, 3, 4, 5, 6, 7] (by decide) rfl⟩, hS.F ht⟩) hS.2.2 dX6_acceptStatement_99
  by_cases hs26 : z1 = 9
  ·
    subst hs26
    refine lv_tableIn (off := 51) (tgt := 68) hx hb dX6_acceptStatement_17 (by decide) (by decide) (by decide +kernel) (by decide) ?_
    refine lv_aload_n hx hb dX6_acceptStatement_68 rfl (lv_at hl 0 rfl) ?_
    refine lv_iconst (v := 1) hx hb dX6_acceptStatement_69 (by decide) ?_
    refine va_put (D := D) (ci := 6) (v := .int 1) (ty := .boolean) (C := RX6) (T := TX6) (N := 15) hx hb hts hin_X6 tyX6 tyX6_ok nmX6 hown hK hP hD hS 0 rfl rfl 8 (by decide) (hts (.fieldLink RX6 42 "ClashFree$Parser" "heading" "Z") (List.mem_of_getElem? (i := 10) rfl)) (fun _ h9 => h9) rfl (by decide +kernel) rfl rfl (Nat.le_of_ble_eq_true rfl) dX6_acceptStatement_70 (fun H locs hP hD hS => ?_)
    have hP : va_P D vwCl [(oq 0, .inr (6, gPs oq qf qp qd 0 9 ta 1 qr qn (nI bk) (nI wz))), (oq 6, .inl (cI, 5, .inl fO)), (oq 7, .inl (cI, 600, .inl fW)), (oq 1, .inr (7, [.int (nI pz), .ref (oq 2), .ref (oq 3), .ref (oq 4)])), (oq 2, .inl (cI, 600, .inl fK)), (oq 3, .inl (cI, 600, .inl fN)), (oq 4, .inl (cI, 600, .inl fL)), (oq 5, .inr (8, [tx, .int zl, .int ta, .int be, .int ki, .int nu, .int wo]))] H := hP
    have hD : va_D A [(oq 0, .inr (6, gPs oq qf qp qd 0 9 ta 1 qr qn (nI bk) (nI wz))), (oq 6, .inl (cI, 5, .inl fO)), (oq 7, .inl (cI, 600, .inl fW)), (oq 1, .inr (7, [.int (nI pz), .ref (oq 2), .ref (oq 3), .ref (oq 4)])), (oq 2, .inl (cI, 600, .inl fK)), (oq 3, .inl (cI, 600, .inl fN)), (oq 4, .inl (cI, 600, .inl fL)), (oq 5, .inr (8, [tx, .int zl, .int ta, .int be, .int ki, .int nu, .int wo]))] := hD
    refine lv_aload_n hx hb dX6_acceptStatement_73 rfl (lv_at hl 0 rfl) ?_
    refine lv_iconst (v := 1) hx hb dX6_acceptStatement_74 (by decide) ?_
    refine va_put (D := D) (ci := 6) (v := .int 1) (ty := .int) (C := RX6) (T := TX6) (N := 15) hx hb hts hin_X6 tyX6 tyX6_ok nmX6 hown hK hP hD hS 0 rfl rfl 5 (by decide) (hts (.fieldLink RX6 39 "ClashFree$Parser" "state" "I") (List.mem_of_getElem? (i := 5) rfl)) (fun _ h9 => h9) rfl (by decide +kernel) rfl rfl (Nat.le_of_ble_eq_true rfl) dX6_acceptStatement_75 (fun H locs hP hD hS => ?_)
    have hP : va_P D vwCl [(oq 0, .inr (6, gPs oq qf qp qd 1 9 ta 1 qr qn (nI bk) (nI wz))), (oq 6, .inl (cI, 5, .inl fO)), (oq 7, .inl (cI, 600, .inl fW)), (oq 1, .inr (7, [.int (nI pz), .ref (oq 2), .ref (oq 3), .ref (oq 4)])), (oq 2, .inl (cI, 600, .inl fK)), (oq 3, .inl (cI, 600, .inl fN)), (oq 4, .inl (cI, 600, .inl fL)), (oq 5, .inr (8, [tx, .int zl, .int ta, .int be, .int ki, .int nu, .int wo]))] H := hP
    have hD : va_D A [(oq 0, .inr (6, gPs oq qf qp qd 1 9 ta 1 qr qn (nI bk) (nI wz))), (oq 6, .inl (cI, 5, .inl fO)), (oq 7, .inl (cI, 600, .inl fW)), (oq 1, .inr (7, [.int (nI pz), .ref (oq 2), .ref (oq 3), .ref (oq 4)])), (oq 2, .inl (cI, 600, .inl fK)), (oq 3, .inl (cI, 600, .inl fN)), (oq 4, .inl (cI, 600, .inl fL)), (oq 5, .inr (8, [tx, .int zl, .int ta, .int be, .int ki, .int nu, .int wo]))] := hD
    refine lv_goto (tgt := 99) hx hb dX6_acceptStatement_78 (by decide) ?_
    obtain rfl : kc = 9 := (nI_eq (b := 9) (by omega) (by decide)).mp hz.symm
    exact W.vret hx hb hr (fun t ht hW => ⟨⟨(qf, qp, qd, 1, 9, ta, 1, qr, qn, bk, wz, fO, fW, pz, fK, fN, fL), rfl, (by (try dsimp only); first | done | exact ⟨(Decidable.em (bk = 5)).elim (fun h5 => acc_doom (hM.nst (st := 1) (tt := 9) (rr := sg.2.2.1) (by decide) (fun _ => ⟨rfl, by decide⟩) (fun q => absurd q (by decide))) ((st0_9 hst).trans (if_pos (by omega))) ⟨by show sg.2.2.2.2.1 = 5; omega, Or.inr (Or.inr ⟨Or.inl rfl, rfl⟩)⟩ (by decide)) (fun h5 => acc_ok (hM.nst (st := 1) (tt := 9) (rr := sg.2.2.1) (by decide) (fun _ => ⟨rfl, by decide⟩) (fun q => absurd q (by decide))) (fun _ => (st0_9 hst).trans (if_neg (by omega))) (fun hd => absurd hd (nDoom (Or.inr (Or.inl hst)))) (fun q => absurd q (by decide))), by omega⟩), by rw [ht]; exact hP.sub [0, 1, 2, 3, 4, 5, 6, 7] rfl, va_K.moved hW.alike (hK.sub [0] rfl), hD.sub [0, 1, 2, 3, 4, 5, 6, 7] (by decide) rfl⟩, hS.F ht⟩) hS.2.2 dX6_acceptStatement_99
  refine lv_tableOut (tgt := 94) hx hb dX6_acceptStatement_17 (by have a0 := sw_ne (n := 3) hs1 (by decide) (by decide); have a1 := sw_ne (n := 4) hs2 (by decide) (by decide); have a2 := sw_ne (n := 5) hs22 (by decide) (by decide); have a3 := sw_ne (n := 6) hs23 (by decide) (by decide); have a4 := sw_ne (n := 7) hs24 (by decide) (by decide); have a5 := sw_ne (n := 8) hs25 (by decide) (by decide); have a6 := sw_ne (n := 9) hs26 (by decide) (by decide); omega) (by decide) ?_
  refine lv_aload_n hx hb dX6_acceptStatement_94 rfl (lv_at hl 0 rfl) ?_
  refine lv_iload_n hx hb dX6_acceptStatement_95 rfl (lv_at hl 1 rfl) ?_
  have hPc := hP.sub (ws' := [(oq 0, .inr (6, gPs oq qf qp qd 0 z1 ta qh qr qn (nI bk) (nI wz))), (oq 6, .inl (cI, 5, .inl fO)), (oq 7, .inl (cI, 600, .inl fW)), (oq 1, .inr (7, [.int (nI pz), .ref (oq 2), .ref (oq 3), .ref (oq 4)])), (oq 2, .inl (cI, 600, .inl fK)), (oq 3, .inl (cI, 600, .inl fN)), (oq 4, .inl (cI, 600, .inl fL)), (oq 5, .inr (8, [tx, .int zl, .int ta, .int be, .int ki, .int nu, .int wo]))]) [0, 1, 2, 3, 4, 5, 6, 7] rfl
  have hKc := hK.sub (tys' := [(cI, .int)]) [0] rfl
  have hDc := hD.sub (ws' := [(oq 0, .inr (6, gPs oq qf qp qd 0 z1 ta qh qr qn (nI bk) (nI wz))), (oq 6, .inl (cI, 5, .inl fO)), (oq 7, .inl (cI, 600, .inl fW)), (oq 1, .inr (7, [.int (nI pz), .ref (oq 2), .ref (oq 3), .ref (oq 4)])), (oq 2, .inl (cI, 600, .inl fK)), (oq 3, .inl (cI, 600, .inl fN)), (oq 4, .inl (cI, 600, .inl fL)), (oq 5, .inr (8, [tx, .int zl, .int ta, .int be, .int ki, .int nu, .int wo]))]) [0, 1, 2, 3, 4, 5, 6, 7] (by decide) rfl
  have hFc := va_free (wc := [(oq 0, .inr (6, gPs oq qf qp qd 0 z1 ta qh qr qn (nI bk) (nI wz))), (oq 6, .inl (cI, 5, .inl fO)), (oq 7, .inl (cI, 600, .inl fW)), (oq 1, .inr (7, [.int (nI pz), .ref (oq 2), .ref (oq 3), .ref (oq 4)])), (oq 2, .inl (cI, 600, .inl fK)), (oq 3, .inl (cI, 600, .inl fN)), (oq 4, .inl (cI, 600, .inl fL)), (oq 5, .inr (8, [tx, .int zl, .int ta, .int be, .int ki, .int nu, .int wo]))]) hD hS hA [0, 1, 2, 3, 4, 5, 6, 7] rfl
  refine va_callv (va_runV (As := [.int z1]) (rest := []) ⟨hx, hb, hml, hown, hts⟩ (k_aEnd l D _ oq cI qf qp qd 0 z1 ta qh qr qn bk wz fO fW pz fK fN fL tx zl ta be ki nu wo z1 kc num sg hz hkc hnu (⟨hM.1, fun q => absurd q (by omega), hM.2.2⟩) (by omega) hpk hst (fun q => by rcases q with q | q | q | q | q | q <;> exact absurd (hz.trans (congrArg nI q)) (by assumption))) (cwV 1 hts g_k_aStat_k_aEnd_106 rfl rfl rfl (by decide +kernel) ⟨(Nat.le_of_ble_eq_true rfl), (Nat.le_of_ble_eq_true rfl)⟩) (PcWC_V (q0 := 0) hPc hKc hDc hN rfl rfl) rfl rfl hl.1 rfl (lv_room (Nat.le_of_ble_eq_true rfl)) dX6_acceptStatement_96 ⟨(Nat.le_of_ble_eq_true rfl), (Nat.le_of_ble_eq_true rfl)⟩) hS (fun q _ h => hFc q h) hFc (fun uu tt H locs htt hvm hw hB hz1 hk1 hS => ?_)
  obtain ⟨w28, w29, w30, w31, w32, w33, w34, w35, w36, w37, w38, w39, w40, w41, w42, w43, w44⟩ := uu
  obtain ⟨hP1, hK1, hD1⟩ := hB
  rw [htt] at hP1
  have hK1 := va_K.moved hvm.symm hK1
  have hP1 : va_P D vwCl [(oq 0, .inr (6, gPs oq w28 w29 w30 w31 w32 w33 w34 w35 w36 (nI w37) (nI w38))), (oq 6, .inl (cI, 5, .inl w39)), (oq 7, .inl (cI, 600, .inl w40)), (oq 1, .inr (7, [.int (nI w41), .ref (oq 2), .ref (oq 3), .ref (oq 4)])), (oq 2, .inl (cI, 600, .inl w42)), (oq 3, .inl (cI, 600, .inl w43)), (oq 4, .inl (cI, 600, .inl w44)), (oq 5, .inr (8, [tx, .int zl, .int ta, .int be, .int ki, .int nu, .int wo]))] H := hP1
  obtain ⟨hP, hD⟩ := va_join (wr := []) (w1 := [(oq 0, .inr (6, gPs oq w28 w29 w30 w31 w32 w33 w34 w35 w36 (nI w37) (nI w38))), (oq 6, .inl (cI, 5, .inl w39)), (oq 7, .inl (cI, 600, .inl w40)), (oq 1, .inr (7, [.int (nI w41), .ref (oq 2), .ref (oq 3), .ref (oq 4)])), (oq 2, .inl (cI, 600, .inl w42)), (oq 3, .inl (cI, 600, .inl w43)), (oq 4, .inl (cI, 600, .inl w44)), (oq 5, .inr (8, [tx, .int zl, .int ta, .int be, .int ki, .int nu, .int wo]))]) hP hD [0, 1, 2, 3, 4, 5, 6, 7] [] rfl rfl (by decide) (by decide) hk1 hFc hP1 hD1
  have hP : va_P D vwCl [(oq 0, .inr (6, gPs oq w28 w29 w30 w31 w32 w33 w34 w35 w36 (nI w37) (nI w38))), (oq 6, .inl (cI, 5, .inl w39)), (oq 7, .inl (cI, 600, .inl w40)), (oq 1, .inr (7, [.int (nI w41), .ref (oq 2), .ref (oq 3), .ref (oq 4)])), (oq 2, .inl (cI, 600, .inl w42)), (oq 3, .inl (cI, 600, .inl w43)), (oq 4, .inl (cI, 600, .inl w44)), (oq 5, .inr (8, [tx, .int zl, .int ta, .int be, .int ki, .int nu, .int wo]))] H := hP
  have hD : va_D A [(oq 0, .inr (6, gPs oq w28 w29 w30 w31 w32 w33 w34 w35 w36 (nI w37) (nI w38))), (oq 6, .inl (cI, 5, .inl w39)), (oq 7, .inl (cI, 600, .inl w40)), (oq 1, .inr (7, [.int (nI w41), .ref (oq 2), .ref (oq 3), .ref (oq 4)])), (oq 2, .inl (cI, 600, .inl w42)), (oq 3, .inl (cI, 600, .inl w43)), (oq 4, .inl (cI, 600, .inl w44)), (oq 5, .inr (8, [tx, .int zl, .int ta, .int be, .int ki, .int nu, .int wo]))] := hD
  try dsimp only at hw
  clear hz1 hk1 hFc hPc hKc hDc
  have hac45 := hw
  exact W.vret hx hb hr (fun t ht hW => ⟨⟨(w28, w29, w30, w31, w32, w33, w34, w35, w36, w37, w38, w39, w40, w41, w42, w43, w44), rfl, (by (try dsimp only); first | done | exact hac45), by rw [ht]; exact hP.sub [0, 1, 2, 3, 4, 5, 6, 7] rfl, va_K.moved hW.alike (hK.sub [0] rfl), hD.sub [0, 1, 2, 3, 4, 5, 6, 7] (by decide) rfl⟩, hS.F ht⟩) hS.2.2 dX6_acceptStatement_99

def own_k_aUnit : List Cond := [.fieldLink RX6 12 "ClashFree$Parser" "program" "LClashFree$Program;", .fieldLink RX6 21 "ClashFree$Parser" "scan" "LClashFree$Scanner;", .fieldLink RX6 115 "ClashFree$Scanner" "number" "I", .methodLink RX6 118 yX7_add, .instanceMethod yX7_add, .selects RX7 yX7_add yX7_add, .initialized RX7, .fieldLink RX6 39 "ClashFree$Parser" "state" "I", .fieldLink RX6 46 "ClashFree$Parser" "parens" "I", .methodLink RX6 121 yX6_await, .instanceMethod yX6_await, .selects RX6 yX6_await yX6_await, .initialized RX6, .fieldLink RX6 79 "ClashFree$Scanner" "at" "I", .methodLink RX6 55 yX6_note, .instanceMethod yX6_note, .selects RX6 yX6_note yX6_note, .methodLink RX6 112 yX6_refuse, .instanceMethod yX6_refuse, .selects RX6 yX6_refuse yX6_refuse]
def wp_k_aUnit : List Cond := .code yX6_acceptUnit cX6_acceptUnit 2 none :: (own_k_aUnit ++ (wp_k_padd ++ (wp_k_await ++ (wp_k_note ++ (wp_k_refuse ++ (wsX60 ++ (wsX80 ++ ([] : List Cond))))))))
set_option maxRecDepth 20000 in
theorem inown_k_aUnit : ∀ w ∈ own_k_aUnit, w ∈ lw_tbl := mem_places [333, 335, 310, 1039, 1040, 1041, 112, 336, 341, 1051, 1053, 17, 111, 305, 915, 917, 4, 1043, 1045, 15] (by decide +kernel)
set_option maxRecDepth 20000 in
theorem in_k_aUnit : ∀ w ∈ wp_k_aUnit, w ∈ lw_tbl := List.forall_mem_cons.mpr ⟨List.mem_of_getElem? (i := 1050) (by decide +kernel), List.forall_mem_append.mpr ⟨inown_k_aUnit, List.forall_mem_append.mpr ⟨in_k_padd, List.forall_mem_append.mpr ⟨in_k_await, List.forall_mem_append.mpr ⟨in_k_note, List.forall_mem_append.mpr ⟨in_k_refuse, List.forall_mem_append.mpr ⟨lwb_X6, List.forall_mem_append.mpr ⟨lwb_X8, fun _ h => absurd h List.not_mem_nil⟩⟩⟩⟩⟩⟩⟩⟩
set_option maxRecDepth 20000 in
theorem good_k_aUnit : wp_k_aUnit.all goodWord = true := by decide +kernel
set_option maxRecDepth 20000 in
theorem g_k_aUnit_k_padd_118 : GoodIn wp_k_aUnit (wsV RX6 118 RX7 yX7_add wp_k_padd) := goodIn_sub (List.forall_mem_append.mpr ⟨List.forall_mem_cons.mpr ⟨(List.mem_of_getElem? (i := 4) rfl), List.forall_mem_cons.mpr ⟨(List.mem_of_getElem? (i := 5) rfl), List.forall_mem_cons.mpr ⟨(List.mem_of_getElem? (i := 6) rfl), List.forall_mem_cons.mpr ⟨(List.mem_of_getElem? (i := 7) rfl), fun _ h => absurd h List.not_mem_nil⟩⟩⟩⟩, (fun _ h => (List.mem_cons_of_mem _ (List.mem_append_right _ (List.mem_append_left _ h))))⟩) (by decide +kernel)
set_option maxRecDepth 20000 in
theorem g_k_aUnit_k_await_121 : GoodIn wp_k_aUnit (wsV RX6 121 RX6 yX6_await wp_k_await) := goodIn_sub (List.forall_mem_append.mpr ⟨List.forall_mem_cons.mpr ⟨(List.mem_of_getElem? (i := 10) rfl), List.forall_mem_cons.mpr ⟨(List.mem_of_getElem? (i := 11) rfl), List.forall_mem_cons.mpr ⟨(List.mem_of_getElem? (i := 12) rfl), List.forall_mem_cons.mpr ⟨(List.mem_of_getElem? (i := 13) rfl), fun _ h => absurd h List.not_mem_nil⟩⟩⟩⟩, (fun _ h => (List.mem_cons_of_mem _ (List.mem_append_right _ (List.mem_append_right _ (List.mem_append_left _ h)))))⟩) (by decide +kernel)
set_option maxRecDepth 20000 in
theorem g_k_aUnit_k_note_55 : GoodIn wp_k_aUnit (wsV RX6 55 RX6 yX6_note wp_k_note) := goodIn_sub (List.forall_mem_append.mpr ⟨List.forall_mem_cons.mpr ⟨(List.mem_of_getElem? (i := 15) rfl), List.forall_mem_cons.mpr ⟨(List.mem_of_getElem? (i := 16) rfl), List.forall_mem_cons.mpr ⟨(List.mem_of_getElem? (i := 17) rfl), List.forall_mem_cons.mpr ⟨(List.mem_of_getElem? (i := 13) rfl), fun _ h => absurd h List.not_mem_nil⟩⟩⟩⟩, (fun _ h => (List.mem_cons_of_mem _ (List.mem_append_right _ (List.mem_append_right _ (List.mem_append_right _ (List.mem_append_left _ h))))))⟩) (by decide +kernel)
set_option maxRecDepth 20000 in
theorem g_k_aUnit_k_refuse_112 : GoodIn wp_k_aUnit (wsV RX6 112 RX6 yX6_refuse wp_k_refuse) := goodIn_sub (List.forall_mem_append.mpr ⟨List.forall_mem_cons.mpr ⟨(List.mem_of_getElem? (i := 18) rfl), List.forall_mem_cons.mpr ⟨(List.mem_of_getElem? (i := 19) rfl), List.forall_mem_cons.mpr ⟨(List.mem_of_getElem? (i := 20) rfl), List.forall_mem_cons.mpr ⟨(List.mem_of_getElem? (i := 13) rfl), fun _ h => absurd h List.not_mem_nil⟩⟩⟩⟩, (fun _ h => (List.mem_cons_of_mem _ (List.mem_append_right _ (List.mem_append_right _ (List.mem_append_right _ (List.mem_append_right _ (List.mem_append_left _ h)))))))⟩) (by decide +kernel)
set_option maxHeartbeats 4000000 in
set_option maxRecDepth 100000 in
theorem k_aUnit (l : Launch) (D : va_G) (sz : Nat) (oq : Nat → Nat) (cI : ClassId) (qf : Int32) (qp : Int32) (qd : Int32) (qs : Int32) (qt : Int32) (qb : Int32) (qh : Int32) (qr : Int32) (qn : Int32) (bk : Nat) (wz : Nat) (fO : Nat → Int32) (fW : Nat → Int32) (pz : Nat) (fK : Nat → Int32) (fN : Nat → Int32) (fL : Nat → Int32) (tx : Value) (zl : Int32) (ta : Int32) (be : Int32) (ki : Int32) (nu : Int32) (wo : Int32) (z1 : Int32) (kc : Nat) (num : Nat) (sg : SM) (hz : z1 = nI kc) (hkc : kc ≤ 255) (hnu : kc = 2 → nu = nI num ∧ num ≤ 999999) (hM : MatS sg qs qt qr qn bk fO wz fW pz fK fN fL) (hpw : pz + wz ≤ 600) (hpk : kc = 0 ∨ pz + wz < 600) (hst : sg.1 = 1) : Met l yX6_acceptUnit wp_k_aUnit ({ frames := 2, cells := 0, slots := 0, locals := 42 }) (PcWC D [.ref (oq 0), .int z1] sz [(oq 0, .inr (6, gPs oq qf qp qd qs qt qb qh qr qn (nI bk) (nI wz))), (oq 6, .inl (cI, 5, .inl fO)), (oq 7, .inl (cI, 600, .inl fW)), (oq 1, .inr (7, [.int (nI pz), .ref (oq 2), .ref (oq 3), .ref (oq 4)])), (oq 2, .inl (cI, 600, .inl fK)), (oq 3, .inl (cI, 600, .inl fN)), (oq 4, .inl (cI, 600, .inl fL)), (oq 5, .inr (8, [tx, .int zl, .int ta, .int be, .int ki, .int nu, .int wo]))] [(cI, .int)]) (va_Qv (fun (u : (Int32) × (Int32) × (Int32) × (Int32) × (Int32) × (Int32) × (Int32) × (Int32) × (Int32) × (Nat) × (Nat) × (Nat → Int32) × (Nat → Int32) × (Nat) × (Nat → Int32) × (Nat → Int32) × (Nat → Int32)) => AccP sg kc num qf u.1 (fun t => MatS t u.2.2.2.1 u.2.2.2.2.1 u.2.2.2.2.2.2.2.1 u.2.2.2.2.2.2.2.2.1 u.2.2.2.2.2.2.2.2.2.1 u.2.2.2.2.2.2.2.2.2.2.2.1 u.2.2.2.2.2.2.2.2.2.2.1 u.2.2.2.2.2.2.2.2.2.2.2.2.1 u.2.2.2.2.2.2.2.2.2.2.2.2.2.1 u.2.2.2.2.2.2.2.2.2.2.2.2.2.2.1 u.2.2.2.2.2.2.2.2.2.2.2.2.2.2.2.1 u.2.2.2.2.2.2.2.2.2.2.2.2.2.2.2.2) ∧ (u.2.2.2.2.2.2.2.2.2.2.2.2.2.1 + u.2.2.2.2.2.2.2.2.2.2.1 ≤ pz + wz ∨ (¬ kc = 0 ∧ u.2.2.2.2.2.2.2.2.2.2.2.2.2.1 + u.2.2.2.2.2.2.2.2.2.2.1 ≤ pz + wz + 1))) (fun (u : (Int32) × (Int32) × (Int32) × (Int32) × (Int32) × (Int32) × (Int32) × (Int32) × (Int32) × (Nat) × (Nat) × (Nat → Int32) × (Nat → Int32) × (Nat) × (Nat → Int32) × (Nat → Int32) × (Nat → Int32)) t => va_P D vwCl [(oq 0, .inr (6, gPs oq u.1 u.2.1 u.2.2.1 u.2.2.2.1 u.2.2.2.2.1 u.2.2.2.2.2.1 u.2.2.2.2.2.2.1 u.2.2.2.2.2.2.2.1 u.2.2.2.2.2.2.2.2.1 (nI u.2.2.2.2.2.2.2.2.2.1) (nI u.2.2.2.2.2.2.2.2.2.2.1))), (oq 6, .inl (cI, 5, .inl u.2.2.2.2.2.2.2.2.2.2.2.1)), (oq 7, .inl (cI, 600, .inl u.2.2.2.2.2.2.2.2.2.2.2.2.1)), (oq 1, .inr (7, [.int (nI u.2.2.2.2.2.2.2.2.2.2.2.2.2.1), .ref (oq 2), .ref (oq 3), .ref (oq 4)])), (oq 2, .inl (cI, 600, .inl u.2.2.2.2.2.2.2.2.2.2.2.2.2.2.1)), (oq 3, .inl (cI, 600, .inl u.2.2.2.2.2.2.2.2.2.2.2.2.2.2.2.1)), (oq 4, .inl (cI, 600, .inl u.2.2.2.2.2.2.2.2.2.2.2.2.2.2.2.2)), (oq 5, .inr (8, [tx, .int zl, .int ta, .int be, .int ki, .int nu, .int wo]))] t.heap ∧ va_K D vwCl [(cI, .int)] t ∧ va_D (va_A [(oq 0, .inr (6, gPs oq qf qp qd qs qt qb qh qr qn (nI bk) (nI wz))), (oq 6, .inl (cI, 5, .inl fO)), (oq 7, .inl (cI, 600, .inl fW)), (oq 1, .inr (7, [.int (nI pz), .ref (oq 2), .ref (oq 3), .ref (oq 4)])), (oq 2, .inl (cI, 600, .inl fK)), (oq 3, .inl (cI, 600, .inl fN)), (oq 4, .inl (cI, 600, .inl fL)), (oq 5, .inr (8, [tx, .int zl, .int ta, .int be, .int ki, .int nu, .int wo]))] sz) [(oq 0, .inr (6, gPs oq u.1 u.2.1 u.2.2.1 u.2.2.2.1 u.2.2.2.2.1 u.2.2.2.2.2.1 u.2.2.2.2.2.2.1 u.2.2.2.2.2.2.2.1 u.2.2.2.2.2.2.2.2.1 (nI u.2.2.2.2.2.2.2.2.2.1) (nI u.2.2.2.2.2.2.2.2.2.2.1))), (oq 6, .inl (cI, 5, .inl u.2.2.2.2.2.2.2.2.2.2.2.1)), (oq 7, .inl (cI, 600, .inl u.2.2.2.2.2.2.2.2.2.2.2.2.1)), (oq 1, .inr (7, [.int (nI u.2.2.2.2.2.2.2.2.2.2.2.2.2.1), .ref (oq 2), .ref (oq 3), .ref (oq 4)])), (oq 2, .inl (cI, 600, .inl u.2.2.2.2.2.2.2.2.2.2.2.2.2.2.1)), (oq 3, .inl (cI, 600, .inl u.2.2.2.2.2.2.2.2.2.2.2.2.2.2.2.1)), (oq 4, .inl (cI, 600, .inl u.2.2.2.2.2.2.2.2.2.2.2.2.2.2.2.2)), (oq 5, .inr (8, [tx, .int zl, .int ta, .int be, .int ki, .int nu, .int wo]))]) (va_A [(oq 0, .inr (6, gPs oq qf qp qd qs qt qb qh qr qn (nI bk) (nI wz))), (oq 6, .inl (cI, 5, .inl fO)), (oq 7, .inl (cI, 600, .inl fW)), (oq 1, .inr (7, [.int (nI pz), .ref (oq 2), .ref (oq 3), .ref (oq 4)])), (oq 2, .inl (cI, 600, .inl fK)), (oq 3, .inl (cI, 600, .inl fN)), (oq 4, .inl (cI, 600, .inl fL)), (oq 5, .inr (8, [tx, .int zl, .int ta, .int be, .int ki, .int nu, .int wo]))] sz)) 0 0 (va_A [(oq 0, .inr (6, gPs oq qf qp qd qs qt qb qh qr qn (nI bk) (nI wz))), (oq 6, .inl (cI, 5, .inl fO)), (oq 7, .inl (cI, 600, .inl fW)), (oq 1, .inr (7, [.int (nI pz), .ref (oq 2), .ref (oq 3), .ref (oq 4)])), (oq 2, .inl (cI, 600, .inl fK)), (oq 3, .inl (cI, 600, .inl fN)), (oq 4, .inl (cI, 600, .inl fL)), (oq 5, .inr (8, [tx, .int zl, .int ta, .int be, .int ki, .int nu, .int wo]))] sz) := by
  refine Met.ofW (cc := cX6_acceptUnit) (maxL := 2) (ret := none) (by decide) rfl ?_
  intro p e s m args below meth c s₁ B hml hv
  obtain ⟨rfl, hsz, hP, hK, hD0, hN⟩ := hv
  have hx := B.exec
  have hb := B.bytes
  have hr := B.returns
  have hts := atoms_spec (ws := wp_k_aUnit) B.pre
  have hin_X6 : ∀ w ∈ wsX60, w ∈ wp_k_aUnit := fun _ h => (List.mem_cons_of_mem _ (List.mem_append_right _ (List.mem_append_right _ (List.mem_append_right _ (List.mem_append_right _ (List.mem_append_right _ (List.mem_append_left _ h)))))))
  have hin_X8 : ∀ w ∈ wsX80, w ∈ wp_k_aUnit := fun _ h => (List.mem_cons_of_mem _ (List.mem_append_right _ (List.mem_append_right _ (List.mem_append_right _ (List.mem_append_right _ (List.mem_append_right _ (List.mem_append_right _ (List.mem_append_left _ h))))))))
  have hown : s.vm.findClass RX6 = some m.cls := findClass_of_methodNamed B.named
  have hlocks := B.notSynchronized
  subst hsz
  have hD := hD0.self (sz := s.heap.size)
  generalize hAe : va_A [(oq 0, .inr (6, gPs oq qf qp qd qs qt qb qh qr qn (nI bk) (nI wz))), (oq 6, .inl (cI, 5, .inl fO)), (oq 7, .inl (cI, 600, .inl fW)), (oq 1, .inr (7, [.int (nI pz), .ref (oq 2), .ref (oq 3), .ref (oq 4)])), (oq 2, .inl (cI, 600, .inl fK)), (oq 3, .inl (cI, 600, .inl fN)), (oq 4, .inl (cI, 600, .inl fL)), (oq 5, .inr (8, [tx, .int zl, .int ta, .int be, .int ki, .int nu, .int wo]))] s.heap.size = A at hD ⊢
  have hA : ∀ q : Nat, s.heap.size ≤ q → A q := fun q h => by rw [← hAe]; exact Or.inr h
  have hS : va_S A s.heap s.heap [] := va_S.rf
  have hP : va_P D vwCl [(oq 0, .inr (6, gPs oq qf qp qd qs qt qb qh qr qn (nI bk) (nI wz))), (oq 6, .inl (cI, 5, .inl fO)), (oq 7, .inl (cI, 600, .inl fW)), (oq 1, .inr (7, [.int (nI pz), .ref (oq 2), .ref (oq 3), .ref (oq 4)])), (oq 2, .inl (cI, 600, .inl fK)), (oq 3, .inl (cI, 600, .inl fN)), (oq 4, .inl (cI, 600, .inl fL)), (oq 5, .inr (8, [tx, .int zl, .int ta, .int be, .int ki, .int nu, .int wo]))] s.heap := hP
  have hl := lv_entry ([.ref (oq 0), .int z1]) (n := 2) (Nat.le_of_ble_eq_true rfl)
  rw [lg_entry_eq]
  generalize (lg_sl ([.ref (oq 0), .int z1]) ++ List.replicate (2 - (lg_sl ([.ref (oq 0), .int z1])).length) Slot.unset).toArray = ls at hl ⊢
  have hl : lv_has ls 2 [(0, .ref (oq 0)), (1, .int z1)] := hl
  obtain rfl : qs = 1 := hM.1.1.trans (congrArg nI hst)
  have hMb := hM.2.2.2.2.1.1
  have hMb5 := hM.2.2.2.2.1.2.1
  have hMn := hM.2.2.2.1
  have hMw := hM.2.2.2.2.2.1.1
  have hMg := hM.2.2.2.2.2.2.1
  refine lv_iload_n hx hb dX6_acceptUnit_0 rfl (lv_at hl 1 rfl) ?_
  by_cases hs1 : z1 = 2
  ·
    subst hs1
    refine lv_lookup (off := 43) (tgt := 44) hx hb dX6_acceptUnit_1 (by decide +kernel) (by decide +kernel) (by decide) ?_
    obtain rfl : kc = 2 := (nI_eq (b := 2) (by omega) (by decide)).mp hz.symm
    refine lv_aload_n hx hb dX6_acceptUnit_44 rfl (lv_at hl 0 rfl) ?_
    refine va_get (D := D) (ci := 6) (v := .ref (oq 1)) (C := RX6) (T := TX6) (N := 15) hx hb hts hin_X6 hown hK hP 0 rfl rfl 3 (by decide) (hts (.fieldLink RX6 12 "ClashFree$Parser" "program" "LClashFree$Program;") (List.mem_of_getElem? (i := 1) rfl)) (fun _ h9 => h9) rfl dX6_acceptUnit_45 ?_
    refine lv_iload_n hx hb dX6_acceptUnit_48 rfl (lv_at hl 1 rfl) ?_
    refine lv_aload_n hx hb dX6_acceptUnit_49 rfl (lv_at hl 0 rfl) ?_
    refine va_get (D := D) (ci := 6) (v := .ref (oq 5)) (C := RX6) (T := TX6) (N := 15) hx hb hts hin_X6 hown hK hP 0 rfl rfl 4 (by decide) (hts (.fieldLink RX6 21 "ClashFree$Parser" "scan" "LClashFree$Scanner;") (List.mem_of_getElem? (i := 2) rfl)) (fun _ h9 => h9) rfl dX6_acceptUnit_50 ?_
    refine va_get (D := D) (ci := 8) (v := .int nu) (C := RX8) (T := TX8) (N := 7) hx hb hts hin_X8 hown hK hP 7 rfl rfl 5 (by decide) (hts (.fieldLink RX6 115 "ClashFree$Scanner" "number" "I") (List.mem_of_getElem? (i := 3) rfl)) (fun _ h9 => h9) rfl dX6_acceptUnit_53 ?_
    have hPc := hP.sub (ws' := [(oq 1, .inr (7, [.int (nI pz), .ref (oq 2), .ref (oq 3), .ref (oq 4)])), (oq 2, .inl (cI, 600, .inl fK)), (oq 3, .inl (cI, 600, .inl fN)), (oq 4, .inl (cI, 600, .inl fL))]) [3, 4, 5, 6] rfl
    have hKc := hK.sub (tys' := [(cI, .int)]) [0] rfl
    have hDc := hD.sub (ws' := [(oq 1, .inr (7, [.int (nI pz), .ref (oq 2), .ref (oq 3), .ref (oq 4)])), (oq 2, .inl (cI, 600, .inl fK)), (oq 3, .inl (cI, 600, .inl fN)), (oq 4, .inl (cI, 600, .inl fL))]) [3, 4, 5, 6] (by decide) rfl
    have hFc := va_free (wc := [(oq 1, .inr (7, [.int (nI pz), .ref (oq 2), .ref (oq 3), .ref (oq 4)])), (oq 2, .inl (cI, 600, .inl fK)), (oq 3, .inl (cI, 600, .inl fN)), (oq 4, .inl (cI, 600, .inl fL))]) hD hS hA [3, 4, 5, 6] rfl
    refine va_callv (va_runV (As := [.int 2, .int nu]) (rest := []) ⟨hx, hb, hml, hown, hts⟩ (k_padd l D _ oq cI pz fK fN fL 2 nu (by omega)) (cwV 2 hts g_k_aUnit_k_padd_118 rfl rfl rfl (by decide +kernel) ⟨(Nat.le_of_ble_eq_true rfl), (Nat.le_of_ble_eq_true rfl)⟩) (PcWC_V (q0 := 0) hPc hKc hDc hN rfl rfl) rfl rfl hl.1 rfl (lv_room (Nat.le_of_ble_eq_true rfl)) dX6_acceptUnit_56 ⟨(Nat.le_of_ble_eq_true rfl), (Nat.le_of_ble_eq_true rfl)⟩) hS (fun q _ h => hFc q h) hFc (fun uu tt H locs htt hvm hw hB hz1 hk1 hS => ?_)
    obtain ⟨w3, w4, w5, w6⟩ := uu
    obtain ⟨hP1, hK1, hD1⟩ := hB
    rw [htt] at hP1
    have hK1 := va_K.moved hvm.symm hK1
    have hP1 : va_P D vwCl [(oq 1, .inr (7, [.int (nI w3), .ref (oq 2), .ref (oq 3), .ref (oq 4)])), (oq 2, .inl (cI, 600, .inl w4)), (oq 3, .inl (cI, 600, .inl w5)), (oq 4, .inl (cI, 600, .inl w6))] H := hP1
    obtain ⟨hP, hD⟩ := va_join (wr := [(oq 0, .inr (6, gPs oq qf qp qd 1 qt qb qh qr qn (nI bk) (nI wz))), (oq 6, .inl (cI, 5, .inl fO)), (oq 7, .inl (cI, 600, .inl fW)), (oq 5, .inr (8, [tx, .int zl, .int ta, .int be, .int ki, .int nu, .int wo]))]) (w1 := [(oq 1, .inr (7, [.int (nI w3), .ref (oq 2), .ref (oq 3), .ref (oq 4)])), (oq 2, .inl (cI, 600, .inl w4)), (oq 3, .inl (cI, 600, .inl w5)), (oq 4, .inl (cI, 600, .inl w6))]) hP hD [3, 4, 5, 6] [0, 1, 2, 7] rfl rfl (by decide) (by decide) hk1 hFc hP1 hD1
    have hP : va_P D vwCl [(oq 0, .inr (6, gPs oq qf qp qd 1 qt qb qh qr qn (nI bk) (nI wz))), (oq 6, .inl (cI, 5, .inl fO)), (oq 7, .inl (cI, 600, .inl fW)), (oq 5, .inr (8, [tx, .int zl, .int ta, .int be, .int ki, .int nu, .int wo])), (oq 1, .inr (7, [.int (nI w3), .ref (oq 2), .ref (oq 3), .ref (oq 4)])), (oq 2, .inl (cI, 600, .inl w4)), (oq 3, .inl (cI, 600, .inl w5)), (oq 4, .inl (cI, 600, .inl w6))] H := hP
    have hD : va_D A [(oq 0, .inr (6, gPs oq qf qp qd 1 qt qb qh qr qn (nI bk) (nI wz))), (oq 6, .inl (cI, 5, .inl fO)), (oq 7, .inl (cI, 600, .inl fW)), (oq 5, .inr (8, [tx, .int zl, .int ta, .int be, .int ki, .int nu, .int wo])), (oq 1, .inr (7, [.int (nI w3), .ref (oq 2), .ref (oq 3), .ref (oq 4)])), (oq 2, .inl (cI, 600, .inl w4)), (oq 3, .inl (cI, 600, .inl w5)), (oq 4, .inl (cI, 600, .inl w6))] := hD
    try dsimp only at hw
    clear hz1 hk1 hFc hPc hKc hDc
    obtain ⟨hpd7, rfl, rfl, rfl, rfl⟩ := hw.resolve_right (fun q => absurd q.1 (by omega))
    have hP : va_P D vwCl [(oq 0, .inr (6, gPs oq qf qp qd 1 qt qb qh qr qn (nI bk) (nI wz))), (oq 6, .inl (cI, 5, .inl fO)), (oq 7, .inl (cI, 600, .inl fW)), (oq 5, .inr (8, [tx, .int zl, .int ta, .int be, .int ki, .int nu, .int wo])), (oq 1, .inr (7, [.int (nI (pz + 1)), .ref (oq 2), .ref (oq 3), .ref (oq 4)])), (oq 2, .inl (cI, 600, .inl (upd fK pz 2))), (oq 3, .inl (cI, 600, .inl (upd fN pz nu))), (oq 4, .inl (cI, 600, .inl (upd fL pz 0)))] H := hP
    have hD : va_D A [(oq 0, .inr (6, gPs oq qf qp qd 1 qt qb qh qr qn (nI bk) (nI wz))), (oq 6, .inl (cI, 5, .inl fO)), (oq 7, .inl (cI, 600, .inl fW)), (oq 5, .inr (8, [tx, .int zl, .int ta, .int be, .int ki, .int nu, .int wo])), (oq 1, .inr (7, [.int (nI (pz + 1)), .ref (oq 2), .ref (oq 3), .ref (oq 4)])), (oq 2, .inl (cI, 600, .inl (upd fK pz 2))), (oq 3, .inl (cI, 600, .inl (upd fN pz nu))), (oq 4, .inl (cI, 600, .inl (upd fL pz 0)))] := hD
    refine lv_aload_n hx hb dX6_acceptUnit_59 rfl (lv_at hl 0 rfl) ?_
    refine lv_iconst (v := 2) hx hb dX6_acceptUnit_60 (by decide) ?_
    refine va_put (D := D) (ci := 6) (v := .int 2) (ty := .int) (C := RX6) (T := TX6) (N := 15) hx hb hts hin_X6 tyX6 tyX6_ok nmX6 hown hK hP hD hS 0 rfl rfl 5 (by decide) (hts (.fieldLink RX6 39 "ClashFree$Parser" "state" "I") (List.mem_of_getElem? (i := 8) rfl)) (fun _ h9 => h9) rfl (by decide +kernel) rfl rfl (Nat.le_of_ble_eq_true rfl) dX6_acceptUnit_61 (fun H locs hP hD hS => ?_)
    have hP : va_P D vwCl [(oq 0, .inr (6, gPs oq qf qp qd 2 qt qb qh qr qn (nI bk) (nI wz))), (oq 6, .inl (cI, 5, .inl fO)), (oq 7, .inl (cI, 600, .inl fW)), (oq 5, .inr (8, [tx, .int zl, .int ta, .int be, .int ki, .int nu, .int wo])), (oq 1, .inr (7, [.int (nI (pz + 1)), .ref (oq 2), .ref (oq 3), .ref (oq 4)])), (oq 2, .inl (cI, 600, .inl (upd fK pz 2))), (oq 3, .inl (cI, 600, .inl (upd fN pz nu))), (oq 4, .inl (cI, 600, .inl (upd fL pz 0)))] H := hP
    have hD : va_D A [(oq 0, .inr (6, gPs oq qf qp qd 2 qt qb qh qr qn (nI bk) (nI wz))), (oq 6, .inl (cI, 5, .inl fO)), (oq 7, .inl (cI, 600, .inl fW)), (oq 5, .inr (8, [tx, .int zl, .int ta, .int be, .int ki, .int nu, .int wo])), (oq 1, .inr (7, [.int (nI (pz + 1)), .ref (oq 2), .ref (oq 3), .ref (oq 4)])), (oq 2, .inl (cI, 600, .inl (upd fK pz 2))), (oq 3, .inl (cI, 600, .inl (upd fN pz nu))), (oq 4, .inl (cI, 600, .inl (upd fL pz 0)))] := hD
    refine lv_goto (tgt := 110) hx hb dX6_acceptUnit_64 (by decide) ?_
    exact W.vret hx hb hr (fun t ht hW => ⟨⟨(qf, qp, qd, 2, qt, qb, qh, qr, qn, bk, wz, fO, fW, (pz + 1), (upd fK pz 2), (upd fN pz nu), (upd fL pz 0)), rfl, (by (try dsimp only); first | done | exact ⟨acc_ok (hM.ad (st := 2) (k := 2) (n := num) (by decide) (fun _ => ⟨(hnu rfl).1, by have := (hnu rfl).2; omega⟩) (Or.inr rfl) (fun _ => Or.inl hst)) (fun _ => st1_u hst (by decide)) (doom12 (Or.inl hst) (Or.inr rfl) rfl rfl) (fun q => absurd q (by decide)), by omega⟩), by rw [ht]; exact hP.sub [0, 1, 2, 4, 5, 6, 7, 3] rfl, va_K.moved hW.alike (hK.sub [0] rfl), hD.sub [0, 1, 2, 4, 5, 6, 7, 3] (by decide) rfl⟩, hS.F ht⟩) hS.2.2 dX6_acceptUnit_110
  by_cases hs8 : z1 = 10
  ·
    subst hs8
    refine lv_lookup (off := 43) (tgt := 44) hx hb dX6_acceptUnit_1 (by decide +kernel) (by decide +kernel) (by decide) ?_
    obtain rfl : kc = 10 := (nI_eq (b := 10) (by omega) (by decide)).mp hz.symm
    refine lv_aload_n hx hb dX6_acceptUnit_44 rfl (lv_at hl 0 rfl) ?_
    refine va_get (D := D) (ci := 6) (v := .ref (oq 1)) (C := RX6) (T := TX6) (N := 15) hx hb hts hin_X6 hown hK hP 0 rfl rfl 3 (by decide) (hts (.fieldLink RX6 12 "ClashFree$Parser" "program" "LClashFree$Program;") (List.mem_of_getElem? (i := 1) rfl)) (fun _ h9 => h9) rfl dX6_acceptUnit_45 ?_
    refine lv_iload_n hx hb dX6_acceptUnit_48 rfl (lv_at hl 1 rfl) ?_
    refine lv_aload_n hx hb dX6_acceptUnit_49 rfl (lv_at hl 0 rfl) ?_
    refine va_get (D := D) (ci := 6) (v := .ref (oq 5)) (C := RX6) (T := TX6) (N := 15) hx hb hts hin_X6 hown hK hP 0 rfl rfl 4 (by decide) (hts (.fieldLink RX6 21 "ClashFree$Parser" "scan" "LClashFree$Scanner;") (List.mem_of_getElem? (i := 2) rfl)) (fun _ h9 => h9) rfl dX6_acceptUnit_50 ?_
    refine va_get (D := D) (ci := 8) (v := .int nu) (C := RX8) (T := TX8) (N := 7) hx hb hts hin_X8 hown hK hP 7 rfl rfl 5 (by decide) (hts (.fieldLink RX6 115 "ClashFree$Scanner" "number" "I") (List.mem_of_getElem? (i := 3) rfl)) (fun _ h9 => h9) rfl dX6_acceptUnit_53 ?_
    have hPc := hP.sub (ws' := [(oq 1, .inr (7, [.int (nI pz), .ref (oq 2), .ref (oq 3), .ref (oq 4)])), (oq 2, .inl (cI, 600, .inl fK)), (oq 3, .inl (cI, 600, .inl fN)), (oq 4, .inl (cI, 600, .inl fL))]) [3, 4, 5, 6] rfl
    have hKc := hK.sub (tys' := [(cI, .int)]) [0] rfl
    have hDc := hD.sub (ws' := [(oq 1, .inr (7, [.int (nI pz), .ref (oq 2), .ref (oq 3), .ref (oq 4)])), (oq 2, .inl (cI, 600, .inl fK)), (oq 3, .inl (cI, 600, .inl fN)), (oq 4, .inl (cI, 600, .inl fL))]) [3, 4, 5, 6] (by decide) rfl
    have hFc := va_free (wc := [(oq 1, .inr (7, [.int (nI pz), .ref (oq 2), .ref (oq 3), .ref (oq 4)])), (oq 2, .inl (cI, 600, .inl fK)), (oq 3, .inl (cI, 600, .inl fN)), (oq 4, .inl (cI, 600, .inl fL))]) hD hS hA [3, 4, 5, 6] rfl
    refine va_callv (va_runV (As := [.int 10, .int nu]) (rest := []) ⟨hx, hb, hml, hown, hts⟩ (k_padd l D _ oq cI pz fK fN fL 10 nu (by omega)) (cwV 2 hts g_k_aUnit_k_padd_118 rfl rfl rfl (by decide +kernel) ⟨(Nat.le_of_ble_eq_true rfl), (Nat.le_of_ble_eq_true rfl)⟩) (PcWC_V (q0 := 0) hPc hKc hDc hN rfl rfl) rfl rfl hl.1 rfl (lv_room (Nat.le_of_ble_eq_true rfl)) dX6_acceptUnit_56 ⟨(Nat.le_of_ble_eq_true rfl), (Nat.le_of_ble_eq_true rfl)⟩) hS (fun q _ h => hFc q h) hFc (fun uu tt H locs htt hvm hw hB hz1 hk1 hS => ?_)
    obtain ⟨w10, w11, w12, w13⟩ := uu
    obtain ⟨hP1, hK1, hD1⟩ := hB
    rw [htt] at hP1
    have hK1 := va_K.moved hvm.symm hK1
    have hP1 : va_P D vwCl [(oq 1, .inr (7, [.int (nI w10), .ref (oq 2), .ref (oq 3), .ref (oq 4)])), (oq 2, .inl (cI, 600, .inl w11)), (oq 3, .inl (cI, 600, .inl w12)), (oq 4, .inl (cI, 600, .inl w13))] H := hP1
    obtain ⟨hP, hD⟩ := va_join (wr := [(oq 0, .inr (6, gPs oq qf qp qd 1 qt qb qh qr qn (nI bk) (nI wz))), (oq 6, .inl (cI, 5, .inl fO)), (oq 7, .inl (cI, 600, .inl fW)), (oq 5, .inr (8, [tx, .int zl, .int ta, .int be, .int ki, .int nu, .int wo]))]) (w1 := [(oq 1, .inr (7, [.int (nI w10), .ref (oq 2), .ref (oq 3), .ref (oq 4)])), (oq 2, .inl (cI, 600, .inl w11)), (oq 3, .inl (cI, 600, .inl w12)), (oq 4, .inl (cI, 600, .inl w13))]) hP hD [3, 4, 5, 6] [0, 1, 2, 7] rfl rfl (by decide) (by decide) hk1 hFc hP1 hD1
    have hP : va_P D vwCl [(oq 0, .inr (6, gPs oq qf qp qd 1 qt qb qh qr qn (nI bk) (nI wz))), (oq 6, .inl (cI, 5, .inl fO)), (oq 7, .inl (cI, 600, .inl fW)), (oq 5, .inr (8, [tx, .int zl, .int ta, .int be, .int ki, .int nu, .int wo])), (oq 1, .inr (7, [.int (nI w10), .ref (oq 2), .ref (oq 3), .ref (oq 4)])), (oq 2, .inl (cI, 600, .inl w11)), (oq 3, .inl (cI, 600, .inl w12)), (oq 4, .inl (cI, 600, .inl w13))] H := hP
    have hD : va_D A [(oq 0, .inr (6, gPs oq qf qp qd 1 qt qb qh qr qn (nI bk) (nI wz))), (oq 6, .inl (cI, 5, .inl fO)), (oq 7, .inl (cI, 600, .inl fW)), (oq 5, .inr (8, [tx, .int zl, .int ta, .int be, .int ki, .int nu, .int wo])), (oq 1, .inr (7, [.int (nI w10), .ref (oq 2), .ref (oq 3), .ref (oq 4)])), (oq 2, .inl (cI, 600, .inl w11)), (oq 3, .inl (cI, 600, .inl w12)), (oq 4, .inl (cI, 600, .inl w13))] := hD
    try dsimp only at hw
    clear hz1 hk1 hFc hPc hKc hDc
    obtain ⟨hpd14, rfl, rfl, rfl, rfl⟩ := hw.resolve_right (fun q => absurd q.1 (by omega))
    have hP : va_P D vwCl [(oq 0, .inr (6, gPs oq qf qp qd 1 qt qb qh qr qn (nI bk) (nI wz))), (oq 6, .inl (cI, 5, .inl fO)), (oq 7, .inl (cI, 600, .inl fW)), (oq 5, .inr (8, [tx, .int zl, .int ta, .int be, .int ki, .int nu, .int wo])), (oq 1, .inr (7, [.int (nI (pz + 1)), .ref (oq 2), .ref (oq 3), .ref (oq 4)])), (oq 2, .inl (cI, 600, .inl (upd fK pz 10))), (oq 3, .inl (cI, 600, .inl (upd fN pz nu))), (oq 4, .inl (cI, 600, .inl (upd fL pz 0)))] H := hP
    have hD : va_D A [(oq 0, .inr (6, gPs oq qf qp qd 1 qt qb qh qr qn (nI bk) (nI wz))), (oq 6, .inl (cI, 5, .inl fO)), (oq 7, .inl (cI, 600, .inl fW)), (oq 5, .inr (8, [tx, .int zl, .int ta, .int be, .int ki, .int nu, .int wo])), (oq 1, .inr (7, [.int (nI (pz + 1)), .ref (oq 2), .ref (oq 3), .ref (oq 4)])), (oq 2, .inl (cI, 600, .inl (upd fK pz 10))), (oq 3, .inl (cI, 600, .inl (upd fN pz nu))), (oq 4, .inl (cI, 600, .inl (upd fL pz 0)))] := hD
    refine lv_aload_n hx hb dX6_acceptUnit_59 rfl (lv_at hl 0 rfl) ?_
    refine lv_iconst (v := 2) hx hb dX6_acceptUnit_60 (by decide) ?_
    refine va_put (D := D) (ci := 6) (v := .int 2) (ty := .int) (C := RX6) (T := TX6) (N := 15) hx hb hts hin_X6 tyX6 tyX6_ok nmX6 hown hK hP hD hS 0 rfl rfl 5 (by decide) (hts (.fieldLink RX6 39 "ClashFree$Parser" "state" "I") (List.mem_of_getElem? (i := 8) rfl)) (fun _ h9 => h9) rfl (by decide +kernel) rfl rfl (Nat.le_of_ble_eq_true rfl) dX6_acceptUnit_61 (fun H locs hP hD hS => ?_)
    have hP : va_P D vwCl [(oq 0, .inr (6, gPs oq qf qp qd 2 qt qb qh qr qn (nI bk) (nI wz))), (oq 6, .inl (cI, 5, .inl fO)), (oq 7, .inl (cI, 600, .inl fW)), (oq 5, .inr (8, [tx, .int zl, .int ta, .int be, .int ki, .int nu, .int wo])), (oq 1, .inr (7, [.int (nI (pz + 1)), .ref (oq 2), .ref (oq 3), .ref (oq 4)])), (oq 2, .inl (cI, 600, .inl (upd fK pz 10))), (oq 3, .inl (cI, 600, .inl (upd fN pz nu))), (oq 4, .inl (cI, 600, .inl (upd fL pz 0)))] H := hP
    have hD : va_D A [(oq 0, .inr (6, gPs oq qf qp qd 2 qt qb qh qr qn (nI bk) (nI wz))), (oq 6, .inl (cI, 5, .inl fO)), (oq 7, .inl (cI, 600, .inl fW)), (oq 5, .inr (8, [tx, .int zl, .int ta, .int be, .int ki, .int nu, .int wo])), (oq 1, .inr (7, [.int (nI (pz + 1)), .ref (oq 2), .ref (oq 3), .ref (oq 4)])), (oq 2, .inl (cI, 600, .inl (upd fK pz 10))), (oq 3, .inl (cI, 600, .inl (upd fN pz nu))), (oq 4, .inl (cI, 600, .inl (upd fL pz 0)))] := hD
    refine lv_goto (tgt := 110) hx hb dX6_acceptUnit_64 (by decide) ?_
    exact W.vret hx hb hr (fun t ht hW => ⟨⟨(qf, qp, qd, 2, qt, qb, qh, qr, qn, bk, wz, fO, fW, (pz + 1), (upd fK pz 10), (upd fN pz nu), (upd fL pz 0)), rfl, (by (try dsimp only); first | done | exact ⟨acc_ok (hM.ad (st := 2) (k := 10) (n := num) (by decide) (fun q => absurd q (by decide)) (Or.inr rfl) (fun _ => Or.inl hst)) (fun _ => st1_u hst (by decide)) (doom12 (Or.inl hst) (Or.inr rfl) rfl rfl) (fun q => absurd q (by decide)), by omega⟩), by rw [ht]; exact hP.sub [0, 1, 2, 4, 5, 6, 7, 3] rfl, va_K.moved hW.alike (hK.sub [0] rfl), hD.sub [0, 1, 2, 4, 5, 6, 7, 3] (by decide) rfl⟩, hS.F ht⟩) hS.2.2 dX6_acceptUnit_110
  by_cases hs15 : z1 = 11
  ·
    subst hs15
    refine lv_lookup (off := 43) (tgt := 44) hx hb dX6_acceptUnit_1 (by decide +kernel) (by decide +kernel) (by decide) ?_
    obtain rfl : kc = 11 := (nI_eq (b := 11) (by omega) (by decide)).mp hz.symm
    refine lv_aload_n hx hb dX6_acceptUnit_44 rfl (lv_at hl 0 rfl) ?_
    refine va_get (D := D) (ci := 6) (v := .ref (oq 1)) (C := RX6) (T := TX6) (N := 15) hx hb hts hin_X6 hown hK hP 0 rfl rfl 3 (by decide) (hts (.fieldLink RX6 12 "ClashFree$Parser" "program" "LClashFree$Program;") (List.mem_of_getElem? (i := 1) rfl)) (fun _ h9 => h9) rfl dX6_acceptUnit_45 ?_
    refine lv_iload_n hx hb dX6_acceptUnit_48 rfl (lv_at hl 1 rfl) ?_
    refine lv_aload_n hx hb dX6_acceptUnit_49 rfl (lv_at hl 0 rfl) ?_
    refine va_get (D := D) (ci := 6) (v := .ref (oq 5)) (C := RX6) (T := TX6) (N := 15) hx hb hts hin_X6 hown hK hP 0 rfl rfl 4 (by decide) (hts (.fieldLink RX6 21 "ClashFree$Parser" "scan" "LClashFree$Scanner;") (List.mem_of_getElem? (i := 2) rfl)) (fun _ h9 => h9) rfl dX6_acceptUnit_50 ?_
    refine va_get (D := D) (ci := 8) (v := .int nu) (C := RX8) (T := TX8) (N := 7) hx hb hts hin_X8 hown hK hP 7 rfl rfl 5 (by decide) (hts (.fieldLink RX6 115 "ClashFree$Scanner" "number" "I") (List.mem_of_getElem? (i := 3) rfl)) (fun _ h9 => h9) rfl dX6_acceptUnit_53 ?_
    have hPc := hP.sub (ws' := [(oq 1, .inr (7, [.int (nI pz), .ref (oq 2), .ref (oq 3), .ref (oq 4)])), (oq 2, .inl (cI, 600, .inl fK)), (oq 3, .inl (cI, 600, .inl fN)), (oq 4, .inl (cI, 600, .inl fL))]) [3, 4, 5, 6] rfl
    have hKc := hK.sub (tys' := [(cI, .int)]) [0] rfl
    have hDc := hD.sub (ws' := [(oq 1, .inr (7, [.int (nI pz), .ref (oq 2), .ref (oq 3), .ref (oq 4)])), (oq 2, .inl (cI, 600, .inl fK)), (oq 3, .inl (cI, 600, .inl fN)), (oq 4, .inl (cI, 600, .inl fL))]) [3, 4, 5, 6] (by decide) rfl
    have hFc := va_free (wc := [(oq 1, .inr (7, [.int (nI pz), .ref (oq 2), .ref (oq 3), .ref (oq 4)])), (oq 2, .inl (cI, 600, .inl fK)), (oq 3, .inl (cI, 600, .inl fN)), (oq 4, .inl (cI, 600, .inl fL))]) hD hS hA [3, 4, 5, 6] rfl
    refine va_callv (va_runV (As := [.int 11, .int nu]) (rest := []) ⟨hx, hb, hml, hown, hts⟩ (k_padd l D _ oq cI pz fK fN fL 11 nu (by omega)) (cwV 2 hts g_k_aUnit_k_padd_118 rfl rfl rfl (by decide +kernel) ⟨(Nat.le_of_ble_eq_true rfl), (Nat.le_of_ble_eq_true rfl)⟩) (PcWC_V (q0 := 0) hPc hKc hDc hN rfl rfl) rfl rfl hl.1 rfl (lv_room (Nat.le_of_ble_eq_true rfl)) dX6_acceptUnit_56 ⟨(Nat.le_of_ble_eq_true rfl), (Nat.le_of_ble_eq_true rfl)⟩) hS (fun q _ h => hFc q h) hFc (fun uu tt H locs htt hvm hw hB hz1 hk1 hS => ?_)
    obtain ⟨w17, w18, w19, w20⟩ := uu
    obtain ⟨hP1, hK1, hD1⟩ := hB
    rw [htt] at hP1
    have hK1 := va_K.moved hvm.symm hK1
    have hP1 : va_P D vwCl [(oq 1, .inr (7, [.int (nI w17), .ref (oq 2), .ref (oq 3), .ref (oq 4)])), (oq 2, .inl (cI, 600, .inl w18)), (oq 3, .inl (cI, 600, .inl w19)), (oq 4, .inl (cI, 600, .inl w20))] H := hP1
    obtain ⟨hP, hD⟩ := va_join (wr := [(oq 0, .inr (6, gPs oq qf qp qd 1 qt qb qh qr qn (nI bk) (nI wz))), (oq 6, .inl (cI, 5, .inl fO)), (oq 7, .inl (cI, 600, .inl fW)), (oq 5, .inr (8, [tx, .int zl, .int ta, .int be, .int ki, .int nu, .int wo]))]) (w1 := [(oq 1, .inr (7, [.int (nI w17), .ref (oq 2), .ref (oq 3), .ref (oq 4)])), (oq 2, .inl (cI, 600, .inl w18)), (oq 3, .inl (cI, 600, .inl w19)), (oq 4, .inl (cI, 600, .inl w20))]) hP hD [3, 4, 5, 6] [0, 1, 2, 7] rfl rfl (by decide) (by decide) hk1 hFc hP1 hD1
    have hP : va_P D vwCl [(oq 0, .inr (6, gPs oq qf qp qd 1 qt qb qh qr qn (nI bk) (nI wz))), (oq 6, .inl (cI, 5, .inl fO)), (oq 7, .inl (cI, 600, .inl fW)), (oq 5, .inr (8, [tx, .int zl, .int ta, .int be, .int ki, .int nu, .int wo])), (oq 1, .inr (7, [.int (nI w17), .ref (oq 2), .ref (oq 3), .ref (oq 4)])), (oq 2, .inl (cI, 600, .inl w18)), (oq 3, .inl (cI, 600, .inl w19)), (oq 4, .inl (cI, 600, .inl w20))] H := hP
    have hD : va_D A [(oq 0, .inr (6, gPs oq qf qp qd 1 qt qb qh qr qn (nI bk) (nI wz))), (oq 6, .inl (cI, 5, .inl fO)), (oq 7, .inl (cI, 600, .inl fW)), (oq 5, .inr (8, [tx, .int zl, .int ta, .int be, .int ki, .int nu, .int wo])), (oq 1, .inr (7, [.int (nI w17), .ref (oq 2), .ref (oq 3), .ref (oq 4)])), (oq 2, .inl (cI, 600, .inl w18)), (oq 3, .inl (cI, 600, .inl w19)), (oq 4, .inl (cI, 600, .inl w20))] := hD
    try dsimp only at hw
    clear hz1 hk1 hFc hPc hKc hDc
    obtain ⟨hpd21, rfl, rfl, rfl, rfl⟩ := hw.resolve_right (fun q => absurd q.1 (by omega))
    have hP : va_P D vwCl [(oq 0, .inr (6, gPs oq qf qp qd 1 qt qb qh qr qn (nI bk) (nI wz))), (oq 6, .inl (cI, 5, .inl fO)), (oq 7, .inl (cI, 600, .inl fW)), (oq 5, .inr (8, [tx, .int zl, .int ta, .int be, .int ki, .int nu, .int wo])), (oq 1, .inr (7, [.int (nI (pz + 1)), .ref (oq 2), .ref (oq 3), .ref (oq 4)])), (oq 2, .inl (cI, 600, .inl (upd fK pz 11))), (oq 3, .inl (cI, 600, .inl (upd fN pz nu))), (oq 4, .inl (cI, 600, .inl (upd fL pz 0)))] H := hP
    have hD : va_D A [(oq 0, .inr (6, gPs oq qf qp qd 1 qt qb qh qr qn (nI bk) (nI wz))), (oq 6, .inl (cI, 5, .inl fO)), (oq 7, .inl (cI, 600, .inl fW)), (oq 5, .inr (8, [tx, .int zl, .int ta, .int be, .int ki, .int nu, .int wo])), (oq 1, .inr (7, [.int (nI (pz + 1)), .ref (oq 2), .ref (oq 3), .ref (oq 4)])), (oq 2, .inl (cI, 600, .inl (upd fK pz 11))), (oq 3, .inl (cI, 600, .inl (upd fN pz nu))), (oq 4, .inl (cI, 600, .inl (upd fL pz 0)))] := hD
    refine lv_aload_n hx hb dX6_acceptUnit_59 rfl (lv_at hl 0 rfl) ?_
    refine lv_iconst (v := 2) hx hb dX6_acceptUnit_60 (by decide) ?_
    refine va_put (D := D) (ci := 6) (v := .int 2) (ty := .int) (C := RX6) (T := TX6) (N := 15) hx hb hts hin_X6 tyX6 tyX6_ok nmX6 hown hK hP hD hS 0 rfl rfl 5 (by decide) (hts (.fieldLink RX6 39 "ClashFree$Parser" "state" "I") (List.mem_of_getElem? (i := 8) rfl)) (fun _ h9 => h9) rfl (by decide +kernel) rfl rfl (Nat.le_of_ble_eq_true rfl) dX6_acceptUnit_61 (fun H locs hP hD hS => ?_)
    have hP : va_P D vwCl [(oq 0, .inr (6, gPs oq qf qp qd 2 qt qb qh qr qn (nI bk) (nI wz))), (oq 6, .inl (cI, 5, .inl fO)), (oq 7, .inl (cI, 600, .inl fW)), (oq 5, .inr (8, [tx, .int zl, .int ta, .int be, .int ki, .int nu, .int wo])), (oq 1, .inr (7, [.int (nI (pz + 1)), .ref (oq 2), .ref (oq 3), .ref (oq 4)])), (oq 2, .inl (cI, 600, .inl (upd fK pz 11))), (oq 3, .inl (cI, 600, .inl (upd fN pz nu))), (oq 4, .inl (cI, 600, .inl (upd fL pz 0)))] H := hP
    have hD : va_D A [(oq 0, .inr (6, gPs oq qf qp qd 2 qt qb qh qr qn (nI bk) (nI wz))), (oq 6, .inl (cI, 5, .inl fO)), (oq 7, .inl (cI, 600, .inl fW)), (oq 5, .inr (8, [tx, .int zl, .int ta, .int be, .int ki, .int nu, .int wo])), (oq 1, .inr (7, [.int (nI (pz + 1)), .ref (oq 2), .ref (oq 3), .ref (oq 4)])), (oq 2, .inl (cI, 600, .inl (upd fK pz 11))), (oq 3, .inl (cI, 600, .inl (upd fN pz nu))), (oq 4, .inl (cI, 600, .inl (upd fL pz 0)))] := hD
    refine lv_goto (tgt := 110) hx hb dX6_acceptUnit_64 (by decide) ?_
    exact W.vret hx hb hr (fun t ht hW => ⟨⟨(qf, qp, qd, 2, qt, qb, qh, qr, qn, bk, wz, fO, fW, (pz + 1), (upd fK pz 11), (upd fN pz nu), (upd fL pz 0)), rfl, (by (try dsimp only); first | done | exact ⟨acc_ok (hM.ad (st := 2) (k := 11) (n := num) (by decide) (fun q => absurd q (by decide)) (Or.inr rfl) (fun _ => Or.inl hst)) (fun _ => st1_u hst (by decide)) (doom12 (Or.inl hst) (Or.inr rfl) rfl rfl) (fun q => absurd q (by decide)), by omega⟩), by rw [ht]; exact hP.sub [0, 1, 2, 4, 5, 6, 7, 3] rfl, va_K.moved hW.alike (hK.sub [0] rfl), hD.sub [0, 1, 2, 4, 5, 6, 7, 3] (by decide) rfl⟩, hS.F ht⟩) hS.2.2 dX6_acceptUnit_110
  by_cases hs22 : z1 = 40
  ·
    subst hs22
    refine lv_lookup (off := 66) (tgt := 67) hx hb dX6_acceptUnit_1 (by decide +kernel) (by decide +kernel) (by decide) ?_
    obtain rfl : kc = 40 := (nI_eq (b := 40) (by omega) (by decide)).mp hz.symm
    refine lv_aload_n hx hb dX6_acceptUnit_67 rfl (lv_at hl 0 rfl) ?_
    refine lv_dup hx hb dX6_acceptUnit_68 rfl ?_
    refine va_get (D := D) (ci := 6) (v := .int qn) (C := RX6) (T := TX6) (N := 15) hx hb hts hin_X6 hown hK hP 0 rfl rfl 10 (by decide) (hts (.fieldLink RX6 46 "ClashFree$Parser" "parens" "I") (List.mem_of_getElem? (i := 9) rfl)) (fun _ h9 => h9) rfl dX6_acceptUnit_69 ?_
    refine lv_iconst (v := 1) hx hb dX6_acceptUnit_72 (by decide) ?_
    refine lv_iadd hx hb dX6_acceptUnit_73 ?_
    refine lv_topi (fun v23 ev23 => ?_)
    obtain rfl : v23 = nI (sg.2.2.2.1 + 1) := ev23.trans (by rw [hMn.1]; exact nI_1 _)
    refine va_put (D := D) (ci := 6) (v := .int (nI (sg.2.2.2.1 + 1))) (ty := .int) (C := RX6) (T := TX6) (N := 15) hx hb hts hin_X6 tyX6 tyX6_ok nmX6 hown hK hP hD hS 0 rfl rfl 10 (by decide) (hts (.fieldLink RX6 46 "ClashFree$Parser" "parens" "I") (List.mem_of_getElem? (i := 9) rfl)) (fun _ h9 => h9) rfl (by decide +kernel) rfl rfl (Nat.le_of_ble_eq_true rfl) dX6_acceptUnit_74 (fun H locs hP hD hS => ?_)
    have hP : va_P D vwCl [(oq 0, .inr (6, gPs oq qf qp qd 1 qt qb qh qr (nI (sg.2.2.2.1 + 1)) (nI bk) (nI wz))), (oq 6, .inl (cI, 5, .inl fO)), (oq 7, .inl (cI, 600, .inl fW)), (oq 1, .inr (7, [.int (nI pz), .ref (oq 2), .ref (oq 3), .ref (oq 4)])), (oq 2, .inl (cI, 600, .inl fK)), (oq 3, .inl (cI, 600, .inl fN)), (oq 4, .inl (cI, 600, .inl fL)), (oq 5, .inr (8, [tx, .int zl, .int ta, .int be, .int ki, .int nu, .int wo]))] H := hP
    have hD : va_D A [(oq 0, .inr (6, gPs oq qf qp qd 1 qt qb qh qr (nI (sg.2.2.2.1 + 1)) (nI bk) (nI wz))), (oq 6, .inl (cI, 5, .inl fO)), (oq 7, .inl (cI, 600, .inl fW)), (oq 1, .inr (7, [.int (nI pz), .ref (oq 2), .ref (oq 3), .ref (oq 4)])), (oq 2, .inl (cI, 600, .inl fK)), (oq 3, .inl (cI, 600, .inl fN)), (oq 4, .inl (cI, 600, .inl fL)), (oq 5, .inr (8, [tx, .int zl, .int ta, .int be, .int ki, .int nu, .int wo]))] := hD
    refine lv_aload_n hx hb dX6_acceptUnit_77 rfl (lv_at hl 0 rfl) ?_
    refine va_get (D := D) (ci := 6) (v := .int (nI (sg.2.2.2.1 + 1))) (C := RX6) (T := TX6) (N := 15) hx hb hts hin_X6 hown hK hP 0 rfl rfl 10 (by decide) (hts (.fieldLink RX6 46 "ClashFree$Parser" "parens" "I") (List.mem_of_getElem? (i := 9) rfl)) (fun _ h9 => h9) rfl dX6_acceptUnit_78 ?_
    refine lv_bipush (v := 8) hx hb dX6_acceptUnit_81 (by decide) ?_
    refine lv_icmp_le (tgt := 98) hx hb dX6_acceptUnit_83 (by decide) (fun hc24 => ?_) (fun hc24 => ?_)
    ·
      have hle : ¬ 8 ≤ sg.2.2.2.1 := by
        have := (nI_leI (b := 8) (by omega) (by decide)).mp hc24
        omega
      refine lv_aload_n hx hb dX6_acceptUnit_98 rfl (lv_at hl 0 rfl) ?_
      refine lv_iload_n hx hb dX6_acceptUnit_99 rfl (lv_at hl 1 rfl) ?_
      have hPc := hP.sub (ws' := [(oq 0, .inr (6, gPs oq qf qp qd 1 qt qb qh qr (nI (sg.2.2.2.1 + 1)) (nI bk) (nI wz))), (oq 7, .inl (cI, 600, .inl fW))]) [0, 2] rfl
      have hKc := hK.sub (tys' := [(cI, .int)]) [0] rfl
      have hDc := hD.sub (ws' := [(oq 0, .inr (6, gPs oq qf qp qd 1 qt qb qh qr (nI (sg.2.2.2.1 + 1)) (nI bk) (nI wz))), (oq 7, .inl (cI, 600, .inl fW))]) [0, 2] (by decide) rfl
      have hFc := va_free (wc := [(oq 0, .inr (6, gPs oq qf qp qd 1 qt qb qh qr (nI (sg.2.2.2.1 + 1)) (nI bk) (nI wz))), (oq 7, .inl (cI, 600, .inl fW))]) hD hS hA [0, 2] rfl
      refine va_callv (va_runV (As := [.int 40]) (rest := []) ⟨hx, hb, hml, hown, hts⟩ (k_await l D _ oq cI qf qp qd 1 qt qb qh qr (nI (sg.2.2.2.1 + 1)) bk wz fW 40 (by omega)) (cwV 1 hts g_k_aUnit_k_await_121 rfl rfl rfl (by decide +kernel) ⟨(Nat.le_of_ble_eq_true rfl), (Nat.le_of_ble_eq_true rfl)⟩) (PcWC_V (q0 := 0) hPc hKc hDc hN rfl rfl) rfl rfl hl.1 rfl (lv_room (Nat.le_of_ble_eq_true rfl)) dX6_acceptUnit_100 ⟨(Nat.le_of_ble_eq_true rfl), (Nat.le_of_ble_eq_true rfl)⟩) hS (fun q _ h => hFc q h) hFc (fun uu tt H locs htt hvm hw hB hz1 hk1 hS => ?_)
      obtain ⟨w26, w27⟩ := uu
      obtain ⟨hP1, hK1, hD1⟩ := hB
      rw [htt] at hP1
      have hK1 := va_K.moved hvm.symm hK1
      have hP1 : va_P D vwCl [(oq 0, .inr (6, gPs oq qf qp qd 1 qt qb qh qr (nI (sg.2.2.2.1 + 1)) (nI bk) (nI w26))), (oq 7, .inl (cI, 600, .inl w27))] H := hP1
      obtain ⟨hP, hD⟩ := va_join (wr := [(oq 6, .inl (cI, 5, .inl fO)), (oq 1, .inr (7, [.int (nI pz), .ref (oq 2), .ref (oq 3), .ref (oq 4)])), (oq 2, .inl (cI, 600, .inl fK)), (oq 3, .inl (cI, 600, .inl fN)), (oq 4, .inl (cI, 600, .inl fL)), (oq 5, .inr (8, [tx, .int zl, .int ta, .int be, .int ki, .int nu, .int wo]))]) (w1 := [(oq 0, .inr (6, gPs oq qf qp qd 1 qt qb qh qr (nI (sg.2.2.2.1 + 1)) (nI bk) (nI w26))), (oq 7, .inl (cI, 600, .inl w27))]) hP hD [0, 2] [1, 3, 4, 5, 6, 7] rfl rfl (by decide) (by decide) hk1 hFc hP1 hD1
      have hP : va_P D vwCl [(oq 6, .inl (cI, 5, .inl fO)), (oq 1, .inr (7, [.int (nI pz), .ref (oq 2), .ref (oq 3), .ref (oq 4)])), (oq 2, .inl (cI, 600, .inl fK)), (oq 3, .inl (cI, 600, .inl fN)), (oq 4, .inl (cI, 600, .inl fL)), (oq 5, .inr (8, [tx, .int zl, .int ta, .int be, .int ki, .int nu, .int wo])), (oq 0, .inr (6, gPs oq qf qp qd 1 qt qb qh qr (nI (sg.2.2.2.1 + 1)) (nI bk) (nI w26))), (oq 7, .inl (cI, 600, .inl w27))] H := hP
      have hD : va_D A [(oq 6, .inl (cI, 5, .inl fO)), (oq 1, .inr (7, [.int (nI pz), .ref (oq 2), .ref (oq 3), .ref (oq 4)])), (oq 2, .inl (cI, 600, .inl fK)), (oq 3, .inl (cI, 600, .inl fN)), (oq 4, .inl (cI, 600, .inl fL)), (oq 5, .inr (8, [tx, .int zl, .int ta, .int be, .int ki, .int nu, .int wo])), (oq 0, .inr (6, gPs oq qf qp qd 1 qt qb qh qr (nI (sg.2.2.2.1 + 1)) (nI bk) (nI w26))), (oq 7, .inl (cI, 600, .inl w27))] := hD
      try dsimp only at hw
      clear hz1 hk1 hFc hPc hKc hDc
      obtain ⟨hawl, rfl, rfl⟩ := hw.resolve_right (fun q => absurd q.1 (by omega))
      have hP : va_P D vwCl [(oq 6, .inl (cI, 5, .inl fO)), (oq 1, .inr (7, [.int (nI pz), .ref (oq 2), .ref (oq 3), .ref (oq 4)])), (oq 2, .inl (cI, 600, .inl fK)), (oq 3, .inl (cI, 600, .inl fN)), (oq 4, .inl (cI, 600, .inl fL)), (oq 5, .inr (8, [tx, .int zl, .int ta, .int be, .int ki, .int nu, .int wo])), (oq 0, .inr (6, gPs oq qf qp qd 1 qt qb qh qr (nI (sg.2.2.2.1 + 1)) (nI bk) (nI (wz + 1)))), (oq 7, .inl (cI, 600, .inl (upd fW wz 40)))] H := hP
      have hD : va_D A [(oq 6, .inl (cI, 5, .inl fO)), (oq 1, .inr (7, [.int (nI pz), .ref (oq 2), .ref (oq 3), .ref (oq 4)])), (oq 2, .inl (cI, 600, .inl fK)), (oq 3, .inl (cI, 600, .inl fN)), (oq 4, .inl (cI, 600, .inl fL)), (oq 5, .inr (8, [tx, .int zl, .int ta, .int be, .int ki, .int nu, .int wo])), (oq 0, .inr (6, gPs oq qf qp qd 1 qt qb qh qr (nI (sg.2.2.2.1 + 1)) (nI bk) (nI (wz + 1)))), (oq 7, .inl (cI, 600, .inl (upd fW wz 40)))] := hD
      refine lv_goto (tgt := 110) hx hb dX6_acceptUnit_103 (by decide) ?_
      exact W.vret hx hb hr (fun t ht hW => ⟨⟨(qf, qp, qd, 1, qt, qb, qh, qr, (nI (sg.2.2.2.1 + 1)), bk, (wz + 1), fO, (upd fW wz 40), pz, fK, fN, fL), rfl, (by (try dsimp only); first | done | exact ⟨acc_ok (hM.aw (k := 40) (nn := sg.2.2.2.1 + 1) (by decide) (Or.inl hst) rfl (Nat.le_refl _)) (fun _ => (st1_p hst).trans (if_neg hle)) (doom12 (Or.inl hst) (Or.inl rfl) rfl rfl) (fun q => absurd q (by decide)), by omega⟩), by rw [ht]; exact hP.sub [6, 0, 7, 1, 2, 3, 4, 5] rfl, va_K.moved hW.alike (hK.sub [0] rfl), hD.sub [6, 0, 7, 1, 2, 3, 4, 5] (by decide) rfl⟩, hS.F ht⟩) hS.2.2 dX6_acceptUnit_110
    ·
      have hgt : 8 ≤ sg.2.2.2.1 := by
        rcases Nat.lt_or_ge sg.2.2.2.1 8 with z | z
        · exact absurd (nI_le (b := 8) (show sg.2.2.2.1 + 1 ≤ 8 by omega) (by decide)) hc24
        · exact z
      refine lv_aload_n hx hb dX6_acceptUnit_86 rfl (lv_at hl 0 rfl) ?_
      refine lv_iconst (v := 3) hx hb dX6_acceptUnit_87 (by decide) ?_
      refine lv_aload_n hx hb dX6_acceptUnit_88 rfl (lv_at hl 0 rfl) ?_
      refine va_get (D := D) (ci := 6) (v := .ref (oq 5)) (C := RX6) (T := TX6) (N := 15) hx hb hts hin_X6 hown hK hP 0 rfl rfl 4 (by decide) (hts (.fieldLink RX6 21 "ClashFree$Parser" "scan" "LClashFree$Scanner;") (List.mem_of_getElem? (i := 2) rfl)) (fun _ h9 => h9) rfl dX6_acceptUnit_89 ?_
      refine va_get (D := D) (ci := 8) (v := .int ta) (C := RX8) (T := TX8) (N := 7) hx hb hts hin_X8 hown hK hP 7 rfl rfl 2 (by decide) (hts (.fieldLink RX6 79 "ClashFree$Scanner" "at" "I") (List.mem_of_getElem? (i := 14) rfl)) (fun _ h9 => h9) rfl dX6_acceptUnit_92 ?_
      have hPc := hP.sub (ws' := [(oq 0, .inr (6, gPs oq qf qp qd 1 qt qb qh qr (nI (sg.2.2.2.1 + 1)) (nI bk) (nI wz)))]) [0] rfl
      have hKc := hK.sub (tys' := []) [] rfl
      have hDc := hD.sub (ws' := [(oq 0, .inr (6, gPs oq qf qp qd 1 qt qb qh qr (nI (sg.2.2.2.1 + 1)) (nI bk) (nI wz)))]) [0] (by decide) rfl
      have hFc := va_free (wc := [(oq 0, .inr (6, gPs oq qf qp qd 1 qt qb qh qr (nI (sg.2.2.2.1 + 1)) (nI bk) (nI wz)))]) hD hS hA [0] rfl
      refine va_callv (va_runV (As := [.int 3, .int ta]) (rest := []) ⟨hx, hb, hml, hown, hts⟩ (k_note l D _ oq cI qf qp qd 1 qt qb qh qr (nI (sg.2.2.2.1 + 1)) bk wz 3 ta (by decide)) (cwV 2 hts g_k_aUnit_k_note_55 rfl rfl rfl (by decide +kernel) ⟨(Nat.le_of_ble_eq_true rfl), (Nat.le_of_ble_eq_true rfl)⟩) (PcWC_V (q0 := 0) hPc hKc hDc hN rfl rfl) rfl rfl hl.1 rfl (lv_room (Nat.le_of_ble_eq_true rfl)) dX6_acceptUnit_95 ⟨(Nat.le_of_ble_eq_true rfl), (Nat.le_of_ble_eq_true rfl)⟩) hS (fun q _ h => hFc q h) hFc (fun uu tt H locs htt hvm hw hB hz1 hk1 hS => ?_)
      obtain ⟨w29, w30, w31⟩ := uu
      obtain ⟨hP1, hK1, hD1⟩ := hB
      rw [htt] at hP1
      have hK1 := va_K.moved hvm.symm hK1
      have hP1 : va_P D vwCl [(oq 0, .inr (6, gPs oq w29 w30 w31 1 qt qb qh qr (nI (sg.2.2.2.1 + 1)) (nI bk) (nI wz)))] H := hP1
      obtain ⟨hP, hD⟩ := va_join (wr := [(oq 6, .inl (cI, 5, .inl fO)), (oq 7, .inl (cI, 600, .inl fW)), (oq 1, .inr (7, [.int (nI pz), .ref (oq 2), .ref (oq 3), .ref (oq 4)])), (oq 2, .inl (cI, 600, .inl fK)), (oq 3, .inl (cI, 600, .inl fN)), (oq 4, .inl (cI, 600, .inl fL)), (oq 5, .inr (8, [tx, .int zl, .int ta, .int be, .int ki, .int nu, .int wo]))]) (w1 := [(oq 0, .inr (6, gPs oq w29 w30 w31 1 qt qb qh qr (nI (sg.2.2.2.1 + 1)) (nI bk) (nI wz)))]) hP hD [0] [1, 2, 3, 4, 5, 6, 7] rfl rfl (by decide) (by decide) hk1 hFc hP1 hD1
      have hP : va_P D vwCl [(oq 6, .inl (cI, 5, .inl fO)), (oq 7, .inl (cI, 600, .inl fW)), (oq 1, .inr (7, [.int (nI pz), .ref (oq 2), .ref (oq 3), .ref (oq 4)])), (oq 2, .inl (cI, 600, .inl fK)), (oq 3, .inl (cI, 600, .inl fN)), (oq 4, .inl (cI, 600, .inl fL)), (oq 5, .inr (8, [tx, .int zl, .int ta, .int be, .int ki, .int nu, .int wo])), (oq 0, .inr (6, gPs oq w29 w30 w31 1 qt qb qh qr (nI (sg.2.2.2.1 + 1)) (nI bk) (nI wz)))] H := hP
      have hD : va_D A [(oq 6, .inl (cI, 5, .inl fO)), (oq 7, .inl (cI, 600, .inl fW)), (oq 1, .inr (7, [.int (nI pz), .ref (oq 2), .ref (oq 3), .ref (oq 4)])), (oq 2, .inl (cI, 600, .inl fK)), (oq 3, .inl (cI, 600, .inl fN)), (oq 4, .inl (cI, 600, .inl fL)), (oq 5, .inr (8, [tx, .int zl, .int ta, .int be, .int ki, .int nu, .int wo])), (oq 0, .inr (6, gPs oq w29 w30 w31 1 qt qb qh qr (nI (sg.2.2.2.1 + 1)) (nI bk) (nI wz)))] := hD
      try dsimp only at hw
      clear hz1 hk1 hFc hPc hKc hDc
      have hnt32 := hw
      refine lv_aload_n hx hb dX6_acceptUnit_98 rfl (lv_at hl 0 rfl) ?_
      refine lv_iload_n hx hb dX6_acceptUnit_99 rfl (lv_at hl 1 rfl) ?_
      have hPc := hP.sub (ws' := [(oq 0, .inr (6, gPs oq w29 w30 w31 1 qt qb qh qr (nI (sg.2.2.2.1 + 1)) (nI bk) (nI wz))), (oq 7, .inl (cI, 600, .inl fW))]) [7, 1] rfl
      have hKc := hK.sub (tys' := [(cI, .int)]) [0] rfl
      have hDc := hD.sub (ws' := [(oq 0, .inr (6, gPs oq w29 w30 w31 1 qt qb qh qr (nI (sg.2.2.2.1 + 1)) (nI bk) (nI wz))), (oq 7, .inl (cI, 600, .inl fW))]) [7, 1] (by decide) rfl
      have hFc := va_free (wc := [(oq 0, .inr (6, gPs oq w29 w30 w31 1 qt qb qh qr (nI (sg.2.2.2.1 + 1)) (nI bk) (nI wz))), (oq 7, .inl (cI, 600, .inl fW))]) hD hS hA [7, 1] rfl
      refine va_callv (va_runV (As := [.int 40]) (rest := []) ⟨hx, hb, hml, hown, hts⟩ (k_await l D _ oq cI w29 w30 w31 1 qt qb qh qr (nI (sg.2.2.2.1 + 1)) bk wz fW 40 (by omega)) (cwV 1 hts g_k_aUnit_k_await_121 rfl rfl rfl (by decide +kernel) ⟨(Nat.le_of_ble_eq_true rfl), (Nat.le_of_ble_eq_true rfl)⟩) (PcWC_V (q0 := 0) hPc hKc hDc hN rfl rfl) rfl rfl hl.1 rfl (lv_room (Nat.le_of_ble_eq_true rfl)) dX6_acceptUnit_100 ⟨(Nat.le_of_ble_eq_true rfl), (Nat.le_of_ble_eq_true rfl)⟩) hS (fun q _ h => hFc q h) hFc (fun uu tt H locs htt hvm hw hB hz1 hk1 hS => ?_)
      obtain ⟨w34, w35⟩ := uu
      obtain ⟨hP1, hK1, hD1⟩ := hB
      rw [htt] at hP1
      have hK1 := va_K.moved hvm.symm hK1
      have hP1 : va_P D vwCl [(oq 0, .inr (6, gPs oq w29 w30 w31 1 qt qb qh qr (nI (sg.2.2.2.1 + 1)) (nI bk) (nI w34))), (oq 7, .inl (cI, 600, .inl w35))] H := hP1
      obtain ⟨hP, hD⟩ := va_join (wr := [(oq 6, .inl (cI, 5, .inl fO)), (oq 1, .inr (7, [.int (nI pz), .ref (oq 2), .ref (oq 3), .ref (oq 4)])), (oq 2, .inl (cI, 600, .inl fK)), (oq 3, .inl (cI, 600, .inl fN)), (oq 4, .inl (cI, 600, .inl fL)), (oq 5, .inr (8, [tx, .int zl, .int ta, .int be, .int ki, .int nu, .int wo]))]) (w1 := [(oq 0, .inr (6, gPs oq w29 w30 w31 1 qt qb qh qr (nI (sg.2.2.2.1 + 1)) (nI bk) (nI w34))), (oq 7, .inl (cI, 600, .inl w35))]) hP hD [7, 1] [0, 2, 3, 4, 5, 6] rfl rfl (by decide) (by decide) hk1 hFc hP1 hD1
      have hP : va_P D vwCl [(oq 6, .inl (cI, 5, .inl fO)), (oq 1, .inr (7, [.int (nI pz), .ref (oq 2), .ref (oq 3), .ref (oq 4)])), (oq 2, .inl (cI, 600, .inl fK)), (oq 3, .inl (cI, 600, .inl fN)), (oq 4, .inl (cI, 600, .inl fL)), (oq 5, .inr (8, [tx, .int zl, .int ta, .int be, .int ki, .int nu, .int wo])), (oq 0, .inr (6, gPs oq w29 w30 w31 1 qt qb qh qr (nI (sg.2.2.2.1 + 1)) (nI bk) (nI w34))), (oq 7, .inl (cI, 600, .inl w35))] H := hP
      have hD : va_D A [(oq 6, .inl (cI, 5, .inl fO)), (oq 1, .inr (7, [.int (nI pz), .ref (oq 2), .ref (oq 3), .ref (oq 4)])), (oq 2, .inl (cI, 600, .inl fK)), (oq 3, .inl (cI, 600, .inl fN)), (oq 4, .inl (cI, 600, .inl fL)), (oq 5, .inr (8, [tx, .int zl, .int ta, .int be, .int ki, .int nu, .int wo])), (oq 0, .inr (6, gPs oq w29 w30 w31 1 qt qb qh qr (nI (sg.2.2.2.1 + 1)) (nI bk) (nI w34))), (oq 7, .inl (cI, 600, .inl w35))] := hD
      try dsimp only at hw
      clear hz1 hk1 hFc hPc hKc hDc
      obtain ⟨hawl, rfl, rfl⟩ := hw.resolve_right (fun q => absurd q.1 (by omega))
      have hP : va_P D vwCl [(oq 6, .inl (cI, 5, .inl fO)), (oq 1, .inr (7, [.int (nI pz), .ref (oq 2), .ref (oq 3), .ref (oq 4)])), (oq 2, .inl (cI, 600, .inl fK)), (oq 3, .inl (cI, 600, .inl fN)), (oq 4, .inl (cI, 600, .inl fL)), (oq 5, .inr (8, [tx, .int zl, .int ta, .int be, .int ki, .int nu, .int wo])), (oq 0, .inr (6, gPs oq w29 w30 w31 1 qt qb qh qr (nI (sg.2.2.2.1 + 1)) (nI bk) (nI (wz + 1)))), (oq 7, .inl (cI, 600, .inl (upd fW wz 40)))] H := hP
      have hD : va_D A [(oq 6, .inl (cI, 5, .inl fO)), (oq 1, .inr (7, [.int (nI pz), .ref (oq 2), .ref (oq 3), .ref (oq 4)])), (oq 2, .inl (cI, 600, .inl fK)), (oq 3, .inl (cI, 600, .inl fN)), (oq 4, .inl (cI, 600, .inl fL)), (oq 5, .inr (8, [tx, .int zl, .int ta, .int be, .int ki, .int nu, .int wo])), (oq 0, .inr (6, gPs oq w29 w30 w31 1 qt qb qh qr (nI (sg.2.2.2.1 + 1)) (nI bk) (nI (wz + 1)))), (oq 7, .inl (cI, 600, .inl (upd fW wz 40)))] := hD
      refine lv_goto (tgt := 110) hx hb dX6_acceptUnit_103 (by decide) ?_
      exact W.vret hx hb hr (fun t ht hW => ⟨⟨(w29, w30, w31, 1, qt, qb, qh, qr, (nI (sg.2.2.2.1 + 1)), bk, (wz + 1), fO, (upd fW wz 40), pz, fK, fN, fL), rfl, (by (try dsimp only); first | done | exact ⟨acc_bad (hM.aw (k := 40) (nn := sg.2.2.2.1 + 1) (by decide) (Or.inl hst) rfl (Nat.le_refl _)) (fun _ => (st1_p hst).trans (if_pos hgt)) hnt32, by omega⟩), by rw [ht]; exact hP.sub [6, 0, 7, 1, 2, 3, 4, 5] rfl, va_K.moved hW.alike (hK.sub [0] rfl), hD.sub [6, 0, 7, 1, 2, 3, 4, 5] (by decide) rfl⟩, hS.F ht⟩) hS.2.2 dX6_acceptUnit_110
  refine lv_lookup (off := 105) (tgt := 106) hx hb dX6_acceptUnit_1 (by decide +kernel) (by simp [Op.lookupswitch.offset, List.find?, show ¬ (2 : Int) = Int32.toInt z1 from fun q => sw_ne (n := 2) hs1 (by decide) (by decide) q.symm, show ¬ (10 : Int) = Int32.toInt z1 from fun q => sw_ne (n := 10) hs8 (by decide) (by decide) q.symm, show ¬ (11 : Int) = Int32.toInt z1 from fun q => sw_ne (n := 11) hs15 (by decide) (by decide) q.symm, show ¬ (40 : Int) = Int32.toInt z1 from fun q => sw_ne (n := 40) hs22 (by decide) (by decide) q.symm]) (by decide) ?_
  refine lv_aload_n hx hb dX6_acceptUnit_106 rfl (lv_at hl 0 rfl) ?_
  have hPc := hP.sub (ws' := [(oq 0, .inr (6, gPs oq qf qp qd 1 qt qb qh qr qn (nI bk) (nI wz))), (oq 5, .inr (8, [tx, .int zl, .int ta, .int be, .int ki, .int nu, .int wo]))]) [0, 7] rfl
  have hKc := hK.sub (tys' := []) [] rfl
  have hDc := hD.sub (ws' := [(oq 0, .inr (6, gPs oq qf qp qd 1 qt qb qh qr qn (nI bk) (nI wz))), (oq 5, .inr (8, [tx, .int zl, .int ta, .int be, .int ki, .int nu, .int wo]))]) [0, 7] (by decide) rfl
  have hFc := va_free (wc := [(oq 0, .inr (6, gPs oq qf qp qd 1 qt qb qh qr qn (nI bk) (nI wz))), (oq 5, .inr (8, [tx, .int zl, .int ta, .int be, .int ki, .int nu, .int wo]))]) hD hS hA [0, 7] rfl
  refine va_callv (va_runV (As := []) (rest := []) ⟨hx, hb, hml, hown, hts⟩ (k_refuse l D _ oq cI qf qp qd 1 qt qb qh qr qn bk wz tx zl ta be ki nu wo) (cwV 0 hts g_k_aUnit_k_refuse_112 rfl rfl rfl (by decide +kernel) ⟨(Nat.le_of_ble_eq_true rfl), (Nat.le_of_ble_eq_true rfl)⟩) (PcWC_V (q0 := 0) hPc hKc hDc hN rfl rfl) rfl rfl hl.1 rfl (lv_room (Nat.le_of_ble_eq_true rfl)) dX6_acceptUnit_107 ⟨(Nat.le_of_ble_eq_true rfl), (Nat.le_of_ble_eq_true rfl)⟩) hS (fun q _ h => hFc q h) hFc (fun uu tt H locs htt hvm hw hB hz1 hk1 hS => ?_)
  obtain ⟨w37, w38, w39, w40⟩ := uu
  obtain ⟨hP1, hK1, hD1⟩ := hB
  rw [htt] at hP1
  have hK1 := va_K.moved hvm.symm hK1
  have hP1 : va_P D vwCl [(oq 0, .inr (6, gPs oq w37 w38 w39 1 qt qb w40 qr qn (nI bk) (nI wz))), (oq 5, .inr (8, [tx, .int zl, .int ta, .int be, .int ki, .int nu, .int wo]))] H := hP1
  obtain ⟨hP, hD⟩ := va_join (wr := [(oq 6, .inl (cI, 5, .inl fO)), (oq 7, .inl (cI, 600, .inl fW)), (oq 1, .inr (7, [.int (nI pz), .ref (oq 2), .ref (oq 3), .ref (oq 4)])), (oq 2, .inl (cI, 600, .inl fK)), (oq 3, .inl (cI, 600, .inl fN)), (oq 4, .inl (cI, 600, .inl fL))]) (w1 := [(oq 0, .inr (6, gPs oq w37 w38 w39 1 qt qb w40 qr qn (nI bk) (nI wz))), (oq 5, .inr (8, [tx, .int zl, .int ta, .int be, .int ki, .int nu, .int wo]))]) hP hD [0, 7] [1, 2, 3, 4, 5, 6] rfl rfl (by decide) (by decide) hk1 hFc hP1 hD1
  have hP : va_P D vwCl [(oq 6, .inl (cI, 5, .inl fO)), (oq 7, .inl (cI, 600, .inl fW)), (oq 1, .inr (7, [.int (nI pz), .ref (oq 2), .ref (oq 3), .ref (oq 4)])), (oq 2, .inl (cI, 600, .inl fK)), (oq 3, .inl (cI, 600, .inl fN)), (oq 4, .inl (cI, 600, .inl fL)), (oq 0, .inr (6, gPs oq w37 w38 w39 1 qt qb w40 qr qn (nI bk) (nI wz))), (oq 5, .inr (8, [tx, .int zl, .int ta, .int be, .int ki, .int nu, .int wo]))] H := hP
  have hD : va_D A [(oq 6, .inl (cI, 5, .inl fO)), (oq 7, .inl (cI, 600, .inl fW)), (oq 1, .inr (7, [.int (nI pz), .ref (oq 2), .ref (oq 3), .ref (oq 4)])), (oq 2, .inl (cI, 600, .inl fK)), (oq 3, .inl (cI, 600, .inl fN)), (oq 4, .inl (cI, 600, .inl fL)), (oq 0, .inr (6, gPs oq w37 w38 w39 1 qt qb w40 qr qn (nI bk) (nI wz))), (oq 5, .inr (8, [tx, .int zl, .int ta, .int be, .int ki, .int nu, .int wo]))] := hD
  try dsimp only at hw
  clear hz1 hk1 hFc hPc hKc hDc
  obtain ⟨hrf41, rfl⟩ := hw
  have hP : va_P D vwCl [(oq 6, .inl (cI, 5, .inl fO)), (oq 7, .inl (cI, 600, .inl fW)), (oq 1, .inr (7, [.int (nI pz), .ref (oq 2), .ref (oq 3), .ref (oq 4)])), (oq 2, .inl (cI, 600, .inl fK)), (oq 3, .inl (cI, 600, .inl fN)), (oq 4, .inl (cI, 600, .inl fL)), (oq 0, .inr (6, gPs oq w37 w38 w39 1 qt qb 0 qr qn (nI bk) (nI wz))), (oq 5, .inr (8, [tx, .int zl, .int ta, .int be, .int ki, .int nu, .int wo]))] H := hP
  have hD : va_D A [(oq 6, .inl (cI, 5, .inl fO)), (oq 7, .inl (cI, 600, .inl fW)), (oq 1, .inr (7, [.int (nI pz), .ref (oq 2), .ref (oq 3), .ref (oq 4)])), (oq 2, .inl (cI, 600, .inl fK)), (oq 3, .inl (cI, 600, .inl fN)), (oq 4, .inl (cI, 600, .inl fL)), (oq 0, .inr (6, gPs oq w37 w38 w39 1 qt qb 0 qr qn (nI bk) (nI wz))), (oq 5, .inr (8, [tx, .int zl, .int ta, .int be, .int ki, .int nu, .int wo]))] := hD
  exact W.vret hx hb hr (fun t ht hW => ⟨⟨(w37, w38, w39, 1, qt, qb, 0, qr, qn, bk, wz, fO, fW, pz, fK, fN, fL), rfl, (by (try dsimp only); first | done | exact ⟨acc_bad (hM) (fun _ => st1_no hst (fun q => by rcases q with q | q | q <;> exact absurd (hz.trans (congrArg nI q)) (by assumption)) (fun q => absurd (hz.trans (congrArg nI q)) (by assumption))) hrf41, by omega⟩), by rw [ht]; exact hP.sub [6, 0, 1, 2, 3, 4, 5, 7] rfl, va_K.moved hW.alike (hK.sub [0] rfl), hD.sub [6, 0, 1, 2, 3, 4, 5, 7] (by decide) rfl⟩, hS.F ht⟩) hS.2.2 dX6_acceptUnit_110

def own_k_aClosing : List Cond := [.methodLink RX6 128 yX6_release, .instanceMethod yX6_release, .selects RX6 yX6_release yX6_release, .initialized RX6, .fieldLink RX6 46 "ClashFree$Parser" "parens" "I", .fieldLink RX6 52 "ClashFree$Parser" "waitingSize" "I", .methodLink RX6 112 yX6_refuse, .instanceMethod yX6_refuse, .selects RX6 yX6_refuse yX6_refuse]
def wp_k_aClosing : List Cond := .code yX6_acceptClosing cX6_acceptClosing 2 none :: (own_k_aClosing ++ (wp_k_release ++ (wp_k_refuse ++ (wsX60 ++ ([] : List Cond)))))
set_option maxRecDepth 20000 in
theorem inown_k_aClosing : ∀ w ∈ own_k_aClosing, w ∈ lw_tbl := mem_places [1062, 1064, 19, 111, 341, 344, 1043, 1045, 15] (by decide +kernel)
set_option maxRecDepth 20000 in
theorem in_k_aClosing : ∀ w ∈ wp_k_aClosing, w ∈ lw_tbl := List.forall_mem_cons.mpr ⟨List.mem_of_getElem? (i := 1069) (by decide +kernel), List.forall_mem_append.mpr ⟨inown_k_aClosing, List.forall_mem_append.mpr ⟨in_k_release, List.forall_mem_append.mpr ⟨in_k_refuse, List.forall_mem_append.mpr ⟨lwb_X6, fun _ h => absurd h List.not_mem_nil⟩⟩⟩⟩⟩
set_option maxRecDepth 20000 in
theorem good_k_aClosing : wp_k_aClosing.all goodWord = true := by decide +kernel
set_option maxRecDepth 20000 in
theorem g_k_aClosing_k_release_128 : GoodIn wp_k_aClosing (wsV RX6 128 RX6 yX6_release wp_k_release) := goodIn_sub (List.forall_mem_append.mpr ⟨List.forall_mem_cons.mpr ⟨(List.mem_of_getElem? (i := 1) rfl), List.forall_mem_cons.mpr ⟨(List.mem_of_getElem? (i := 2) rfl), List.forall_mem_cons.mpr ⟨(List.mem_of_getElem? (i := 3) rfl), List.forall_mem_cons.mpr ⟨(List.mem_of_getElem? (i := 4) rfl), fun _ h => absurd h List.not_mem_nil⟩⟩⟩⟩, (fun _ h => (List.mem_cons_of_mem _ (List.mem_append_right _ (List.mem_append_left _ h))))⟩) (by decide +kernel)
set_option maxRecDepth 20000 in
theorem g_k_aClosing_k_refuse_112 : GoodIn wp_k_aClosing (wsV RX6 112 RX6 yX6_refuse wp_k_refuse) := goodIn_sub (List.forall_mem_append.mpr ⟨List.forall_mem_cons.mpr ⟨(List.mem_of_getElem? (i := 7) rfl), List.forall_mem_cons.mpr ⟨(List.mem_of_getElem? (i := 8) rfl), List.forall_mem_cons.mpr ⟨(List.mem_of_getElem? (i := 9) rfl), List.forall_mem_cons.mpr ⟨(List.mem_of_getElem? (i := 4) rfl), fun _ h => absurd h List.not_mem_nil⟩⟩⟩⟩, (fun _ h => (List.mem_cons_of_mem _ (List.mem_append_right _ (List.mem_append_right _ (List.mem_append_left _ h)))))⟩) (by decide +kernel)
set_option maxHeartbeats 4000000 in
set_option maxRecDepth 100000 in
theorem k_aClosing (l : Launch) (D : va_G) (sz : Nat) (oq : Nat → Nat) (cI : ClassId) (qf : Int32) (qp : Int32) (qd : Int32) (qs : Int32) (qt : Int32) (qb : Int32) (qh : Int32) (qr : Int32) (qn : Int32) (bk : Nat) (wz : Nat) (fO : Nat → Int32) (fW : Nat → Int32) (pz : Nat) (fK : Nat → Int32) (fN : Nat → Int32) (fL : Nat → Int32) (tx : Value) (zl : Int32) (ta : Int32) (be : Int32) (ki : Int32) (nu : Int32) (wo : Int32) (z1 : Int32) (kc : Nat) (num : Nat) (sg : SM) (hz : z1 = nI kc) (hkc : kc ≤ 255) (hnu : kc = 2 → nu = nI num ∧ num ≤ 999999) (hM : MatS sg qs qt qr qn bk fO wz fW pz fK fN fL) (hpw : pz + wz ≤ 600) (hpk : kc = 0 ∨ pz + wz < 600) (hst : sg.1 = 2) (hsk : ¬ 0 < strN kc) (hnp : 0 < sg.2.2.2.1) : Met l yX6_acceptClosing wp_k_aClosing ({ frames := 2, cells := 0, slots := 0, locals := 61 }) (PcWC D [.ref (oq 0), .int z1] sz [(oq 0, .inr (6, gPs oq qf qp qd qs qt qb qh qr qn (nI bk) (nI wz))), (oq 6, .inl (cI, 5, .inl fO)), (oq 7, .inl (cI, 600, .inl fW)), (oq 1, .inr (7, [.int (nI pz), .ref (oq 2), .ref (oq 3), .ref (oq 4)])), (oq 2, .inl (cI, 600, .inl fK)), (oq 3, .inl (cI, 600, .inl fN)), (oq 4, .inl (cI, 600, .inl fL)), (oq 5, .inr (8, [tx, .int zl, .int ta, .int be, .int ki, .int nu, .int wo]))] [(cI, .int)]) (va_Qv (fun (u : (Int32) × (Int32) × (Int32) × (Int32) × (Int32) × (Int32) × (Int32) × (Int32) × (Int32) × (Nat) × (Nat) × (Nat → Int32) × (Nat → Int32) × (Nat) × (Nat → Int32) × (Nat → Int32) × (Nat → Int32)) => AccP sg kc num qf u.1 (fun t => MatS t u.2.2.2.1 u.2.2.2.2.1 u.2.2.2.2.2.2.2.1 u.2.2.2.2.2.2.2.2.1 u.2.2.2.2.2.2.2.2.2.1 u.2.2.2.2.2.2.2.2.2.2.2.1 u.2.2.2.2.2.2.2.2.2.2.1 u.2.2.2.2.2.2.2.2.2.2.2.2.1 u.2.2.2.2.2.2.2.2.2.2.2.2.2.1 u.2.2.2.2.2.2.2.2.2.2.2.2.2.2.1 u.2.2.2.2.2.2.2.2.2.2.2.2.2.2.2.1 u.2.2.2.2.2.2.2.2.2.2.2.2.2.2.2.2) ∧ (u.2.2.2.2.2.2.2.2.2.2.2.2.2.1 + u.2.2.2.2.2.2.2.2.2.2.1 ≤ pz + wz ∨ (¬ kc = 0 ∧ u.2.2.2.2.2.2.2.2.2.2.2.2.2.1 + u.2.2.2.2.2.2.2.2.2.2.1 ≤ pz + wz + 1))) (fun (u : (Int32) × (Int32) × (Int32) × (Int32) × (Int32) × (Int32) × (Int32) × (Int32) × (Int32) × (Nat) × (Nat) × (Nat → Int32) × (Nat → Int32) × (Nat) × (Nat → Int32) × (Nat → Int32) × (Nat → Int32)) t => va_P D vwCl [(oq 0, .inr (6, gPs oq u.1 u.2.1 u.2.2.1 u.2.2.2.1 u.2.2.2.2.1 u.2.2.2.2.2.1 u.2.2.2.2.2.2.1 u.2.2.2.2.2.2.2.1 u.2.2.2.2.2.2.2.2.1 (nI u.2.2.2.2.2.2.2.2.2.1) (nI u.2.2.2.2.2.2.2.2.2.2.1))), (oq 6, .inl (cI, 5, .inl u.2.2.2.2.2.2.2.2.2.2.2.1)), (oq 7, .inl (cI, 600, .inl u.2.2.2.2.2.2.2.2.2.2.2.2.1)), (oq 1, .inr (7, [.int (nI u.2.2.2.2.2.2.2.2.2.2.2.2.2.1), .ref (oq 2), .ref (oq 3), .ref (oq 4)])), (oq 2, .inl (cI, 600, .inl u.2.2.2.2.2.2.2.2.2.2.2.2.2.2.1)), (oq 3, .inl (cI, 600, .inl u.2.2.2.2.2.2.2.2.2.2.2.2.2.2.2.1)), (oq 4, .inl (cI, 600, .inl u.2.2.2.2.2.2.2.2.2.2.2.2.2.2.2.2)), (oq 5, .inr (8, [tx, .int zl, .int ta, .int be, .int ki, .int nu, .int wo]))] t.heap ∧ va_K D vwCl [(cI, .int)] t ∧ va_D (va_A [(oq 0, .inr (6, gPs oq qf qp qd qs qt qb qh qr qn (nI bk) (nI wz))), (oq 6, .inl (cI, 5, .inl fO)), (oq 7, .inl (cI, 600, .inl fW)), (oq 1, .inr (7, [.int (nI pz), .ref (oq 2), .ref (oq 3), .ref (oq 4)])), (oq 2, .inl (cI, 600, .inl fK)), (oq 3, .inl (cI, 600, .inl fN)), (oq 4, .inl (cI, 600, .inl fL)), (oq 5, .inr (8, [tx, .int zl, .int ta, .int be, .int ki, .int nu, .int wo]))] sz) [(oq 0, .inr (6, gPs oq u.1 u.2.1 u.2.2.1 u.2.2.2.1 u.2.2.2.2.1 u.2.2.2.2.2.1 u.2.2.2.2.2.2.1 u.2.2.2.2.2.2.2.1 u.2.2.2.2.2.2.2.2.1 (nI u.2.2.2.2.2.2.2.2.2.1) (nI u.2.2.2.2.2.2.2.2.2.2.1))), (oq 6, .inl (cI, 5, .inl u.2.2.2.2.2.2.2.2.2.2.2.1)), (oq 7, .inl (cI, 600, .inl u.2.2.2.2.2.2.2.2.2.2.2.2.1)), (oq 1, .inr (7, [.int (nI u.2.2.2.2.2.2.2.2.2.2.2.2.2.1), .ref (oq 2), .ref (oq 3), .ref (oq 4)])), (oq 2, .inl (cI, 600, .inl u.2.2.2.2.2.2.2.2.2.2.2.2.2.2.1)), (oq 3, .inl (cI, 600, .inl u.2.2.2.2.2.2.2.2.2.2.2.2.2.2.2.1)), (oq 4, .inl (cI, 600, .inl u.2.2.2.2.2.2.2.2.2.2.2.2.2.2.2.2)), (oq 5, .inr (8, [tx, .int zl, .int ta, .int be, .int ki, .int nu, .int wo]))]) (va_A [(oq 0, .inr (6, gPs oq qf qp qd qs qt qb qh qr qn (nI bk) (nI wz))), (oq 6, .inl (cI, 5, .inl fO)), (oq 7, .inl (cI, 600, .inl fW)), (oq 1, .inr (7, [.int (nI pz), .ref (oq 2), .ref (oq 3), .ref (oq 4)])), (oq 2, .inl (cI, 600, .inl fK)), (oq 3, .inl (cI, 600, .inl fN)), (oq 4, .inl (cI, 600, .inl fL)), (oq 5, .inr (8, [tx, .int zl, .int ta, .int be, .int ki, .int nu, .int wo]))] sz)) 0 0 (va_A [(oq 0, .inr (6, gPs oq qf qp qd qs qt qb qh qr qn (nI bk) (nI wz))), (oq 6, .inl (cI, 5, .inl fO)), (oq 7, .inl (cI, 600, .inl fW)), (oq 1, .inr (7, [.int (nI pz), .ref (oq 2), .ref (oq 3), .ref (oq 4)])), (oq 2, .inl (cI, 600, .inl fK)), (oq 3, .inl (cI, 600, .inl fN)), (oq 4, .inl (cI, 600, .inl fL)), (oq 5, .inr (8, [tx, .int zl, .int ta, .int be, .int ki, .int nu, .int wo]))] sz) := by
  refine Met.ofW (cc := cX6_acceptClosing) (maxL := 2) (ret := none) (by decide) rfl ?_
  intro p e s m args below meth c s₁ B hml hv
  obtain ⟨rfl, hsz, hP, hK, hD0, hN⟩ := hv
  have hx := B.exec
  have hb := B.bytes
  have hr := B.returns
  have hts := atoms_spec (ws := wp_k_aClosing) B.pre
  have hin_X6 : ∀ w ∈ wsX60, w ∈ wp_k_aClosing := fun _ h => (List.mem_cons_of_mem _ (List.mem_append_right _ (List.mem_append_right _ (List.mem_append_right _ (List.mem_append_left _ h)))))
  have hown : s.vm.findClass RX6 = some m.cls := findClass_of_methodNamed B.named
  have hlocks := B.notSynchronized
  subst hsz
  have hD := hD0.self (sz := s.heap.size)
  generalize hAe : va_A [(oq 0, .inr (6, gPs oq qf qp qd qs qt qb qh qr qn (nI bk) (nI wz))), (oq 6, .inl (cI, 5, .inl fO)), (oq 7, .inl (cI, 600, .inl fW)), (oq 1, .inr (7, [.int (nI pz), .ref (oq 2), .ref (oq 3), .ref (oq 4)])), (oq 2, .inl (cI, 600, .inl fK)), (oq 3, .inl (cI, 600, .inl fN)), (oq 4, .inl (cI, 600, .inl fL)), (oq 5, .inr (8, [tx, .int zl, .int ta, .int be, .int ki, .int nu, .int wo]))] s.heap.size = A at hD ⊢
  have hA : ∀ q : Nat, s.heap.size ≤ q → A q := fun q h => by rw [← hAe]; exact Or.inr h
  have hS : va_S A s.heap s.heap [] := va_S.rf
  have hP : va_P D vwCl [(oq 0, .inr (6, gPs oq qf qp qd qs qt qb qh qr qn (nI bk) (nI wz))), (oq 6, .inl (cI, 5, .inl fO)), (oq 7, .inl (cI, 600, .inl fW)), (oq 1, .inr (7, [.int (nI pz), .ref (oq 2), .ref (oq 3), .ref (oq 4)])), (oq 2, .inl (cI, 600, .inl fK)), (oq 3, .inl (cI, 600, .inl fN)), (oq 4, .inl (cI, 600, .inl fL)), (oq 5, .inr (8, [tx, .int zl, .int ta, .int be, .int ki, .int nu, .int wo]))] s.heap := hP
  have hl := lv_entry ([.ref (oq 0), .int z1]) (n := 2) (Nat.le_of_ble_eq_true rfl)
  rw [lg_entry_eq]
  generalize (lg_sl ([.ref (oq 0), .int z1]) ++ List.replicate (2 - (lg_sl ([.ref (oq 0), .int z1])).length) Slot.unset).toArray = ls at hl ⊢
  have hl : lv_has ls 2 [(0, .ref (oq 0)), (1, .int z1)] := hl
  obtain rfl : qs = 2 := hM.1.1.trans (congrArg nI hst)
  have hMb := hM.2.2.2.2.1.1
  have hMb5 := hM.2.2.2.2.1.2.1
  have hMn := hM.2.2.2.1
  have hMw := hM.2.2.2.2.2.1.1
  have hMg := hM.2.2.2.2.2.2.1
  refine lv_iload_n hx hb dX6_acceptClosing_0 rfl (lv_at hl 1 rfl) ?_
  refine lv_bipush (v := 41) hx hb dX6_acceptClosing_1 (by decide) ?_
  refine lv_icmp_eq (tgt := 11) hx hb dX6_acceptClosing_3 (by decide) (fun hc1 => ?_) (fun hc1 => ?_)
  ·
    obtain rfl : kc = 41 := (nI_eq (b := 41) (by omega) (by decide)).mp (hz.symm.trans hc1)
    refine lv_aload_n hx hb dX6_acceptClosing_11 rfl (lv_at hl 0 rfl) ?_
    refine lv_iconst (v := 1) hx hb dX6_acceptClosing_12 (by decide) ?_
    have hPc := hP.sub (ws' := [(oq 0, .inr (6, gPs oq qf qp qd 2 qt qb qh qr qn (nI bk) (nI wz))), (oq 7, .inl (cI, 600, .inl fW)), (oq 1, .inr (7, [.int (nI pz), .ref (oq 2), .ref (oq 3), .ref (oq 4)])), (oq 2, .inl (cI, 600, .inl fK)), (oq 3, .inl (cI, 600, .inl fN)), (oq 4, .inl (cI, 600, .inl fL))]) [0, 2, 3, 4, 5, 6] rfl
    have hKc := hK.sub (tys' := [(cI, .int)]) [0] rfl
    have hDc := hD.sub (ws' := [(oq 0, .inr (6, gPs oq qf qp qd 2 qt qb qh qr qn (nI bk) (nI wz))), (oq 7, .inl (cI, 600, .inl fW)), (oq 1, .inr (7, [.int (nI pz), .ref (oq 2), .ref (oq 3), .ref (oq 4)])), (oq 2, .inl (cI, 600, .inl fK)), (oq 3, .inl (cI, 600, .inl fN)), (oq 4, .inl (cI, 600, .inl fL))]) [0, 2, 3, 4, 5, 6] (by decide) rfl
    have hFc := va_free (wc := [(oq 0, .inr (6, gPs oq qf qp qd 2 qt qb qh qr qn (nI bk) (nI wz))), (oq 7, .inl (cI, 600, .inl fW)), (oq 1, .inr (7, [.int (nI pz), .ref (oq 2), .ref (oq 3), .ref (oq 4)])), (oq 2, .inl (cI, 600, .inl fK)), (oq 3, .inl (cI, 600, .inl fN)), (oq 4, .inl (cI, 600, .inl fL))]) hD hS hA [0, 2, 3, 4, 5, 6] rfl
    refine va_callv (va_runV (As := [.int (nI 1)]) (rest := []) ⟨hx, hb, hml, hown, hts⟩ (k_release l D _ oq cI qf qp qd 2 qt qb qh qr qn bk wz fW pz fK fN fL 1 sg.2.2.2.2.2.2.2.1 sg.2.2.2.2.2.2.2.2 (by omega) hM.2.2.2.2.2.1.2.1 hM.2.2.2.2.2.1.2.2 hM.2.2.2.2.2.2 (by omega)) (cwV 1 hts g_k_aClosing_k_release_128 rfl rfl rfl (by decide +kernel) ⟨(Nat.le_of_ble_eq_true rfl), (Nat.le_of_ble_eq_true rfl)⟩) (PcWC_V (q0 := 0) hPc hKc hDc hN rfl rfl) rfl rfl hl.1 rfl (lv_room (Nat.le_of_ble_eq_true rfl)) dX6_acceptClosing_13 ⟨(Nat.le_of_ble_eq_true rfl), (Nat.le_of_ble_eq_true rfl)⟩) hS (fun q _ h => hFc q h) hFc (fun uu tt H locs htt hvm hw hB hz1 hk1 hS => ?_)
    obtain ⟨w3, w4, w5, w6, w7⟩ := uu
    obtain ⟨hP1, hK1, hD1⟩ := hB
    rw [htt] at hP1
    have hK1 := va_K.moved hvm.symm hK1
    have hP1 : va_P D vwCl [(oq 0, .inr (6, gPs oq qf qp qd 2 qt qb qh qr qn (nI bk) (nI w3))), (oq 7, .inl (cI, 600, .inl fW)), (oq 1, .inr (7, [.int (nI w4), .ref (oq 2), .ref (oq 3), .ref (oq 4)])), (oq 2, .inl (cI, 600, .inl w5)), (oq 3, .inl (cI, 600, .inl w6)), (oq 4, .inl (cI, 600, .inl w7))] H := hP1
    obtain ⟨hP, hD⟩ := va_join (wr := [(oq 6, .inl (cI, 5, .inl fO)), (oq 5, .inr (8, [tx, .int zl, .int ta, .int be, .int ki, .int nu, .int wo]))]) (w1 := [(oq 0, .inr (6, gPs oq qf qp qd 2 qt qb qh qr qn (nI bk) (nI w3))), (oq 7, .inl (cI, 600, .inl fW)), (oq 1, .inr (7, [.int (nI w4), .ref (oq 2), .ref (oq 3), .ref (oq 4)])), (oq 2, .inl (cI, 600, .inl w5)), (oq 3, .inl (cI, 600, .inl w6)), (oq 4, .inl (cI, 600, .inl w7))]) hP hD [0, 2, 3, 4, 5, 6] [1, 7] rfl rfl (by decide) (by decide) hk1 hFc hP1 hD1
    have hP : va_P D vwCl [(oq 6, .inl (cI, 5, .inl fO)), (oq 5, .inr (8, [tx, .int zl, .int ta, .int be, .int ki, .int nu, .int wo])), (oq 0, .inr (6, gPs oq qf qp qd 2 qt qb qh qr qn (nI bk) (nI w3))), (oq 7, .inl (cI, 600, .inl fW)), (oq 1, .inr (7, [.int (nI w4), .ref (oq 2), .ref (oq 3), .ref (oq 4)])), (oq 2, .inl (cI, 600, .inl w5)), (oq 3, .inl (cI, 600, .inl w6)), (oq 4, .inl (cI, 600, .inl w7))] H := hP
    have hD : va_D A [(oq 6, .inl (cI, 5, .inl fO)), (oq 5, .inr (8, [tx, .int zl, .int ta, .int be, .int ki, .int nu, .int wo])), (oq 0, .inr (6, gPs oq qf qp qd 2 qt qb qh qr qn (nI bk) (nI w3))), (oq 7, .inl (cI, 600, .inl fW)), (oq 1, .inr (7, [.int (nI w4), .ref (oq 2), .ref (oq 3), .ref (oq 4)])), (oq 2, .inl (cI, 600, .inl w5)), (oq 3, .inl (cI, 600, .inl w6)), (oq 4, .inl (cI, 600, .inl w7))] := hD
    try dsimp only at hw
    clear hz1 hk1 hFc hPc hKc hDc
    obtain ⟨hrl8_1, hrl8_2, hrl8_3⟩ := hw
    have hrl8 := hM.rl hrl8_1 hrl8_2 hrl8_3
    refine lv_aload_n hx hb dX6_acceptClosing_16 rfl (lv_at hl 0 rfl) ?_
    refine lv_dup hx hb dX6_acceptClosing_17 rfl ?_
    refine va_get (D := D) (ci := 6) (v := .int qn) (C := RX6) (T := TX6) (N := 15) hx hb hts hin_X6 hown hK hP 2 rfl rfl 10 (by decide) (hts (.fieldLink RX6 46 "ClashFree$Parser" "parens" "I") (List.mem_of_getElem? (i := 5) rfl)) (fun _ h9 => h9) rfl dX6_acceptClosing_18 ?_
    refine lv_iconst (v := 1) hx hb dX6_acceptClosing_21 (by decide) ?_
    refine lv_isub hx hb dX6_acceptClosing_22 ?_
    refine lv_topi (fun v9 ev9 => ?_)
    obtain rfl : v9 = nI (sg.2.2.2.1 - 1) := ev9.trans (by rw [hMn.1]; exact pk_sub (b := 1) (by omega))
    refine va_put (D := D) (ci := 6) (v := .int (nI (sg.2.2.2.1 - 1))) (ty := .int) (C := RX6) (T := TX6) (N := 15) hx hb hts hin_X6 tyX6 tyX6_ok nmX6 hown hK hP hD hS 2 rfl rfl 10 (by decide) (hts (.fieldLink RX6 46 "ClashFree$Parser" "parens" "I") (List.mem_of_getElem? (i := 5) rfl)) (fun _ h9 => h9) rfl (by decide +kernel) rfl rfl (Nat.le_of_ble_eq_true rfl) dX6_acceptClosing_23 (fun H locs hP hD hS => ?_)
    have hP : va_P D vwCl [(oq 6, .inl (cI, 5, .inl fO)), (oq 5, .inr (8, [tx, .int zl, .int ta, .int be, .int ki, .int nu, .int wo])), (oq 0, .inr (6, gPs oq qf qp qd 2 qt qb qh qr (nI (sg.2.2.2.1 - 1)) (nI bk) (nI w3))), (oq 7, .inl (cI, 600, .inl fW)), (oq 1, .inr (7, [.int (nI w4), .ref (oq 2), .ref (oq 3), .ref (oq 4)])), (oq 2, .inl (cI, 600, .inl w5)), (oq 3, .inl (cI, 600, .inl w6)), (oq 4, .inl (cI, 600, .inl w7))] H := hP
    have hD : va_D A [(oq 6, .inl (cI, 5, .inl fO)), (oq 5, .inr (8, [tx, .int zl, .int ta, .int be, .int ki, .int nu, .int wo])), (oq 0, .inr (6, gPs oq qf qp qd 2 qt qb qh qr (nI (sg.2.2.2.1 - 1)) (nI bk) (nI w3))), (oq 7, .inl (cI, 600, .inl fW)), (oq 1, .inr (7, [.int (nI w4), .ref (oq 2), .ref (oq 3), .ref (oq 4)])), (oq 2, .inl (cI, 600, .inl w5)), (oq 3, .inl (cI, 600, .inl w6)), (oq 4, .inl (cI, 600, .inl w7))] := hD
    refine lv_aload_n hx hb dX6_acceptClosing_26 rfl (lv_at hl 0 rfl) ?_
    refine va_get (D := D) (ci := 6) (v := .int (nI w3)) (C := RX6) (T := TX6) (N := 15) hx hb hts hin_X6 hown hK hP 2 rfl rfl 13 (by decide) (hts (.fieldLink RX6 52 "ClashFree$Parser" "waitingSize" "I") (List.mem_of_getElem? (i := 6) rfl)) (fun _ h9 => h9) rfl dX6_acceptClosing_27 ?_
    refine lv_if_le (tgt := 43) hx hb dX6_acceptClosing_30 (by decide) (fun hc10 => ?_) (fun hc10 => ?_)
    ·
      have hw0 : w3 = 0 := by
        have := (nI_leI (b := 0) (by omega) (by decide)).mp hc10
        omega
      exact W.vret hx hb hr (fun t ht hW => ⟨⟨(qf, qp, qd, 2, qt, qb, qh, qr, (nI (sg.2.2.2.1 - 1)), bk, w3, fO, fW, w4, w5, w6, w7), rfl, (by (try dsimp only); first | done | exact ⟨acc_ok (hrl8.cb hst rfl (by omega)) (fun _ => (st2_c hst hsk hnp).trans (if_pos rfl)) (doom12 (Or.inr hst) (Or.inr rfl) rfl rfl) (fun q => absurd q (by decide)), by omega⟩), by rw [ht]; exact hP.sub [2, 0, 3, 4, 5, 6, 7, 1] rfl, va_K.moved hW.alike (hK.sub [0] rfl), hD.sub [2, 0, 3, 4, 5, 6, 7, 1] (by decide) rfl⟩, hS.F ht⟩) hS.2.2 dX6_acceptClosing_43
    ·
      have hw1 : 1 ≤ w3 := by
        rcases Nat.eq_zero_or_pos w3 with z | z
        · exact absurd (by rw [z]; decide) hc10
        · exact z
      refine lv_aload_n hx hb dX6_acceptClosing_33 rfl (lv_at hl 0 rfl) ?_
      refine lv_dup hx hb dX6_acceptClosing_34 rfl ?_
      refine va_get (D := D) (ci := 6) (v := .int (nI w3)) (C := RX6) (T := TX6) (N := 15) hx hb hts hin_X6 hown hK hP 2 rfl rfl 13 (by decide) (hts (.fieldLink RX6 52 "ClashFree$Parser" "waitingSize" "I") (List.mem_of_getElem? (i := 6) rfl)) (fun _ h9 => h9) rfl dX6_acceptClosing_35 ?_
      refine lv_iconst (v := 1) hx hb dX6_acceptClosing_38 (by decide) ?_
      refine lv_isub hx hb dX6_acceptClosing_39 ?_
      refine lv_topi (fun v11 ev11 => ?_)
      obtain rfl : v11 = nI (w3 - 1) := ev11.trans (pk_sub (b := 1) (by omega))
      refine va_put (D := D) (ci := 6) (v := .int (nI (w3 - 1))) (ty := .int) (C := RX6) (T := TX6) (N := 15) hx hb hts hin_X6 tyX6 tyX6_ok nmX6 hown hK hP hD hS 2 rfl rfl 13 (by decide) (hts (.fieldLink RX6 52 "ClashFree$Parser" "waitingSize" "I") (List.mem_of_getElem? (i := 6) rfl)) (fun _ h9 => h9) rfl (by decide +kernel) rfl rfl (Nat.le_of_ble_eq_true rfl) dX6_acceptClosing_40 (fun H locs hP hD hS => ?_)
      have hP : va_P D vwCl [(oq 6, .inl (cI, 5, .inl fO)), (oq 5, .inr (8, [tx, .int zl, .int ta, .int be, .int ki, .int nu, .int wo])), (oq 0, .inr (6, gPs oq qf qp qd 2 qt qb qh qr (nI (sg.2.2.2.1 - 1)) (nI bk) (nI (w3 - 1)))), (oq 7, .inl (cI, 600, .inl fW)), (oq 1, .inr (7, [.int (nI w4), .ref (oq 2), .ref (oq 3), .ref (oq 4)])), (oq 2, .inl (cI, 600, .inl w5)), (oq 3, .inl (cI, 600, .inl w6)), (oq 4, .inl (cI, 600, .inl w7))] H := hP
      have hD : va_D A [(oq 6, .inl (cI, 5, .inl fO)), (oq 5, .inr (8, [tx, .int zl, .int ta, .int be, .int ki, .int nu, .int wo])), (oq 0, .inr (6, gPs oq qf qp qd 2 qt qb qh qr (nI (sg.2.2.2.1 - 1)) (nI bk) (nI (w3 - 1)))), (oq 7, .inl (cI, 600, .inl fW)), (oq 1, .inr (7, [.int (nI w4), .ref (oq 2), .ref (oq 3), .ref (oq 4)])), (oq 2, .inl (cI, 600, .inl w5)), (oq 3, .inl (cI, 600, .inl w6)), (oq 4, .inl (cI, 600, .inl w7))] := hD
      exact W.vret hx hb hr (fun t ht hW => ⟨⟨(qf, qp, qd, 2, qt, qb, qh, qr, (nI (sg.2.2.2.1 - 1)), bk, (w3 - 1), fO, fW, w4, w5, w6, w7), rfl, (by (try dsimp only); first | done | exact ⟨acc_ok (hrl8.cb hst rfl (by omega)) (fun _ => (st2_c hst hsk hnp).trans (if_pos rfl)) (doom12 (Or.inr hst) (Or.inr rfl) rfl rfl) (fun q => absurd q (by decide)), by omega⟩), by rw [ht]; exact hP.sub [2, 0, 3, 4, 5, 6, 7, 1] rfl, va_K.moved hW.alike (hK.sub [0] rfl), hD.sub [2, 0, 3, 4, 5, 6, 7, 1] (by decide) rfl⟩, hS.F ht⟩) hS.2.2 dX6_acceptClosing_43
  ·
    refine lv_aload_n hx hb dX6_acceptClosing_6 rfl (lv_at hl 0 rfl) ?_
    have hPc := hP.sub (ws' := [(oq 0, .inr (6, gPs oq qf qp qd 2 qt qb qh qr qn (nI bk) (nI wz))), (oq 5, .inr (8, [tx, .int zl, .int ta, .int be, .int ki, .int nu, .int wo]))]) [0, 7] rfl
    have hKc := hK.sub (tys' := []) [] rfl
    have hDc := hD.sub (ws' := [(oq 0, .inr (6, gPs oq qf qp qd 2 qt qb qh qr qn (nI bk) (nI wz))), (oq 5, .inr (8, [tx, .int zl, .int ta, .int be, .int ki, .int nu, .int wo]))]) [0, 7] (by decide) rfl
    have hFc := va_free (wc := [(oq 0, .inr (6, gPs oq qf qp qd 2 qt qb qh qr qn (nI bk) (nI wz))), (oq 5, .inr (8, [tx, .int zl, .int ta, .int be, .int ki, .int nu, .int wo]))]) hD hS hA [0, 7] rfl
    refine va_callv (va_runV (As := []) (rest := []) ⟨hx, hb, hml, hown, hts⟩ (k_refuse l D _ oq cI qf qp qd 2 qt qb qh qr qn bk wz tx zl ta be ki nu wo) (cwV 0 hts g_k_aClosing_k_refuse_112 rfl rfl rfl (by decide +kernel) ⟨(Nat.le_of_ble_eq_true rfl), (Nat.le_of_ble_eq_true rfl)⟩) (PcWC_V (q0 := 0) hPc hKc hDc hN rfl rfl) rfl rfl hl.1 rfl (lv_room (Nat.le_of_ble_eq_true rfl)) dX6_acceptClosing_7 ⟨(Nat.le_of_ble_eq_true rfl), (Nat.le_of_ble_eq_true rfl)⟩) hS (fun q _ h => hFc q h) hFc (fun uu tt H locs htt hvm hw hB hz1 hk1 hS => ?_)
    obtain ⟨w13, w14, w15, w16⟩ := uu
    obtain ⟨hP1, hK1, hD1⟩ := hB
    rw [htt] at hP1
    have hK1 := va_K.moved hvm.symm hK1
    have hP1 : va_P D vwCl [(oq 0, .inr (6, gPs oq w13 w14 w15 2 qt qb w16 qr qn (nI bk) (nI wz))), (oq 5, .inr (8, [tx, .int zl, .int ta, .int be, .int ki, .int nu, .int wo]))] H := hP1
    obtain ⟨hP, hD⟩ := va_join (wr := [(oq 6, .inl (cI, 5, .inl fO)), (oq 7, .inl (cI, 600, .inl fW)), (oq 1, .inr (7, [.int (nI pz), .ref (oq 2), .ref (oq 3), .ref (oq 4)])), (oq 2, .inl (cI, 600, .inl fK)), (oq 3, .inl (cI, 600, .inl fN)), (oq 4, .inl (cI, 600, .inl fL))]) (w1 := [(oq 0, .inr (6, gPs oq w13 w14 w15 2 qt qb w16 qr qn (nI bk) (nI wz))), (oq 5, .inr (8, [tx, .int zl, .int ta, .int be, .int ki, .int nu, .int wo]))]) hP hD [0, 7] [1, 2, 3, 4, 5, 6] rfl rfl (by decide) (by decide) hk1 hFc hP1 hD1
    have hP : va_P D vwCl [(oq 6, .inl (cI, 5, .inl fO)), (oq 7, .inl (cI, 600, .inl fW)), (oq 1, .inr (7, [.int (nI pz), .ref (oq 2), .ref (oq 3), .ref (oq 4)])), (oq 2, .inl (cI, 600, .inl fK)), (oq 3, .inl (cI, 600, .inl fN)), (oq 4, .inl (cI, 600, .inl fL)), (oq 0, .inr (6, gPs oq w13 w14 w15 2 qt qb w16 qr qn (nI bk) (nI wz))), (oq 5, .inr (8, [tx, .int zl, .int ta, .int be, .int ki, .int nu, .int wo]))] H := hP
    have hD : va_D A [(oq 6, .inl (cI, 5, .inl fO)), (oq 7, .inl (cI, 600, .inl fW)), (oq 1, .inr (7, [.int (nI pz), .ref (oq 2), .ref (oq 3), .ref (oq 4)])), (oq 2, .inl (cI, 600, .inl fK)), (oq 3, .inl (cI, 600, .inl fN)), (oq 4, .inl (cI, 600, .inl fL)), (oq 0, .inr (6, gPs oq w13 w14 w15 2 qt qb w16 qr qn (nI bk) (nI wz))), (oq 5, .inr (8, [tx, .int zl, .int ta, .int be, .int ki, .int nu, .int wo]))] := hD
    try dsimp only at hw
    clear hz1 hk1 hFc hPc hKc hDc
    obtain ⟨hrf17, rfl⟩ := hw
    have hP : va_P D vwCl [(oq 6, .inl (cI, 5, .inl fO)), (oq 7, .inl (cI, 600, .inl fW)), (oq 1, .inr (7, [.int (nI pz), .ref (oq 2), .ref (oq 3), .ref (oq 4)])), (oq 2, .inl (cI, 600, .inl fK)), (oq 3, .inl (cI, 600, .inl fN)), (oq 4, .inl (cI, 600, .inl fL)), (oq 0, .inr (6, gPs oq w13 w14 w15 2 qt qb 0 qr qn (nI bk) (nI wz))), (oq 5, .inr (8, [tx, .int zl, .int ta, .int be, .int ki, .int nu, .int wo]))] H := hP
    have hD : va_D A [(oq 6, .inl (cI, 5, .inl fO)), (oq 7, .inl (cI, 600, .inl fW)), (oq 1, .inr (7, [.int (nI pz), .ref (oq 2), .ref (oq 3), .ref (oq 4)])), (oq 2, .inl (cI, 600, .inl fK)), (oq 3, .inl (cI, 600, .inl fN)), (oq 4, .inl (cI, 600, .inl fL)), (oq 0, .inr (6, gPs oq w13 w14 w15 2 qt qb 0 qr qn (nI bk) (nI wz))), (oq 5, .inr (8, [tx, .int zl, .int ta, .int be, .int ki, .int nu, .int wo]))] := hD
    exact W.vret hx hb hr (fun t ht hW => ⟨⟨(w13, w14, w15, 2, qt, qb, 0, qr, qn, bk, wz, fO, fW, pz, fK, fN, fL), rfl, (by (try dsimp only); first | done | exact ⟨acc_bad (hM) (fun _ => (st2_c hst hsk hnp).trans (if_neg (fun q => hc1 (hz.trans (congrArg nI q))))) hrf17, by omega⟩), by rw [ht]; exact hP.sub [6, 0, 1, 2, 3, 4, 5, 7] rfl, va_K.moved hW.alike (hK.sub [0] rfl), hD.sub [6, 0, 1, 2, 3, 4, 5, 7] (by decide) rfl⟩, hS.F ht⟩) hS.2.2 dX6_acceptClosing_10

def own_k_aSumEnd : List Cond := [.methodLink RX6 128 yX6_release, .instanceMethod yX6_release, .selects RX6 yX6_release yX6_release, .initialized RX6, .fieldLink RX6 103 "ClashFree$Parser" "statement" "I", .methodLink RX6 112 yX6_refuse, .instanceMethod yX6_refuse, .selects RX6 yX6_refuse yX6_refuse, .fieldLink RX6 12 "ClashFree$Parser" "program" "LClashFree$Program;", .methodLink RX6 118 yX7_add, .instanceMethod yX7_add, .selects RX7 yX7_add yX7_add, .initialized RX7, .fieldLink RX6 39 "ClashFree$Parser" "state" "I", .methodLink RX6 137 yX6_open, .instanceMethod yX6_open, .selects RX6 yX6_open yX6_open]
def wp_k_aSumEnd : List Cond := .code yX6_acceptSumEnd cX6_acceptSumEnd 2 none :: (own_k_aSumEnd ++ (wp_k_release ++ (wp_k_refuse ++ (wp_k_padd ++ (wp_k_open ++ (wsX60 ++ ([] : List Cond)))))))
set_option maxRecDepth 20000 in
theorem inown_k_aSumEnd : ∀ w ∈ own_k_aSumEnd, w ∈ lw_tbl := mem_places [1062, 1064, 19, 111, 337, 1043, 1045, 15, 333, 1039, 1040, 1041, 112, 336, 1074, 1076, 22] (by decide +kernel)
set_option maxRecDepth 20000 in
theorem in_k_aSumEnd : ∀ w ∈ wp_k_aSumEnd, w ∈ lw_tbl := List.forall_mem_cons.mpr ⟨List.mem_of_getElem? (i := 1073) (by decide +kernel), List.forall_mem_append.mpr ⟨inown_k_aSumEnd, List.forall_mem_append.mpr ⟨in_k_release, List.forall_mem_append.mpr ⟨in_k_refuse, List.forall_mem_append.mpr ⟨in_k_padd, List.forall_mem_append.mpr ⟨in_k_open, List.forall_mem_append.mpr ⟨lwb_X6, fun _ h => absurd h List.not_mem_nil⟩⟩⟩⟩⟩⟩⟩
set_option maxRecDepth 20000 in
theorem good_k_aSumEnd : wp_k_aSumEnd.all goodWord = true := by decide +kernel
set_option maxRecDepth 20000 in
theorem g_k_aSumEnd_k_release_128 : GoodIn wp_k_aSumEnd (wsV RX6 128 RX6 yX6_release wp_k_release) := goodIn_sub (List.forall_mem_append.mpr ⟨List.forall_mem_cons.mpr ⟨(List.mem_of_getElem? (i := 1) rfl), List.forall_mem_cons.mpr ⟨(List.mem_of_getElem? (i := 2) rfl), List.forall_mem_cons.mpr ⟨(List.mem_of_getElem? (i := 3) rfl), List.forall_mem_cons.mpr ⟨(List.mem_of_getElem? (i := 4) rfl), fun _ h => absurd h List.not_mem_nil⟩⟩⟩⟩, (fun _ h => (List.mem_cons_of_mem _ (List.mem_append_right _ (List.mem_append_left _ h))))⟩) (by decide +kernel)
set_option maxRecDepth 20000 in
theorem g_k_aSumEnd_k_refuse_112 : GoodIn wp_k_aSumEnd (wsV RX6 112 RX6 yX6_refuse wp_k_refuse) := goodIn_sub (List.forall_mem_append.mpr ⟨List.forall_mem_cons.mpr ⟨(List.mem_of_getElem? (i := 6) rfl), List.forall_mem_cons.mpr ⟨(List.mem_of_getElem? (i := 7) rfl), List.forall_mem_cons.mpr ⟨(List.mem_of_getElem? (i := 8) rfl), List.forall_mem_cons.mpr ⟨(List.mem_of_getElem? (i := 4) rfl), fun _ h => absurd h List.not_mem_nil⟩⟩⟩⟩, (fun _ h => (List.mem_cons_of_mem _ (List.mem_append_right _ (List.mem_append_right _ (List.mem_append_left _ h)))))⟩) (by decide +kernel)
set_option maxRecDepth 20000 in
theorem g_k_aSumEnd_k_padd_118 : GoodIn wp_k_aSumEnd (wsV RX6 118 RX7 yX7_add wp_k_padd) := goodIn_sub (List.forall_mem_append.mpr ⟨List.forall_mem_cons.mpr ⟨(List.mem_of_getElem? (i := 10) rfl), List.forall_mem_cons.mpr ⟨(List.mem_of_getElem? (i := 11) rfl), List.forall_mem_cons.mpr ⟨(List.mem_of_getElem? (i := 12) rfl), List.forall_mem_cons.mpr ⟨(List.mem_of_getElem? (i := 13) rfl), fun _ h => absurd h List.not_mem_nil⟩⟩⟩⟩, (fun _ h => (List.mem_cons_of_mem _ (List.mem_append_right _ (List.mem_append_right _ (List.mem_append_right _ (List.mem_append_left _ h))))))⟩) (by decide +kernel)
set_option maxRecDepth 20000 in
theorem g_k_aSumEnd_k_open_137 : GoodIn wp_k_aSumEnd (wsV RX6 137 RX6 yX6_open wp_k_open) := goodIn_sub (List.forall_mem_append.mpr ⟨List.forall_mem_cons.mpr ⟨(List.mem_of_getElem? (i := 15) rfl), List.forall_mem_cons.mpr ⟨(List.mem_of_getElem? (i := 16) rfl), List.forall_mem_cons.mpr ⟨(List.mem_of_getElem? (i := 17) rfl), List.forall_mem_cons.mpr ⟨(List.mem_of_getElem? (i := 4) rfl), fun _ h => absurd h List.not_mem_nil⟩⟩⟩⟩, (fun _ h => (List.mem_cons_of_mem _ (List.mem_append_right _ (List.mem_append_right _ (List.mem_append_right _ (List.mem_append_right _ (List.mem_append_left _ h)))))))⟩) (by decide +kernel)
set_option maxHeartbeats 4000000 in
set_option maxRecDepth 100000 in
theorem k_aSumEnd (l : Launch) (D : va_G) (sz : Nat) (oq : Nat → Nat) (cI : ClassId) (qf : Int32) (qp : Int32) (qd : Int32) (qs : Int32) (qt : Int32) (qb : Int32) (qh : Int32) (qr : Int32) (qn : Int32) (bk : Nat) (wz : Nat) (fO : Nat → Int32) (fW : Nat → Int32) (pz : Nat) (fK : Nat → Int32) (fN : Nat → Int32) (fL : Nat → Int32) (tx : Value) (zl : Int32) (ta : Int32) (be : Int32) (ki : Int32) (nu : Int32) (wo : Int32) (z1 : Int32) (kc : Nat) (num : Nat) (sg : SM) (hz : z1 = nI kc) (hkc : kc ≤ 255) (hnu : kc = 2 → nu = nI num ∧ num ≤ 999999) (hM : MatS sg qs qt qr qn bk fO wz fW pz fK fN fL) (hpw : pz + wz ≤ 600) (hpk : kc = 0 ∨ pz + wz < 600) (hst : sg.1 = 2) (hsk : ¬ 0 < strN kc) (hnp : ¬ 0 < sg.2.2.2.1) : Met l yX6_acceptSumEnd wp_k_aSumEnd ({ frames := 2, cells := 0, slots := 0, locals := 61 }) (PcWC D [.ref (oq 0), .int z1] sz [(oq 0, .inr (6, gPs oq qf qp qd qs qt qb qh qr qn (nI bk) (nI wz))), (oq 6, .inl (cI, 5, .inl fO)), (oq 7, .inl (cI, 600, .inl fW)), (oq 1, .inr (7, [.int (nI pz), .ref (oq 2), .ref (oq 3), .ref (oq 4)])), (oq 2, .inl (cI, 600, .inl fK)), (oq 3, .inl (cI, 600, .inl fN)), (oq 4, .inl (cI, 600, .inl fL)), (oq 5, .inr (8, [tx, .int zl, .int ta, .int be, .int ki, .int nu, .int wo]))] [(cI, .int)]) (va_Qv (fun (u : (Int32) × (Int32) × (Int32) × (Int32) × (Int32) × (Int32) × (Int32) × (Int32) × (Int32) × (Nat) × (Nat) × (Nat → Int32) × (Nat → Int32) × (Nat) × (Nat → Int32) × (Nat → Int32) × (Nat → Int32)) => AccP sg kc num qf u.1 (fun t => MatS t u.2.2.2.1 u.2.2.2.2.1 u.2.2.2.2.2.2.2.1 u.2.2.2.2.2.2.2.2.1 u.2.2.2.2.2.2.2.2.2.1 u.2.2.2.2.2.2.2.2.2.2.2.1 u.2.2.2.2.2.2.2.2.2.2.1 u.2.2.2.2.2.2.2.2.2.2.2.2.1 u.2.2.2.2.2.2.2.2.2.2.2.2.2.1 u.2.2.2.2.2.2.2.2.2.2.2.2.2.2.1 u.2.2.2.2.2.2.2.2.2.2.2.2.2.2.2.1 u.2.2.2.2.2.2.2.2.2.2.2.2.2.2.2.2) ∧ (u.2.2.2.2.2.2.2.2.2.2.2.2.2.1 + u.2.2.2.2.2.2.2.2.2.2.1 ≤ pz + wz ∨ (¬ kc = 0 ∧ u.2.2.2.2.2.2.2.2.2.2.2.2.2.1 + u.2.2.2.2.2.2.2.2.2.2.1 ≤ pz + wz + 1))) (fun (u : (Int32) × (Int32) × (Int32) × (Int32) × (Int32) × (Int32) × (Int32) × (Int32) × (Int32) × (Nat) × (Nat) × (Nat → Int32) × (Nat → Int32) × (Nat) × (Nat → Int32) × (Nat → Int32) × (Nat → Int32)) t => va_P D vwCl [(oq 0, .inr (6, gPs oq u.1 u.2.1 u.2.2.1 u.2.2.2.1 u.2.2.2.2.1 u.2.2.2.2.2.1 u.2.2.2.2.2.2.1 u.2.2.2.2.2.2.2.1 u.2.2.2.2.2.2.2.2.1 (nI u.2.2.2.2.2.2.2.2.2.1) (nI u.2.2.2.2.2.2.2.2.2.2.1))), (oq 6, .inl (cI, 5, .inl u.2.2.2.2.2.2.2.2.2.2.2.1)), (oq 7, .inl (cI, 600, .inl u.2.2.2.2.2.2.2.2.2.2.2.2.1)), (oq 1, .inr (7, [.int (nI u.2.2.2.2.2.2.2.2.2.2.2.2.2.1), .ref (oq 2), .ref (oq 3), .ref (oq 4)])), (oq 2, .inl (cI, 600, .inl u.2.2.2.2.2.2.2.2.2.2.2.2.2.2.1)), (oq 3, .inl (cI, 600, .inl u.2.2.2.2.2.2.2.2.2.2.2.2.2.2.2.1)), (oq 4, .inl (cI, 600, .inl u.2.2.2.2.2.2.2.2.2.2.2.2.2.2.2.2)), (oq 5, .inr (8, [tx, .int zl, .int ta, .int be, .int ki, .int nu, .int wo]))] t.heap ∧ va_K D vwCl [(cI, .int)] t ∧ va_D (va_A [(oq 0, .inr (6, gPs oq qf qp qd qs qt qb qh qr qn (nI bk) (nI wz))), (oq 6, .inl (cI, 5, .inl fO)), (oq 7, .inl (cI, 600, .inl fW)), (oq 1, .inr (7, [.int (nI pz), .ref (oq 2), .ref (oq 3), .ref (oq 4)])), (oq 2, .inl (cI, 600, .inl fK)), (oq 3, .inl (cI, 600, .inl fN)), (oq 4, .inl (cI, 600, .inl fL)), (oq 5, .inr (8, [tx, .int zl, .int ta, .int be, .int ki, .int nu, .int wo]))] sz) [(oq 0, .inr (6, gPs oq u.1 u.2.1 u.2.2.1 u.2.2.2.1 u.2.2.2.2.1 u.2.2.2.2.2.1 u.2.2.2.2.2.2.1 u.2.2.2.2.2.2.2.1 u.2.2.2.2.2.2.2.2.1 (nI u.2.2.2.2.2.2.2.2.2.1) (nI u.2.2.2.2.2.2.2.2.2.2.1))), (oq 6, .inl (cI, 5, .inl u.2.2.2.2.2.2.2.2.2.2.2.1)), (oq 7, .inl (cI, 600, .inl u.2.2.2.2.2.2.2.2.2.2.2.2.1)), (oq 1, .inr (7, [.int (nI u.2.2.2.2.2.2.2.2.2.2.2.2.2.1), .ref (oq 2), .ref (oq 3), .ref (oq 4)])), (oq 2, .inl (cI, 600, .inl u.2.2.2.2.2.2.2.2.2.2.2.2.2.2.1)), (oq 3, .inl (cI, 600, .inl u.2.2.2.2.2.2.2.2.2.2.2.2.2.2.2.1)), (oq 4, .inl (cI, 600, .inl u.2.2.2.2.2.2.2.2.2.2.2.2.2.2.2.2)), (oq 5, .inr (8, [tx, .int zl, .int ta, .int be, .int ki, .int nu, .int wo]))]) (va_A [(oq 0, .inr (6, gPs oq qf qp qd qs qt qb qh qr qn (nI bk) (nI wz))), (oq 6, .inl (cI, 5, .inl fO)), (oq 7, .inl (cI, 600, .inl fW)), (oq 1, .inr (7, [.int (nI pz), .ref (oq 2), .ref (oq 3), .ref (oq 4)])), (oq 2, .inl (cI, 600, .inl fK)), (oq 3, .inl (cI, 600, .inl fN)), (oq 4, .inl (cI, 600, .inl fL)), (oq 5, .inr (8, [tx, .int zl, .int ta, .int be, .int ki, .int nu, .int wo]))] sz)) 0 0 (va_A [(oq 0, .inr (6, gPs oq qf qp qd qs qt qb qh qr qn (nI bk) (nI wz))), (oq 6, .inl (cI, 5, .inl fO)), (oq 7, .inl (cI, 600, .inl fW)), (oq 1, .inr (7, [.int (nI pz), .ref (oq 2), .ref (oq 3), .ref (oq 4)])), (oq 2, .inl (cI, 600, .inl fK)), (oq 3, .inl (cI, 600, .inl fN)), (oq 4, .inl (cI, 600, .inl fL)), (oq 5, .inr (8, [tx, .int zl, .int ta, .int be, .int ki, .int nu, .int wo]))] sz) := by
  refine Met.ofW (cc := cX6_acceptSumEnd) (maxL := 2) (ret := none) (by decide) rfl ?_
  intro p e s m args below meth c s₁ B hml hv
  obtain ⟨rfl, hsz, hP, hK, hD0, hN⟩ := hv
  have hx := B.exec
  have hb := B.bytes
  have hr := B.returns
  have hts := atoms_spec (ws := wp_k_aSumEnd) B.pre
  have hin_X6 : ∀ w ∈ wsX60, w ∈ wp_k_aSumEnd := fun _ h => (List.mem_cons_of_mem _ (List.mem_append_right _ (List.mem_append_right _ (List.mem_append_right _ (List.mem_append_right _ (List.mem_append_right _ (List.mem_append_left _ h)))))))
  have hown : s.vm.findClass RX6 = some m.cls := findClass_of_methodNamed B.named
  have hlocks := B.notSynchronized
  subst hsz
  have hD := hD0.self (sz := s.heap.size)
  generalize hAe : va_A [(oq 0, .inr (6, gPs oq qf qp qd qs qt qb qh qr qn (nI bk) (nI wz))), (oq 6, .inl (cI, 5, .inl fO)), (oq 7, .inl (cI, 600, .inl fW)), (oq 1, .inr (7, [.int (nI pz), .ref (oq 2), .ref (oq 3), .ref (oq 4)])), (oq 2, .inl (cI, 600, .inl fK)), (oq 3, .inl (cI, 600, .inl fN)), (oq 4, .inl (cI, 600, .inl fL)), (oq 5, .inr (8, [tx, .int zl, .int ta, .int be, .int ki, .int nu, .int wo]))] s.heap.size = A at hD ⊢
  have hA : ∀ q : Nat, s.heap.size ≤ q → A q := fun q h => by rw [← hAe]; exact Or.inr h
  have hS : va_S A s.heap s.heap [] := va_S.rf
  have hP : va_P D vwCl [(oq 0, .inr (6, gPs oq qf qp qd qs qt qb qh qr qn (nI bk) (nI wz))), (oq 6, .inl (cI, 5, .inl fO)), (oq 7, .inl (cI, 600, .inl fW)), (oq 1, .inr (7, [.int (nI pz), .ref (oq 2), .ref (oq 3), .ref (oq 4)])), (oq 2, .inl (cI, 600, .inl fK)), (oq 3, .inl (cI, 600, .inl fN)), (oq 4, .inl (cI, 600, .inl fL)), (oq 5, .inr (8, [tx, .int zl, .int ta, .int be, .int ki, .int nu, .int wo]))] s.heap := hP
  have hl := lv_entry ([.ref (oq 0), .int z1]) (n := 2) (Nat.le_of_ble_eq_true rfl)
  rw [lg_entry_eq]
  generalize (lg_sl ([.ref (oq 0), .int z1]) ++ List.replicate (2 - (lg_sl ([.ref (oq 0), .int z1])).length) Slot.unset).toArray = ls at hl ⊢
  have hl : lv_has ls 2 [(0, .ref (oq 0)), (1, .int z1)] := hl
  obtain rfl : qs = 2 := hM.1.1.trans (congrArg nI hst)
  have hMb := hM.2.2.2.2.1.1
  have hMb5 := hM.2.2.2.2.1.2.1
  have hMn := hM.2.2.2.1
  have hMw := hM.2.2.2.2.2.1.1
  have hMg := hM.2.2.2.2.2.2.1
  have hqt := hM.2.1 (Or.inr hst)
  refine lv_aload_n hx hb dX6_acceptSumEnd_0 rfl (lv_at hl 0 rfl) ?_
  refine lv_iconst (v := 1) hx hb dX6_acceptSumEnd_1 (by decide) ?_
  have hPc := hP.sub (ws' := [(oq 0, .inr (6, gPs oq qf qp qd 2 qt qb qh qr qn (nI bk) (nI wz))), (oq 7, .inl (cI, 600, .inl fW)), (oq 1, .inr (7, [.int (nI pz), .ref (oq 2), .ref (oq 3), .ref (oq 4)])), (oq 2, .inl (cI, 600, .inl fK)), (oq 3, .inl (cI, 600, .inl fN)), (oq 4, .inl (cI, 600, .inl fL))]) [0, 2, 3, 4, 5, 6] rfl
  have hKc := hK.sub (tys' := [(cI, .int)]) [0] rfl
  have hDc := hD.sub (ws' := [(oq 0, .inr (6, gPs oq qf qp qd 2 qt qb qh qr qn (nI bk) (nI wz))), (oq 7, .inl (cI, 600, .inl fW)), (oq 1, .inr (7, [.int (nI pz), .ref (oq 2), .ref (oq 3), .ref (oq 4)])), (oq 2, .inl (cI, 600, .inl fK)), (oq 3, .inl (cI, 600, .inl fN)), (oq 4, .inl (cI, 600, .inl fL))]) [0, 2, 3, 4, 5, 6] (by decide) rfl
  have hFc := va_free (wc := [(oq 0, .inr (6, gPs oq qf qp qd 2 qt qb qh qr qn (nI bk) (nI wz))), (oq 7, .inl (cI, 600, .inl fW)), (oq 1, .inr (7, [.int (nI pz), .ref (oq 2), .ref (oq 3), .ref (oq 4)])), (oq 2, .inl (cI, 600, .inl fK)), (oq 3, .inl (cI, 600, .inl fN)), (oq 4, .inl (cI, 600, .inl fL))]) hD hS hA [0, 2, 3, 4, 5, 6] rfl
  refine va_callv (va_runV (As := [.int (nI 1)]) (rest := []) ⟨hx, hb, hml, hown, hts⟩ (k_release l D _ oq cI qf qp qd 2 qt qb qh qr qn bk wz fW pz fK fN fL 1 sg.2.2.2.2.2.2.2.1 sg.2.2.2.2.2.2.2.2 (by omega) hM.2.2.2.2.2.1.2.1 hM.2.2.2.2.2.1.2.2 hM.2.2.2.2.2.2 (by omega)) (cwV 1 hts g_k_aSumEnd_k_release_128 rfl rfl rfl (by decide +kernel) ⟨(Nat.le_of_ble_eq_true rfl), (Nat.le_of_ble_eq_true rfl)⟩) (PcWC_V (q0 := 0) hPc hKc hDc hN rfl rfl) rfl rfl hl.1 rfl (lv_room (Nat.le_of_ble_eq_true rfl)) dX6_acceptSumEnd_2 ⟨(Nat.le_of_ble_eq_true rfl), (Nat.le_of_ble_eq_true rfl)⟩) hS (fun q _ h => hFc q h) hFc (fun uu tt H locs htt hvm hw hB hz1 hk1 hS => ?_)
  obtain ⟨w2, w3, w4, w5, w6⟩ := uu
  obtain ⟨hP1, hK1, hD1⟩ := hB
  rw [htt] at hP1
  have hK1 := va_K.moved hvm.symm hK1
  have hP1 : va_P D vwCl [(oq 0, .inr (6, gPs oq qf qp qd 2 qt qb qh qr qn (nI bk) (nI w2))), (oq 7, .inl (cI, 600, .inl fW)), (oq 1, .inr (7, [.int (nI w3), .ref (oq 2), .ref (oq 3), .ref (oq 4)])), (oq 2, .inl (cI, 600, .inl w4)), (oq 3, .inl (cI, 600, .inl w5)), (oq 4, .inl (cI, 600, .inl w6))] H := hP1
  obtain ⟨hP, hD⟩ := va_join (wr := [(oq 6, .inl (cI, 5, .inl fO)), (oq 5, .inr (8, [tx, .int zl, .int ta, .int be, .int ki, .int nu, .int wo]))]) (w1 := [(oq 0, .inr (6, gPs oq qf qp qd 2 qt qb qh qr qn (nI bk) (nI w2))), (oq 7, .inl (cI, 600, .inl fW)), (oq 1, .inr (7, [.int (nI w3), .ref (oq 2), .ref (oq 3), .ref (oq 4)])), (oq 2, .inl (cI, 600, .inl w4)), (oq 3, .inl (cI, 600, .inl w5)), (oq 4, .inl (cI, 600, .inl w6))]) hP hD [0, 2, 3, 4, 5, 6] [1, 7] rfl rfl (by decide) (by decide) hk1 hFc hP1 hD1
  have hP : va_P D vwCl [(oq 6, .inl (cI, 5, .inl fO)), (oq 5, .inr (8, [tx, .int zl, .int ta, .int be, .int ki, .int nu, .int wo])), (oq 0, .inr (6, gPs oq qf qp qd 2 qt qb qh qr qn (nI bk) (nI w2))), (oq 7, .inl (cI, 600, .inl fW)), (oq 1, .inr (7, [.int (nI w3), .ref (oq 2), .ref (oq 3), .ref (oq 4)])), (oq 2, .inl (cI, 600, .inl w4)), (oq 3, .inl (cI, 600, .inl w5)), (oq 4, .inl (cI, 600, .inl w6))] H := hP
  have hD : va_D A [(oq 6, .inl (cI, 5, .inl fO)), (oq 5, .inr (8, [tx, .int zl, .int ta, .int be, .int ki, .int nu, .int wo])), (oq 0, .inr (6, gPs oq qf qp qd 2 qt qb qh qr qn (nI bk) (nI w2))), (oq 7, .inl (cI, 600, .inl fW)), (oq 1, .inr (7, [.int (nI w3), .ref (oq 2), .ref (oq 3), .ref (oq 4)])), (oq 2, .inl (cI, 600, .inl w4)), (oq 3, .inl (cI, 600, .inl w5)), (oq 4, .inl (cI, 600, .inl w6))] := hD
  try dsimp only at hw
  clear hz1 hk1 hFc hPc hKc hDc
  obtain ⟨hrl7_1, hrl7_2, hrl7_3⟩ := hw
  have hrl7 := hM.rl hrl7_1 hrl7_2 hrl7_3
  refine lv_aload_n hx hb dX6_acceptSumEnd_5 rfl (lv_at hl 0 rfl) ?_
  refine va_get (D := D) (ci := 6) (v := .int qt) (C := RX6) (T := TX6) (N := 15) hx hb hts hin_X6 hown hK hP 2 rfl rfl 6 (by decide) (hts (.fieldLink RX6 103 "ClashFree$Parser" "statement" "I") (List.mem_of_getElem? (i := 5) rfl)) (fun _ h9 => h9) rfl dX6_acceptSumEnd_6 ?_
  refine lv_iconst (v := 3) hx hb dX6_acceptSumEnd_9 (by decide) ?_
  refine lv_icmp_ne (tgt := 31) hx hb dX6_acceptSumEnd_10 (by decide) (fun hc8 => ?_) (fun hc8 => ?_)
  ·
    have h3 : ¬ sg.2.1 = 3 := fun q => hc8 (hqt.1.trans (congrArg nI q))
    refine lv_aload_n hx hb dX6_acceptSumEnd_31 rfl (lv_at hl 0 rfl) ?_
    refine va_get (D := D) (ci := 6) (v := .int qt) (C := RX6) (T := TX6) (N := 15) hx hb hts hin_X6 hown hK hP 2 rfl rfl 6 (by decide) (hts (.fieldLink RX6 103 "ClashFree$Parser" "statement" "I") (List.mem_of_getElem? (i := 5) rfl)) (fun _ h9 => h9) rfl dX6_acceptSumEnd_32 ?_
    refine lv_bipush (v := 9) hx hb dX6_acceptSumEnd_35 (by decide) ?_
    refine lv_icmp_ne (tgt := 56) hx hb dX6_acceptSumEnd_37 (by decide) (fun hc9 => ?_) (fun hc9 => ?_)
    ·
      have h9 : ¬ sg.2.1 = 9 := fun q => hc9 (hqt.1.trans (congrArg nI q))
      refine lv_aload_n hx hb dX6_acceptSumEnd_56 rfl (lv_at hl 0 rfl) ?_
      refine va_get (D := D) (ci := 6) (v := .int qt) (C := RX6) (T := TX6) (N := 15) hx hb hts hin_X6 hown hK hP 2 rfl rfl 6 (by decide) (hts (.fieldLink RX6 103 "ClashFree$Parser" "statement" "I") (List.mem_of_getElem? (i := 5) rfl)) (fun _ h9 => h9) rfl dX6_acceptSumEnd_57 ?_
      refine lv_iconst (v := 3) hx hb dX6_acceptSumEnd_60 (by decide) ?_
      refine lv_icmp_eq (tgt := 111) hx hb dX6_acceptSumEnd_61 (by decide) (fun hc => absurd hc (hc8)) (fun hc => ?_)
      refine lv_aload_n hx hb dX6_acceptSumEnd_64 rfl (lv_at hl 0 rfl) ?_
      refine va_get (D := D) (ci := 6) (v := .int qt) (C := RX6) (T := TX6) (N := 15) hx hb hts hin_X6 hown hK hP 2 rfl rfl 6 (by decide) (hts (.fieldLink RX6 103 "ClashFree$Parser" "statement" "I") (List.mem_of_getElem? (i := 5) rfl)) (fun _ h9 => h9) rfl dX6_acceptSumEnd_65 ?_
      refine lv_bipush (v := 9) hx hb dX6_acceptSumEnd_68 (by decide) ?_
      refine lv_icmp_eq (tgt := 111) hx hb dX6_acceptSumEnd_70 (by decide) (fun hc => absurd hc (hc9)) (fun hc => ?_)
      refine lv_iload_n hx hb dX6_acceptSumEnd_73 rfl (lv_at hl 1 rfl) ?_
      refine lv_bipush (v := 59) hx hb dX6_acceptSumEnd_74 (by decide) ?_
      refine lv_icmp_ne (tgt := 111) hx hb dX6_acceptSumEnd_76 (by decide) (fun hc10 => ?_) (fun hc10 => ?_)
      ·
        have hz59 : ¬ kc = 59 := fun q => hc10 (hz.trans (congrArg nI q))
        refine lv_aload_n hx hb dX6_acceptSumEnd_111 rfl (lv_at hl 0 rfl) ?_
        have hPc := hP.sub (ws' := [(oq 0, .inr (6, gPs oq qf qp qd 2 qt qb qh qr qn (nI bk) (nI w2))), (oq 5, .inr (8, [tx, .int zl, .int ta, .int be, .int ki, .int nu, .int wo]))]) [2, 1] rfl
        have hKc := hK.sub (tys' := []) [] rfl
        have hDc := hD.sub (ws' := [(oq 0, .inr (6, gPs oq qf qp qd 2 qt qb qh qr qn (nI bk) (nI w2))), (oq 5, .inr (8, [tx, .int zl, .int ta, .int be, .int ki, .int nu, .int wo]))]) [2, 1] (by decide) rfl
        have hFc := va_free (wc := [(oq 0, .inr (6, gPs oq qf qp qd 2 qt qb qh qr qn (nI bk) (nI w2))), (oq 5, .inr (8, [tx, .int zl, .int ta, .int be, .int ki, .int nu, .int wo]))]) hD hS hA [2, 1] rfl
        refine va_callv (va_runV (As := []) (rest := []) ⟨hx, hb, hml, hown, hts⟩ (k_refuse l D _ oq cI qf qp qd 2 qt qb qh qr qn bk w2 tx zl ta be ki nu wo) (cwV 0 hts g_k_aSumEnd_k_refuse_112 rfl rfl rfl (by decide +kernel) ⟨(Nat.le_of_ble_eq_true rfl), (Nat.le_of_ble_eq_true rfl)⟩) (PcWC_V (q0 := 0) hPc hKc hDc hN rfl rfl) rfl rfl hl.1 rfl (lv_room (Nat.le_of_ble_eq_true rfl)) dX6_acceptSumEnd_112 ⟨(Nat.le_of_ble_eq_true rfl), (Nat.le_of_ble_eq_true rfl)⟩) hS (fun q _ h => hFc q h) hFc (fun uu tt H locs htt hvm hw hB hz1 hk1 hS => ?_)
        obtain ⟨w12, w13, w14, w15⟩ := uu
        obtain ⟨hP1, hK1, hD1⟩ := hB
        rw [htt] at hP1
        have hK1 := va_K.moved hvm.symm hK1
        have hP1 : va_P D vwCl [(oq 0, .inr (6, gPs oq w12 w13 w14 2 qt qb w15 qr qn (nI bk) (nI w2))), (oq 5, .inr (8, [tx, .int zl, .int ta, .int be, .int ki, .int nu, .int wo]))] H := hP1
        obtain ⟨hP, hD⟩ := va_join (wr := [(oq 6, .inl (cI, 5, .inl fO)), (oq 7, .inl (cI, 600, .inl fW)), (oq 1, .inr (7, [.int (nI w3), .ref (oq 2), .ref (oq 3), .ref (oq 4)])), (oq 2, .inl (cI, 600, .inl w4)), (oq 3, .inl (cI, 600, .inl w5)), (oq 4, .inl (cI, 600, .inl w6))]) (w1 := [(oq 0, .inr (6, gPs oq w12 w13 w14 2 qt qb w15 qr qn (nI bk) (nI w2))), (oq 5, .inr (8, [tx, .int zl, .int ta, .int be, .int ki, .int nu, .int wo]))]) hP hD [2, 1] [0, 3, 4, 5, 6, 7] rfl rfl (by decide) (by decide) hk1 hFc hP1 hD1
        have hP : va_P D vwCl [(oq 6, .inl (cI, 5, .inl fO)), (oq 7, .inl (cI, 600, .inl fW)), (oq 1, .inr (7, [.int (nI w3), .ref (oq 2), .ref (oq 3), .ref (oq 4)])), (oq 2, .inl (cI, 600, .inl w4)), (oq 3, .inl (cI, 600, .inl w5)), (oq 4, .inl (cI, 600, .inl w6)), (oq 0, .inr (6, gPs oq w12 w13 w14 2 qt qb w15 qr qn (nI bk) (nI w2))), (oq 5, .inr (8, [tx, .int zl, .int ta, .int be, .int ki, .int nu, .int wo]))] H := hP
        have hD : va_D A [(oq 6, .inl (cI, 5, .inl fO)), (oq 7, .inl (cI, 600, .inl fW)), (oq 1, .inr (7, [.int (nI w3), .ref (oq 2), .ref (oq 3), .ref (oq 4)])), (oq 2, .inl (cI, 600, .inl w4)), (oq 3, .inl (cI, 600, .inl w5)), (oq 4, .inl (cI, 600, .inl w6)), (oq 0, .inr (6, gPs oq w12 w13 w14 2 qt qb w15 qr qn (nI bk) (nI w2))), (oq 5, .inr (8, [tx, .int zl, .int ta, .int be, .int ki, .int nu, .int wo]))] := hD
        try dsimp only at hw
        clear hz1 hk1 hFc hPc hKc hDc
        obtain ⟨hrf16, rfl⟩ := hw
        have hP : va_P D vwCl [(oq 6, .inl (cI, 5, .inl fO)), (oq 7, .inl (cI, 600, .inl fW)), (oq 1, .inr (7, [.int (nI w3), .ref (oq 2), .ref (oq 3), .ref (oq 4)])), (oq 2, .inl (cI, 600, .inl w4)), (oq 3, .inl (cI, 600, .inl w5)), (oq 4, .inl (cI, 600, .inl w6)), (oq 0, .inr (6, gPs oq w12 w13 w14 2 qt qb 0 qr qn (nI bk) (nI w2))), (oq 5, .inr (8, [tx, .int zl, .int ta, .int be, .int ki, .int nu, .int wo]))] H := hP
        have hD : va_D A [(oq 6, .inl (cI, 5, .inl fO)), (oq 7, .inl (cI, 600, .inl fW)), (oq 1, .inr (7, [.int (nI w3), .ref (oq 2), .ref (oq 3), .ref (oq 4)])), (oq 2, .inl (cI, 600, .inl w4)), (oq 3, .inl (cI, 600, .inl w5)), (oq 4, .inl (cI, 600, .inl w6)), (oq 0, .inr (6, gPs oq w12 w13 w14 2 qt qb 0 qr qn (nI bk) (nI w2))), (oq 5, .inr (8, [tx, .int zl, .int ta, .int be, .int ki, .int nu, .int wo]))] := hD
        exact W.vret hx hb hr (fun t ht hW => ⟨⟨(w12, w13, w14, 2, qt, qb, 0, qr, qn, bk, w2, fO, fW, w3, w4, w5, w6), rfl, (by (try dsimp only); first | done | exact ⟨acc_bad (hrl7) (fun _ => st2_no hst hsk hnp (fun q => h3 q.1) (fun q => h9 q.1) (fun q => hz59 q.2.2)) hrf16, by omega⟩), by rw [ht]; exact hP.sub [6, 0, 1, 2, 3, 4, 5, 7] rfl, va_K.moved hW.alike (hK.sub [0] rfl), hD.sub [6, 0, 1, 2, 3, 4, 5, 7] (by decide) rfl⟩, hS.F ht⟩) hS.2.2 dX6_acceptSumEnd_115
      ·
        obtain rfl : kc = 59 := (nI_eq (b := 59) (by omega) (by decide)).mp (hz.symm.trans hc10)
        refine lv_aload_n hx hb dX6_acceptSumEnd_79 rfl (lv_at hl 0 rfl) ?_
        refine va_get (D := D) (ci := 6) (v := .ref (oq 1)) (C := RX6) (T := TX6) (N := 15) hx hb hts hin_X6 hown hK hP 2 rfl rfl 3 (by decide) (hts (.fieldLink RX6 12 "ClashFree$Parser" "program" "LClashFree$Program;") (List.mem_of_getElem? (i := 9) rfl)) (fun _ h9 => h9) rfl dX6_acceptSumEnd_80 ?_
        refine lv_aload_n hx hb dX6_acceptSumEnd_83 rfl (lv_at hl 0 rfl) ?_
        refine va_get (D := D) (ci := 6) (v := .int qt) (C := RX6) (T := TX6) (N := 15) hx hb hts hin_X6 hown hK hP 2 rfl rfl 6 (by decide) (hts (.fieldLink RX6 103 "ClashFree$Parser" "statement" "I") (List.mem_of_getElem? (i := 5) rfl)) (fun _ h9 => h9) rfl dX6_acceptSumEnd_84 ?_
        refine lv_iconst (v := 4) hx hb dX6_acceptSumEnd_87 (by decide) ?_
        refine lv_icmp_ne (tgt := 95) hx hb dX6_acceptSumEnd_88 (by decide) (fun hc17 => ?_) (fun hc17 => ?_)
        ·
          have h4 : ¬ sg.2.1 = 4 := fun q => hc17 (hqt.1.trans (congrArg nI q))
          refine lv_aload_n hx hb dX6_acceptSumEnd_95 rfl (lv_at hl 0 rfl) ?_
          refine va_get (D := D) (ci := 6) (v := .int qt) (C := RX6) (T := TX6) (N := 15) hx hb hts hin_X6 hown hK hP 2 rfl rfl 6 (by decide) (hts (.fieldLink RX6 103 "ClashFree$Parser" "statement" "I") (List.mem_of_getElem? (i := 5) rfl)) (fun _ h9 => h9) rfl dX6_acceptSumEnd_96 ?_
          refine lv_iconst (v := 0) hx hb dX6_acceptSumEnd_99 (by decide) ?_
          have hPc := hP.sub (ws' := [(oq 1, .inr (7, [.int (nI w3), .ref (oq 2), .ref (oq 3), .ref (oq 4)])), (oq 2, .inl (cI, 600, .inl w4)), (oq 3, .inl (cI, 600, .inl w5)), (oq 4, .inl (cI, 600, .inl w6))]) [4, 5, 6, 7] rfl
          have hKc := hK.sub (tys' := [(cI, .int)]) [0] rfl
          have hDc := hD.sub (ws' := [(oq 1, .inr (7, [.int (nI w3), .ref (oq 2), .ref (oq 3), .ref (oq 4)])), (oq 2, .inl (cI, 600, .inl w4)), (oq 3, .inl (cI, 600, .inl w5)), (oq 4, .inl (cI, 600, .inl w6))]) [4, 5, 6, 7] (by decide) rfl
          have hFc := va_free (wc := [(oq 1, .inr (7, [.int (nI w3), .ref (oq 2), .ref (oq 3), .ref (oq 4)])), (oq 2, .inl (cI, 600, .inl w4)), (oq 3, .inl (cI, 600, .inl w5)), (oq 4, .inl (cI, 600, .inl w6))]) hD hS hA [4, 5, 6, 7] rfl
          refine va_callv (va_runV (As := [.int qt, .int 0]) (rest := []) ⟨hx, hb, hml, hown, hts⟩ (k_padd l D _ oq cI w3 w4 w5 w6 qt 0 (by omega)) (cwV 2 hts g_k_aSumEnd_k_padd_118 rfl rfl rfl (by decide +kernel) ⟨(Nat.le_of_ble_eq_true rfl), (Nat.le_of_ble_eq_true rfl)⟩) (PcWC_V (q0 := 0) hPc hKc hDc hN rfl rfl) rfl rfl hl.1 rfl (lv_room (Nat.le_of_ble_eq_true rfl)) dX6_acceptSumEnd_100 ⟨(Nat.le_of_ble_eq_true rfl), (Nat.le_of_ble_eq_true rfl)⟩) hS (fun q _ h => hFc q h) hFc (fun uu tt H locs htt hvm hw hB hz1 hk1 hS => ?_)
          obtain ⟨w19, w20, w21, w22⟩ := uu
          obtain ⟨hP1, hK1, hD1⟩ := hB
          rw [htt] at hP1
          have hK1 := va_K.moved hvm.symm hK1
          have hP1 : va_P D vwCl [(oq 1, .inr (7, [.int (nI w19), .ref (oq 2), .ref (oq 3), .ref (oq 4)])), (oq 2, .inl (cI, 600, .inl w20)), (oq 3, .inl (cI, 600, .inl w21)), (oq 4, .inl (cI, 600, .inl w22))] H := hP1
          obtain ⟨hP, hD⟩ := va_join (wr := [(oq 6, .inl (cI, 5, .inl fO)), (oq 5, .inr (8, [tx, .int zl, .int ta, .int be, .int ki, .int nu, .int wo])), (oq 0, .inr (6, gPs oq qf qp qd 2 qt qb qh qr qn (nI bk) (nI w2))), (oq 7, .inl (cI, 600, .inl fW))]) (w1 := [(oq 1, .inr (7, [.int (nI w19), .ref (oq 2), .ref (oq 3), .ref (oq 4)])), (oq 2, .inl (cI, 600, .inl w20)), (oq 3, .inl (cI, 600, .inl w21)), (oq 4, .inl (cI, 600, .inl w22))]) hP hD [4, 5, 6, 7] [0, 1, 2, 3] rfl rfl (by decide) (by decide) hk1 hFc hP1 hD1
          have hP : va_P D vwCl [(oq 6, .inl (cI, 5, .inl fO)), (oq 5, .inr (8, [tx, .int zl, .int ta, .int be, .int ki, .int nu, .int wo])), (oq 0, .inr (6, gPs oq qf qp qd 2 qt qb qh qr qn (nI bk) (nI w2))), (oq 7, .inl (cI, 600, .inl fW)), (oq 1, .inr (7, [.int (nI w19), .ref (oq 2), .ref (oq 3), .ref (oq 4)])), (oq 2, .inl (cI, 600, .inl w20)), (oq 3, .inl (cI, 600, .inl w21)), (oq 4, .inl (cI, 600, .inl w22))] H := hP
          have hD : va_D A [(oq 6, .inl (cI, 5, .inl fO)), (oq 5, .inr (8, [tx, .int zl, .int ta, .int be, .int ki, .int nu, .int wo])), (oq 0, .inr (6, gPs oq qf qp qd 2 qt qb qh qr qn (nI bk) (nI w2))), (oq 7, .inl (cI, 600, .inl fW)), (oq 1, .inr (7, [.int (nI w19), .ref (oq 2), .ref (oq 3), .ref (oq 4)])), (oq 2, .inl (cI, 600, .inl w20)), (oq 3, .inl (cI, 600, .inl w21)), (oq 4, .inl (cI, 600, .inl w22))] := hD
          try dsimp only at hw
          clear hz1 hk1 hFc hPc hKc hDc
          obtain ⟨hpd23, rfl, rfl, rfl, rfl⟩ := hw.resolve_right (fun q => absurd q.1 (by omega))
          have hP : va_P D vwCl [(oq 6, .inl (cI, 5, .inl fO)), (oq 5, .inr (8, [tx, .int zl, .int ta, .int be, .int ki, .int nu, .int wo])), (oq 0, .inr (6, gPs oq qf qp qd 2 qt qb qh qr qn (nI bk) (nI w2))), (oq 7, .inl (cI, 600, .inl fW)), (oq 1, .inr (7, [.int (nI (w3 + 1)), .ref (oq 2), .ref (oq 3), .ref (oq 4)])), (oq 2, .inl (cI, 600, .inl (upd w4 w3 qt))), (oq 3, .inl (cI, 600, .inl (upd w5 w3 0))), (oq 4, .inl (cI, 600, .inl (upd w6 w3 0)))] H := hP
          have hD : va_D A [(oq 6, .inl (cI, 5, .inl fO)), (oq 5, .inr (8, [tx, .int zl, .int ta, .int be, .int ki, .int nu, .int wo])), (oq 0, .inr (6, gPs oq qf qp qd 2 qt qb qh qr qn (nI bk) (nI w2))), (oq 7, .inl (cI, 600, .inl fW)), (oq 1, .inr (7, [.int (nI (w3 + 1)), .ref (oq 2), .ref (oq 3), .ref (oq 4)])), (oq 2, .inl (cI, 600, .inl (upd w4 w3 qt))), (oq 3, .inl (cI, 600, .inl (upd w5 w3 0))), (oq 4, .inl (cI, 600, .inl (upd w6 w3 0)))] := hD
          refine lv_aload_n hx hb dX6_acceptSumEnd_103 rfl (lv_at hl 0 rfl) ?_
          refine lv_iconst (v := 0) hx hb dX6_acceptSumEnd_104 (by decide) ?_
          refine va_put (D := D) (ci := 6) (v := .int 0) (ty := .int) (C := RX6) (T := TX6) (N := 15) hx hb hts hin_X6 tyX6 tyX6_ok nmX6 hown hK hP hD hS 2 rfl rfl 5 (by decide) (hts (.fieldLink RX6 39 "ClashFree$Parser" "state" "I") (List.mem_of_getElem? (i := 14) rfl)) (fun _ h9 => h9) rfl (by decide +kernel) rfl rfl (Nat.le_of_ble_eq_true rfl) dX6_acceptSumEnd_105 (fun H locs hP hD hS => ?_)
          have hP : va_P D vwCl [(oq 6, .inl (cI, 5, .inl fO)), (oq 5, .inr (8, [tx, .int zl, .int ta, .int be, .int ki, .int nu, .int wo])), (oq 0, .inr (6, gPs oq qf qp qd 0 qt qb qh qr qn (nI bk) (nI w2))), (oq 7, .inl (cI, 600, .inl fW)), (oq 1, .inr (7, [.int (nI (w3 + 1)), .ref (oq 2), .ref (oq 3), .ref (oq 4)])), (oq 2, .inl (cI, 600, .inl (upd w4 w3 qt))), (oq 3, .inl (cI, 600, .inl (upd w5 w3 0))), (oq 4, .inl (cI, 600, .inl (upd w6 w3 0)))] H := hP
          have hD : va_D A [(oq 6, .inl (cI, 5, .inl fO)), (oq 5, .inr (8, [tx, .int zl, .int ta, .int be, .int ki, .int nu, .int wo])), (oq 0, .inr (6, gPs oq qf qp qd 0 qt qb qh qr qn (nI bk) (nI w2))), (oq 7, .inl (cI, 600, .inl fW)), (oq 1, .inr (7, [.int (nI (w3 + 1)), .ref (oq 2), .ref (oq 3), .ref (oq 4)])), (oq 2, .inl (cI, 600, .inl (upd w4 w3 qt))), (oq 3, .inl (cI, 600, .inl (upd w5 w3 0))), (oq 4, .inl (cI, 600, .inl (upd w6 w3 0)))] := hD
          refine lv_goto (tgt := 115) hx hb dX6_acceptSumEnd_108 (by decide) ?_
          exact W.vret hx hb hr (fun t ht hW => ⟨⟨(qf, qp, qd, 0, qt, qb, qh, qr, qn, bk, w2, fO, fW, (w3 + 1), (upd w4 w3 qt), (upd w5 w3 0), (upd w6 w3 0)), rfl, (by (try dsimp only); first | done | exact ⟨acc_ok (by have h8 := hrl7.ad (st := 0) (k := sg.2.1) (n := 0) (v := 0) hqt.2 (fun _ => ⟨rfl, by decide⟩) (Or.inl rfl) (fun q => absurd q (by decide)); rw [← hqt.1] at h8; exact h8) (fun _ => (st2_sc hst hnp h3 h9).trans (by rw [if_neg h4]; first | done | rfl)) (fun hd => by
              rcases hd.2 with a | a | ⟨_, a⟩ <;> omega) (fun q => absurd q (by decide)), by omega⟩), by rw [ht]; exact hP.sub [2, 0, 3, 4, 5, 6, 7, 1] rfl, va_K.moved hW.alike (hK.sub [0] rfl), hD.sub [2, 0, 3, 4, 5, 6, 7, 1] (by decide) rfl⟩, hS.F ht⟩) hS.2.2 dX6_acceptSumEnd_115
        ·
          have h4 : sg.2.1 = 4 := (nI_eq (b := 4) (by omega) (by decide)).mp (hqt.1.symm.trans hc17)
          refine lv_iconst (v := 3) hx hb dX6_acceptSumEnd_91 (by decide) ?_
          refine lv_goto (tgt := 99) hx hb dX6_acceptSumEnd_92 (by decide) ?_
          refine lv_iconst (v := 0) hx hb dX6_acceptSumEnd_99 (by decide) ?_
          have hPc := hP.sub (ws' := [(oq 1, .inr (7, [.int (nI w3), .ref (oq 2), .ref (oq 3), .ref (oq 4)])), (oq 2, .inl (cI, 600, .inl w4)), (oq 3, .inl (cI, 600, .inl w5)), (oq 4, .inl (cI, 600, .inl w6))]) [4, 5, 6, 7] rfl
          have hKc := hK.sub (tys' := [(cI, .int)]) [0] rfl
          have hDc := hD.sub (ws' := [(oq 1, .inr (7, [.int (nI w3), .ref (oq 2), .ref (oq 3), .ref (oq 4)])), (oq 2, .inl (cI, 600, .inl w4)), (oq 3, .inl (cI, 600, .inl w5)), (oq 4, .inl (cI, 600, .inl w6))]) [4, 5, 6, 7] (by decide) rfl
          have hFc := va_free (wc := [(oq 1, .inr (7, [.int (nI w3), .ref (oq 2), .ref (oq 3), .ref (oq 4)])), (oq 2, .inl (cI, 600, .inl w4)), (oq 3, .inl (cI, 600, .inl w5)), (oq 4, .inl (cI, 600, .inl w6))]) hD hS hA [4, 5, 6, 7] rfl
          refine va_callv (va_runV (As := [.int 3, .int 0]) (rest := []) ⟨hx, hb, hml, hown, hts⟩ (k_padd l D _ oq cI w3 w4 w5 w6 3 0 (by omega)) (cwV 2 hts g_k_aSumEnd_k_padd_118 rfl rfl rfl (by decide +kernel) ⟨(Nat.le_of_ble_eq_true rfl), (Nat.le_of_ble_eq_true rfl)⟩) (PcWC_V (q0 := 0) hPc hKc hDc hN rfl rfl) rfl rfl hl.1 rfl (lv_room (Nat.le_of_ble_eq_true rfl)) dX6_acceptSumEnd_100 ⟨(Nat.le_of_ble_eq_true rfl), (Nat.le_of_ble_eq_true rfl)⟩) hS (fun q _ h => hFc q h) hFc (fun uu tt H locs htt hvm hw hB hz1 hk1 hS => ?_)
          obtain ⟨w25, w26, w27, w28⟩ := uu
          obtain ⟨hP1, hK1, hD1⟩ := hB
          rw [htt] at hP1
          have hK1 := va_K.moved hvm.symm hK1
          have hP1 : va_P D vwCl [(oq 1, .inr (7, [.int (nI w25), .ref (oq 2), .ref (oq 3), .ref (oq 4)])), (oq 2, .inl (cI, 600, .inl w26)), (oq 3, .inl (cI, 600, .inl w27)), (oq 4, .inl (cI, 600, .inl w28))] H := hP1
          obtain ⟨hP, hD⟩ := va_join (wr := [(oq 6, .inl (cI, 5, .inl fO)), (oq 5, .inr (8, [tx, .int zl, .int ta, .int be, .int ki, .int nu, .int wo])), (oq 0, .inr (6, gPs oq qf qp qd 2 qt qb qh qr qn (nI bk) (nI w2))), (oq 7, .inl (cI, 600, .inl fW))]) (w1 := [(oq 1, .inr (7, [.int (nI w25), .ref (oq 2), .ref (oq 3), .ref (oq 4)])), (oq 2, .inl (cI, 600, .inl w26)), (oq 3, .inl (cI, 600, .inl w27)), (oq 4, .inl (cI, 600, .inl w28))]) hP hD [4, 5, 6, 7] [0, 1, 2, 3] rfl rfl (by decide) (by decide) hk1 hFc hP1 hD1
          have hP : va_P D vwCl [(oq 6, .inl (cI, 5, .inl fO)), (oq 5, .inr (8, [tx, .int zl, .int ta, .int be, .int ki, .int nu, .int wo])), (oq 0, .inr (6, gPs oq qf qp qd 2 qt qb qh qr qn (nI bk) (nI w2))), (oq 7, .inl (cI, 600, .inl fW)), (oq 1, .inr (7, [.int (nI w25), .ref (oq 2), .ref (oq 3), .ref (oq 4)])), (oq 2, .inl (cI, 600, .inl w26)), (oq 3, .inl (cI, 600, .inl w27)), (oq 4, .inl (cI, 600, .inl w28))] H := hP
          have hD : va_D A [(oq 6, .inl (cI, 5, .inl fO)), (oq 5, .inr (8, [tx, .int zl, .int ta, .int be, .int ki, .int nu, .int wo])), (oq 0, .inr (6, gPs oq qf qp qd 2 qt qb qh qr qn (nI bk) (nI w2))), (oq 7, .inl (cI, 600, .inl fW)), (oq 1, .inr (7, [.int (nI w25), .ref (oq 2), .ref (oq 3), .ref (oq 4)])), (oq 2, .inl (cI, 600, .inl w26)), (oq 3, .inl (cI, 600, .inl w27)), (oq 4, .inl (cI, 600, .inl w28))] := hD
          try dsimp only at hw
          clear hz1 hk1 hFc hPc hKc hDc
          obtain ⟨hpd29, rfl, rfl, rfl, rfl⟩ := hw.resolve_right (fun q => absurd q.1 (by omega))
          have hP : va_P D vwCl [(oq 6, .inl (cI, 5, .inl fO)), (oq 5, .inr (8, [tx, .int zl, .int ta, .int be, .int ki, .int nu, .int wo])), (oq 0, .inr (6, gPs oq qf qp qd 2 qt qb qh qr qn (nI bk) (nI w2))), (oq 7, .inl (cI, 600, .inl fW)), (oq 1, .inr (7, [.int (nI (w3 + 1)), .ref (oq 2), .ref (oq 3), .ref (oq 4)])), (oq 2, .inl (cI, 600, .inl (upd w4 w3 3))), (oq 3, .inl (cI, 600, .inl (upd w5 w3 0))), (oq 4, .inl (cI, 600, .inl (upd w6 w3 0)))] H := hP
          have hD : va_D A [(oq 6, .inl (cI, 5, .inl fO)), (oq 5, .inr (8, [tx, .int zl, .int ta, .int be, .int ki, .int nu, .int wo])), (oq 0, .inr (6, gPs oq qf qp qd 2 qt qb qh qr qn (nI bk) (nI w2))), (oq 7, .inl (cI, 600, .inl fW)), (oq 1, .inr (7, [.int (nI (w3 + 1)), .ref (oq 2), .ref (oq 3), .ref (oq 4)])), (oq 2, .inl (cI, 600, .inl (upd w4 w3 3))), (oq 3, .inl (cI, 600, .inl (upd w5 w3 0))), (oq 4, .inl (cI, 600, .inl (upd w6 w3 0)))] := hD
          refine lv_aload_n hx hb dX6_acceptSumEnd_103 rfl (lv_at hl 0 rfl) ?_
          refine lv_iconst (v := 0) hx hb dX6_acceptSumEnd_104 (by decide) ?_
          refine va_put (D := D) (ci := 6) (v := .int 0) (ty := .int) (C := RX6) (T := TX6) (N := 15) hx hb hts hin_X6 tyX6 tyX6_ok nmX6 hown hK hP hD hS 2 rfl rfl 5 (by decide) (hts (.fieldLink RX6 39 "ClashFree$Parser" "state" "I") (List.mem_of_getElem? (i := 14) rfl)) (fun _ h9 => h9) rfl (by decide +kernel) rfl rfl (Nat.le_of_ble_eq_true rfl) dX6_acceptSumEnd_105 (fun H locs hP hD hS => ?_)
          have hP : va_P D vwCl [(oq 6, .inl (cI, 5, .inl fO)), (oq 5, .inr (8, [tx, .int zl, .int ta, .int be, .int ki, .int nu, .int wo])), (oq 0, .inr (6, gPs oq qf qp qd 0 qt qb qh qr qn (nI bk) (nI w2))), (oq 7, .inl (cI, 600, .inl fW)), (oq 1, .inr (7, [.int (nI (w3 + 1)), .ref (oq 2), .ref (oq 3), .ref (oq 4)])), (oq 2, .inl (cI, 600, .inl (upd w4 w3 3))), (oq 3, .inl (cI, 600, .inl (upd w5 w3 0))), (oq 4, .inl (cI, 600, .inl (upd w6 w3 0)))] H := hP
          have hD : va_D A [(oq 6, .inl (cI, 5, .inl fO)), (oq 5, .inr (8, [tx, .int zl, .int ta, .int be, .int ki, .int nu, .int wo])), (oq 0, .inr (6, gPs oq qf qp qd 0 qt qb qh qr qn (nI bk) (nI w2))), (oq 7, .inl (cI, 600, .inl fW)), (oq 1, .inr (7, [.int (nI (w3 + 1)), .ref (oq 2), .ref (oq 3), .ref (oq 4)])), (oq 2, .inl (cI, 600, .inl (upd w4 w3 3))), (oq 3, .inl (cI, 600, .inl (upd w5 w3 0))), (oq 4, .inl (cI, 600, .inl (upd w6 w3 0)))] := hD
          refine lv_goto (tgt := 115) hx hb dX6_acceptSumEnd_108 (by decide) ?_
          exact W.vret hx hb hr (fun t ht hW => ⟨⟨(qf, qp, qd, 0, qt, qb, qh, qr, qn, bk, w2, fO, fW, (w3 + 1), (upd w4 w3 3), (upd w5 w3 0), (upd w6 w3 0)), rfl, (by (try dsimp only); first | done | exact ⟨acc_ok (hrl7.ad (st := 0) (k := 3) (n := 0) (by decide) (fun q => absurd q (by decide)) (Or.inl rfl) (fun q => absurd q (by decide))) (fun _ => (st2_sc hst hnp h3 h9).trans (by rw [if_pos h4]; rfl)) (fun hd => by
              rcases hd.2 with a | a | ⟨_, a⟩ <;> omega) (fun q => absurd q (by decide)), by omega⟩), by rw [ht]; exact hP.sub [2, 0, 3, 4, 5, 6, 7, 1] rfl, va_K.moved hW.alike (hK.sub [0] rfl), hD.sub [2, 0, 3, 4, 5, 6, 7, 1] (by decide) rfl⟩, hS.F ht⟩) hS.2.2 dX6_acceptSumEnd_115
    ·
      have h9 : sg.2.1 = 9 := (nI_eq (b := 9) (by omega) (by decide)).mp (hqt.1.symm.trans hc9)
      refine lv_iload_n hx hb dX6_acceptSumEnd_40 rfl (lv_at hl 1 rfl) ?_
      refine lv_bipush (v := 91) hx hb dX6_acceptSumEnd_41 (by decide) ?_
      refine lv_icmp_ne (tgt := 56) hx hb dX6_acceptSumEnd_43 (by decide) (fun hc30 => ?_) (fun hc30 => ?_)
      ·
        have hz91 : ¬ kc = 91 := fun q => hc30 (hz.trans (congrArg nI q))
        refine lv_aload_n hx hb dX6_acceptSumEnd_56 rfl (lv_at hl 0 rfl) ?_
        refine va_get (D := D) (ci := 6) (v := .int qt) (C := RX6) (T := TX6) (N := 15) hx hb hts hin_X6 hown hK hP 2 rfl rfl 6 (by decide) (hts (.fieldLink RX6 103 "ClashFree$Parser" "statement" "I") (List.mem_of_getElem? (i := 5) rfl)) (fun _ h9 => h9) rfl dX6_acceptSumEnd_57 ?_
        refine lv_iconst (v := 3) hx hb dX6_acceptSumEnd_60 (by decide) ?_
        refine lv_icmp_eq (tgt := 111) hx hb dX6_acceptSumEnd_61 (by decide) (fun hc => absurd hc (hc8)) (fun hc => ?_)
        refine lv_aload_n hx hb dX6_acceptSumEnd_64 rfl (lv_at hl 0 rfl) ?_
        refine va_get (D := D) (ci := 6) (v := .int qt) (C := RX6) (T := TX6) (N := 15) hx hb hts hin_X6 hown hK hP 2 rfl rfl 6 (by decide) (hts (.fieldLink RX6 103 "ClashFree$Parser" "statement" "I") (List.mem_of_getElem? (i := 5) rfl)) (fun _ h9 => h9) rfl dX6_acceptSumEnd_65 ?_
        refine lv_bipush (v := 9) hx hb dX6_acceptSumEnd_68 (by decide) ?_
        refine lv_icmp_eq (tgt := 111) hx hb dX6_acceptSumEnd_70 (by decide) (fun hc => ?_) (fun hc => absurd (hc9) hc)
        refine lv_aload_n hx hb dX6_acceptSumEnd_111 rfl (lv_at hl 0 rfl) ?_
        have hPc := hP.sub (ws' := [(oq 0, .inr (6, gPs oq qf qp qd 2 qt qb qh qr qn (nI bk) (nI w2))), (oq 5, .inr (8, [tx, .int zl, .int ta, .int be, .int ki, .int nu, .int wo]))]) [2, 1] rfl
        have hKc := hK.sub (tys' := []) [] rfl
        have hDc := hD.sub (ws' := [(oq 0, .inr (6, gPs oq qf qp qd 2 qt qb qh qr qn (nI bk) (nI w2))), (oq 5, .inr (8, [tx, .int zl, .int ta, .int be, .int ki, .int nu, .int wo]))]) [2, 1] (by decide) rfl
        have hFc := va_free (wc := [(oq 0, .inr (6, gPs oq qf qp qd 2 qt qb qh qr qn (nI bk) (nI w2))), (oq 5, .inr (8, [tx, .int zl, .int ta, .int be, .int ki, .int nu, .int wo]))]) hD hS hA [2, 1] rfl
        refine va_callv (va_runV (As := []) (rest := []) ⟨hx, hb, hml, hown, hts⟩ (k_refuse l D _ oq cI qf qp qd 2 qt qb qh qr qn bk w2 tx zl ta be ki nu wo) (cwV 0 hts g_k_aSumEnd_k_refuse_112 rfl rfl rfl (by decide +kernel) ⟨(Nat.le_of_ble_eq_true rfl), (Nat.le_of_ble_eq_true rfl)⟩) (PcWC_V (q0 := 0) hPc hKc hDc hN rfl rfl) rfl rfl hl.1 rfl (lv_room (Nat.le_of_ble_eq_true rfl)) dX6_acceptSumEnd_112 ⟨(Nat.le_of_ble_eq_true rfl), (Nat.le_of_ble_eq_true rfl)⟩) hS (fun q _ h => hFc q h) hFc (fun uu tt H locs htt hvm hw hB hz1 hk1 hS => ?_)
        obtain ⟨w32, w33, w34, w35⟩ := uu
        obtain ⟨hP1, hK1, hD1⟩ := hB
        rw [htt] at hP1
        have hK1 := va_K.moved hvm.symm hK1
        have hP1 : va_P D vwCl [(oq 0, .inr (6, gPs oq w32 w33 w34 2 qt qb w35 qr qn (nI bk) (nI w2))), (oq 5, .inr (8, [tx, .int zl, .int ta, .int be, .int ki, .int nu, .int wo]))] H := hP1
        obtain ⟨hP, hD⟩ := va_join (wr := [(oq 6, .inl (cI, 5, .inl fO)), (oq 7, .inl (cI, 600, .inl fW)), (oq 1, .inr (7, [.int (nI w3), .ref (oq 2), .ref (oq 3), .ref (oq 4)])), (oq 2, .inl (cI, 600, .inl w4)), (oq 3, .inl (cI, 600, .inl w5)), (oq 4, .inl (cI, 600, .inl w6))]) (w1 := [(oq 0, .inr (6, gPs oq w32 w33 w34 2 qt qb w35 qr qn (nI bk) (nI w2))), (oq 5, .inr (8, [tx, .int zl, .int ta, .int be, .int ki, .int nu, .int wo]))]) hP hD [2, 1] [0, 3, 4, 5, 6, 7] rfl rfl (by decide) (by decide) hk1 hFc hP1 hD1
        have hP : va_P D vwCl [(oq 6, .inl (cI, 5, .inl fO)), (oq 7, .inl (cI, 600, .inl fW)), (oq 1, .inr (7, [.int (nI w3), .ref (oq 2), .ref (oq 3), .ref (oq 4)])), (oq 2, .inl (cI, 600, .inl w4)), (oq 3, .inl (cI, 600, .inl w5)), (oq 4, .inl (cI, 600, .inl w6)), (oq 0, .inr (6, gPs oq w32 w33 w34 2 qt qb w35 qr qn (nI bk) (nI w2))), (oq 5, .inr (8, [tx, .int zl, .int ta, .int be, .int ki, .int nu, .int wo]))] H := hP
        have hD : va_D A [(oq 6, .inl (cI, 5, .inl fO)), (oq 7, .inl (cI, 600, .inl fW)), (oq 1, .inr (7, [.int (nI w3), .ref (oq 2), .ref (oq 3), .ref (oq 4)])), (oq 2, .inl (cI, 600, .inl w4)), (oq 3, .inl (cI, 600, .inl w5)), (oq 4, .inl (cI, 600, .inl w6)), (oq 0, .inr (6, gPs oq w32 w33 w34 2 qt qb w35 qr qn (nI bk) (nI w2))), (oq 5, .inr (8, [tx, .int zl, .int ta, .int be, .int ki, .int nu, .int wo]))] := hD
        try dsimp only at hw
        clear hz1 hk1 hFc hPc hKc hDc
        obtain ⟨hrf36, rfl⟩ := hw
        have hP : va_P D vwCl [(oq 6, .inl (cI, 5, .inl fO)), (oq 7, .inl (cI, 600, .inl fW)), (oq 1, .inr (7, [.int (nI w3), .ref (oq 2), .ref (oq 3), .ref (oq 4)])), (oq 2, .inl (cI, 600, .inl w4)), (oq 3, .inl (cI, 600, .inl w5)), (oq 4, .inl (cI, 600, .inl w6)), (oq 0, .inr (6, gPs oq w32 w33 w34 2 qt qb 0 qr qn (nI bk) (nI w2))), (oq 5, .inr (8, [tx, .int zl, .int ta, .int be, .int ki, .int nu, .int wo]))] H := hP
        have hD : va_D A [(oq 6, .inl (cI, 5, .inl fO)), (oq 7, .inl (cI, 600, .inl fW)), (oq 1, .inr (7, [.int (nI w3), .ref (oq 2), .ref (oq 3), .ref (oq 4)])), (oq 2, .inl (cI, 600, .inl w4)), (oq 3, .inl (cI, 600, .inl w5)), (oq 4, .inl (cI, 600, .inl w6)), (oq 0, .inr (6, gPs oq w32 w33 w34 2 qt qb 0 qr qn (nI bk) (nI w2))), (oq 5, .inr (8, [tx, .int zl, .int ta, .int be, .int ki, .int nu, .int wo]))] := hD
        exact W.vret hx hb hr (fun t ht hW => ⟨⟨(w32, w33, w34, 2, qt, qb, 0, qr, qn, bk, w2, fO, fW, w3, w4, w5, w6), rfl, (by (try dsimp only); first | done | exact ⟨acc_bad (hrl7) (fun _ => st2_no hst hsk hnp (fun q => h3 q.1) (fun q => hz91 q.2) (fun q => q.2.1 h9)) hrf36, by omega⟩), by rw [ht]; exact hP.sub [6, 0, 1, 2, 3, 4, 5, 7] rfl, va_K.moved hW.alike (hK.sub [0] rfl), hD.sub [6, 0, 1, 2, 3, 4, 5, 7] (by decide) rfl⟩, hS.F ht⟩) hS.2.2 dX6_acceptSumEnd_115
      ·
        obtain rfl : kc = 91 := (nI_eq (b := 91) (by omega) (by decide)).mp (hz.symm.trans hc30)
        refine lv_aload_n hx hb dX6_acceptSumEnd_46 rfl (lv_at hl 0 rfl) ?_
        refine lv_bipush (v := 9) hx hb dX6_acceptSumEnd_47 (by decide) ?_
        refine lv_iconst (v := 0) hx hb dX6_acceptSumEnd_49 (by decide) ?_
        have hPc := hP.sub (ws' := [(oq 0, .inr (6, gPs oq qf qp qd 2 qt qb qh qr qn (nI bk) (nI w2))), (oq 6, .inl (cI, 5, .inl fO)), (oq 1, .inr (7, [.int (nI w3), .ref (oq 2), .ref (oq 3), .ref (oq 4)])), (oq 2, .inl (cI, 600, .inl w4)), (oq 3, .inl (cI, 600, .inl w5)), (oq 4, .inl (cI, 600, .inl w6))]) [2, 0, 4, 5, 6, 7] rfl
        have hKc := hK.sub (tys' := [(cI, .int)]) [0] rfl
        have hDc := hD.sub (ws' := [(oq 0, .inr (6, gPs oq qf qp qd 2 qt qb qh qr qn (nI bk) (nI w2))), (oq 6, .inl (cI, 5, .inl fO)), (oq 1, .inr (7, [.int (nI w3), .ref (oq 2), .ref (oq 3), .ref (oq 4)])), (oq 2, .inl (cI, 600, .inl w4)), (oq 3, .inl (cI, 600, .inl w5)), (oq 4, .inl (cI, 600, .inl w6))]) [2, 0, 4, 5, 6, 7] (by decide) rfl
        have hFc := va_free (wc := [(oq 0, .inr (6, gPs oq qf qp qd 2 qt qb qh qr qn (nI bk) (nI w2))), (oq 6, .inl (cI, 5, .inl fO)), (oq 1, .inr (7, [.int (nI w3), .ref (oq 2), .ref (oq 3), .ref (oq 4)])), (oq 2, .inl (cI, 600, .inl w4)), (oq 3, .inl (cI, 600, .inl w5)), (oq 4, .inl (cI, 600, .inl w6))]) hD hS hA [2, 0, 4, 5, 6, 7] rfl
        refine va_callv (va_runV (As := [.int 9, .int 0]) (rest := []) ⟨hx, hb, hml, hown, hts⟩ (k_open l D _ oq cI qf qp qd 2 qt qb qh qr qn bk w2 fO w3 w4 w5 w6 9 0 (by omega) (by omega)) (cwV 2 hts g_k_aSumEnd_k_open_137 rfl rfl rfl (by decide +kernel) ⟨(Nat.le_of_ble_eq_true rfl), (Nat.le_of_ble_eq_true rfl)⟩) (PcWC_V (q0 := 0) hPc hKc hDc hN rfl rfl) rfl rfl hl.1 rfl (lv_room (Nat.le_of_ble_eq_true rfl)) dX6_acceptSumEnd_50 ⟨(Nat.le_of_ble_eq_true rfl), (Nat.le_of_ble_eq_true rfl)⟩) hS (fun q _ h => hFc q h) hFc (fun uu tt H locs htt hvm hw hB hz1 hk1 hS => ?_)
        obtain ⟨w38, w39, w40, w41, w42, w43, w44, w45, w46, w47, w48⟩ := uu
        obtain ⟨hP1, hK1, hD1⟩ := hB
        rw [htt] at hP1
        have hK1 := va_K.moved hvm.symm hK1
        have hP1 : va_P D vwCl [(oq 0, .inr (6, gPs oq w38 w39 w40 w42 qt qb w41 qr qn (nI w43) (nI w2))), (oq 6, .inl (cI, 5, .inl w44)), (oq 1, .inr (7, [.int (nI w45), .ref (oq 2), .ref (oq 3), .ref (oq 4)])), (oq 2, .inl (cI, 600, .inl w46)), (oq 3, .inl (cI, 600, .inl w47)), (oq 4, .inl (cI, 600, .inl w48))] H := hP1
        obtain ⟨hP, hD⟩ := va_join (wr := [(oq 5, .inr (8, [tx, .int zl, .int ta, .int be, .int ki, .int nu, .int wo])), (oq 7, .inl (cI, 600, .inl fW))]) (w1 := [(oq 0, .inr (6, gPs oq w38 w39 w40 w42 qt qb w41 qr qn (nI w43) (nI w2))), (oq 6, .inl (cI, 5, .inl w44)), (oq 1, .inr (7, [.int (nI w45), .ref (oq 2), .ref (oq 3), .ref (oq 4)])), (oq 2, .inl (cI, 600, .inl w46)), (oq 3, .inl (cI, 600, .inl w47)), (oq 4, .inl (cI, 600, .inl w48))]) hP hD [2, 0, 4, 5, 6, 7] [1, 3] rfl rfl (by decide) (by decide) hk1 hFc hP1 hD1
        have hP : va_P D vwCl [(oq 5, .inr (8, [tx, .int zl, .int ta, .int be, .int ki, .int nu, .int wo])), (oq 7, .inl (cI, 600, .inl fW)), (oq 0, .inr (6, gPs oq w38 w39 w40 w42 qt qb w41 qr qn (nI w43) (nI w2))), (oq 6, .inl (cI, 5, .inl w44)), (oq 1, .inr (7, [.int (nI w45), .ref (oq 2), .ref (oq 3), .ref (oq 4)])), (oq 2, .inl (cI, 600, .inl w46)), (oq 3, .inl (cI, 600, .inl w47)), (oq 4, .inl (cI, 600, .inl w48))] H := hP
        have hD : va_D A [(oq 5, .inr (8, [tx, .int zl, .int ta, .int be, .int ki, .int nu, .int wo])), (oq 7, .inl (cI, 600, .inl fW)), (oq 0, .inr (6, gPs oq w38 w39 w40 w42 qt qb w41 qr qn (nI w43) (nI w2))), (oq 6, .inl (cI, 5, .inl w44)), (oq 1, .inr (7, [.int (nI w45), .ref (oq 2), .ref (oq 3), .ref (oq 4)])), (oq 2, .inl (cI, 600, .inl w46)), (oq 3, .inl (cI, 600, .inl w47)), (oq 4, .inl (cI, 600, .inl w48))] := hD
        try dsimp only at hw
        clear hz1 hk1 hFc hPc hKc hDc
        obtain ⟨rfl, hw⟩ := hw
        rcases hw with ⟨hop49, hop49q, rfl, rfl, rfl, rfl, rfl, rfl, rfl⟩ | ⟨hop49, hop49f, hop49e0, hop49e1, hop49e2, hop49e3, hop49e4, hop49e5, hop49e6⟩
        ·
          replace hop49q := hop49q.symm
          subst hop49q
          have hP : va_P D vwCl [(oq 5, .inr (8, [tx, .int zl, .int ta, .int be, .int ki, .int nu, .int wo])), (oq 7, .inl (cI, 600, .inl fW)), (oq 0, .inr (6, gPs oq qf w39 w40 0 qt qb 0 qr qn (nI (bk + 1)) (nI w2))), (oq 6, .inl (cI, 5, .inl (upd fO bk (nI w3)))), (oq 1, .inr (7, [.int (nI (w3 + 1)), .ref (oq 2), .ref (oq 3), .ref (oq 4)])), (oq 2, .inl (cI, 600, .inl (upd w4 w3 9))), (oq 3, .inl (cI, 600, .inl (upd w5 w3 0))), (oq 4, .inl (cI, 600, .inl (upd w6 w3 0)))] H := hP
          have hD : va_D A [(oq 5, .inr (8, [tx, .int zl, .int ta, .int be, .int ki, .int nu, .int wo])), (oq 7, .inl (cI, 600, .inl fW)), (oq 0, .inr (6, gPs oq qf w39 w40 0 qt qb 0 qr qn (nI (bk + 1)) (nI w2))), (oq 6, .inl (cI, 5, .inl (upd fO bk (nI w3)))), (oq 1, .inr (7, [.int (nI (w3 + 1)), .ref (oq 2), .ref (oq 3), .ref (oq 4)])), (oq 2, .inl (cI, 600, .inl (upd w4 w3 9))), (oq 3, .inl (cI, 600, .inl (upd w5 w3 0))), (oq 4, .inl (cI, 600, .inl (upd w6 w3 0)))] := hD
          refine lv_goto (tgt := 115) hx hb dX6_acceptSumEnd_53 (by decide) ?_
          exact W.vret hx hb hr (fun t ht hW => ⟨⟨(qf, w39, w40, 0, qt, qb, 0, qr, qn, (bk + 1), w2, (upd fO bk (nI w3)), fW, (w3 + 1), (upd w4 w3 9), (upd w5 w3 0), (upd w6 w3 0)), rfl, (by (try dsimp only); first | done | exact ⟨acc_ok (hrl7.op (k := 9) (n := 0) (by decide) (fun q => absurd q (by decide)) hop49) (fun _ => st2_if hst hnp h9) (fun hd => absurd hd.1 (by omega)) (fun q => absurd q (by decide)), by omega⟩), by rw [ht]; exact hP.sub [2, 3, 1, 4, 5, 6, 7, 0] rfl, va_K.moved hW.alike (hK.sub [0] rfl), hD.sub [2, 3, 1, 4, 5, 6, 7, 0] (by decide) rfl⟩, hS.F ht⟩) hS.2.2 dX6_acceptSumEnd_115
        ·
          replace hop49e0 := hop49e0.symm
          subst hop49e0
          replace hop49e1 := hop49e1.symm
          subst hop49e1
          replace hop49e2 := hop49e2.symm
          subst hop49e2
          replace hop49e3 := hop49e3.symm
          subst hop49e3
          replace hop49e4 := hop49e4.symm
          subst hop49e4
          replace hop49e5 := hop49e5.symm
          subst hop49e5
          replace hop49e6 := hop49e6.symm
          subst hop49e6
          have hP : va_P D vwCl [(oq 5, .inr (8, [tx, .int zl, .int ta, .int be, .int ki, .int nu, .int wo])), (oq 7, .inl (cI, 600, .inl fW)), (oq 0, .inr (6, gPs oq w38 w39 w40 2 qt qb 0 qr qn (nI bk) (nI w2))), (oq 6, .inl (cI, 5, .inl fO)), (oq 1, .inr (7, [.int (nI w3), .ref (oq 2), .ref (oq 3), .ref (oq 4)])), (oq 2, .inl (cI, 600, .inl w4)), (oq 3, .inl (cI, 600, .inl w5)), (oq 4, .inl (cI, 600, .inl w6))] H := hP
          have hD : va_D A [(oq 5, .inr (8, [tx, .int zl, .int ta, .int be, .int ki, .int nu, .int wo])), (oq 7, .inl (cI, 600, .inl fW)), (oq 0, .inr (6, gPs oq w38 w39 w40 2 qt qb 0 qr qn (nI bk) (nI w2))), (oq 6, .inl (cI, 5, .inl fO)), (oq 1, .inr (7, [.int (nI w3), .ref (oq 2), .ref (oq 3), .ref (oq 4)])), (oq 2, .inl (cI, 600, .inl w4)), (oq 3, .inl (cI, 600, .inl w5)), (oq 4, .inl (cI, 600, .inl w6))] := hD
          refine lv_goto (tgt := 115) hx hb dX6_acceptSumEnd_53 (by decide) ?_
          exact W.vret hx hb hr (fun t ht hW => ⟨⟨(w38, w39, w40, 2, qt, qb, 0, qr, qn, bk, w2, fO, fW, w3, w4, w5, w6), rfl, (by (try dsimp only); first | done | exact ⟨acc_bad (hrl7) (fun hd => absurd ⟨by omega, Or.inr (Or.inr ⟨Or.inr hst, h9⟩)⟩ hd) hop49f, by omega⟩), by rw [ht]; exact hP.sub [2, 3, 1, 4, 5, 6, 7, 0] rfl, va_K.moved hW.alike (hK.sub [0] rfl), hD.sub [2, 3, 1, 4, 5, 6, 7, 0] (by decide) rfl⟩, hS.F ht⟩) hS.2.2 dX6_acceptSumEnd_115
  ·
    have h3 : sg.2.1 = 3 := (nI_eq (b := 3) (by omega) (by decide)).mp (hqt.1.symm.trans hc8)
    refine lv_iload_n hx hb dX6_acceptSumEnd_13 rfl (lv_at hl 1 rfl) ?_
    refine lv_iconst (v := 4) hx hb dX6_acceptSumEnd_14 (by decide) ?_
    refine lv_icmp_ne (tgt := 31) hx hb dX6_acceptSumEnd_15 (by decide) (fun hc50 => ?_) (fun hc50 => ?_)
    ·
      have hz4 : ¬ kc = 4 := fun q => hc50 (hz.trans (congrArg nI q))
      refine lv_aload_n hx hb dX6_acceptSumEnd_31 rfl (lv_at hl 0 rfl) ?_
      refine va_get (D := D) (ci := 6) (v := .int qt) (C := RX6) (T := TX6) (N := 15) hx hb hts hin_X6 hown hK hP 2 rfl rfl 6 (by decide) (hts (.fieldLink RX6 103 "ClashFree$Parser" "statement" "I") (List.mem_of_getElem? (i := 5) rfl)) (fun _ h9 => h9) rfl dX6_acceptSumEnd_32 ?_
      refine lv_bipush (v := 9) hx hb dX6_acceptSumEnd_35 (by decide) ?_
      refine lv_icmp_ne (tgt := 56) hx hb dX6_acceptSumEnd_37 (by decide) (fun hc => ?_) (fun hc => absurd hc (fun q => absurd (hc8.symm.trans q) (by decide)))
      refine lv_aload_n hx hb dX6_acceptSumEnd_56 rfl (lv_at hl 0 rfl) ?_
      refine va_get (D := D) (ci := 6) (v := .int qt) (C := RX6) (T := TX6) (N := 15) hx hb hts hin_X6 hown hK hP 2 rfl rfl 6 (by decide) (hts (.fieldLink RX6 103 "ClashFree$Parser" "statement" "I") (List.mem_of_getElem? (i := 5) rfl)) (fun _ h9 => h9) rfl dX6_acceptSumEnd_57 ?_
      refine lv_iconst (v := 3) hx hb dX6_acceptSumEnd_60 (by decide) ?_
      refine lv_icmp_eq (tgt := 111) hx hb dX6_acceptSumEnd_61 (by decide) (fun hc => ?_) (fun hc => absurd (hc8) hc)
      refine lv_aload_n hx hb dX6_acceptSumEnd_111 rfl (lv_at hl 0 rfl) ?_
      have hPc := hP.sub (ws' := [(oq 0, .inr (6, gPs oq qf qp qd 2 qt qb qh qr qn (nI bk) (nI w2))), (oq 5, .inr (8, [tx, .int zl, .int ta, .int be, .int ki, .int nu, .int wo]))]) [2, 1] rfl
      have hKc := hK.sub (tys' := []) [] rfl
      have hDc := hD.sub (ws' := [(oq 0, .inr (6, gPs oq qf qp qd 2 qt qb qh qr qn (nI bk) (nI w2))), (oq 5, .inr (8, [tx, .int zl, .int ta, .int be, .int ki, .int nu, .int wo]))]) [2, 1] (by decide) rfl
      have hFc := va_free (wc := [(oq 0, .inr (6, gPs oq qf qp qd 2 qt qb qh qr qn (nI bk) (nI w2))), (oq 5, .inr (8, [tx, .int zl, .int ta, .int be, .int ki, .int nu, .int wo]))]) hD hS hA [2, 1] rfl
      refine va_callv (va_runV (As := []) (rest := []) ⟨hx, hb, hml, hown, hts⟩ (k_refuse l D _ oq cI qf qp qd 2 qt qb qh qr qn bk w2 tx zl ta be ki nu wo) (cwV 0 hts g_k_aSumEnd_k_refuse_112 rfl rfl rfl (by decide +kernel) ⟨(Nat.le_of_ble_eq_true rfl), (Nat.le_of_ble_eq_true rfl)⟩) (PcWC_V (q0 := 0) hPc hKc hDc hN rfl rfl) rfl rfl hl.1 rfl (lv_room (Nat.le_of_ble_eq_true rfl)) dX6_acceptSumEnd_112 ⟨(Nat.le_of_ble_eq_true rfl), (Nat.le_of_ble_eq_true rfl)⟩) hS (fun q _ h => hFc q h) hFc (fun uu tt H locs htt hvm hw hB hz1 hk1 hS => ?_)
      obtain ⟨w52, w53, w54, w55⟩ := uu
      obtain ⟨hP1, hK1, hD1⟩ := hB
      rw [htt] at hP1
      have hK1 := va_K.moved hvm.symm hK1
      have hP1 : va_P D vwCl [(oq 0, .inr (6, gPs oq w52 w53 w54 2 qt qb w55 qr qn (nI bk) (nI w2))), (oq 5, .inr (8, [tx, .int zl, .int ta, .int be, .int ki, .int nu, .int wo]))] H := hP1
      obtain ⟨hP, hD⟩ := va_join (wr := [(oq 6, .inl (cI, 5, .inl fO)), (oq 7, .inl (cI, 600, .inl fW)), (oq 1, .inr (7, [.int (nI w3), .ref (oq 2), .ref (oq 3), .ref (oq 4)])), (oq 2, .inl (cI, 600, .inl w4)), (oq 3, .inl (cI, 600, .inl w5)), (oq 4, .inl (cI, 600, .inl w6))]) (w1 := [(oq 0, .inr (6, gPs oq w52 w53 w54 2 qt qb w55 qr qn (nI bk) (nI w2))), (oq 5, .inr (8, [tx, .int zl, .int ta, .int be, .int ki, .int nu, .int wo]))]) hP hD [2, 1] [0, 3, 4, 5, 6, 7] rfl rfl (by decide) (by decide) hk1 hFc hP1 hD1
      have hP : va_P D vwCl [(oq 6, .inl (cI, 5, .inl fO)), (oq 7, .inl (cI, 600, .inl fW)), (oq 1, .inr (7, [.int (nI w3), .ref (oq 2), .ref (oq 3), .ref (oq 4)])), (oq 2, .inl (cI, 600, .inl w4)), (oq 3, .inl (cI, 600, .inl w5)), (oq 4, .inl (cI, 600, .inl w6)), (oq 0, .inr (6, gPs oq w52 w53 w54 2 qt qb w55 qr qn (nI bk) (nI w2))), (oq 5, .inr (8, [tx, .int zl, .int ta, .int be, .int ki, .int nu, .int wo]))] H := hP
      have hD : va_D A [(oq 6, .inl (cI, 5, .inl fO)), (oq 7, .inl (cI, 600, .inl fW)), (oq 1, .inr (7, [.int (nI w3), .ref (oq 2), .ref (oq 3), .ref (oq 4)])), (oq 2, .inl (cI, 600, .inl w4)), (oq 3, .inl (cI, 600, .inl w5)), (oq 4, .inl (cI, 600, .inl w6)), (oq 0, .inr (6, gPs oq w52 w53 w54 2 qt qb w55 qr qn (nI bk) (nI w2))), (oq 5, .inr (8, [tx, .int zl, .int ta, .int be, .int ki, .int nu, .int wo]))] := hD
      try dsimp only at hw
      clear hz1 hk1 hFc hPc hKc hDc
      obtain ⟨hrf56, rfl⟩ := hw
      have hP : va_P D vwCl [(oq 6, .inl (cI, 5, .inl fO)), (oq 7, .inl (cI, 600, .inl fW)), (oq 1, .inr (7, [.int (nI w3), .ref (oq 2), .ref (oq 3), .ref (oq 4)])), (oq 2, .inl (cI, 600, .inl w4)), (oq 3, .inl (cI, 600, .inl w5)), (oq 4, .inl (cI, 600, .inl w6)), (oq 0, .inr (6, gPs oq w52 w53 w54 2 qt qb 0 qr qn (nI bk) (nI w2))), (oq 5, .inr (8, [tx, .int zl, .int ta, .int be, .int ki, .int nu, .int wo]))] H := hP
      have hD : va_D A [(oq 6, .inl (cI, 5, .inl fO)), (oq 7, .inl (cI, 600, .inl fW)), (oq 1, .inr (7, [.int (nI w3), .ref (oq 2), .ref (oq 3), .ref (oq 4)])), (oq 2, .inl (cI, 600, .inl w4)), (oq 3, .inl (cI, 600, .inl w5)), (oq 4, .inl (cI, 600, .inl w6)), (oq 0, .inr (6, gPs oq w52 w53 w54 2 qt qb 0 qr qn (nI bk) (nI w2))), (oq 5, .inr (8, [tx, .int zl, .int ta, .int be, .int ki, .int nu, .int wo]))] := hD
      exact W.vret hx hb hr (fun t ht hW => ⟨⟨(w52, w53, w54, 2, qt, qb, 0, qr, qn, bk, w2, fO, fW, w3, w4, w5, w6), rfl, (by (try dsimp only); first | done | exact ⟨acc_bad (hrl7) (fun _ => st2_no hst hsk hnp (fun q => hz4 q.2) (fun q => by omega) (fun q => q.1 h3)) hrf56, by omega⟩), by rw [ht]; exact hP.sub [6, 0, 1, 2, 3, 4, 5, 7] rfl, va_K.moved hW.alike (hK.sub [0] rfl), hD.sub [6, 0, 1, 2, 3, 4, 5, 7] (by decide) rfl⟩, hS.F ht⟩) hS.2.2 dX6_acceptSumEnd_115
    ·
      obtain rfl : kc = 4 := (nI_eq (b := 4) (by omega) (by decide)).mp (hz.symm.trans hc50)
      refine lv_aload_n hx hb dX6_acceptSumEnd_18 rfl (lv_at hl 0 rfl) ?_
      refine lv_iconst (v := 4) hx hb dX6_acceptSumEnd_19 (by decide) ?_
      refine va_put (D := D) (ci := 6) (v := .int 4) (ty := .int) (C := RX6) (T := TX6) (N := 15) hx hb hts hin_X6 tyX6 tyX6_ok nmX6 hown hK hP hD hS 2 rfl rfl 6 (by decide) (hts (.fieldLink RX6 103 "ClashFree$Parser" "statement" "I") (List.mem_of_getElem? (i := 5) rfl)) (fun _ h9 => h9) rfl (by decide +kernel) rfl rfl (Nat.le_of_ble_eq_true rfl) dX6_acceptSumEnd_20 (fun H locs hP hD hS => ?_)
      have hP : va_P D vwCl [(oq 6, .inl (cI, 5, .inl fO)), (oq 5, .inr (8, [tx, .int zl, .int ta, .int be, .int ki, .int nu, .int wo])), (oq 0, .inr (6, gPs oq qf qp qd 2 4 qb qh qr qn (nI bk) (nI w2))), (oq 7, .inl (cI, 600, .inl fW)), (oq 1, .inr (7, [.int (nI w3), .ref (oq 2), .ref (oq 3), .ref (oq 4)])), (oq 2, .inl (cI, 600, .inl w4)), (oq 3, .inl (cI, 600, .inl w5)), (oq 4, .inl (cI, 600, .inl w6))] H := hP
      have hD : va_D A [(oq 6, .inl (cI, 5, .inl fO)), (oq 5, .inr (8, [tx, .int zl, .int ta, .int be, .int ki, .int nu, .int wo])), (oq 0, .inr (6, gPs oq qf qp qd 2 4 qb qh qr qn (nI bk) (nI w2))), (oq 7, .inl (cI, 600, .inl fW)), (oq 1, .inr (7, [.int (nI w3), .ref (oq 2), .ref (oq 3), .ref (oq 4)])), (oq 2, .inl (cI, 600, .inl w4)), (oq 3, .inl (cI, 600, .inl w5)), (oq 4, .inl (cI, 600, .inl w6))] := hD
      refine lv_aload_n hx hb dX6_acceptSumEnd_23 rfl (lv_at hl 0 rfl) ?_
      refine lv_iconst (v := 1) hx hb dX6_acceptSumEnd_24 (by decide) ?_
      refine va_put (D := D) (ci := 6) (v := .int 1) (ty := .int) (C := RX6) (T := TX6) (N := 15) hx hb hts hin_X6 tyX6 tyX6_ok nmX6 hown hK hP hD hS 2 rfl rfl 5 (by decide) (hts (.fieldLink RX6 39 "ClashFree$Parser" "state" "I") (List.mem_of_getElem? (i := 14) rfl)) (fun _ h9 => h9) rfl (by decide +kernel) rfl rfl (Nat.le_of_ble_eq_true rfl) dX6_acceptSumEnd_25 (fun H locs hP hD hS => ?_)
      have hP : va_P D vwCl [(oq 6, .inl (cI, 5, .inl fO)), (oq 5, .inr (8, [tx, .int zl, .int ta, .int be, .int ki, .int nu, .int wo])), (oq 0, .inr (6, gPs oq qf qp qd 1 4 qb qh qr qn (nI bk) (nI w2))), (oq 7, .inl (cI, 600, .inl fW)), (oq 1, .inr (7, [.int (nI w3), .ref (oq 2), .ref (oq 3), .ref (oq 4)])), (oq 2, .inl (cI, 600, .inl w4)), (oq 3, .inl (cI, 600, .inl w5)), (oq 4, .inl (cI, 600, .inl w6))] H := hP
      have hD : va_D A [(oq 6, .inl (cI, 5, .inl fO)), (oq 5, .inr (8, [tx, .int zl, .int ta, .int be, .int ki, .int nu, .int wo])), (oq 0, .inr (6, gPs oq qf qp qd 1 4 qb qh qr qn (nI bk) (nI w2))), (oq 7, .inl (cI, 600, .inl fW)), (oq 1, .inr (7, [.int (nI w3), .ref (oq 2), .ref (oq 3), .ref (oq 4)])), (oq 2, .inl (cI, 600, .inl w4)), (oq 3, .inl (cI, 600, .inl w5)), (oq 4, .inl (cI, 600, .inl w6))] := hD
      refine lv_goto (tgt := 115) hx hb dX6_acceptSumEnd_28 (by decide) ?_
      exact W.vret hx hb hr (fun t ht hW => ⟨⟨(qf, qp, qd, 1, 4, qb, qh, qr, qn, bk, w2, fO, fW, w3, w4, w5, w6), rfl, (by (try dsimp only); first | done | exact ⟨acc_ok (hrl7.nst (st := 1) (tt := 4) (rr := sg.2.2.1) (by decide) (fun _ => ⟨rfl, by decide⟩) (fun q => absurd q (by decide))) (fun _ => st2_as hst hnp h3) (fun hd => by
          rcases hd.2 with a | a | ⟨_, a⟩ <;> omega) (fun q => absurd q (by decide)), by omega⟩), by rw [ht]; exact hP.sub [2, 0, 3, 4, 5, 6, 7, 1] rfl, va_K.moved hW.alike (hK.sub [0] rfl), hD.sub [2, 0, 3, 4, 5, 6, 7, 1] (by decide) rfl⟩, hS.F ht⟩) hS.2.2 dX6_acceptSumEnd_115

def own_k_aBehindUnit : List Cond := [.methodLink RX6 124 yX6_strength, .static yX6_strength, .initialized RX6, .fieldLink RX6 46 "ClashFree$Parser" "parens" "I", .methodLink RX6 134 yX6_acceptSumEnd, .instanceMethod yX6_acceptSumEnd, .selects RX6 yX6_acceptSumEnd yX6_acceptSumEnd, .methodLink RX6 131 yX6_acceptClosing, .instanceMethod yX6_acceptClosing, .selects RX6 yX6_acceptClosing yX6_acceptClosing, .methodLink RX6 128 yX6_release, .instanceMethod yX6_release, .selects RX6 yX6_release yX6_release, .methodLink RX6 121 yX6_await, .instanceMethod yX6_await, .selects RX6 yX6_await yX6_await, .fieldLink RX6 39 "ClashFree$Parser" "state" "I"]
def wp_k_aBehindUnit : List Cond := .code yX6_acceptBehindUnit cX6_acceptBehindUnit 2 none :: (own_k_aBehindUnit ++ (wp_k_strength ++ (wp_k_aSumEnd ++ (wp_k_aClosing ++ (wp_k_release ++ (wp_k_await ++ (wsX60 ++ ([] : List Cond))))))))
set_option maxRecDepth 20000 in
theorem inown_k_aBehindUnit : ∀ w ∈ own_k_aBehindUnit, w ∈ lw_tbl := mem_places [1059, 1060, 111, 341, 1070, 1072, 21, 1066, 1068, 20, 1062, 1064, 19, 1051, 1053, 17, 336] (by decide +kernel)
set_option maxRecDepth 20000 in
theorem in_k_aBehindUnit : ∀ w ∈ wp_k_aBehindUnit, w ∈ lw_tbl := List.forall_mem_cons.mpr ⟨List.mem_of_getElem? (i := 1058) (by decide +kernel), List.forall_mem_append.mpr ⟨inown_k_aBehindUnit, List.forall_mem_append.mpr ⟨in_k_strength, List.forall_mem_append.mpr ⟨in_k_aSumEnd, List.forall_mem_append.mpr ⟨in_k_aClosing, List.forall_mem_append.mpr ⟨in_k_release, List.forall_mem_append.mpr ⟨in_k_await, List.forall_mem_append.mpr ⟨lwb_X6, fun _ h => absurd h List.not_mem_nil⟩⟩⟩⟩⟩⟩⟩⟩
set_option maxRecDepth 20000 in
theorem good_k_aBehindUnit : wp_k_aBehindUnit.all goodWord = true := by decide +kernel
set_option maxRecDepth 20000 in
theorem g_k_aBehindUnit_k_strength_124 : GoodIn wp_k_aBehindUnit (va_wsS RX6 124 yX6_strength wp_k_strength) := goodIn_sub (List.forall_mem_append.mpr ⟨List.forall_mem_cons.mpr ⟨(List.mem_of_getElem? (i := 1) rfl), List.forall_mem_cons.mpr ⟨(List.mem_of_getElem? (i := 2) rfl), List.forall_mem_cons.mpr ⟨(List.mem_of_getElem? (i := 3) rfl), fun _ h => absurd h List.not_mem_nil⟩⟩⟩, (fun _ h => (List.mem_cons_of_mem _ (List.mem_append_right _ (List.mem_append_left _ h))))⟩) (by decide +kernel)
set_option maxRecDepth 20000 in
theorem g_k_aBehindUnit_k_aSumEnd_134 : GoodIn wp_k_aBehindUnit (wsV RX6 134 RX6 yX6_acceptSumEnd wp_k_aSumEnd) := goodIn_sub (List.forall_mem_append.mpr ⟨List.forall_mem_cons.mpr ⟨(List.mem_of_getElem? (i := 5) rfl), List.forall_mem_cons.mpr ⟨(List.mem_of_getElem? (i := 6) rfl), List.forall_mem_cons.mpr ⟨(List.mem_of_getElem? (i := 7) rfl), List.forall_mem_cons.mpr ⟨(List.mem_of_getElem? (i := 3) rfl), fun _ h => absurd h List.not_mem_nil⟩⟩⟩⟩, (fun _ h => (List.mem_cons_of_mem _ (List.mem_append_right _ (List.mem_append_right _ (List.mem_append_left _ h)))))⟩) (by decide +kernel)
set_option maxRecDepth 20000 in
theorem g_k_aBehindUnit_k_aClosing_131 : GoodIn wp_k_aBehindUnit (wsV RX6 131 RX6 yX6_acceptClosing wp_k_aClosing) := goodIn_sub (List.forall_mem_append.mpr ⟨List.forall_mem_cons.mpr ⟨(List.mem_of_getElem? (i := 8) rfl), List.forall_mem_cons.mpr ⟨(List.mem_of_getElem? (i := 9) rfl), List.forall_mem_cons.mpr ⟨(List.mem_of_getElem? (i := 10) rfl), List.forall_mem_cons.mpr ⟨(List.mem_of_getElem? (i := 3) rfl), fun _ h => absurd h List.not_mem_nil⟩⟩⟩⟩, (fun _ h => (List.mem_cons_of_mem _ (List.mem_append_right _ (List.mem_append_right _ (List.mem_append_right _ (List.mem_append_left _ h))))))⟩) (by decide +kernel)
set_option maxRecDepth 20000 in
theorem g_k_aBehindUnit_k_release_128 : GoodIn wp_k_aBehindUnit (wsV RX6 128 RX6 yX6_release wp_k_release) := goodIn_sub (List.forall_mem_append.mpr ⟨List.forall_mem_cons.mpr ⟨(List.mem_of_getElem? (i := 11) rfl), List.forall_mem_cons.mpr ⟨(List.mem_of_getElem? (i := 12) rfl), List.forall_mem_cons.mpr ⟨(List.mem_of_getElem? (i := 13) rfl), List.forall_mem_cons.mpr ⟨(List.mem_of_getElem? (i := 3) rfl), fun _ h => absurd h List.not_mem_nil⟩⟩⟩⟩, (fun _ h => (List.mem_cons_of_mem _ (List.mem_append_right _ (List.mem_append_right _ (List.mem_append_right _ (List.mem_append_right _ (List.mem_append_left _ h)))))))⟩) (by decide +kernel)
set_option maxRecDepth 20000 in
theorem g_k_aBehindUnit_k_await_121 : GoodIn wp_k_aBehindUnit (wsV RX6 121 RX6 yX6_await wp_k_await) := goodIn_sub (List.forall_mem_append.mpr ⟨List.forall_mem_cons.mpr ⟨(List.mem_of_getElem? (i := 14) rfl), List.forall_mem_cons.mpr ⟨(List.mem_of_getElem? (i := 15) rfl), List.forall_mem_cons.mpr ⟨(List.mem_of_getElem? (i := 16) rfl), List.forall_mem_cons.mpr ⟨(List.mem_of_getElem? (i := 3) rfl), fun _ h => absurd h List.not_mem_nil⟩⟩⟩⟩, (fun _ h => (List.mem_cons_of_mem _ (List.mem_append_right _ (List.mem_append_right _ (List.mem_append_right _ (List.mem_append_right _ (List.mem_append_right _ (List.mem_append_left _ h))))))))⟩) (by decide +kernel)
set_option maxHeartbeats 4000000 in
set_option maxRecDepth 100000 in
theorem k_aBehindUnit (l : Launch) (D : va_G) (sz : Nat) (oq : Nat → Nat) (cI : ClassId) (qf : Int32) (qp : Int32) (qd : Int32) (qs : Int32) (qt : Int32) (qb : Int32) (qh : Int32) (qr : Int32) (qn : Int32) (bk : Nat) (wz : Nat) (fO : Nat → Int32) (fW : Nat → Int32) (pz : Nat) (fK : Nat → Int32) (fN : Nat → Int32) (fL : Nat → Int32) (tx : Value) (zl : Int32) (ta : Int32) (be : Int32) (ki : Int32) (nu : Int32) (wo : Int32) (z1 : Int32) (kc : Nat) (num : Nat) (sg : SM) (hz : z1 = nI kc) (hkc : kc ≤ 255) (hnu : kc = 2 → nu = nI num ∧ num ≤ 999999) (hM : MatS sg qs qt qr qn bk fO wz fW pz fK fN fL) (hpw : pz + wz ≤ 600) (hpk : kc = 0 ∨ pz + wz < 600) (hst : sg.1 = 2) : Met l yX6_acceptBehindUnit wp_k_aBehindUnit ({ frames := 3, cells := 0, slots := 0, locals := 82 }) (PcWC D [.ref (oq 0), .int z1] sz [(oq 0, .inr (6, gPs oq qf qp qd qs qt qb qh qr qn (nI bk) (nI wz))), (oq 6, .inl (cI, 5, .inl fO)), (oq 7, .inl (cI, 600, .inl fW)), (oq 1, .inr (7, [.int (nI pz), .ref (oq 2), .ref (oq 3), .ref (oq 4)])), (oq 2, .inl (cI, 600, .inl fK)), (oq 3, .inl (cI, 600, .inl fN)), (oq 4, .inl (cI, 600, .inl fL)), (oq 5, .inr (8, [tx, .int zl, .int ta, .int be, .int ki, .int nu, .int wo]))] [(cI, .int)]) (va_Qv (fun (u : (Int32) × (Int32) × (Int32) × (Int32) × (Int32) × (Int32) × (Int32) × (Int32) × (Int32) × (Nat) × (Nat) × (Nat → Int32) × (Nat → Int32) × (Nat) × (Nat → Int32) × (Nat → Int32) × (Nat → Int32)) => AccP sg kc num qf u.1 (fun t => MatS t u.2.2.2.1 u.2.2.2.2.1 u.2.2.2.2.2.2.2.1 u.2.2.2.2.2.2.2.2.1 u.2.2.2.2.2.2.2.2.2.1 u.2.2.2.2.2.2.2.2.2.2.2.1 u.2.2.2.2.2.2.2.2.2.2.1 u.2.2.2.2.2.2.2.2.2.2.2.2.1 u.2.2.2.2.2.2.2.2.2.2.2.2.2.1 u.2.2.2.2.2.2.2.2.2.2.2.2.2.2.1 u.2.2.2.2.2.2.2.2.2.2.2.2.2.2.2.1 u.2.2.2.2.2.2.2.2.2.2.2.2.2.2.2.2) ∧ (u.2.2.2.2.2.2.2.2.2.2.2.2.2.1 + u.2.2.2.2.2.2.2.2.2.2.1 ≤ pz + wz ∨ (¬ kc = 0 ∧ u.2.2.2.2.2.2.2.2.2.2.2.2.2.1 + u.2.2.2.2.2.2.2.2.2.2.1 ≤ pz + wz + 1))) (fun (u : (Int32) × (Int32) × (Int32) × (Int32) × (Int32) × (Int32) × (Int32) × (Int32) × (Int32) × (Nat) × (Nat) × (Nat → Int32) × (Nat → Int32) × (Nat) × (Nat → Int32) × (Nat → Int32) × (Nat → Int32)) t => va_P D vwCl [(oq 0, .inr (6, gPs oq u.1 u.2.1 u.2.2.1 u.2.2.2.1 u.2.2.2.2.1 u.2.2.2.2.2.1 u.2.2.2.2.2.2.1 u.2.2.2.2.2.2.2.1 u.2.2.2.2.2.2.2.2.1 (nI u.2.2.2.2.2.2.2.2.2.1) (nI u.2.2.2.2.2.2.2.2.2.2.1))), (oq 6, .inl (cI, 5, .inl u.2.2.2.2.2.2.2.2.2.2.2.1)), (oq 7, .inl (cI, 600, .inl u.2.2.2.2.2.2.2.2.2.2.2.2.1)), (oq 1, .inr (7, [.int (nI u.2.2.2.2.2.2.2.2.2.2.2.2.2.1), .ref (oq 2), .ref (oq 3), .ref (oq 4)])), (oq 2, .inl (cI, 600, .inl u.2.2.2.2.2.2.2.2.2.2.2.2.2.2.1)), (oq 3, .inl (cI, 600, .inl u.2.2.2.2.2.2.2.2.2.2.2.2.2.2.2.1)), (oq 4, .inl (cI, 600, .inl u.2.2.2.2.2.2.2.2.2.2.2.2.2.2.2.2)), (oq 5, .inr (8, [tx, .int zl, .int ta, .int be, .int ki, .int nu, .int wo]))] t.heap ∧ va_K D vwCl [(cI, .int)] t ∧ va_D (va_A [(oq 0, .inr (6, gPs oq qf qp qd qs qt qb qh qr qn (nI bk) (nI wz))), (oq 6, .inl (cI, 5, .inl fO)), (oq 7, .inl (cI, 600, .inl fW)), (oq 1, .inr (7, [.int (nI pz), .ref (oq 2), .ref (oq 3), .ref (oq 4)])), (oq 2, .inl (cI, 600, .inl fK)), (oq 3, .inl (cI, 600, .inl fN)), (oq 4, .inl (cI, 600, .inl fL)), (oq 5, .inr (8, [tx, .int zl, .int ta, .int be, .int ki, .int nu, .int wo]))] sz) [(oq 0, .inr (6, gPs oq u.1 u.2.1 u.2.2.1 u.2.2.2.1 u.2.2.2.2.1 u.2.2.2.2.2.1 u.2.2.2.2.2.2.1 u.2.2.2.2.2.2.2.1 u.2.2.2.2.2.2.2.2.1 (nI u.2.2.2.2.2.2.2.2.2.1) (nI u.2.2.2.2.2.2.2.2.2.2.1))), (oq 6, .inl (cI, 5, .inl u.2.2.2.2.2.2.2.2.2.2.2.1)), (oq 7, .inl (cI, 600, .inl u.2.2.2.2.2.2.2.2.2.2.2.2.1)), (oq 1, .inr (7, [.int (nI u.2.2.2.2.2.2.2.2.2.2.2.2.2.1), .ref (oq 2), .ref (oq 3), .ref (oq 4)])), (oq 2, .inl (cI, 600, .inl u.2.2.2.2.2.2.2.2.2.2.2.2.2.2.1)), (oq 3, .inl (cI, 600, .inl u.2.2.2.2.2.2.2.2.2.2.2.2.2.2.2.1)), (oq 4, .inl (cI, 600, .inl u.2.2.2.2.2.2.2.2.2.2.2.2.2.2.2.2)), (oq 5, .inr (8, [tx, .int zl, .int ta, .int be, .int ki, .int nu, .int wo]))]) (va_A [(oq 0, .inr (6, gPs oq qf qp qd qs qt qb qh qr qn (nI bk) (nI wz))), (oq 6, .inl (cI, 5, .inl fO)), (oq 7, .inl (cI, 600, .inl fW)), (oq 1, .inr (7, [.int (nI pz), .ref (oq 2), .ref (oq 3), .ref (oq 4)])), (oq 2, .inl (cI, 600, .inl fK)), (oq 3, .inl (cI, 600, .inl fN)), (oq 4, .inl (cI, 600, .inl fL)), (oq 5, .inr (8, [tx, .int zl, .int ta, .int be, .int ki, .int nu, .int wo]))] sz)) 0 0 (va_A [(oq 0, .inr (6, gPs oq qf qp qd qs qt qb qh qr qn (nI bk) (nI wz))), (oq 6, .inl (cI, 5, .inl fO)), (oq 7, .inl (cI, 600, .inl fW)), (oq 1, .inr (7, [.int (nI pz), .ref (oq 2), .ref (oq 3), .ref (oq 4)])), (oq 2, .inl (cI, 600, .inl fK)), (oq 3, .inl (cI, 600, .inl fN)), (oq 4, .inl (cI, 600, .inl fL)), (oq 5, .inr (8, [tx, .int zl, .int ta, .int be, .int ki, .int nu, .int wo]))] sz) := by
  refine Met.ofW (cc := cX6_acceptBehindUnit) (maxL := 2) (ret := none) (by decide) rfl ?_
  intro p e s m args below meth c s₁ B hml hv
  obtain ⟨rfl, hsz, hP, hK, hD0, hN⟩ := hv
  have hx := B.exec
  have hb := B.bytes
  have hr := B.returns
  have hts := atoms_spec (ws := wp_k_aBehindUnit) B.pre
  have hin_X6 : ∀ w ∈ wsX60, w ∈ wp_k_aBehindUnit := fun _ h => (List.mem_cons_of_mem _ (List.mem_append_right _ (List.mem_append_right _ (List.mem_append_right _ (List.mem_append_right _ (List.mem_append_right _ (List.mem_append_right _ (List.mem_append_left _ h))))))))
  have hown : s.vm.findClass RX6 = some m.cls := findClass_of_methodNamed B.named
  have hlocks := B.notSynchronized
  subst hsz
  have hD := hD0.self (sz := s.heap.size)
  generalize hAe : va_A [(oq 0, .inr (6, gPs oq qf qp qd qs qt qb qh qr qn (nI bk) (nI wz))), (oq 6, .inl (cI, 5, .inl fO)), (oq 7, .inl (cI, 600, .inl fW)), (oq 1, .inr (7, [.int (nI pz), .ref (oq 2), .ref (oq 3), .ref (oq 4)])), (oq 2, .inl (cI, 600, .inl fK)), (oq 3, .inl (cI, 600, .inl fN)), (oq 4, .inl (cI, 600, .inl fL)), (oq 5, .inr (8, [tx, .int zl, .int ta, .int be, .int ki, .int nu, .int wo]))] s.heap.size = A at hD ⊢
  have hA : ∀ q : Nat, s.heap.size ≤ q → A q := fun q h => by rw [← hAe]; exact Or.inr h
  have hS : va_S A s.heap s.heap [] := va_S.rf
  have hP : va_P D vwCl [(oq 0, .inr (6, gPs oq qf qp qd qs qt qb qh qr qn (nI bk) (nI wz))), (oq 6, .inl (cI, 5, .inl fO)), (oq 7, .inl (cI, 600, .inl fW)), (oq 1, .inr (7, [.int (nI pz), .ref (oq 2), .ref (oq 3), .ref (oq 4)])), (oq 2, .inl (cI, 600, .inl fK)), (oq 3, .inl (cI, 600, .inl fN)), (oq 4, .inl (cI, 600, .inl fL)), (oq 5, .inr (8, [tx, .int zl, .int ta, .int be, .int ki, .int nu, .int wo]))] s.heap := hP
  have hl := lv_entry ([.ref (oq 0), .int z1]) (n := 2) (Nat.le_of_ble_eq_true rfl)
  rw [lg_entry_eq]
  generalize (lg_sl ([.ref (oq 0), .int z1]) ++ List.replicate (2 - (lg_sl ([.ref (oq 0), .int z1])).length) Slot.unset).toArray = ls at hl ⊢
  have hl : lv_has ls 2 [(0, .ref (oq 0)), (1, .int z1)] := hl
  obtain rfl : qs = 2 := hM.1.1.trans (congrArg nI hst)
  have hMb := hM.2.2.2.2.1.1
  have hMb5 := hM.2.2.2.2.1.2.1
  have hMn := hM.2.2.2.1
  have hMw := hM.2.2.2.2.2.1.1
  have hMg := hM.2.2.2.2.2.2.1
  subst hz
  have hs2 : strN kc ≤ 2 := by unfold strN; split <;> (try split) <;> omega
  refine lv_iload_n hx hb dX6_acceptBehindUnit_0 rfl (lv_at hl 1 rfl) ?_
  have hPc := hP.sub (ws' := []) [] rfl
  have hKc := hK.sub (tys' := []) [] rfl
  have hFc := va_free0 hS hA
  refine va_calli (va_runS (As := [.int (nI kc)]) (rest := []) ⟨hx, hb, hml, hown, hts⟩ (k_strength l D _ cI (nI kc) kc rfl hkc) (va_cwS 1 hts g_k_aBehindUnit_k_strength_124 rfl rfl rfl (by decide +kernel) ⟨(Nat.le_of_ble_eq_true rfl), (Nat.le_of_ble_eq_true rfl)⟩) (PcRC_S hPc hKc hN) rfl rfl hl.1 rfl (lv_room (Nat.le_of_ble_eq_true rfl)) dX6_acceptBehindUnit_1 ⟨(Nat.le_of_ble_eq_true rfl), (Nat.le_of_ble_eq_true rfl)⟩) hS (fun q _ h => hFc q h) hFc (fun r1 uu tt H locs htt hvm hw hB hz1 hk1 hS => ?_)
  have hP := va_keep hP hk1
  try dsimp only at hw
  clear hB hz1 hk1 hFc hPc hKc
  obtain rfl : r1 = nI (strN kc) := hw
  refine lv_if_le (tgt := 28) hx hb dX6_acceptBehindUnit_4 (by decide) (fun hc2 => ?_) (fun hc2 => ?_)
  ·
    have hsk : ¬ 0 < strN kc := by
      have := (nI_leI (b := 0) (by omega) (by decide)).mp hc2
      omega
    refine lv_aload_n hx hb dX6_acceptBehindUnit_28 rfl (lv_at hl 0 rfl) ?_
    refine va_get (D := D) (ci := 6) (v := .int qn) (C := RX6) (T := TX6) (N := 15) hx hb hts hin_X6 hown hK hP 0 rfl rfl 10 (by decide) (hts (.fieldLink RX6 46 "ClashFree$Parser" "parens" "I") (List.mem_of_getElem? (i := 4) rfl)) (fun _ h9 => h9) rfl dX6_acceptBehindUnit_29 ?_
    refine lv_if_le (tgt := 43) hx hb dX6_acceptBehindUnit_32 (by decide) (fun hc3 => ?_) (fun hc3 => ?_)
    ·
      have hnp : ¬ 0 < sg.2.2.2.1 := by
        have := (nI_leI (b := 0) (by omega) (by decide)).mp (hMn.1 ▸ hc3)
        omega
      refine lv_aload_n hx hb dX6_acceptBehindUnit_43 rfl (lv_at hl 0 rfl) ?_
      refine lv_iload_n hx hb dX6_acceptBehindUnit_44 rfl (lv_at hl 1 rfl) ?_
      have hPc := hP.sub (ws' := [(oq 0, .inr (6, gPs oq qf qp qd 2 qt qb qh qr qn (nI bk) (nI wz))), (oq 6, .inl (cI, 5, .inl fO)), (oq 7, .inl (cI, 600, .inl fW)), (oq 1, .inr (7, [.int (nI pz), .ref (oq 2), .ref (oq 3), .ref (oq 4)])), (oq 2, .inl (cI, 600, .inl fK)), (oq 3, .inl (cI, 600, .inl fN)), (oq 4, .inl (cI, 600, .inl fL)), (oq 5, .inr (8, [tx, .int zl, .int ta, .int be, .int ki, .int nu, .int wo]))]) [0, 1, 2, 3, 4, 5, 6, 7] rfl
      have hKc := hK.sub (tys' := [(cI, .int)]) [0] rfl
      have hDc := hD.sub (ws' := [(oq 0, .inr (6, gPs oq qf qp qd 2 qt qb qh qr qn (nI bk) (nI wz))), (oq 6, .inl (cI, 5, .inl fO)), (oq 7, .inl (cI, 600, .inl fW)), (oq 1, .inr (7, [.int (nI pz), .ref (oq 2), .ref (oq 3), .ref (oq 4)])), (oq 2, .inl (cI, 600, .inl fK)), (oq 3, .inl (cI, 600, .inl fN)), (oq 4, .inl (cI, 600, .inl fL)), (oq 5, .inr (8, [tx, .int zl, .int ta, .int be, .int ki, .int nu, .int wo]))]) [0, 1, 2, 3, 4, 5, 6, 7] (by decide) rfl
      have hFc := va_free (wc := [(oq 0, .inr (6, gPs oq qf qp qd 2 qt qb qh qr qn (nI bk) (nI wz))), (oq 6, .inl (cI, 5, .inl fO)), (oq 7, .inl (cI, 600, .inl fW)), (oq 1, .inr (7, [.int (nI pz), .ref (oq 2), .ref (oq 3), .ref (oq 4)])), (oq 2, .inl (cI, 600, .inl fK)), (oq 3, .inl (cI, 600, .inl fN)), (oq 4, .inl (cI, 600, .inl fL)), (oq 5, .inr (8, [tx, .int zl, .int ta, .int be, .int ki, .int nu, .int wo]))]) hD hS hA [0, 1, 2, 3, 4, 5, 6, 7] rfl
      refine va_callv (va_runV (As := [.int (nI kc)]) (rest := []) ⟨hx, hb, hml, hown, hts⟩ (k_aSumEnd l D _ oq cI qf qp qd 2 qt qb qh qr qn bk wz fO fW pz fK fN fL tx zl ta be ki nu wo (nI kc) kc num sg rfl hkc hnu hM (by omega) hpk hst hsk hnp) (cwV 1 hts g_k_aBehindUnit_k_aSumEnd_134 rfl rfl rfl (by decide +kernel) ⟨(Nat.le_of_ble_eq_true rfl), (Nat.le_of_ble_eq_true rfl)⟩) (PcWC_V (q0 := 0) hPc hKc hDc hN rfl rfl) rfl rfl hl.1 rfl (lv_room (Nat.le_of_ble_eq_true rfl)) dX6_acceptBehindUnit_45 ⟨(Nat.le_of_ble_eq_true rfl), (Nat.le_of_ble_eq_true rfl)⟩) hS (fun q _ h => hFc q h) hFc (fun uu tt H locs htt hvm hw hB hz1 hk1 hS => ?_)
      obtain ⟨w5, w6, w7, w8, w9, w10, w11, w12, w13, w14, w15, w16, w17, w18, w19, w20, w21⟩ := uu
      obtain ⟨hP1, hK1, hD1⟩ := hB
      rw [htt] at hP1
      have hK1 := va_K.moved hvm.symm hK1
      have hP1 : va_P D vwCl [(oq 0, .inr (6, gPs oq w5 w6 w7 w8 w9 w10 w11 w12 w13 (nI w14) (nI w15))), (oq 6, .inl (cI, 5, .inl w16)), (oq 7, .inl (cI, 600, .inl w17)), (oq 1, .inr (7, [.int (nI w18), .ref (oq 2), .ref (oq 3), .ref (oq 4)])), (oq 2, .inl (cI, 600, .inl w19)), (oq 3, .inl (cI, 600, .inl w20)), (oq 4, .inl (cI, 600, .inl w21)), (oq 5, .inr (8, [tx, .int zl, .int ta, .int be, .int ki, .int nu, .int wo]))] H := hP1
      obtain ⟨hP, hD⟩ := va_join (wr := []) (w1 := [(oq 0, .inr (6, gPs oq w5 w6 w7 w8 w9 w10 w11 w12 w13 (nI w14) (nI w15))), (oq 6, .inl (cI, 5, .inl w16)), (oq 7, .inl (cI, 600, .inl w17)), (oq 1, .inr (7, [.int (nI w18), .ref (oq 2), .ref (oq 3), .ref (oq 4)])), (oq 2, .inl (cI, 600, .inl w19)), (oq 3, .inl (cI, 600, .inl w20)), (oq 4, .inl (cI, 600, .inl w21)), (oq 5, .inr (8, [tx, .int zl, .int ta, .int be, .int ki, .int nu, .int wo]))]) hP hD [0, 1, 2, 3, 4, 5, 6, 7] [] rfl rfl (by decide) (by decide) hk1 hFc hP1 hD1
      have hP : va_P D vwCl [(oq 0, .inr (6, gPs oq w5 w6 w7 w8 w9 w10 w11 w12 w13 (nI w14) (nI w15))), (oq 6, .inl (cI, 5, .inl w16)), (oq 7, .inl (cI, 600, .inl w17)), (oq 1, .inr (7, [.int (nI w18), .ref (oq 2), .ref (oq 3), .ref (oq 4)])), (oq 2, .inl (cI, 600, .inl w19)), (oq 3, .inl (cI, 600, .inl w20)), (oq 4, .inl (cI, 600, .inl w21)), (oq 5, .inr (8, [tx, .int zl, .int ta, .int be, .int ki, .int nu, .int wo]))] H := hP
      have hD : va_D A [(oq 0, .inr (6, gPs oq w5 w6 w7 w8 w9 w10 w11 w12 w13 (nI w14) (nI w15))), (oq 6, .inl (cI, 5, .inl w16)), (oq 7, .inl (cI, 600, .inl w17)), (oq 1, .inr (7, [.int (nI w18), .ref (oq 2), .ref (oq 3), .ref (oq 4)])), (oq 2, .inl (cI, 600, .inl w19)), (oq 3, .inl (cI, 600, .inl w20)), (oq 4, .inl (cI, 600, .inl w21)), (oq 5, .inr (8, [tx, .int zl, .int ta, .int be, .int ki, .int nu, .int wo]))] := hD
      try dsimp only at hw
      clear hz1 hk1 hFc hPc hKc hDc
      have hac22 := hw
      exact W.vret hx hb hr (fun t ht hW => ⟨⟨(w5, w6, w7, w8, w9, w10, w11, w12, w13, w14, w15, w16, w17, w18, w19, w20, w21), rfl, (by (try dsimp only); first | done | exact hac22), by rw [ht]; exact hP.sub [0, 1, 2, 3, 4, 5, 6, 7] rfl, va_K.moved hW.alike (hK.sub [0] rfl), hD.sub [0, 1, 2, 3, 4, 5, 6, 7] (by decide) rfl⟩, hS.F ht⟩) hS.2.2 dX6_acceptBehindUnit_48
    ·
      have hnp : 0 < sg.2.2.2.1 := by
        rcases Nat.eq_zero_or_pos sg.2.2.2.1 with z | z
        · exact absurd (by rw [hMn.1, z]; decide) hc3
        · exact z
      refine lv_aload_n hx hb dX6_acceptBehindUnit_35 rfl (lv_at hl 0 rfl) ?_
      refine lv_iload_n hx hb dX6_acceptBehindUnit_36 rfl (lv_at hl 1 rfl) ?_
      have hPc := hP.sub (ws' := [(oq 0, .inr (6, gPs oq qf qp qd 2 qt qb qh qr qn (nI bk) (nI wz))), (oq 6, .inl (cI, 5, .inl fO)), (oq 7, .inl (cI, 600, .inl fW)), (oq 1, .inr (7, [.int (nI pz), .ref (oq 2), .ref (oq 3), .ref (oq 4)])), (oq 2, .inl (cI, 600, .inl fK)), (oq 3, .inl (cI, 600, .inl fN)), (oq 4, .inl (cI, 600, .inl fL)), (oq 5, .inr (8, [tx, .int zl, .int ta, .int be, .int ki, .int nu, .int wo]))]) [0, 1, 2, 3, 4, 5, 6, 7] rfl
      have hKc := hK.sub (tys' := [(cI, .int)]) [0] rfl
      have hDc := hD.sub (ws' := [(oq 0, .inr (6, gPs oq qf qp qd 2 qt qb qh qr qn (nI bk) (nI wz))), (oq 6, .inl (cI, 5, .inl fO)), (oq 7, .inl (cI, 600, .inl fW)), (oq 1, .inr (7, [.int (nI pz), .ref (oq 2), .ref (oq 3), .ref (oq 4)])), (oq 2, .inl (cI, 600, .inl fK)), (oq 3, .inl (cI, 600, .inl fN)), (oq 4, .inl (cI, 600, .inl fL)), (oq 5, .inr (8, [tx, .int zl, .int ta, .int be, .int ki, .int nu, .int wo]))]) [0, 1, 2, 3, 4, 5, 6, 7] (by decide) rfl
      have hFc := va_free (wc := [(oq 0, .inr (6, gPs oq qf qp qd 2 qt qb qh qr qn (nI bk) (nI wz))), (oq 6, .inl (cI, 5, .inl fO)), (oq 7, .inl (cI, 600, .inl fW)), (oq 1, .inr (7, [.int (nI pz), .ref (oq 2), .ref (oq 3), .ref (oq 4)])), (oq 2, .inl (cI, 600, .inl fK)), (oq 3, .inl (cI, 600, .inl fN)), (oq 4, .inl (cI, 600, .inl fL)), (oq 5, .inr (8, [tx, .int zl, .int ta, .int be, .int ki, .int nu, .int wo]))]) hD hS hA [0, 1, 2, 3, 4, 5, 6, 7] rfl
      refine va_callv (va_runV (As := [.int (nI kc)]) (rest := []) ⟨hx, hb, hml, hown, hts⟩ (k_aClosing l D _ oq cI qf qp qd 2 qt qb qh qr qn bk wz fO fW pz fK fN fL tx zl ta be ki nu wo (nI kc) kc num sg rfl hkc hnu hM (by omega) hpk hst hsk hnp) (cwV 1 hts g_k_aBehindUnit_k_aClosing_131 rfl rfl rfl (by decide +kernel) ⟨(Nat.le_of_ble_eq_true rfl), (Nat.le_of_ble_eq_true rfl)⟩) (PcWC_V (q0 := 0) hPc hKc hDc hN rfl rfl) rfl rfl hl.1 rfl (lv_room (Nat.le_of_ble_eq_true rfl)) dX6_acceptBehindUnit_37 ⟨(Nat.le_of_ble_eq_true rfl), (Nat.le_of_ble_eq_true rfl)⟩) hS (fun q _ h => hFc q h) hFc (fun uu tt H locs htt hvm hw hB hz1 hk1 hS => ?_)
      obtain ⟨w24, w25, w26, w27, w28, w29, w30, w31, w32, w33, w34, w35, w36, w37, w38, w39, w40⟩ := uu
      obtain ⟨hP1, hK1, hD1⟩ := hB
      rw [htt] at hP1
      have hK1 := va_K.moved hvm.symm hK1
      have hP1 : va_P D vwCl [(oq 0, .inr (6, gPs oq w24 w25 w26 w27 w28 w29 w30 w31 w32 (nI w33) (nI w34))), (oq 6, .inl (cI, 5, .inl w35)), (oq 7, .inl (cI, 600, .inl w36)), (oq 1, .inr (7, [.int (nI w37), .ref (oq 2), .ref (oq 3), .ref (oq 4)])), (oq 2, .inl (cI, 600, .inl w38)), (oq 3, .inl (cI, 600, .inl w39)), (oq 4, .inl (cI, 600, .inl w40)), (oq 5, .inr (8, [tx, .int zl, .int ta, .int be, .int ki, .int nu, .int wo]))] H := hP1
      obtain ⟨hP, hD⟩ := va_join (wr := []) (w1 := [(oq 0, .inr (6, gPs oq w24 w25 w26 w27 w28 w29 w30 w31 w32 (nI w33) (nI w34))), (oq 6, .inl (cI, 5, .inl w35)), (oq 7, .inl (cI, 600, .inl w36)), (oq 1, .inr (7, [.int (nI w37), .ref (oq 2), .ref (oq 3), .ref (oq 4)])), (oq 2, .inl (cI, 600, .inl w38)), (oq 3, .inl (cI, 600, .inl w39)), (oq 4, .inl (cI, 600, .inl w40)), (oq 5, .inr (8, [tx, .int zl, .int ta, .int be, .int ki, .int nu, .int wo]))]) hP hD [0, 1, 2, 3, 4, 5, 6, 7] [] rfl rfl (by decide) (by decide) hk1 hFc hP1 hD1
      have hP : va_P D vwCl [(oq 0, .inr (6, gPs oq w24 w25 w26 w27 w28 w29 w30 w31 w32 (nI w33) (nI w34))), (oq 6, .inl (cI, 5, .inl w35)), (oq 7, .inl (cI, 600, .inl w36)), (oq 1, .inr (7, [.int (nI w37), .ref (oq 2), .ref (oq 3), .ref (oq 4)])), (oq 2, .inl (cI, 600, .inl w38)), (oq 3, .inl (cI, 600, .inl w39)), (oq 4, .inl (cI, 600, .inl w40)), (oq 5, .inr (8, [tx, .int zl, .int ta, .int be, .int ki, .int nu, .int wo]))] H := hP
      have hD : va_D A [(oq 0, .inr (6, gPs oq w24 w25 w26 w27 w28 w29 w30 w31 w32 (nI w33) (nI w34))), (oq 6, .inl (cI, 5, .inl w35)), (oq 7, .inl (cI, 600, .inl w36)), (oq 1, .inr (7, [.int (nI w37), .ref (oq 2), .ref (oq 3), .ref (oq 4)])), (oq 2, .inl (cI, 600, .inl w38)), (oq 3, .inl (cI, 600, .inl w39)), (oq 4, .inl (cI, 600, .inl w40)), (oq 5, .inr (8, [tx, .int zl, .int ta, .int be, .int ki, .int nu, .int wo]))] := hD
      try dsimp only at hw
      clear hz1 hk1 hFc hPc hKc hDc
      have hac41 := hw
      refine lv_goto (tgt := 48) hx hb dX6_acceptBehindUnit_40 (by decide) ?_
      exact W.vret hx hb hr (fun t ht hW => ⟨⟨(w24, w25, w26, w27, w28, w29, w30, w31, w32, w33, w34, w35, w36, w37, w38, w39, w40), rfl, (by (try dsimp only); first | done | exact hac41), by rw [ht]; exact hP.sub [0, 1, 2, 3, 4, 5, 6, 7] rfl, va_K.moved hW.alike (hK.sub [0] rfl), hD.sub [0, 1, 2, 3, 4, 5, 6, 7] (by decide) rfl⟩, hS.F ht⟩) hS.2.2 dX6_acceptBehindUnit_48
  ·
    have hsk : 0 < strN kc := by
      rcases Nat.eq_zero_or_pos (strN kc) with z | z
      · exact absurd (by rw [z]; decide) hc2
      · exact z
    have hk0 : ¬ kc = 0 := fun q => by
      rw [q] at hsk
      exact absurd hsk (by decide)
    refine lv_aload_n hx hb dX6_acceptBehindUnit_7 rfl (lv_at hl 0 rfl) ?_
    refine lv_iload_n hx hb dX6_acceptBehindUnit_8 rfl (lv_at hl 1 rfl) ?_
    have hPc := hP.sub (ws' := []) [] rfl
    have hKc := hK.sub (tys' := []) [] rfl
    have hFc := va_free0 hS hA
    refine va_calli (va_runS (As := [.int (nI kc)]) (rest := [.ref (oq 0)]) ⟨hx, hb, hml, hown, hts⟩ (k_strength l D _ cI (nI kc) kc rfl hkc) (va_cwS 1 hts g_k_aBehindUnit_k_strength_124 rfl rfl rfl (by decide +kernel) ⟨(Nat.le_of_ble_eq_true rfl), (Nat.le_of_ble_eq_true rfl)⟩) (PcRC_S hPc hKc hN) rfl rfl hl.1 rfl (lv_room (Nat.le_of_ble_eq_true rfl)) dX6_acceptBehindUnit_9 ⟨(Nat.le_of_ble_eq_true rfl), (Nat.le_of_ble_eq_true rfl)⟩) hS (fun q _ h => hFc q h) hFc (fun r42 uu tt H locs htt hvm hw hB hz1 hk1 hS => ?_)
    have hP := va_keep hP hk1
    try dsimp only at hw
    clear hB hz1 hk1 hFc hPc hKc
    obtain rfl : r42 = nI (strN kc) := hw
    have hPc := hP.sub (ws' := [(oq 0, .inr (6, gPs oq qf qp qd 2 qt qb qh qr qn (nI bk) (nI wz))), (oq 7, .inl (cI, 600, .inl fW)), (oq 1, .inr (7, [.int (nI pz), .ref (oq 2), .ref (oq 3), .ref (oq 4)])), (oq 2, .inl (cI, 600, .inl fK)), (oq 3, .inl (cI, 600, .inl fN)), (oq 4, .inl (cI, 600, .inl fL))]) [0, 2, 3, 4, 5, 6] rfl
    have hKc := hK.sub (tys' := [(cI, .int)]) [0] rfl
    have hDc := hD.sub (ws' := [(oq 0, .inr (6, gPs oq qf qp qd 2 qt qb qh qr qn (nI bk) (nI wz))), (oq 7, .inl (cI, 600, .inl fW)), (oq 1, .inr (7, [.int (nI pz), .ref (oq 2), .ref (oq 3), .ref (oq 4)])), (oq 2, .inl (cI, 600, .inl fK)), (oq 3, .inl (cI, 600, .inl fN)), (oq 4, .inl (cI, 600, .inl fL))]) [0, 2, 3, 4, 5, 6] (by decide) rfl
    have hFc := va_free (wc := [(oq 0, .inr (6, gPs oq qf qp qd 2 qt qb qh qr qn (nI bk) (nI wz))), (oq 7, .inl (cI, 600, .inl fW)), (oq 1, .inr (7, [.int (nI pz), .ref (oq 2), .ref (oq 3), .ref (oq 4)])), (oq 2, .inl (cI, 600, .inl fK)), (oq 3, .inl (cI, 600, .inl fN)), (oq 4, .inl (cI, 600, .inl fL))]) hD hS hA [0, 2, 3, 4, 5, 6] rfl
    refine va_callv (va_runV (As := [.int (nI (strN kc))]) (rest := []) ⟨hx, hb, hml, hown, hts⟩ (k_release l D _ oq cI qf qp qd 2 qt qb qh qr qn bk wz fW pz fK fN fL (strN kc) sg.2.2.2.2.2.2.2.1 sg.2.2.2.2.2.2.2.2 (by omega) hM.2.2.2.2.2.1.2.1 hM.2.2.2.2.2.1.2.2 hM.2.2.2.2.2.2 (by omega)) (cwV 1 hts g_k_aBehindUnit_k_release_128 rfl rfl rfl (by decide +kernel) ⟨(Nat.le_of_ble_eq_true rfl), (Nat.le_of_ble_eq_true rfl)⟩) (PcWC_V (q0 := 0) hPc hKc hDc hN rfl rfl) rfl rfl hl.1 rfl (lv_room (Nat.le_of_ble_eq_true rfl)) dX6_acceptBehindUnit_12 ⟨(Nat.le_of_ble_eq_true rfl), (Nat.le_of_ble_eq_true rfl)⟩) hS (fun q _ h => hFc q h) hFc (fun uu tt H locs htt hvm hw hB hz1 hk1 hS => ?_)
    obtain ⟨w44, w45, w46, w47, w48⟩ := uu
    obtain ⟨hP1, hK1, hD1⟩ := hB
    rw [htt] at hP1
    have hK1 := va_K.moved hvm.symm hK1
    have hP1 : va_P D vwCl [(oq 0, .inr (6, gPs oq qf qp qd 2 qt qb qh qr qn (nI bk) (nI w44))), (oq 7, .inl (cI, 600, .inl fW)), (oq 1, .inr (7, [.int (nI w45), .ref (oq 2), .ref (oq 3), .ref (oq 4)])), (oq 2, .inl (cI, 600, .inl w46)), (oq 3, .inl (cI, 600, .inl w47)), (oq 4, .inl (cI, 600, .inl w48))] H := hP1
    obtain ⟨hP, hD⟩ := va_join (wr := [(oq 6, .inl (cI, 5, .inl fO)), (oq 5, .inr (8, [tx, .int zl, .int ta, .int be, .int ki, .int nu, .int wo]))]) (w1 := [(oq 0, .inr (6, gPs oq qf qp qd 2 qt qb qh qr qn (nI bk) (nI w44))), (oq 7, .inl (cI, 600, .inl fW)), (oq 1, .inr (7, [.int (nI w45), .ref (oq 2), .ref (oq 3), .ref (oq 4)])), (oq 2, .inl (cI, 600, .inl w46)), (oq 3, .inl (cI, 600, .inl w47)), (oq 4, .inl (cI, 600, .inl w48))]) hP hD [0, 2, 3, 4, 5, 6] [1, 7] rfl rfl (by decide) (by decide) hk1 hFc hP1 hD1
    have hP : va_P D vwCl [(oq 6, .inl (cI, 5, .inl fO)), (oq 5, .inr (8, [tx, .int zl, .int ta, .int be, .int ki, .int nu, .int wo])), (oq 0, .inr (6, gPs oq qf qp qd 2 qt qb qh qr qn (nI bk) (nI w44))), (oq 7, .inl (cI, 600, .inl fW)), (oq 1, .inr (7, [.int (nI w45), .ref (oq 2), .ref (oq 3), .ref (oq 4)])), (oq 2, .inl (cI, 600, .inl w46)), (oq 3, .inl (cI, 600, .inl w47)), (oq 4, .inl (cI, 600, .inl w48))] H := hP
    have hD : va_D A [(oq 6, .inl (cI, 5, .inl fO)), (oq 5, .inr (8, [tx, .int zl, .int ta, .int be, .int ki, .int nu, .int wo])), (oq 0, .inr (6, gPs oq qf qp qd 2 qt qb qh qr qn (nI bk) (nI w44))), (oq 7, .inl (cI, 600, .inl fW)), (oq 1, .inr (7, [.int (nI w45), .ref (oq 2), .ref (oq 3), .ref (oq 4)])), (oq 2, .inl (cI, 600, .inl w46)), (oq 3, .inl (cI, 600, .inl w47)), (oq 4, .inl (cI, 600, .inl w48))] := hD
    try dsimp only at hw
    clear hz1 hk1 hFc hPc hKc hDc
    obtain ⟨hrl49_1, hrl49_2, hrl49_3⟩ := hw
    have hrl49 := hM.rl hrl49_1 hrl49_2 hrl49_3
    refine lv_aload_n hx hb dX6_acceptBehindUnit_15 rfl (lv_at hl 0 rfl) ?_
    refine lv_iload_n hx hb dX6_acceptBehindUnit_16 rfl (lv_at hl 1 rfl) ?_
    have hPc := hP.sub (ws' := [(oq 0, .inr (6, gPs oq qf qp qd 2 qt qb qh qr qn (nI bk) (nI w44))), (oq 7, .inl (cI, 600, .inl fW))]) [2, 3] rfl
    have hKc := hK.sub (tys' := [(cI, .int)]) [0] rfl
    have hDc := hD.sub (ws' := [(oq 0, .inr (6, gPs oq qf qp qd 2 qt qb qh qr qn (nI bk) (nI w44))), (oq 7, .inl (cI, 600, .inl fW))]) [2, 3] (by decide) rfl
    have hFc := va_free (wc := [(oq 0, .inr (6, gPs oq qf qp qd 2 qt qb qh qr qn (nI bk) (nI w44))), (oq 7, .inl (cI, 600, .inl fW))]) hD hS hA [2, 3] rfl
    refine va_callv (va_runV (As := [.int (nI kc)]) (rest := []) ⟨hx, hb, hml, hown, hts⟩ (k_await l D _ oq cI qf qp qd 2 qt qb qh qr qn bk w44 fW (nI kc) (by omega)) (cwV 1 hts g_k_aBehindUnit_k_await_121 rfl rfl rfl (by decide +kernel) ⟨(Nat.le_of_ble_eq_true rfl), (Nat.le_of_ble_eq_true rfl)⟩) (PcWC_V (q0 := 0) hPc hKc hDc hN rfl rfl) rfl rfl hl.1 rfl (lv_room (Nat.le_of_ble_eq_true rfl)) dX6_acceptBehindUnit_17 ⟨(Nat.le_of_ble_eq_true rfl), (Nat.le_of_ble_eq_true rfl)⟩) hS (fun q _ h => hFc q h) hFc (fun uu tt H locs htt hvm hw hB hz1 hk1 hS => ?_)
    obtain ⟨w51, w52⟩ := uu
    obtain ⟨hP1, hK1, hD1⟩ := hB
    rw [htt] at hP1
    have hK1 := va_K.moved hvm.symm hK1
    have hP1 : va_P D vwCl [(oq 0, .inr (6, gPs oq qf qp qd 2 qt qb qh qr qn (nI bk) (nI w51))), (oq 7, .inl (cI, 600, .inl w52))] H := hP1
    obtain ⟨hP, hD⟩ := va_join (wr := [(oq 6, .inl (cI, 5, .inl fO)), (oq 5, .inr (8, [tx, .int zl, .int ta, .int be, .int ki, .int nu, .int wo])), (oq 1, .inr (7, [.int (nI w45), .ref (oq 2), .ref (oq 3), .ref (oq 4)])), (oq 2, .inl (cI, 600, .inl w46)), (oq 3, .inl (cI, 600, .inl w47)), (oq 4, .inl (cI, 600, .inl w48))]) (w1 := [(oq 0, .inr (6, gPs oq qf qp qd 2 qt qb qh qr qn (nI bk) (nI w51))), (oq 7, .inl (cI, 600, .inl w52))]) hP hD [2, 3] [0, 1, 4, 5, 6, 7] rfl rfl (by decide) (by decide) hk1 hFc hP1 hD1
    have hP : va_P D vwCl [(oq 6, .inl (cI, 5, .inl fO)), (oq 5, .inr (8, [tx, .int zl, .int ta, .int be, .int ki, .int nu, .int wo])), (oq 1, .inr (7, [.int (nI w45), .ref (oq 2), .ref (oq 3), .ref (oq 4)])), (oq 2, .inl (cI, 600, .inl w46)), (oq 3, .inl (cI, 600, .inl w47)), (oq 4, .inl (cI, 600, .inl w48)), (oq 0, .inr (6, gPs oq qf qp qd 2 qt qb qh qr qn (nI bk) (nI w51))), (oq 7, .inl (cI, 600, .inl w52))] H := hP
    have hD : va_D A [(oq 6, .inl (cI, 5, .inl fO)), (oq 5, .inr (8, [tx, .int zl, .int ta, .int be, .int ki, .int nu, .int wo])), (oq 1, .inr (7, [.int (nI w45), .ref (oq 2), .ref (oq 3), .ref (oq 4)])), (oq 2, .inl (cI, 600, .inl w46)), (oq 3, .inl (cI, 600, .inl w47)), (oq 4, .inl (cI, 600, .inl w48)), (oq 0, .inr (6, gPs oq qf qp qd 2 qt qb qh qr qn (nI bk) (nI w51))), (oq 7, .inl (cI, 600, .inl w52))] := hD
    try dsimp only at hw
    clear hz1 hk1 hFc hPc hKc hDc
    obtain ⟨hawl, rfl, rfl⟩ := hw.resolve_right (fun q => absurd q.1 (by omega))
    have hP : va_P D vwCl [(oq 6, .inl (cI, 5, .inl fO)), (oq 5, .inr (8, [tx, .int zl, .int ta, .int be, .int ki, .int nu, .int wo])), (oq 1, .inr (7, [.int (nI w45), .ref (oq 2), .ref (oq 3), .ref (oq 4)])), (oq 2, .inl (cI, 600, .inl w46)), (oq 3, .inl (cI, 600, .inl w47)), (oq 4, .inl (cI, 600, .inl w48)), (oq 0, .inr (6, gPs oq qf qp qd 2 qt qb qh qr qn (nI bk) (nI (w44 + 1)))), (oq 7, .inl (cI, 600, .inl (upd fW w44 (nI kc))))] H := hP
    have hD : va_D A [(oq 6, .inl (cI, 5, .inl fO)), (oq 5, .inr (8, [tx, .int zl, .int ta, .int be, .int ki, .int nu, .int wo])), (oq 1, .inr (7, [.int (nI w45), .ref (oq 2), .ref (oq 3), .ref (oq 4)])), (oq 2, .inl (cI, 600, .inl w46)), (oq 3, .inl (cI, 600, .inl w47)), (oq 4, .inl (cI, 600, .inl w48)), (oq 0, .inr (6, gPs oq qf qp qd 2 qt qb qh qr qn (nI bk) (nI (w44 + 1)))), (oq 7, .inl (cI, 600, .inl (upd fW w44 (nI kc))))] := hD
    refine lv_aload_n hx hb dX6_acceptBehindUnit_20 rfl (lv_at hl 0 rfl) ?_
    refine lv_iconst (v := 1) hx hb dX6_acceptBehindUnit_21 (by decide) ?_
    refine va_put (D := D) (ci := 6) (v := .int 1) (ty := .int) (C := RX6) (T := TX6) (N := 15) hx hb hts hin_X6 tyX6 tyX6_ok nmX6 hown hK hP hD hS 6 rfl rfl 5 (by decide) (hts (.fieldLink RX6 39 "ClashFree$Parser" "state" "I") (List.mem_of_getElem? (i := 17) rfl)) (fun _ h9 => h9) rfl (by decide +kernel) rfl rfl (Nat.le_of_ble_eq_true rfl) dX6_acceptBehindUnit_22 (fun H locs hP hD hS => ?_)
    have hP : va_P D vwCl [(oq 6, .inl (cI, 5, .inl fO)), (oq 5, .inr (8, [tx, .int zl, .int ta, .int be, .int ki, .int nu, .int wo])), (oq 1, .inr (7, [.int (nI w45), .ref (oq 2), .ref (oq 3), .ref (oq 4)])), (oq 2, .inl (cI, 600, .inl w46)), (oq 3, .inl (cI, 600, .inl w47)), (oq 4, .inl (cI, 600, .inl w48)), (oq 0, .inr (6, gPs oq qf qp qd 1 qt qb qh qr qn (nI bk) (nI (w44 + 1)))), (oq 7, .inl (cI, 600, .inl (upd fW w44 (nI kc))))] H := hP
    have hD : va_D A [(oq 6, .inl (cI, 5, .inl fO)), (oq 5, .inr (8, [tx, .int zl, .int ta, .int be, .int ki, .int nu, .int wo])), (oq 1, .inr (7, [.int (nI w45), .ref (oq 2), .ref (oq 3), .ref (oq 4)])), (oq 2, .inl (cI, 600, .inl w46)), (oq 3, .inl (cI, 600, .inl w47)), (oq 4, .inl (cI, 600, .inl w48)), (oq 0, .inr (6, gPs oq qf qp qd 1 qt qb qh qr qn (nI bk) (nI (w44 + 1)))), (oq 7, .inl (cI, 600, .inl (upd fW w44 (nI kc))))] := hD
    refine lv_goto (tgt := 48) hx hb dX6_acceptBehindUnit_25 (by decide) ?_
    exact W.vret hx hb hr (fun t ht hW => ⟨⟨(qf, qp, qd, 1, qt, qb, qh, qr, qn, bk, (w44 + 1), fO, (upd fW w44 (nI kc)), w45, w46, w47, w48), rfl, (by (try dsimp only); first | done | exact ⟨acc_ok (hrl49.aw (k := kc) (nn := sg.2.2.2.1) hkc (Or.inr hst) hMn.1 (by show sg.2.2.2.1 ≤ sg.2.2.2.1 + 1; omega)) (fun _ => st2_s hst hsk) (doom12 (Or.inr hst) (Or.inl rfl) rfl rfl) (fun q => absurd q hk0), by omega⟩), by rw [ht]; exact hP.sub [6, 0, 7, 2, 3, 4, 5, 1] rfl, va_K.moved hW.alike (hK.sub [0] rfl), hD.sub [6, 0, 7, 2, 3, 4, 5, 1] (by decide) rfl⟩, hS.F ht⟩) hS.2.2 dX6_acceptBehindUnit_48

def own_k_accept : List Cond := [.fieldLink RX6 39 "ClashFree$Parser" "state" "I", .methodLink RX6 82 yX6_acceptStatement, .instanceMethod yX6_acceptStatement, .selects RX6 yX6_acceptStatement yX6_acceptStatement, .initialized RX6, .methodLink RX6 85 yX6_acceptUnit, .instanceMethod yX6_acceptUnit, .selects RX6 yX6_acceptUnit yX6_acceptUnit, .methodLink RX6 88 yX6_acceptBehindUnit, .instanceMethod yX6_acceptBehindUnit, .selects RX6 yX6_acceptBehindUnit yX6_acceptBehindUnit, .methodLink RX6 91 yX6_acceptRounds, .instanceMethod yX6_acceptRounds, .selects RX6 yX6_acceptRounds yX6_acceptRounds, .methodLink RX6 94 yX6_acceptOpening, .instanceMethod yX6_acceptOpening, .selects RX6 yX6_acceptOpening yX6_acceptOpening, .methodLink RX6 97 yX6_acceptBehindBlock, .instanceMethod yX6_acceptBehindBlock, .selects RX6 yX6_acceptBehindBlock yX6_acceptBehindBlock]
def wp_k_accept : List Cond := .code yX6_accept cX6_accept 2 none :: (own_k_accept ++ (wp_k_aStat ++ (wp_k_aUnit ++ (wp_k_aBehindUnit ++ (wp_k_aRounds ++ (wp_k_aOpening ++ (wp_k_aBehindBlock ++ (wsX60 ++ ([] : List Cond)))))))))
set_option maxRecDepth 20000 in
theorem inown_k_accept : ∀ w ∈ own_k_accept, w ∈ lw_tbl := mem_places [336, 1019, 1021, 12, 111, 1047, 1049, 16, 1055, 1057, 18, 1078, 1080, 23, 1082, 1084, 24, 1086, 1088, 25] (by decide +kernel)
set_option maxRecDepth 20000 in
theorem in_k_accept : ∀ w ∈ wp_k_accept, w ∈ lw_tbl := List.forall_mem_cons.mpr ⟨List.mem_of_getElem? (i := 1018) (by decide +kernel), List.forall_mem_append.mpr ⟨inown_k_accept, List.forall_mem_append.mpr ⟨in_k_aStat, List.forall_mem_append.mpr ⟨in_k_aUnit, List.forall_mem_append.mpr ⟨in_k_aBehindUnit, List.forall_mem_append.mpr ⟨in_k_aRounds, List.forall_mem_append.mpr ⟨in_k_aOpening, List.forall_mem_append.mpr ⟨in_k_aBehindBlock, List.forall_mem_append.mpr ⟨lwb_X6, fun _ h => absurd h List.not_mem_nil⟩⟩⟩⟩⟩⟩⟩⟩⟩
set_option maxRecDepth 20000 in
theorem good_k_accept : wp_k_accept.all goodWord = true := by decide +kernel
set_option maxRecDepth 20000 in
theorem g_k_accept_k_aStat_82 : GoodIn wp_k_accept (wsV RX6 82 RX6 yX6_acceptStatement wp_k_aStat) := goodIn_sub (List.forall_mem_append.mpr ⟨List.forall_mem_cons.mpr ⟨(List.mem_of_getElem? (i := 2) rfl), List.forall_mem_cons.mpr ⟨(List.mem_of_getElem? (i := 3) rfl), List.forall_mem_cons.mpr ⟨(List.mem_of_getElem? (i := 4) rfl), List.forall_mem_cons.mpr ⟨(List.mem_of_getElem? (i := 5) rfl), fun _ h => absurd h List.not_mem_nil⟩⟩⟩⟩, (fun _ h => (List.mem_cons_of_mem _ (List.mem_append_right _ (List.mem_append_left _ h))))⟩) (by decide +kernel)
set_option maxRecDepth 20000 in
theorem g_k_accept_k_aUnit_85 : GoodIn wp_k_accept (wsV RX6 85 RX6 yX6_acceptUnit wp_k_aUnit) := goodIn_sub (List.forall_mem_append.mpr ⟨List.forall_mem_cons.mpr ⟨(List.mem_of_getElem? (i := 6) rfl), List.forall_mem_cons.mpr ⟨(List.mem_of_getElem? (i := 7) rfl), List.forall_mem_cons.mpr ⟨(List.mem_of_getElem? (i := 8) rfl), List.forall_mem_cons.mpr ⟨(List.mem_of_getElem? (i := 5) rfl), fun _ h => absurd h List.not_mem_nil⟩⟩⟩⟩, (fun _ h => (List.mem_cons_of_mem _ (List.mem_append_right _ (List.mem_append_right _ (List.mem_append_left _ h)))))⟩) (by decide +kernel)
set_option maxRecDepth 20000 in
theorem g_k_accept_k_aBehindUnit_88 : GoodIn wp_k_accept (wsV RX6 88 RX6 yX6_acceptBehindUnit wp_k_aBehindUnit) := goodIn_sub (List.forall_mem_append.mpr ⟨List.forall_mem_cons.mpr ⟨(List.mem_of_getElem? (i := 9) rfl), List.forall_mem_cons.mpr ⟨(List.mem_of_getElem? (i := 10) rfl), List.forall_mem_cons.mpr ⟨(List.mem_of_getElem? (i := 11) rfl), List.forall_mem_cons.mpr ⟨(List.mem_of_getElem? (i := 5) rfl), fun _ h => absurd h List.not_mem_nil⟩⟩⟩⟩, (fun _ h => (List.mem_cons_of_mem _ (List.mem_append_right _ (List.mem_append_right _ (List.mem_append_right _ (List.mem_append_left _ h))))))⟩) (by decide +kernel)
set_option maxRecDepth 20000 in
theorem g_k_accept_k_aRounds_91 : GoodIn wp_k_accept (wsV RX6 91 RX6 yX6_acceptRounds wp_k_aRounds) := goodIn_sub (List.forall_mem_append.mpr ⟨List.forall_mem_cons.mpr ⟨(List.mem_of_getElem? (i := 12) rfl), List.forall_mem_cons.mpr ⟨(List.mem_of_getElem? (i := 13) rfl), List.forall_mem_cons.mpr ⟨(List.mem_of_getElem? (i := 14) rfl), List.forall_mem_cons.mpr ⟨(List.mem_of_getElem? (i := 5) rfl), fun _ h => absurd h List.not_mem_nil⟩⟩⟩⟩, (fun _ h => (List.mem_cons_of_mem _ (List.mem_append_right _ (List.mem_append_right _ (List.mem_append_right _ (List.mem_append_right _ (List.mem_append_left _ h)))))))⟩) (by decide +kernel)
set_option maxRecDepth 20000 in
theorem g_k_accept_k_aOpening_94 : GoodIn wp_k_accept (wsV RX6 94 RX6 yX6_acceptOpening wp_k_aOpening) := goodIn_sub (List.forall_mem_append.mpr ⟨List.forall_mem_cons.mpr ⟨(List.mem_of_getElem? (i := 15) rfl), List.forall_mem_cons.mpr ⟨(List.mem_of_getElem? (i := 16) rfl), List.forall_mem_cons.mpr ⟨(List.mem_of_getElem? (i := 17) rfl), List.forall_mem_cons.mpr ⟨(List.mem_of_getElem? (i := 5) rfl), fun _ h => absurd h List.not_mem_nil⟩⟩⟩⟩, (fun _ h => (List.mem_cons_of_mem _ (List.mem_append_right _ (List.mem_append_right _ (List.mem_append_right _ (List.mem_append_right _ (List.mem_append_right _ (List.mem_append_left _ h))))))))⟩) (by decide +kernel)
set_option maxRecDepth 20000 in
theorem g_k_accept_k_aBehindBlock_97 : GoodIn wp_k_accept (wsV RX6 97 RX6 yX6_acceptBehindBlock wp_k_aBehindBlock) := goodIn_sub (List.forall_mem_append.mpr ⟨List.forall_mem_cons.mpr ⟨(List.mem_of_getElem? (i := 18) rfl), List.forall_mem_cons.mpr ⟨(List.mem_of_getElem? (i := 19) rfl), List.forall_mem_cons.mpr ⟨(List.mem_of_getElem? (i := 20) rfl), List.forall_mem_cons.mpr ⟨(List.mem_of_getElem? (i := 5) rfl), fun _ h => absurd h List.not_mem_nil⟩⟩⟩⟩, (fun _ h => (List.mem_cons_of_mem _ (List.mem_append_right _ (List.mem_append_right _ (List.mem_append_right _ (List.mem_append_right _ (List.mem_append_right _ (List.mem_append_right _ (List.mem_append_left _ h)))))))))⟩) (by decide +kernel)
set_option maxHeartbeats 4000000 in
set_option maxRecDepth 100000 in
theorem k_accept (l : Launch) (D : va_G) (sz : Nat) (oq : Nat → Nat) (cI : ClassId) (qf : Int32) (qp : Int32) (qd : Int32) (qs : Int32) (qt : Int32) (qb : Int32) (qh : Int32) (qr : Int32) (qn : Int32) (bk : Nat) (wz : Nat) (fO : Nat → Int32) (fW : Nat → Int32) (pz : Nat) (fK : Nat → Int32) (fN : Nat → Int32) (fL : Nat → Int32) (tx : Value) (zl : Int32) (ta : Int32) (be : Int32) (ki : Int32) (nu : Int32) (wo : Int32) (z1 : Int32) (kc : Nat) (num : Nat) (sg : SM) (hz : z1 = nI kc) (hkc : kc ≤ 255) (hnu : kc = 2 → nu = nI num ∧ num ≤ 999999) (hM : MatS sg qs qt qr qn bk fO wz fW pz fK fN fL) (hpw : pz + wz ≤ 600) (hpk : kc = 0 ∨ pz + wz < 600) (h6 : ¬ sg.1 = 6) : Met l yX6_accept wp_k_accept ({ frames := 4, cells := 0, slots := 0, locals := 103 }) (PcWC D [.ref (oq 0), .int z1] sz [(oq 0, .inr (6, gPs oq qf qp qd qs qt qb qh qr qn (nI bk) (nI wz))), (oq 6, .inl (cI, 5, .inl fO)), (oq 7, .inl (cI, 600, .inl fW)), (oq 1, .inr (7, [.int (nI pz), .ref (oq 2), .ref (oq 3), .ref (oq 4)])), (oq 2, .inl (cI, 600, .inl fK)), (oq 3, .inl (cI, 600, .inl fN)), (oq 4, .inl (cI, 600, .inl fL)), (oq 5, .inr (8, [tx, .int zl, .int ta, .int be, .int ki, .int nu, .int wo]))] [(cI, .int)]) (va_Qv (fun (u : (Int32) × (Int32) × (Int32) × (Int32) × (Int32) × (Int32) × (Int32) × (Int32) × (Int32) × (Nat) × (Nat) × (Nat → Int32) × (Nat → Int32) × (Nat) × (Nat → Int32) × (Nat → Int32) × (Nat → Int32)) => AccP sg kc num qf u.1 (fun t => MatS t u.2.2.2.1 u.2.2.2.2.1 u.2.2.2.2.2.2.2.1 u.2.2.2.2.2.2.2.2.1 u.2.2.2.2.2.2.2.2.2.1 u.2.2.2.2.2.2.2.2.2.2.2.1 u.2.2.2.2.2.2.2.2.2.2.1 u.2.2.2.2.2.2.2.2.2.2.2.2.1 u.2.2.2.2.2.2.2.2.2.2.2.2.2.1 u.2.2.2.2.2.2.2.2.2.2.2.2.2.2.1 u.2.2.2.2.2.2.2.2.2.2.2.2.2.2.2.1 u.2.2.2.2.2.2.2.2.2.2.2.2.2.2.2.2) ∧ (u.2.2.2.2.2.2.2.2.2.2.2.2.2.1 + u.2.2.2.2.2.2.2.2.2.2.1 ≤ pz + wz ∨ (¬ kc = 0 ∧ u.2.2.2.2.2.2.2.2.2.2.2.2.2.1 + u.2.2.2.2.2.2.2.2.2.2.1 ≤ pz + wz + 1))) (fun (u : (Int32) × (Int32) × (Int32) × (Int32) × (Int32) × (Int32) × (Int32) × (Int32) × (Int32) × (Nat) × (Nat) × (Nat → Int32) × (Nat → Int32) × (Nat) × (Nat → Int32) × (Nat → Int32) × (Nat → Int32)) t => va_P D vwCl [(oq 0, .inr (6, gPs oq u.1 u.2.1 u.2.2.1 u.2.2.2.1 u.2.2.2.2.1 u.2.2.2.2.2.1 u.2.2.2.2.2.2.1 u.2.2.2.2.2.2.2.1 u.2.2.2.2.2.2.2.2.1 (nI u.2.2.2.2.2.2.2.2.2.1) (nI u.2.2.2.2.2.2.2.2.2.2.1))), (oq 6, .inl (cI, 5, .inl u.2.2.2.2.2.2.2.2.2.2.2.1)), (oq 7, .inl (cI, 600, .inl u.2.2.2.2.2.2.2.2.2.2.2.2.1)), (oq 1, .inr (7, [.int (nI u.2.2.2.2.2.2.2.2.2.2.2.2.2.1), .ref (oq 2), .ref (oq 3), .ref (oq 4)])), (oq 2, .inl (cI, 600, .inl u.2.2.2.2.2.2.2.2.2.2.2.2.2.2.1)), (oq 3, .inl (cI, 600, .inl u.2.2.2.2.2.2.2.2.2.2.2.2.2.2.2.1)), (oq 4, .inl (cI, 600, .inl u.2.2.2.2.2.2.2.2.2.2.2.2.2.2.2.2)), (oq 5, .inr (8, [tx, .int zl, .int ta, .int be, .int ki, .int nu, .int wo]))] t.heap ∧ va_K D vwCl [(cI, .int)] t ∧ va_D (va_A [(oq 0, .inr (6, gPs oq qf qp qd qs qt qb qh qr qn (nI bk) (nI wz))), (oq 6, .inl (cI, 5, .inl fO)), (oq 7, .inl (cI, 600, .inl fW)), (oq 1, .inr (7, [.int (nI pz), .ref (oq 2), .ref (oq 3), .ref (oq 4)])), (oq 2, .inl (cI, 600, .inl fK)), (oq 3, .inl (cI, 600, .inl fN)), (oq 4, .inl (cI, 600, .inl fL)), (oq 5, .inr (8, [tx, .int zl, .int ta, .int be, .int ki, .int nu, .int wo]))] sz) [(oq 0, .inr (6, gPs oq u.1 u.2.1 u.2.2.1 u.2.2.2.1 u.2.2.2.2.1 u.2.2.2.2.2.1 u.2.2.2.2.2.2.1 u.2.2.2.2.2.2.2.1 u.2.2.2.2.2.2.2.2.1 (nI u.2.2.2.2.2.2.2.2.2.1) (nI u.2.2.2.2.2.2.2.2.2.2.1))), (oq 6, .inl (cI, 5, .inl u.2.2.2.2.2.2.2.2.2.2.2.1)), (oq 7, .inl (cI, 600, .inl u.2.2.2.2.2.2.2.2.2.2.2.2.1)), (oq 1, .inr (7, [.int (nI u.2.2.2.2.2.2.2.2.2.2.2.2.2.1), .ref (oq 2), .ref (oq 3), .ref (oq 4)])), (oq 2, .inl (cI, 600, .inl u.2.2.2.2.2.2.2.2.2.2.2.2.2.2.1)), (oq 3, .inl (cI, 600, .inl u.2.2.2.2.2.2.2.2.2.2.2.2.2.2.2.1)), (oq 4, .inl (cI, 600, .inl u.2.2.2.2.2.2.2.2.2.2.2.2.2.2.2.2)), (oq 5, .inr (8, [tx, .int zl, .int ta, .int be, .int ki, .int nu, .int wo]))]) (va_A [(oq 0, .inr (6, gPs oq qf qp qd qs qt qb qh qr qn (nI bk) (nI wz))), (oq 6, .inl (cI, 5, .inl fO)), (oq 7, .inl (cI, 600, .inl fW)), (oq 1, .inr (7, [.int (nI pz), .ref (oq 2), .ref (oq 3), .ref (oq 4)])), (oq 2, .inl (cI, 600, .inl fK)), (oq 3, .inl (cI, 600, .inl fN)), (oq 4, .inl (cI, 600, .inl fL)), (oq 5, .inr (8, [tx, .int zl, .int ta, .int be, .int ki, .int nu, .int wo]))] sz)) 0 0 (va_A [(oq 0, .inr (6, gPs oq qf qp qd qs qt qb qh qr qn (nI bk) (nI wz))), (oq 6, .inl (cI, 5, .inl fO)), (oq 7, .inl (cI, 600, .inl fW)), (oq 1, .inr (7, [.int (nI pz), .ref (oq 2), .ref (oq 3), .ref (oq 4)])), (oq 2, .inl (cI, 600, .inl fK)), (oq 3, .inl (cI, 600, .inl fN)), (oq 4, .inl (cI, 600, .inl fL)), (oq 5, .inr (8, [tx, .int zl, .int ta, .int be, .int ki, .int nu, .int wo]))] sz) := by
  refine Met.ofW (cc := cX6_accept) (maxL := 2) (ret := none) (by decide) rfl ?_
  intro p e s m args below meth c s₁ B hml hv
  obtain ⟨rfl, hsz, hP, hK, hD0, hN⟩ := hv
  have hx := B.exec
  have hb := B.bytes
  have hr := B.returns
  have hts := atoms_spec (ws := wp_k_accept) B.pre
  have hin_X6 : ∀ w ∈ wsX60, w ∈ wp_k_accept := fun _ h => (List.mem_cons_of_mem _ (List.mem_append_right _ (List.mem_append_right _ (List.mem_append_right _ (List.mem_append_right _ (List.mem_append_right _ (List.mem_append_right _ (List.mem_append_right _ (List.mem_append_left _ h)))))))))
  have hown : s.vm.findClass RX6 = some m.cls := findClass_of_methodNamed B.named
  have hlocks := B.notSynchronized
  subst hsz
  have hD := hD0.self (sz := s.heap.size)
  generalize hAe : va_A [(oq 0, .inr (6, gPs oq qf qp qd qs qt qb qh qr qn (nI bk) (nI wz))), (oq 6, .inl (cI, 5, .inl fO)), (oq 7, .inl (cI, 600, .inl fW)), (oq 1, .inr (7, [.int (nI pz), .ref (oq 2), .ref (oq 3), .ref (oq 4)])), (oq 2, .inl (cI, 600, .inl fK)), (oq 3, .inl (cI, 600, .inl fN)), (oq 4, .inl (cI, 600, .inl fL)), (oq 5, .inr (8, [tx, .int zl, .int ta, .int be, .int ki, .int nu, .int wo]))] s.heap.size = A at hD ⊢
  have hA : ∀ q : Nat, s.heap.size ≤ q → A q := fun q h => by rw [← hAe]; exact Or.inr h
  have hS : va_S A s.heap s.heap [] := va_S.rf
  have hP : va_P D vwCl [(oq 0, .inr (6, gPs oq qf qp qd qs qt qb qh qr qn (nI bk) (nI wz))), (oq 6, .inl (cI, 5, .inl fO)), (oq 7, .inl (cI, 600, .inl fW)), (oq 1, .inr (7, [.int (nI pz), .ref (oq 2), .ref (oq 3), .ref (oq 4)])), (oq 2, .inl (cI, 600, .inl fK)), (oq 3, .inl (cI, 600, .inl fN)), (oq 4, .inl (cI, 600, .inl fL)), (oq 5, .inr (8, [tx, .int zl, .int ta, .int be, .int ki, .int nu, .int wo]))] s.heap := hP
  have hl := lv_entry ([.ref (oq 0), .int z1]) (n := 2) (Nat.le_of_ble_eq_true rfl)
  rw [lg_entry_eq]
  generalize (lg_sl ([.ref (oq 0), .int z1]) ++ List.replicate (2 - (lg_sl ([.ref (oq 0), .int z1])).length) Slot.unset).toArray = ls at hl ⊢
  have hl : lv_has ls 2 [(0, .ref (oq 0)), (1, .int z1)] := hl
  have hkc9 := hkc
  refine lv_aload_n hx hb dX6_accept_0 rfl (lv_at hl 0 rfl) ?_
  refine va_get (D := D) (ci := 6) (v := .int qs) (C := RX6) (T := TX6) (N := 15) hx hb hts hin_X6 hown hK hP 0 rfl rfl 5 (by decide) (hts (.fieldLink RX6 39 "ClashFree$Parser" "state" "I") (List.mem_of_getElem? (i := 1) rfl)) (fun _ h9 => h9) rfl dX6_accept_1 ?_
  by_cases hs1 : qs = 0
  ·
    subst hs1
    refine lv_tableIn (off := 36) (tgt := 40) hx hb dX6_accept_4 (by decide) (by decide) (by decide +kernel) (by decide) ?_
    refine lv_aload_n hx hb dX6_accept_40 rfl (lv_at hl 0 rfl) ?_
    refine lv_iload_n hx hb dX6_accept_41 rfl (lv_at hl 1 rfl) ?_
    have hPc := hP.sub (ws' := [(oq 0, .inr (6, gPs oq qf qp qd 0 qt qb qh qr qn (nI bk) (nI wz))), (oq 6, .inl (cI, 5, .inl fO)), (oq 7, .inl (cI, 600, .inl fW)), (oq 1, .inr (7, [.int (nI pz), .ref (oq 2), .ref (oq 3), .ref (oq 4)])), (oq 2, .inl (cI, 600, .inl fK)), (oq 3, .inl (cI, 600, .inl fN)), (oq 4, .inl (cI, 600, .inl fL)), (oq 5, .inr (8, [tx, .int zl, .int ta, .int be, .int ki, .int nu, .int wo]))]) [0, 1, 2, 3, 4, 5, 6, 7] rfl
    have hKc := hK.sub (tys' := [(cI, .int)]) [0] rfl
    have hDc := hD.sub (ws' := [(oq 0, .inr (6, gPs oq qf qp qd 0 qt qb qh qr qn (nI bk) (nI wz))), (oq 6, .inl (cI, 5, .inl fO)), (oq 7, .inl (cI, 600, .inl fW)), (oq 1, .inr (7, [.int (nI pz), .ref (oq 2), .ref (oq 3), .ref (oq 4)])), (oq 2, .inl (cI, 600, .inl fK)), (oq 3, .inl (cI, 600, .inl fN)), (oq 4, .inl (cI, 600, .inl fL)), (oq 5, .inr (8, [tx, .int zl, .int ta, .int be, .int ki, .int nu, .int wo]))]) [0, 1, 2, 3, 4, 5, 6, 7] (by decide) rfl
    have hFc := va_free (wc := [(oq 0, .inr (6, gPs oq qf qp qd 0 qt qb qh qr qn (nI bk) (nI wz))), (oq 6, .inl (cI, 5, .inl fO)), (oq 7, .inl (cI, 600, .inl fW)), (oq 1, .inr (7, [.int (nI pz), .ref (oq 2), .ref (oq 3), .ref (oq 4)])), (oq 2, .inl (cI, 600, .inl fK)), (oq 3, .inl (cI, 600, .inl fN)), (oq 4, .inl (cI, 600, .inl fL)), (oq 5, .inr (8, [tx, .int zl, .int ta, .int be, .int ki, .int nu, .int wo]))]) hD hS hA [0, 1, 2, 3, 4, 5, 6, 7] rfl
    refine va_callv (va_runV (As := [.int z1]) (rest := []) ⟨hx, hb, hml, hown, hts⟩ (k_aStat l D _ oq cI qf qp qd 0 qt qb qh qr qn bk wz fO fW pz fK fN fL tx zl ta be ki nu wo z1 kc num sg hz hkc hnu hM (by omega) hpk ((nI_eq (a := sg.1) (b := 0) (by have := hM.1.2; omega) (by decide)).mp hM.1.1.symm)) (cwV 1 hts g_k_accept_k_aStat_82 rfl rfl rfl (by decide +kernel) ⟨(Nat.le_of_ble_eq_true rfl), (Nat.le_of_ble_eq_true rfl)⟩) (PcWC_V (q0 := 0) hPc hKc hDc hN rfl rfl) rfl rfl hl.1 rfl (lv_room (Nat.le_of_ble_eq_true rfl)) dX6_accept_42 ⟨(Nat.le_of_ble_eq_true rfl), (Nat.le_of_ble_eq_true rfl)⟩) hS (fun q _ h => hFc q h) hFc (fun uu tt H locs htt hvm hw hB hz1 hk1 hS => ?_)
    obtain ⟨w3, w4, w5, w6, w7, w8, w9, w10, w11, w12, w13, w14, w15, w16, w17, w18, w19⟩ := uu
    obtain ⟨hP1, hK1, hD1⟩ := hB
    rw [htt] at hP1
    have hK1 := va_K.moved hvm.symm hK1
    have hP1 : va_P D vwCl [(oq 0, .inr (6, gPs oq w3 w4 w5 w6 w7 w8 w9 w10 w11 (nI w12) (nI w13))), (oq 6, .inl (cI, 5, .inl w14)), (oq 7, .inl (cI, 600, .inl w15)), (oq 1, .inr (7, [.int (nI w16), .ref (oq 2), .ref (oq 3), .ref (oq 4)])), (oq 2, .inl (cI, 600, .inl w17)), (oq 3, .inl (cI, 600, .inl w18)), (oq 4, .inl (cI, 600, .inl w19)), (oq 5, .inr (8, [tx, .int zl, .int ta, .int be, .int ki, .int nu, .int wo]))] H := hP1
    obtain ⟨hP, hD⟩ := va_join (wr := []) (w1 := [(oq 0, .inr (6, gPs oq w3 w4 w5 w6 w7 w8 w9 w10 w11 (nI w12) (nI w13))), (oq 6, .inl (cI, 5, .inl w14)), (oq 7, .inl (cI, 600, .inl w15)), (oq 1, .inr (7, [.int (nI w16), .ref (oq 2), .ref (oq 3), .ref (oq 4)])), (oq 2, .inl (cI, 600, .inl w17)), (oq 3, .inl (cI, 600, .inl w18)), (oq 4, .inl (cI, 600, .inl w19)), (oq 5, .inr (8, [tx, .int zl, .int ta, .int be, .int ki, .int nu, .int wo]))]) hP hD [0, 1, 2, 3, 4, 5, 6, 7] [] rfl rfl (by decide) (by decide) hk1 hFc hP1 hD1
    have hP : va_P D vwCl [(oq 0, .inr (6, gPs oq w3 w4 w5 w6 w7 w8 w9 w10 w11 (nI w12) (nI w13))), (oq 6, .inl (cI, 5, .inl w14)), (oq 7, .inl (cI, 600, .inl w15)), (oq 1, .inr (7, [.int (nI w16), .ref (oq 2), .ref (oq 3), .ref (oq 4)])), (oq 2, .inl (cI, 600, .inl w17)), (oq 3, .inl (cI, 600, .inl w18)), (oq 4, .inl (cI, 600, .inl w19)), (oq 5, .inr (8, [tx, .int zl, .int ta, .int be, .int ki, .int nu, .int wo]))] H := hP
    have hD : va_D A [(oq 0, .inr (6, gPs oq w3 w4 w5 w6 w7 w8 w9 w10 w11 (nI w12) (nI w13))), (oq 6, .inl (cI, 5, .inl w14)), (oq 7, .inl (cI, 600, .inl w15)), (oq 1, .inr (7, [.int (nI w16), .ref (oq 2), .ref (oq 3), .ref (oq 4)])), (oq 2, .inl (cI, 600, .inl w17)), (oq 3, .inl (cI, 600, .inl w18)), (oq 4, .inl (cI, 600, .inl w19)), (oq 5, .inr (8, [tx, .int zl, .int ta, .int be, .int ki, .int nu, .int wo]))] := hD
    try dsimp only at hw
    clear hz1 hk1 hFc hPc hKc hDc
    have hac20 := hw
    refine lv_goto (tgt := 85) hx hb dX6_accept_45 (by decide) ?_
    exact W.vret hx hb hr (fun t ht hW => ⟨⟨(w3, w4, w5, w6, w7, w8, w9, w10, w11, w12, w13, w14, w15, w16, w17, w18, w19), rfl, (by (try dsimp only); first | done | exact hac20), by rw [ht]; exact hP.sub [0, 1, 2, 3, 4, 5, 6, 7] rfl, va_K.moved hW.alike (hK.sub [0] rfl), hD.sub [0, 1, 2, 3, 4, 5, 6, 7] (by decide) rfl⟩, hS.F ht⟩) hS.2.2 dX6_accept_85
  by_cases hs21 : qs = 1
  ·
    subst hs21
    refine lv_tableIn (off := 44) (tgt := 48) hx hb dX6_accept_4 (by decide) (by decide) (by decide +kernel) (by decide) ?_
    refine lv_aload_n hx hb dX6_accept_48 rfl (lv_at hl 0 rfl) ?_
    refine lv_iload_n hx hb dX6_accept_49 rfl (lv_at hl 1 rfl) ?_
    have hPc := hP.sub (ws' := [(oq 0, .inr (6, gPs oq qf qp qd 1 qt qb qh qr qn (nI bk) (nI wz))), (oq 6, .inl (cI, 5, .inl fO)), (oq 7, .inl (cI, 600, .inl fW)), (oq 1, .inr (7, [.int (nI pz), .ref (oq 2), .ref (oq 3), .ref (oq 4)])), (oq 2, .inl (cI, 600, .inl fK)), (oq 3, .inl (cI, 600, .inl fN)), (oq 4, .inl (cI, 600, .inl fL)), (oq 5, .inr (8, [tx, .int zl, .int ta, .int be, .int ki, .int nu, .int wo]))]) [0, 1, 2, 3, 4, 5, 6, 7] rfl
    have hKc := hK.sub (tys' := [(cI, .int)]) [0] rfl
    have hDc := hD.sub (ws' := [(oq 0, .inr (6, gPs oq qf qp qd 1 qt qb qh qr qn (nI bk) (nI wz))), (oq 6, .inl (cI, 5, .inl fO)), (oq 7, .inl (cI, 600, .inl fW)), (oq 1, .inr (7, [.int (nI pz), .ref (oq 2), .ref (oq 3), .ref (oq 4)])), (oq 2, .inl (cI, 600, .inl fK)), (oq 3, .inl (cI, 600, .inl fN)), (oq 4, .inl (cI, 600, .inl fL)), (oq 5, .inr (8, [tx, .int zl, .int ta, .int be, .int ki, .int nu, .int wo]))]) [0, 1, 2, 3, 4, 5, 6, 7] (by decide) rfl
    have hFc := va_free (wc := [(oq 0, .inr (6, gPs oq qf qp qd 1 qt qb qh qr qn (nI bk) (nI wz))), (oq 6, .inl (cI, 5, .inl fO)), (oq 7, .inl (cI, 600, .inl fW)), (oq 1, .inr (7, [.int (nI pz), .ref (oq 2), .ref (oq 3), .ref (oq 4)])), (oq 2, .inl (cI, 600, .inl fK)), (oq 3, .inl (cI, 600, .inl fN)), (oq 4, .inl (cI, 600, .inl fL)), (oq 5, .inr (8, [tx, .int zl, .int ta, .int be, .int ki, .int nu, .int wo]))]) hD hS hA [0, 1, 2, 3, 4, 5, 6, 7] rfl
    refine va_callv (va_runV (As := [.int z1]) (rest := []) ⟨hx, hb, hml, hown, hts⟩ (k_aUnit l D _ oq cI qf qp qd 1 qt qb qh qr qn bk wz fO fW pz fK fN fL tx zl ta be ki nu wo z1 kc num sg hz hkc hnu hM (by omega) hpk ((nI_eq (a := sg.1) (b := 1) (by have := hM.1.2; omega) (by decide)).mp hM.1.1.symm)) (cwV 1 hts g_k_accept_k_aUnit_85 rfl rfl rfl (by decide +kernel) ⟨(Nat.le_of_ble_eq_true rfl), (Nat.le_of_ble_eq_true rfl)⟩) (PcWC_V (q0 := 0) hPc hKc hDc hN rfl rfl) rfl rfl hl.1 rfl (lv_room (Nat.le_of_ble_eq_true rfl)) dX6_accept_50 ⟨(Nat.le_of_ble_eq_true rfl), (Nat.le_of_ble_eq_true rfl)⟩) hS (fun q _ h => hFc q h) hFc (fun uu tt H locs htt hvm hw hB hz1 hk1 hS => ?_)
    obtain ⟨w23, w24, w25, w26, w27, w28, w29, w30, w31, w32, w33, w34, w35, w36, w37, w38, w39⟩ := uu
    obtain ⟨hP1, hK1, hD1⟩ := hB
    rw [htt] at hP1
    have hK1 := va_K.moved hvm.symm hK1
    have hP1 : va_P D vwCl [(oq 0, .inr (6, gPs oq w23 w24 w25 w26 w27 w28 w29 w30 w31 (nI w32) (nI w33))), (oq 6, .inl (cI, 5, .inl w34)), (oq 7, .inl (cI, 600, .inl w35)), (oq 1, .inr (7, [.int (nI w36), .ref (oq 2), .ref (oq 3), .ref (oq 4)])), (oq 2, .inl (cI, 600, .inl w37)), (oq 3, .inl (cI, 600, .inl w38)), (oq 4, .inl (cI, 600, .inl w39)), (oq 5, .inr (8, [tx, .int zl, .int ta, .int be, .int ki, .int nu, .int wo]))] H := hP1
    obtain ⟨hP, hD⟩ := va_join (wr := []) (w1 := [(oq 0, .inr (6, gPs oq w23 w24 w25 w26 w27 w28 w29 w30 w31 (nI w32) (nI w33))), (oq 6, .inl (cI, 5, .inl w34)), (oq 7, .inl (cI, 600, .inl w35)), (oq 1, .inr (7, [.int (nI w36), .ref (oq 2), .ref (oq 3), .ref (oq 4)])), (oq 2, .inl (cI, 600, .inl w37)), (oq 3, .inl (cI, 600, .inl w38)), (oq 4, .inl (cI, 600, .inl w39)), (oq 5, .inr (8, [tx, .int zl, .int ta, .int be, .int ki, .int nu, .int wo]))]) hP hD [0, 1, 2, 3, 4, 5, 6, 7] [] rfl rfl (by decide) (by decide) hk1 hFc hP1 hD1
    have hP : va_P D vwCl [(oq 0, .inr (6, gPs oq w23 w24 w25 w26 w27 w28 w29 w30 w31 (nI w32) (nI w33))), (oq 6, .inl (cI, 5, .inl w34)), (oq 7, .inl (cI, 600, .inl w35)), (oq 1, .inr (7, [.int (nI w36), .ref (oq 2), .ref (oq 3), .ref (oq 4)])), (oq 2, .inl (cI, 600, .inl w37)), (oq 3, .inl (cI, 600, .inl w38)), (oq 4, .inl (cI, 600, .inl w39)), (oq 5, .inr (8, [tx, .int zl, .int ta, .int be, .int ki, .int nu, .int wo]))] H := hP
    have hD : va_D A [(oq 0, .inr (6, gPs oq w23 w24 w25 w26 w27 w28 w29 w30 w31 (nI w32) (nI w33))), (oq 6, .inl (cI, 5, .inl w34)), (oq 7, .inl (cI, 600, .inl w35)), (oq 1, .inr (7, [.int (nI w36), .ref (oq 2), .ref (oq 3), .ref (oq 4)])), (oq 2, .inl (cI, 600, .inl w37)), (oq 3, .inl (cI, 600, .inl w38)), (oq 4, .inl (cI, 600, .inl w39)), (oq 5, .inr (8, [tx, .int zl, .int ta, .int be, .int ki, .int nu, .int wo]))] := hD
    try dsimp only at hw
    clear hz1 hk1 hFc hPc hKc hDc
    have hac40 := hw
    refine lv_goto (tgt := 85) hx hb dX6_accept_53 (by decide) ?_
    exact W.vret hx hb hr (fun t ht hW => ⟨⟨(w23, w24, w25, w26, w27, w28, w29, w30, w31, w32, w33, w34, w35, w36, w37, w38, w39), rfl, (by (try dsimp only); first | done | exact hac40), by rw [ht]; exact hP.sub [0, 1, 2, 3, 4, 5, 6, 7] rfl, va_K.moved hW.alike (hK.sub [0] rfl), hD.sub [0, 1, 2, 3, 4, 5, 6, 7] (by decide) rfl⟩, hS.F ht⟩) hS.2.2 dX6_accept_85
  by_cases hs41 : qs = 2
  ·
    subst hs41
    refine lv_tableIn (off := 52) (tgt := 56) hx hb dX6_accept_4 (by decide) (by decide) (by decide +kernel) (by decide) ?_
    refine lv_aload_n hx hb dX6_accept_56 rfl (lv_at hl 0 rfl) ?_
    refine lv_iload_n hx hb dX6_accept_57 rfl (lv_at hl 1 rfl) ?_
    have hPc := hP.sub (ws' := [(oq 0, .inr (6, gPs oq qf qp qd 2 qt qb qh qr qn (nI bk) (nI wz))), (oq 6, .inl (cI, 5, .inl fO)), (oq 7, .inl (cI, 600, .inl fW)), (oq 1, .inr (7, [.int (nI pz), .ref (oq 2), .ref (oq 3), .ref (oq 4)])), (oq 2, .inl (cI, 600, .inl fK)), (oq 3, .inl (cI, 600, .inl fN)), (oq 4, .inl (cI, 600, .inl fL)), (oq 5, .inr (8, [tx, .int zl, .int ta, .int be, .int ki, .int nu, .int wo]))]) [0, 1, 2, 3, 4, 5, 6, 7] rfl
    have hKc := hK.sub (tys' := [(cI, .int)]) [0] rfl
    have hDc := hD.sub (ws' := [(oq 0, .inr (6, gPs oq qf qp qd 2 qt qb qh qr qn (nI bk) (nI wz))), (oq 6, .inl (cI, 5, .inl fO)), (oq 7, .inl (cI, 600, .inl fW)), (oq 1, .inr (7, [.int (nI pz), .ref (oq 2), .ref (oq 3), .ref (oq 4)])), (oq 2, .inl (cI, 600, .inl fK)), (oq 3, .inl (cI, 600, .inl fN)), (oq 4, .inl (cI, 600, .inl fL)), (oq 5, .inr (8, [tx, .int zl, .int ta, .int be, .int ki, .int nu, .int wo]))]) [0, 1, 2, 3, 4, 5, 6, 7] (by decide) rfl
    have hFc := va_free (wc := [(oq 0, .inr (6, gPs oq qf qp qd 2 qt qb qh qr qn (nI bk) (nI wz))), (oq 6, .inl (cI, 5, .inl fO)), (oq 7, .inl (cI, 600, .inl fW)), (oq 1, .inr (7, [.int (nI pz), .ref (oq 2), .ref (oq 3), .ref (oq 4)])), (oq 2, .inl (cI, 600, .inl fK)), (oq 3, .inl (cI, 600, .inl fN)), (oq 4, .inl (cI, 600, .inl fL)), (oq 5, .inr (8, [tx, .int zl, .int ta, .int be, .int ki, .int nu, .int wo]))]) hD hS hA [0, 1, 2, 3, 4, 5, 6, 7] rfl
    refine va_callv (va_runV (As := [.int z1]) (rest := []) ⟨hx, hb, hml, hown, hts⟩ (k_aBehindUnit l D _ oq cI qf qp qd 2 qt qb qh qr qn bk wz fO fW pz fK fN fL tx zl ta be ki nu wo z1 kc num sg hz hkc hnu hM (by omega) hpk ((nI_eq (a := sg.1) (b := 2) (by have := hM.1.2; omega) (by decide)).mp hM.1.1.symm)) (cwV 1 hts g_k_accept_k_aBehindUnit_88 rfl rfl rfl (by decide +kernel) ⟨(Nat.le_of_ble_eq_true rfl), (Nat.le_of_ble_eq_true rfl)⟩) (PcWC_V (q0 := 0) hPc hKc hDc hN rfl rfl) rfl rfl hl.1 rfl (lv_room (Nat.le_of_ble_eq_true rfl)) dX6_accept_58 ⟨(Nat.le_of_ble_eq_true rfl), (Nat.le_of_ble_eq_true rfl)⟩) hS (fun q _ h => hFc q h) hFc (fun uu tt H locs htt hvm hw hB hz1 hk1 hS => ?_)
    obtain ⟨w43, w44, w45, w46, w47, w48, w49, w50, w51, w52, w53, w54, w55, w56, w57, w58, w59⟩ := uu
    obtain ⟨hP1, hK1, hD1⟩ := hB
    rw [htt] at hP1
    have hK1 := va_K.moved hvm.symm hK1
    have hP1 : va_P D vwCl [(oq 0, .inr (6, gPs oq w43 w44 w45 w46 w47 w48 w49 w50 w51 (nI w52) (nI w53))), (oq 6, .inl (cI, 5, .inl w54)), (oq 7, .inl (cI, 600, .inl w55)), (oq 1, .inr (7, [.int (nI w56), .ref (oq 2), .ref (oq 3), .ref (oq 4)])), (oq 2, .inl (cI, 600, .inl w57)), (oq 3, .inl (cI, 600, .inl w58)), (oq 4, .inl (cI, 600, .inl w59)), (oq 5, .inr (8, [tx, .int zl, .int ta, .int be, .int ki, .int nu, .int wo]))] H := hP1
    obtain ⟨hP, hD⟩ := va_join (wr := []) (w1 := [(oq 0, .inr (6, gPs oq w43 w44 w45 w46 w47 w48 w49 w50 w51 (nI w52) (nI w53))), (oq 6, .inl (cI, 5, .inl w54)), (oq 7, .inl (cI, 600, .inl w55)), (oq 1, .inr (7, [.int (nI w56), .ref (oq 2), .ref (oq 3), .ref (oq 4)])), (oq 2, .inl (cI, 600, .inl w57)), (oq 3, .inl (cI, 600, .inl w58)), (oq 4, .inl (cI, 600, .inl w59)), (oq 5, .inr (8, [tx, .int zl, .int ta, .int be, .int ki, .int nu, .int wo]))]) hP hD [0, 1, 2, 3, 4, 5, 6, 7] [] rfl rfl (by decide) (by decide) hk1 hFc hP1 hD1
    have hP : va_P D vwCl [(oq 0, .inr (6, gPs oq w43 w44 w45 w46 w47 w48 w49 w50 w51 (nI w52) (nI w53))), (oq 6, .inl (cI, 5, .inl w54)), (oq 7, .inl (cI, 600, .inl w55)), (oq 1, .inr (7, [.int (nI w56), .ref (oq 2), .ref (oq 3), .ref (oq 4)])), (oq 2, .inl (cI, 600, .inl w57)), (oq 3, .inl (cI, 600, .inl w58)), (oq 4, .inl (cI, 600, .inl w59)), (oq 5, .inr (8, [tx, .int zl, .int ta, .int be, .int ki, .int nu, .int wo]))] H := hP
    have hD : va_D A [(oq 0, .inr (6, gPs oq w43 w44 w45 w46 w47 w48 w49 w50 w51 (nI w52) (nI w53))), (oq 6, .inl (cI, 5, .inl w54)), (oq 7, .inl (cI, 600, .inl w55)), (oq 1, .inr (7, [.int (nI w56), .ref (oq 2), .ref (oq 3), .ref (oq 4)])), (oq 2, .inl (cI, 600, .inl w57)), (oq 3, .inl (cI, 600, .inl w58)), (oq 4, .inl (cI, 600, .inl w59)), (oq 5, .inr (8, [tx, .int zl, .int ta, .int be, .int ki, .int nu, .int wo]))] := hD
    try dsimp only at hw
    clear hz1 hk1 hFc hPc hKc hDc
    have hac60 := hw
    refine lv_goto (tgt := 85) hx hb dX6_accept_61 (by decide) ?_
    exact W.vret hx hb hr (fun t ht hW => ⟨⟨(w43, w44, w45, w46, w47, w48, w49, w50, w51, w52, w53, w54, w55, w56, w57, w58, w59), rfl, (by (try dsimp only); first | done | exact hac60), by rw [ht]; exact hP.sub [0, 1, 2, 3, 4, 5, 6, 7] rfl, va_K.moved hW.alike (hK.sub [0] rfl), hD.sub [0, 1, 2, 3, 4, 5, 6, 7] (by decide) rfl⟩, hS.F ht⟩) hS.2.2 dX6_accept_85
  by_cases hs61 : qs = 3
  ·
    subst hs61
    refine lv_tableIn (off := 60) (tgt := 64) hx hb dX6_accept_4 (by decide) (by decide) (by decide +kernel) (by decide) ?_
    refine lv_aload_n hx hb dX6_accept_64 rfl (lv_at hl 0 rfl) ?_
    refine lv_iload_n hx hb dX6_accept_65 rfl (lv_at hl 1 rfl) ?_
    have hPc := hP.sub (ws' := [(oq 0, .inr (6, gPs oq qf qp qd 3 qt qb qh qr qn (nI bk) (nI wz))), (oq 6, .inl (cI, 5, .inl fO)), (oq 7, .inl (cI, 600, .inl fW)), (oq 1, .inr (7, [.int (nI pz), .ref (oq 2), .ref (oq 3), .ref (oq 4)])), (oq 2, .inl (cI, 600, .inl fK)), (oq 3, .inl (cI, 600, .inl fN)), (oq 4, .inl (cI, 600, .inl fL)), (oq 5, .inr (8, [tx, .int zl, .int ta, .int be, .int ki, .int nu, .int wo]))]) [0, 1, 2, 3, 4, 5, 6, 7] rfl
    have hKc := hK.sub (tys' := [(cI, .int)]) [0] rfl
    have hDc := hD.sub (ws' := [(oq 0, .inr (6, gPs oq qf qp qd 3 qt qb qh qr qn (nI bk) (nI wz))), (oq 6, .inl (cI, 5, .inl fO)), (oq 7, .inl (cI, 600, .inl fW)), (oq 1, .inr (7, [.int (nI pz), .ref (oq 2), .ref (oq 3), .ref (oq 4)])), (oq 2, .inl (cI, 600, .inl fK)), (oq 3, .inl (cI, 600, .inl fN)), (oq 4, .inl (cI, 600, .inl fL)), (oq 5, .inr (8, [tx, .int zl, .int ta, .int be, .int ki, .int nu, .int wo]))]) [0, 1, 2, 3, 4, 5, 6, 7] (by decide) rfl
    have hFc := va_free (wc := [(oq 0, .inr (6, gPs oq qf qp qd 3 qt qb qh qr qn (nI bk) (nI wz))), (oq 6, .inl (cI, 5, .inl fO)), (oq 7, .inl (cI, 600, .inl fW)), (oq 1, .inr (7, [.int (nI pz), .ref (oq 2), .ref (oq 3), .ref (oq 4)])), (oq 2, .inl (cI, 600, .inl fK)), (oq 3, .inl (cI, 600, .inl fN)), (oq 4, .inl (cI, 600, .inl fL)), (oq 5, .inr (8, [tx, .int zl, .int ta, .int be, .int ki, .int nu, .int wo]))]) hD hS hA [0, 1, 2, 3, 4, 5, 6, 7] rfl
    refine va_callv (va_runV (As := [.int z1]) (rest := []) ⟨hx, hb, hml, hown, hts⟩ (k_aRounds l D _ oq cI qf qp qd 3 qt qb qh qr qn bk wz fO fW pz fK fN fL tx zl ta be ki nu wo z1 kc num sg hz hkc hnu hM (by omega) hpk ((nI_eq (a := sg.1) (b := 3) (by have := hM.1.2; omega) (by decide)).mp hM.1.1.symm)) (cwV 1 hts g_k_accept_k_aRounds_91 rfl rfl rfl (by decide +kernel) ⟨(Nat.le_of_ble_eq_true rfl), (Nat.le_of_ble_eq_true rfl)⟩) (PcWC_V (q0 := 0) hPc hKc hDc hN rfl rfl) rfl rfl hl.1 rfl (lv_room (Nat.le_of_ble_eq_true rfl)) dX6_accept_66 ⟨(Nat.le_of_ble_eq_true rfl), (Nat.le_of_ble_eq_true rfl)⟩) hS (fun q _ h => hFc q h) hFc (fun uu tt H locs htt hvm hw hB hz1 hk1 hS => ?_)
    obtain ⟨w63, w64, w65, w66, w67, w68, w69, w70, w71, w72, w73, w74, w75, w76, w77, w78, w79⟩ := uu
    obtain ⟨hP1, hK1, hD1⟩ := hB
    rw [htt] at hP1
    have hK1 := va_K.moved hvm.symm hK1
    have hP1 : va_P D vwCl [(oq 0, .inr (6, gPs oq w63 w64 w65 w66 w67 w68 w69 w70 w71 (nI w72) (nI w73))), (oq 6, .inl (cI, 5, .inl w74)), (oq 7, .inl (cI, 600, .inl w75)), (oq 1, .inr (7, [.int (nI w76), .ref (oq 2), .ref (oq 3), .ref (oq 4)])), (oq 2, .inl (cI, 600, .inl w77)), (oq 3, .inl (cI, 600, .inl w78)), (oq 4, .inl (cI, 600, .inl w79)), (oq 5, .inr (8, [tx, .int zl, .int ta, .int be, .int ki, .int nu, .int wo]))] H := hP1
    obtain ⟨hP, hD⟩ := va_join (wr := []) (w1 := [(oq 0, .inr (6, gPs oq w63 w64 w65 w66 w67 w68 w69 w70 w71 (nI w72) (nI w73))), (oq 6, .inl (cI, 5, .inl w74)), (oq 7, .inl (cI, 600, .inl w75)), (oq 1, .inr (7, [.int (nI w76), .ref (oq 2), .ref (oq 3), .ref (oq 4)])), (oq 2, .inl (cI, 600, .inl w77)), (oq 3, .inl (cI, 600, .inl w78)), (oq 4, .inl (cI, 600, .inl w79)), (oq 5, .inr (8, [tx, .int zl, .int ta, .int be, .int ki, .int nu, .int wo]))]) hP hD [0, 1, 2, 3, 4, 5, 6, 7] [] rfl rfl (by decide) (by decide) hk1 hFc hP1 hD1
    have hP : va_P D vwCl [(oq 0, .inr (6, gPs oq w63 w64 w65 w66 w67 w68 w69 w70 w71 (nI w72) (nI w73))), (oq 6, .inl (cI, 5, .inl w74)), (oq 7, .inl (cI, 600, .inl w75)), (oq 1, .inr (7, [.int (nI w76), .ref (oq 2), .ref (oq 3), .ref (oq 4)])), (oq 2, .inl (cI, 600, .inl w77)), (oq 3, .inl (cI, 600, .inl w78)), (oq 4, .inl (cI, 600, .inl w79)), (oq 5, .inr (8, [tx, .int zl, .int ta, .int be, .int ki, .int nu, .int wo]))] H := hP
    have hD : va_D A [(oq 0, .inr (6, gPs oq w63 w64 w65 w66 w67 w68 w69 w70 w71 (nI w72) (nI w73))), (oq 6, .inl (cI, 5, .inl w74)), (oq 7, .inl (cI, 600, .inl w75)), (oq 1, .inr (7, [.int (nI w76), .ref (oq 2), .ref (oq 3), .ref (oq 4)])), (oq 2, .inl (cI, 600, .inl w77)), (oq 3, .inl (cI, 600, .inl w78)), (oq 4, .inl (cI, 600, .inl w79)), (oq 5, .inr (8, [tx, .int zl, .int ta, .int be, .int ki, .int nu, .int wo]))] := hD
    try dsimp only at hw
    clear hz1 hk1 hFc hPc hKc hDc
    have hac80 := hw
    refine lv_goto (tgt := 85) hx hb dX6_accept_69 (by decide) ?_
    exact W.vret hx hb hr (fun t ht hW => ⟨⟨(w63, w64, w65, w66, w67, w68, w69, w70, w71, w72, w73, w74, w75, w76, w77, w78, w79), rfl, (by (try dsimp only); first | done | exact hac80), by rw [ht]; exact hP.sub [0, 1, 2, 3, 4, 5, 6, 7] rfl, va_K.moved hW.alike (hK.sub [0] rfl), hD.sub [0, 1, 2, 3, 4, 5, 6, 7] (by decide) rfl⟩, hS.F ht⟩) hS.2.2 dX6_accept_85
  by_cases hs81 : qs = 4
  ·
    subst hs81
    refine lv_tableIn (off := 68) (tgt := 72) hx hb dX6_accept_4 (by decide) (by decide) (by decide +kernel) (by decide) ?_
    refine lv_aload_n hx hb dX6_accept_72 rfl (lv_at hl 0 rfl) ?_
    refine lv_iload_n hx hb dX6_accept_73 rfl (lv_at hl 1 rfl) ?_
    have hPc := hP.sub (ws' := [(oq 0, .inr (6, gPs oq qf qp qd 4 qt qb qh qr qn (nI bk) (nI wz))), (oq 6, .inl (cI, 5, .inl fO)), (oq 7, .inl (cI, 600, .inl fW)), (oq 1, .inr (7, [.int (nI pz), .ref (oq 2), .ref (oq 3), .ref (oq 4)])), (oq 2, .inl (cI, 600, .inl fK)), (oq 3, .inl (cI, 600, .inl fN)), (oq 4, .inl (cI, 600, .inl fL)), (oq 5, .inr (8, [tx, .int zl, .int ta, .int be, .int ki, .int nu, .int wo]))]) [0, 1, 2, 3, 4, 5, 6, 7] rfl
    have hKc := hK.sub (tys' := [(cI, .int)]) [0] rfl
    have hDc := hD.sub (ws' := [(oq 0, .inr (6, gPs oq qf qp qd 4 qt qb qh qr qn (nI bk) (nI wz))), (oq 6, .inl (cI, 5, .inl fO)), (oq 7, .inl (cI, 600, .inl fW)), (oq 1, .inr (7, [.int (nI pz), .ref (oq 2), .ref (oq 3), .ref (oq 4)])), (oq 2, .inl (cI, 600, .inl fK)), (oq 3, .inl (cI, 600, .inl fN)), (oq 4, .inl (cI, 600, .inl fL)), (oq 5, .inr (8, [tx, .int zl, .int ta, .int be, .int ki, .int nu, .int wo]))]) [0, 1, 2, 3, 4, 5, 6, 7] (by decide) rfl
    have hFc := va_free (wc := [(oq 0, .inr (6, gPs oq qf qp qd 4 qt qb qh qr qn (nI bk) (nI wz))), (oq 6, .inl (cI, 5, .inl fO)), (oq 7, .inl (cI, 600, .inl fW)), (oq 1, .inr (7, [.int (nI pz), .ref (oq 2), .ref (oq 3), .ref (oq 4)])), (oq 2, .inl (cI, 600, .inl fK)), (oq 3, .inl (cI, 600, .inl fN)), (oq 4, .inl (cI, 600, .inl fL)), (oq 5, .inr (8, [tx, .int zl, .int ta, .int be, .int ki, .int nu, .int wo]))]) hD hS hA [0, 1, 2, 3, 4, 5, 6, 7] rfl
    refine va_callv (va_runV (As := [.int z1]) (rest := []) ⟨hx, hb, hml, hown, hts⟩ (k_aOpening l D _ oq cI qf qp qd 4 qt qb qh qr qn bk wz fO fW pz fK fN fL tx zl ta be ki nu wo z1 kc num sg hz hkc hnu hM (by omega) hpk ((nI_eq (a := sg.1) (b := 4) (by have := hM.1.2; omega) (by decide)).mp hM.1.1.symm)) (cwV 1 hts g_k_accept_k_aOpening_94 rfl rfl rfl (by decide +kernel) ⟨(Nat.le_of_ble_eq_true rfl), (Nat.le_of_ble_eq_true rfl)⟩) (PcWC_V (q0 := 0) hPc hKc hDc hN rfl rfl) rfl rfl hl.1 rfl (lv_room (Nat.le_of_ble_eq_true rfl)) dX6_accept_74 ⟨(Nat.le_of_ble_eq_true rfl), (Nat.le_of_ble_eq_true rfl)⟩) hS (fun q _ h => hFc q h) hFc (fun uu tt H locs htt hvm hw hB hz1 hk1 hS => ?_)
    obtain ⟨w83, w84, w85, w86, w87, w88, w89, w90, w91, w92, w93, w94, w95, w96, w97, w98, w99⟩ := uu
    obtain ⟨hP1, hK1, hD1⟩ := hB
    rw [htt] at hP1
    have hK1 := va_K.moved hvm.symm hK1
    have hP1 : va_P D vwCl [(oq 0, .inr (6, gPs oq w83 w84 w85 w86 w87 w88 w89 w90 w91 (nI w92) (nI w93))), (oq 6, .inl (cI, 5, .inl w94)), (oq 7, .inl (cI, 600, .inl w95)), (oq 1, .inr (7, [.int (nI w96), .ref (oq 2), .ref (oq 3), .ref (oq 4)])), (oq 2, .inl (cI, 600, .inl w97)), (oq 3, .inl (cI, 600, .inl w98)), (oq 4, .inl (cI, 600, .inl w99)), (oq 5, .inr (8, [tx, .int zl, .int ta, .int be, .int ki, .int nu, .int wo]))] H := hP1
    obtain ⟨hP, hD⟩ := va_join (wr := []) (w1 := [(oq 0, .inr (6, gPs oq w83 w84 w85 w86 w87 w88 w89 w90 w91 (nI w92) (nI w93))), (oq 6, .inl (cI, 5, .inl w94)), (oq 7, .inl (cI, 600, .inl w95)), (oq 1, .inr (7, [.int (nI w96), .ref (oq 2), .ref (oq 3), .ref (oq 4)])), (oq 2, .inl (cI, 600, .inl w97)), (oq 3, .inl (cI, 600, .inl w98)), (oq 4, .inl (cI, 600, .inl w99)), (oq 5, .inr (8, [tx, .int zl, .int ta, .int be, .int ki, .int nu, .int wo]))]) hP hD [0, 1, 2, 3, 4, 5, 6, 7] [] rfl rfl (by decide) (by decide) hk1 hFc hP1 hD1
    have hP : va_P D vwCl [(oq 0, .inr (6, gPs oq w83 w84 w85 w86 w87 w88 w89 w90 w91 (nI w92) (nI w93))), (oq 6, .inl (cI, 5, .inl w94)), (oq 7, .inl (cI, 600, .inl w95)), (oq 1, .inr (7, [.int (nI w96), .ref (oq 2), .ref (oq 3), .ref (oq 4)])), (oq 2, .inl (cI, 600, .inl w97)), (oq 3, .inl (cI, 600, .inl w98)), (oq 4, .inl (cI, 600, .inl w99)), (oq 5, .inr (8, [tx, .int zl, .int ta, .int be, .int ki, .int nu, .int wo]))] H := hP
    have hD : va_D A [(oq 0, .inr (6, gPs oq w83 w84 w85 w86 w87 w88 w89 w90 w91 (nI w92) (nI w93))), (oq 6, .inl (cI, 5, .inl w94)), (oq 7, .inl (cI, 600, .inl w95)), (oq 1, .inr (7, [.int (nI w96), .ref (oq 2), .ref (oq 3), .ref (oq 4)])), (oq 2, .inl (cI, 600, .inl w97)), (oq 3, .inl (cI, 600, .inl w98)), (oq 4, .inl (cI, 600, .inl w99)), (oq 5, .inr (8, [tx, .int zl, .int ta, .int be, .int ki, .int nu, .int wo]))] := hD
    try dsimp only at hw
    clear hz1 hk1 hFc hPc hKc hDc
    have hac100 := hw
    refine lv_goto (tgt := 85) hx hb dX6_accept_77 (by decide) ?_
    exact W.vret hx hb hr (fun t ht hW => ⟨⟨(w83, w84, w85, w86, w87, w88, w89, w90, w91, w92, w93, w94, w95, w96, w97, w98, w99), rfl, (by (try dsimp only); first | done | exact hac100), by rw [ht]; exact hP.sub [0, 1, 2, 3, 4, 5, 6, 7] rfl, va_K.moved hW.alike (hK.sub [0] rfl), hD.sub [0, 1, 2, 3, 4, 5, 6, 7] (by decide) rfl⟩, hS.F ht⟩) hS.2.2 dX6_accept_85
  refine lv_tableOut (tgt := 80) hx hb dX6_accept_4 (by have a0 := sw_ne (n := 0) hs1 (by decide) (by decide); have a1 := sw_ne (n := 1) hs21 (by decide) (by decide); have a2 := sw_ne (n := 2) hs41 (by decide) (by decide); have a3 := sw_ne (n := 3) hs61 (by decide) (by decide); have a4 := sw_ne (n := 4) hs81 (by decide) (by decide); omega) (by decide) ?_
  have a0 : ¬ sg.1 = 0 := fun q => absurd (hM.1.1.trans (congrArg nI q)) (by assumption)
  have a1 : ¬ sg.1 = 1 := fun q => absurd (hM.1.1.trans (congrArg nI q)) (by assumption)
  have a2 : ¬ sg.1 = 2 := fun q => absurd (hM.1.1.trans (congrArg nI q)) (by assumption)
  have a3 : ¬ sg.1 = 3 := fun q => absurd (hM.1.1.trans (congrArg nI q)) (by assumption)
  have a4 : ¬ sg.1 = 4 := fun q => absurd (hM.1.1.trans (congrArg nI q)) (by assumption)
  have h69 := hM.1.2
  refine lv_aload_n hx hb dX6_accept_80 rfl (lv_at hl 0 rfl) ?_
  refine lv_iload_n hx hb dX6_accept_81 rfl (lv_at hl 1 rfl) ?_
  have hPc := hP.sub (ws' := [(oq 0, .inr (6, gPs oq qf qp qd qs qt qb qh qr qn (nI bk) (nI wz))), (oq 6, .inl (cI, 5, .inl fO)), (oq 7, .inl (cI, 600, .inl fW)), (oq 1, .inr (7, [.int (nI pz), .ref (oq 2), .ref (oq 3), .ref (oq 4)])), (oq 2, .inl (cI, 600, .inl fK)), (oq 3, .inl (cI, 600, .inl fN)), (oq 4, .inl (cI, 600, .inl fL)), (oq 5, .inr (8, [tx, .int zl, .int ta, .int be, .int ki, .int nu, .int wo]))]) [0, 1, 2, 3, 4, 5, 6, 7] rfl
  have hKc := hK.sub (tys' := [(cI, .int)]) [0] rfl
  have hDc := hD.sub (ws' := [(oq 0, .inr (6, gPs oq qf qp qd qs qt qb qh qr qn (nI bk) (nI wz))), (oq 6, .inl (cI, 5, .inl fO)), (oq 7, .inl (cI, 600, .inl fW)), (oq 1, .inr (7, [.int (nI pz), .ref (oq 2), .ref (oq 3), .ref (oq 4)])), (oq 2, .inl (cI, 600, .inl fK)), (oq 3, .inl (cI, 600, .inl fN)), (oq 4, .inl (cI, 600, .inl fL)), (oq 5, .inr (8, [tx, .int zl, .int ta, .int be, .int ki, .int nu, .int wo]))]) [0, 1, 2, 3, 4, 5, 6, 7] (by decide) rfl
  have hFc := va_free (wc := [(oq 0, .inr (6, gPs oq qf qp qd qs qt qb qh qr qn (nI bk) (nI wz))), (oq 6, .inl (cI, 5, .inl fO)), (oq 7, .inl (cI, 600, .inl fW)), (oq 1, .inr (7, [.int (nI pz), .ref (oq 2), .ref (oq 3), .ref (oq 4)])), (oq 2, .inl (cI, 600, .inl fK)), (oq 3, .inl (cI, 600, .inl fN)), (oq 4, .inl (cI, 600, .inl fL)), (oq 5, .inr (8, [tx, .int zl, .int ta, .int be, .int ki, .int nu, .int wo]))]) hD hS hA [0, 1, 2, 3, 4, 5, 6, 7] rfl
  refine va_callv (va_runV (As := [.int z1]) (rest := []) ⟨hx, hb, hml, hown, hts⟩ (k_aBehindBlock l D _ oq cI qf qp qd qs qt qb qh qr qn bk wz fO fW pz fK fN fL tx zl ta be ki nu wo z1 kc num sg hz hkc hnu hM (by omega) hpk (by omega)) (cwV 1 hts g_k_accept_k_aBehindBlock_97 rfl rfl rfl (by decide +kernel) ⟨(Nat.le_of_ble_eq_true rfl), (Nat.le_of_ble_eq_true rfl)⟩) (PcWC_V (q0 := 0) hPc hKc hDc hN rfl rfl) rfl rfl hl.1 rfl (lv_room (Nat.le_of_ble_eq_true rfl)) dX6_accept_82 ⟨(Nat.le_of_ble_eq_true rfl), (Nat.le_of_ble_eq_true rfl)⟩) hS (fun q _ h => hFc q h) hFc (fun uu tt H locs htt hvm hw hB hz1 hk1 hS => ?_)
  obtain ⟨w102, w103, w104, w105, w106, w107, w108, w109, w110, w111, w112, w113, w114, w115, w116, w117, w118⟩ := uu
  obtain ⟨hP1, hK1, hD1⟩ := hB
  rw [htt] at hP1
  have hK1 := va_K.moved hvm.symm hK1
  have hP1 : va_P D vwCl [(oq 0, .inr (6, gPs oq w102 w103 w104 w105 w106 w107 w108 w109 w110 (nI w111) (nI w112))), (oq 6, .inl (cI, 5, .inl w113)), (oq 7, .inl (cI, 600, .inl w114)), (oq 1, .inr (7, [.int (nI w115), .ref (oq 2), .ref (oq 3), .ref (oq 4)])), (oq 2, .inl (cI, 600, .inl w116)), (oq 3, .inl (cI, 600, .inl w117)), (oq 4, .inl (cI, 600, .inl w118)), (oq 5, .inr (8, [tx, .int zl, .int ta, .int be, .int ki, .int nu, .int wo]))] H := hP1
  obtain ⟨hP, hD⟩ := va_join (wr := []) (w1 := [(oq 0, .inr (6, gPs oq w102 w103 w104 w105 w106 w107 w108 w109 w110 (nI w111) (nI w112))), (oq 6, .inl (cI, 5, .inl w113)), (oq 7, .inl (cI, 600, .inl w114)), (oq 1, .inr (7, [.int (nI w115), .ref (oq 2), .ref (oq 3), .ref (oq 4)])), (oq 2, .inl (cI, 600, .inl w116)), (oq 3, .inl (cI, 600, .inl w117)), (oq 4, .inl (cI, 600, .inl w118)), (oq 5, .inr (8, [tx, .int zl, .int ta, .int be, .int ki, .int nu, .int wo]))]) hP hD [0, 1, 2, 3, 4, 5, 6, 7] [] rfl rfl (by decide) (by decide) hk1 hFc hP1 hD1
  have hP : va_P D vwCl [(oq 0, .inr (6, gPs oq w102 w103 w104 w105 w106 w107 w108 w109 w110 (nI w111) (nI w112))), (oq 6, .inl (cI, 5, .inl w113)), (oq 7, .inl (cI, 600, .inl w114)), (oq 1, .inr (7, [.int (nI w115), .ref (oq 2), .ref (oq 3), .ref (oq 4)])), (oq 2, .inl (cI, 600, .inl w116)), (oq 3, .inl (cI, 600, .inl w117)), (oq 4, .inl (cI, 600, .inl w118)), (oq 5, .inr (8, [tx, .int zl, .int ta, .int be, .int ki, .int nu, .int wo]))] H := hP
  have hD : va_D A [(oq 0, .inr (6, gPs oq w102 w103 w104 w105 w106 w107 w108 w109 w110 (nI w111) (nI w112))), (oq 6, .inl (cI, 5, .inl w113)), (oq 7, .inl (cI, 600, .inl w114)), (oq 1, .inr (7, [.int (nI w115), .ref (oq 2), .ref (oq 3), .ref (oq 4)])), (oq 2, .inl (cI, 600, .inl w116)), (oq 3, .inl (cI, 600, .inl w117)), (oq 4, .inl (cI, 600, .inl w118)), (oq 5, .inr (8, [tx, .int zl, .int ta, .int be, .int ki, .int nu, .int wo]))] := hD
  try dsimp only at hw
  clear hz1 hk1 hFc hPc hKc hDc
  have hac119 := hw
  exact W.vret hx hb hr (fun t ht hW => ⟨⟨(w102, w103, w104, w105, w106, w107, w108, w109, w110, w111, w112, w113, w114, w115, w116, w117, w118), rfl, (by (try dsimp only); first | done | exact hac119), by rw [ht]; exact hP.sub [0, 1, 2, 3, 4, 5, 6, 7] rfl, va_K.moved hW.alike (hK.sub [0] rfl), hD.sub [0, 1, 2, 3, 4, 5, 6, 7] (by decide) rfl⟩, hS.F ht⟩) hS.2.2 dX6_accept_85

