theorem dX6_note_0 : decode cX6_note 0 = .ok (.aload_n 0, 1) := by decide +kernel
theorem dX6_note_1 : decode cX6_note 1 = .ok (.getfield 32, 3) := by decide +kernel
theorem dX6_note_4 : decode cX6_note 4 = .ok (.ifCond .eq 27, 3) := by decide +kernel
theorem dX6_note_7 : decode cX6_note 7 = .ok (.iload_n 2, 1) := by decide +kernel
theorem dX6_note_8 : decode cX6_note 8 = .ok (.aload_n 0, 1) := by decide +kernel
theorem dX6_note_9 : decode cX6_note 9 = .ok (.getfield 73, 3) := by decide +kernel
theorem dX6_note_12 : decode cX6_note 12 = .ok (.if_icmp .lt 19, 3) := by decide +kernel
theorem dX6_note_15 : decode cX6_note 15 = .ok (.iload_n 2, 1) := by decide +kernel
theorem dX6_note_16 : decode cX6_note 16 = .ok (.aload_n 0, 1) := by decide +kernel
theorem dX6_note_17 : decode cX6_note 17 = .ok (.getfield 73, 3) := by decide +kernel
theorem dX6_note_20 : decode cX6_note 20 = .ok (.if_icmp .ne 29, 3) := by decide +kernel
theorem dX6_note_23 : decode cX6_note 23 = .ok (.iload_n 1, 1) := by decide +kernel
theorem dX6_note_24 : decode cX6_note 24 = .ok (.aload_n 0, 1) := by decide +kernel
theorem dX6_note_25 : decode cX6_note 25 = .ok (.getfield 32, 3) := by decide +kernel
theorem dX6_note_28 : decode cX6_note 28 = .ok (.if_icmp .ge 21, 3) := by decide +kernel
theorem dX6_note_31 : decode cX6_note 31 = .ok (.aload_n 0, 1) := by decide +kernel
theorem dX6_note_32 : decode cX6_note 32 = .ok (.iload_n 1, 1) := by decide +kernel
theorem dX6_note_33 : decode cX6_note 33 = .ok (.putfield 32, 3) := by decide +kernel
theorem dX6_note_36 : decode cX6_note 36 = .ok (.aload_n 0, 1) := by decide +kernel
theorem dX6_note_37 : decode cX6_note 37 = .ok (.iload_n 2, 1) := by decide +kernel
theorem dX6_note_38 : decode cX6_note 38 = .ok (.putfield 73, 3) := by decide +kernel
theorem dX6_note_41 : decode cX6_note 41 = .ok (.aload_n 0, 1) := by decide +kernel
theorem dX6_note_42 : decode cX6_note 42 = .ok (.aload_n 0, 1) := by decide +kernel
theorem dX6_note_43 : decode cX6_note 43 = .ok (.getfield 49, 3) := by decide +kernel
theorem dX6_note_46 : decode cX6_note 46 = .ok (.putfield 76, 3) := by decide +kernel
theorem dX6_note_49 : decode cX6_note 49 = .ok (.return_, 1) := by decide +kernel
theorem dX6_refuse_0 : decode cX6_refuse 0 = .ok (.aload_n 0, 1) := by decide +kernel
theorem dX6_refuse_1 : decode cX6_refuse 1 = .ok (.iconst 1, 1) := by decide +kernel
theorem dX6_refuse_2 : decode cX6_refuse 2 = .ok (.aload_n 0, 1) := by decide +kernel
theorem dX6_refuse_3 : decode cX6_refuse 3 = .ok (.getfield 21, 3) := by decide +kernel
theorem dX6_refuse_6 : decode cX6_refuse 6 = .ok (.getfield 79, 3) := by decide +kernel
theorem dX6_refuse_9 : decode cX6_refuse 9 = .ok (.invokevirtual 55, 3) := by decide +kernel
theorem dX6_refuse_12 : decode cX6_refuse 12 = .ok (.aload_n 0, 1) := by decide +kernel
theorem dX6_refuse_13 : decode cX6_refuse 13 = .ok (.iconst 0, 1) := by decide +kernel
theorem dX6_refuse_14 : decode cX6_refuse 14 = .ok (.putfield 42, 3) := by decide +kernel
theorem dX6_refuse_17 : decode cX6_refuse 17 = .ok (.return_, 1) := by decide +kernel
theorem dX6_accept_0 : decode cX6_accept 0 = .ok (.aload_n 0, 1) := by decide +kernel
theorem dX6_accept_1 : decode cX6_accept 1 = .ok (.getfield 39, 3) := by decide +kernel
theorem dX6_accept_4 : decode cX6_accept 4 = .ok (.tableswitch 76 0 4 #[36, 44, 52, 60, 68], 36) := by decide +kernel
theorem dX6_accept_40 : decode cX6_accept 40 = .ok (.aload_n 0, 1) := by decide +kernel
theorem dX6_accept_41 : decode cX6_accept 41 = .ok (.iload_n 1, 1) := by decide +kernel
theorem dX6_accept_42 : decode cX6_accept 42 = .ok (.invokevirtual 82, 3) := by decide +kernel
theorem dX6_accept_45 : decode cX6_accept 45 = .ok (.goto 40, 3) := by decide +kernel
theorem dX6_accept_48 : decode cX6_accept 48 = .ok (.aload_n 0, 1) := by decide +kernel
theorem dX6_accept_49 : decode cX6_accept 49 = .ok (.iload_n 1, 1) := by decide +kernel
theorem dX6_accept_50 : decode cX6_accept 50 = .ok (.invokevirtual 85, 3) := by decide +kernel
theorem dX6_accept_53 : decode cX6_accept 53 = .ok (.goto 32, 3) := by decide +kernel
theorem dX6_accept_56 : decode cX6_accept 56 = .ok (.aload_n 0, 1) := by decide +kernel
theorem dX6_accept_57 : decode cX6_accept 57 = .ok (.iload_n 1, 1) := by decide +kernel
theorem dX6_accept_58 : decode cX6_accept 58 = .ok (.invokevirtual 88, 3) := by decide +kernel
theorem dX6_accept_61 : decode cX6_accept 61 = .ok (.goto 24, 3) := by decide +kernel
theorem dX6_accept_64 : decode cX6_accept 64 = .ok (.aload_n 0, 1) := by decide +kernel
theorem dX6_accept_65 : decode cX6_accept 65 = .ok (.iload_n 1, 1) := by decide +kernel
theorem dX6_accept_66 : decode cX6_accept 66 = .ok (.invokevirtual 91, 3) := by decide +kernel
theorem dX6_accept_69 : decode cX6_accept 69 = .ok (.goto 16, 3) := by decide +kernel
theorem dX6_accept_72 : decode cX6_accept 72 = .ok (.aload_n 0, 1) := by decide +kernel
theorem dX6_accept_73 : decode cX6_accept 73 = .ok (.iload_n 1, 1) := by decide +kernel
theorem dX6_accept_74 : decode cX6_accept 74 = .ok (.invokevirtual 94, 3) := by decide +kernel
theorem dX6_accept_77 : decode cX6_accept 77 = .ok (.goto 8, 3) := by decide +kernel
theorem dX6_accept_80 : decode cX6_accept 80 = .ok (.aload_n 0, 1) := by decide +kernel
theorem dX6_accept_81 : decode cX6_accept 81 = .ok (.iload_n 1, 1) := by decide +kernel
theorem dX6_accept_82 : decode cX6_accept 82 = .ok (.invokevirtual 97, 3) := by decide +kernel
theorem dX6_accept_85 : decode cX6_accept 85 = .ok (.return_, 1) := by decide +kernel
theorem dX6_acceptStatement_0 : decode cX6_acceptStatement 0 = .ok (.aload_n 0, 1) := by decide +kernel
theorem dX6_acceptStatement_1 : decode cX6_acceptStatement 1 = .ok (.aload_n 0, 1) := by decide +kernel
theorem dX6_acceptStatement_2 : decode cX6_acceptStatement 2 = .ok (.getfield 21, 3) := by decide +kernel
theorem dX6_acceptStatement_5 : decode cX6_acceptStatement 5 = .ok (.getfield 79, 3) := by decide +kernel
theorem dX6_acceptStatement_8 : decode cX6_acceptStatement 8 = .ok (.putfield 100, 3) := by decide +kernel
theorem dX6_acceptStatement_11 : decode cX6_acceptStatement 11 = .ok (.aload_n 0, 1) := by decide +kernel
theorem dX6_acceptStatement_12 : decode cX6_acceptStatement 12 = .ok (.iload_n 1, 1) := by decide +kernel
theorem dX6_acceptStatement_13 : decode cX6_acceptStatement 13 = .ok (.putfield 103, 3) := by decide +kernel
theorem dX6_acceptStatement_16 : decode cX6_acceptStatement 16 = .ok (.iload_n 1, 1) := by decide +kernel
theorem dX6_acceptStatement_17 : decode cX6_acceptStatement 17 = .ok (.tableswitch 77 3 9 #[43, 77, 43, 43, 43, 64, 51], 43) := by decide +kernel
theorem dX6_acceptStatement_60 : decode cX6_acceptStatement 60 = .ok (.aload_n 0, 1) := by decide +kernel
theorem dX6_acceptStatement_61 : decode cX6_acceptStatement 61 = .ok (.iconst 1, 1) := by decide +kernel
theorem dX6_acceptStatement_62 : decode cX6_acceptStatement 62 = .ok (.putfield 39, 3) := by decide +kernel
theorem dX6_acceptStatement_65 : decode cX6_acceptStatement 65 = .ok (.goto 34, 3) := by decide +kernel
theorem dX6_acceptStatement_68 : decode cX6_acceptStatement 68 = .ok (.aload_n 0, 1) := by decide +kernel
theorem dX6_acceptStatement_69 : decode cX6_acceptStatement 69 = .ok (.iconst 1, 1) := by decide +kernel
theorem dX6_acceptStatement_70 : decode cX6_acceptStatement 70 = .ok (.putfield 42, 3) := by decide +kernel
theorem dX6_acceptStatement_73 : decode cX6_acceptStatement 73 = .ok (.aload_n 0, 1) := by decide +kernel
theorem dX6_acceptStatement_74 : decode cX6_acceptStatement 74 = .ok (.iconst 1, 1) := by decide +kernel
theorem dX6_acceptStatement_75 : decode cX6_acceptStatement 75 = .ok (.putfield 39, 3) := by decide +kernel
theorem dX6_acceptStatement_78 : decode cX6_acceptStatement 78 = .ok (.goto 21, 3) := by decide +kernel
theorem dX6_acceptStatement_81 : decode cX6_acceptStatement 81 = .ok (.aload_n 0, 1) := by decide +kernel
theorem dX6_acceptStatement_82 : decode cX6_acceptStatement 82 = .ok (.iconst 1, 1) := by decide +kernel
theorem dX6_acceptStatement_83 : decode cX6_acceptStatement 83 = .ok (.putfield 42, 3) := by decide +kernel
theorem dX6_acceptStatement_86 : decode cX6_acceptStatement 86 = .ok (.aload_n 0, 1) := by decide +kernel
theorem dX6_acceptStatement_87 : decode cX6_acceptStatement 87 = .ok (.iconst 3, 1) := by decide +kernel
theorem dX6_acceptStatement_88 : decode cX6_acceptStatement 88 = .ok (.putfield 39, 3) := by decide +kernel
theorem dX6_acceptStatement_91 : decode cX6_acceptStatement 91 = .ok (.goto 8, 3) := by decide +kernel
theorem dX6_acceptStatement_94 : decode cX6_acceptStatement 94 = .ok (.aload_n 0, 1) := by decide +kernel
theorem dX6_acceptStatement_95 : decode cX6_acceptStatement 95 = .ok (.iload_n 1, 1) := by decide +kernel
theorem dX6_acceptStatement_96 : decode cX6_acceptStatement 96 = .ok (.invokevirtual 106, 3) := by decide +kernel
theorem dX6_acceptStatement_99 : decode cX6_acceptStatement 99 = .ok (.return_, 1) := by decide +kernel
theorem dX6_acceptEnd_0 : decode cX6_acceptEnd 0 = .ok (.iload_n 1, 1) := by decide +kernel
theorem dX6_acceptEnd_1 : decode cX6_acceptEnd 1 = .ok (.bipush 93, 2) := by decide +kernel
theorem dX6_acceptEnd_3 : decode cX6_acceptEnd 3 = .ok (.if_icmp .ne 17, 3) := by decide +kernel
theorem dX6_acceptEnd_6 : decode cX6_acceptEnd 6 = .ok (.aload_n 0, 1) := by decide +kernel
theorem dX6_acceptEnd_7 : decode cX6_acceptEnd 7 = .ok (.getfield 49, 3) := by decide +kernel
theorem dX6_acceptEnd_10 : decode cX6_acceptEnd 10 = .ok (.ifCond .le 10, 3) := by decide +kernel
theorem dX6_acceptEnd_13 : decode cX6_acceptEnd 13 = .ok (.aload_n 0, 1) := by decide +kernel
theorem dX6_acceptEnd_14 : decode cX6_acceptEnd 14 = .ok (.invokevirtual 109, 3) := by decide +kernel
theorem dX6_acceptEnd_17 : decode cX6_acceptEnd 17 = .ok (.goto 27, 3) := by decide +kernel
theorem dX6_acceptEnd_20 : decode cX6_acceptEnd 20 = .ok (.iload_n 1, 1) := by decide +kernel
theorem dX6_acceptEnd_21 : decode cX6_acceptEnd 21 = .ok (.ifCond .ne 19, 3) := by decide +kernel
theorem dX6_acceptEnd_24 : decode cX6_acceptEnd 24 = .ok (.aload_n 0, 1) := by decide +kernel
theorem dX6_acceptEnd_25 : decode cX6_acceptEnd 25 = .ok (.getfield 49, 3) := by decide +kernel
theorem dX6_acceptEnd_28 : decode cX6_acceptEnd 28 = .ok (.ifCond .ne 12, 3) := by decide +kernel
theorem dX6_acceptEnd_31 : decode cX6_acceptEnd 31 = .ok (.aload_n 0, 1) := by decide +kernel
theorem dX6_acceptEnd_32 : decode cX6_acceptEnd 32 = .ok (.bipush 6, 2) := by decide +kernel
theorem dX6_acceptEnd_34 : decode cX6_acceptEnd 34 = .ok (.putfield 39, 3) := by decide +kernel
theorem dX6_acceptEnd_37 : decode cX6_acceptEnd 37 = .ok (.goto 7, 3) := by decide +kernel
theorem dX6_acceptEnd_40 : decode cX6_acceptEnd 40 = .ok (.aload_n 0, 1) := by decide +kernel
theorem dX6_acceptEnd_41 : decode cX6_acceptEnd 41 = .ok (.invokevirtual 112, 3) := by decide +kernel
theorem dX6_acceptEnd_44 : decode cX6_acceptEnd 44 = .ok (.return_, 1) := by decide +kernel
theorem dX6_acceptUnit_0 : decode cX6_acceptUnit 0 = .ok (.iload_n 1, 1) := by decide +kernel
theorem dX6_acceptUnit_1 : decode cX6_acceptUnit 1 = .ok (.lookupswitch 105 #[(2, 43), (10, 43), (11, 43), (40, 66)], 43) := by decide +kernel
theorem dX6_acceptUnit_44 : decode cX6_acceptUnit 44 = .ok (.aload_n 0, 1) := by decide +kernel
theorem dX6_acceptUnit_45 : decode cX6_acceptUnit 45 = .ok (.getfield 12, 3) := by decide +kernel
theorem dX6_acceptUnit_48 : decode cX6_acceptUnit 48 = .ok (.iload_n 1, 1) := by decide +kernel
theorem dX6_acceptUnit_49 : decode cX6_acceptUnit 49 = .ok (.aload_n 0, 1) := by decide +kernel
theorem dX6_acceptUnit_50 : decode cX6_acceptUnit 50 = .ok (.getfield 21, 3) := by decide +kernel
theorem dX6_acceptUnit_53 : decode cX6_acceptUnit 53 = .ok (.getfield 115, 3) := by decide +kernel
theorem dX6_acceptUnit_56 : decode cX6_acceptUnit 56 = .ok (.invokevirtual 118, 3) := by decide +kernel
theorem dX6_acceptUnit_59 : decode cX6_acceptUnit 59 = .ok (.aload_n 0, 1) := by decide +kernel
theorem dX6_acceptUnit_60 : decode cX6_acceptUnit 60 = .ok (.iconst 2, 1) := by decide +kernel
theorem dX6_acceptUnit_61 : decode cX6_acceptUnit 61 = .ok (.putfield 39, 3) := by decide +kernel
theorem dX6_acceptUnit_64 : decode cX6_acceptUnit 64 = .ok (.goto 46, 3) := by decide +kernel
theorem dX6_acceptUnit_67 : decode cX6_acceptUnit 67 = .ok (.aload_n 0, 1) := by decide +kernel
theorem dX6_acceptUnit_68 : decode cX6_acceptUnit 68 = .ok (.dup, 1) := by decide +kernel
theorem dX6_acceptUnit_69 : decode cX6_acceptUnit 69 = .ok (.getfield 46, 3) := by decide +kernel
theorem dX6_acceptUnit_72 : decode cX6_acceptUnit 72 = .ok (.iconst 1, 1) := by decide +kernel
theorem dX6_acceptUnit_73 : decode cX6_acceptUnit 73 = .ok (.iadd, 1) := by decide +kernel
theorem dX6_acceptUnit_74 : decode cX6_acceptUnit 74 = .ok (.putfield 46, 3) := by decide +kernel
theorem dX6_acceptUnit_77 : decode cX6_acceptUnit 77 = .ok (.aload_n 0, 1) := by decide +kernel
theorem dX6_acceptUnit_78 : decode cX6_acceptUnit 78 = .ok (.getfield 46, 3) := by decide +kernel
theorem dX6_acceptUnit_81 : decode cX6_acceptUnit 81 = .ok (.bipush 8, 2) := by decide +kernel
theorem dX6_acceptUnit_83 : decode cX6_acceptUnit 83 = .ok (.if_icmp .le 15, 3) := by decide +kernel
theorem dX6_acceptUnit_86 : decode cX6_acceptUnit 86 = .ok (.aload_n 0, 1) := by decide +kernel
theorem dX6_acceptUnit_87 : decode cX6_acceptUnit 87 = .ok (.iconst 3, 1) := by decide +kernel
theorem dX6_acceptUnit_88 : decode cX6_acceptUnit 88 = .ok (.aload_n 0, 1) := by decide +kernel
theorem dX6_acceptUnit_89 : decode cX6_acceptUnit 89 = .ok (.getfield 21, 3) := by decide +kernel
theorem dX6_acceptUnit_92 : decode cX6_acceptUnit 92 = .ok (.getfield 79, 3) := by decide +kernel
theorem dX6_acceptUnit_95 : decode cX6_acceptUnit 95 = .ok (.invokevirtual 55, 3) := by decide +kernel
theorem dX6_acceptUnit_98 : decode cX6_acceptUnit 98 = .ok (.aload_n 0, 1) := by decide +kernel
theorem dX6_acceptUnit_99 : decode cX6_acceptUnit 99 = .ok (.iload_n 1, 1) := by decide +kernel
theorem dX6_acceptUnit_100 : decode cX6_acceptUnit 100 = .ok (.invokevirtual 121, 3) := by decide +kernel
theorem dX6_acceptUnit_103 : decode cX6_acceptUnit 103 = .ok (.goto 7, 3) := by decide +kernel
theorem dX6_acceptUnit_106 : decode cX6_acceptUnit 106 = .ok (.aload_n 0, 1) := by decide +kernel
theorem dX6_acceptUnit_107 : decode cX6_acceptUnit 107 = .ok (.invokevirtual 112, 3) := by decide +kernel
theorem dX6_acceptUnit_110 : decode cX6_acceptUnit 110 = .ok (.return_, 1) := by decide +kernel
theorem dX6_acceptBehindUnit_0 : decode cX6_acceptBehindUnit 0 = .ok (.iload_n 1, 1) := by decide +kernel
theorem dX6_acceptBehindUnit_1 : decode cX6_acceptBehindUnit 1 = .ok (.invokestatic 124, 3) := by decide +kernel
theorem dX6_acceptBehindUnit_4 : decode cX6_acceptBehindUnit 4 = .ok (.ifCond .le 24, 3) := by decide +kernel
theorem dX6_acceptBehindUnit_7 : decode cX6_acceptBehindUnit 7 = .ok (.aload_n 0, 1) := by decide +kernel
theorem dX6_acceptBehindUnit_8 : decode cX6_acceptBehindUnit 8 = .ok (.iload_n 1, 1) := by decide +kernel
theorem dX6_acceptBehindUnit_9 : decode cX6_acceptBehindUnit 9 = .ok (.invokestatic 124, 3) := by decide +kernel
theorem dX6_acceptBehindUnit_12 : decode cX6_acceptBehindUnit 12 = .ok (.invokevirtual 128, 3) := by decide +kernel
theorem dX6_acceptBehindUnit_15 : decode cX6_acceptBehindUnit 15 = .ok (.aload_n 0, 1) := by decide +kernel
theorem dX6_acceptBehindUnit_16 : decode cX6_acceptBehindUnit 16 = .ok (.iload_n 1, 1) := by decide +kernel
theorem dX6_acceptBehindUnit_17 : decode cX6_acceptBehindUnit 17 = .ok (.invokevirtual 121, 3) := by decide +kernel
theorem dX6_acceptBehindUnit_20 : decode cX6_acceptBehindUnit 20 = .ok (.aload_n 0, 1) := by decide +kernel
theorem dX6_acceptBehindUnit_21 : decode cX6_acceptBehindUnit 21 = .ok (.iconst 1, 1) := by decide +kernel
theorem dX6_acceptBehindUnit_22 : decode cX6_acceptBehindUnit 22 = .ok (.putfield 39, 3) := by decide +kernel
theorem dX6_acceptBehindUnit_25 : decode cX6_acceptBehindUnit 25 = .ok (.goto 23, 3) := by decide +kernel
theorem dX6_acceptBehindUnit_28 : decode cX6_acceptBehindUnit 28 = .ok (.aload_n 0, 1) := by decide +kernel
theorem dX6_acceptBehindUnit_29 : decode cX6_acceptBehindUnit 29 = .ok (.getfield 46, 3) := by decide +kernel
theorem dX6_acceptBehindUnit_32 : decode cX6_acceptBehindUnit 32 = .ok (.ifCond .le 11, 3) := by decide +kernel
theorem dX6_acceptBehindUnit_35 : decode cX6_acceptBehindUnit 35 = .ok (.aload_n 0, 1) := by decide +kernel
theorem dX6_acceptBehindUnit_36 : decode cX6_acceptBehindUnit 36 = .ok (.iload_n 1, 1) := by decide +kernel
theorem dX6_acceptBehindUnit_37 : decode cX6_acceptBehindUnit 37 = .ok (.invokevirtual 131, 3) := by decide +kernel
theorem dX6_acceptBehindUnit_40 : decode cX6_acceptBehindUnit 40 = .ok (.goto 8, 3) := by decide +kernel
theorem dX6_acceptBehindUnit_43 : decode cX6_acceptBehindUnit 43 = .ok (.aload_n 0, 1) := by decide +kernel
theorem dX6_acceptBehindUnit_44 : decode cX6_acceptBehindUnit 44 = .ok (.iload_n 1, 1) := by decide +kernel
theorem dX6_acceptBehindUnit_45 : decode cX6_acceptBehindUnit 45 = .ok (.invokevirtual 134, 3) := by decide +kernel
theorem dX6_acceptBehindUnit_48 : decode cX6_acceptBehindUnit 48 = .ok (.return_, 1) := by decide +kernel
theorem dX6_acceptClosing_0 : decode cX6_acceptClosing 0 = .ok (.iload_n 1, 1) := by decide +kernel
theorem dX6_acceptClosing_1 : decode cX6_acceptClosing 1 = .ok (.bipush 41, 2) := by decide +kernel
theorem dX6_acceptClosing_3 : decode cX6_acceptClosing 3 = .ok (.if_icmp .eq 8, 3) := by decide +kernel
theorem dX6_acceptClosing_6 : decode cX6_acceptClosing 6 = .ok (.aload_n 0, 1) := by decide +kernel
theorem dX6_acceptClosing_7 : decode cX6_acceptClosing 7 = .ok (.invokevirtual 112, 3) := by decide +kernel
theorem dX6_acceptClosing_10 : decode cX6_acceptClosing 10 = .ok (.return_, 1) := by decide +kernel
theorem dX6_acceptClosing_11 : decode cX6_acceptClosing 11 = .ok (.aload_n 0, 1) := by decide +kernel
theorem dX6_acceptClosing_12 : decode cX6_acceptClosing 12 = .ok (.iconst 1, 1) := by decide +kernel
theorem dX6_acceptClosing_13 : decode cX6_acceptClosing 13 = .ok (.invokevirtual 128, 3) := by decide +kernel
theorem dX6_acceptClosing_16 : decode cX6_acceptClosing 16 = .ok (.aload_n 0, 1) := by decide +kernel
theorem dX6_acceptClosing_17 : decode cX6_acceptClosing 17 = .ok (.dup, 1) := by decide +kernel
theorem dX6_acceptClosing_18 : decode cX6_acceptClosing 18 = .ok (.getfield 46, 3) := by decide +kernel
theorem dX6_acceptClosing_21 : decode cX6_acceptClosing 21 = .ok (.iconst 1, 1) := by decide +kernel
theorem dX6_acceptClosing_22 : decode cX6_acceptClosing 22 = .ok (.isub, 1) := by decide +kernel
theorem dX6_acceptClosing_23 : decode cX6_acceptClosing 23 = .ok (.putfield 46, 3) := by decide +kernel
theorem dX6_acceptClosing_26 : decode cX6_acceptClosing 26 = .ok (.aload_n 0, 1) := by decide +kernel
theorem dX6_acceptClosing_27 : decode cX6_acceptClosing 27 = .ok (.getfield 52, 3) := by decide +kernel
theorem dX6_acceptClosing_30 : decode cX6_acceptClosing 30 = .ok (.ifCond .le 13, 3) := by decide +kernel
theorem dX6_acceptClosing_33 : decode cX6_acceptClosing 33 = .ok (.aload_n 0, 1) := by decide +kernel
theorem dX6_acceptClosing_34 : decode cX6_acceptClosing 34 = .ok (.dup, 1) := by decide +kernel
theorem dX6_acceptClosing_35 : decode cX6_acceptClosing 35 = .ok (.getfield 52, 3) := by decide +kernel
theorem dX6_acceptClosing_38 : decode cX6_acceptClosing 38 = .ok (.iconst 1, 1) := by decide +kernel
theorem dX6_acceptClosing_39 : decode cX6_acceptClosing 39 = .ok (.isub, 1) := by decide +kernel
theorem dX6_acceptClosing_40 : decode cX6_acceptClosing 40 = .ok (.putfield 52, 3) := by decide +kernel
theorem dX6_acceptClosing_43 : decode cX6_acceptClosing 43 = .ok (.return_, 1) := by decide +kernel
theorem dX6_acceptSumEnd_0 : decode cX6_acceptSumEnd 0 = .ok (.aload_n 0, 1) := by decide +kernel
theorem dX6_acceptSumEnd_1 : decode cX6_acceptSumEnd 1 = .ok (.iconst 1, 1) := by decide +kernel
theorem dX6_acceptSumEnd_2 : decode cX6_acceptSumEnd 2 = .ok (.invokevirtual 128, 3) := by decide +kernel
theorem dX6_acceptSumEnd_5 : decode cX6_acceptSumEnd 5 = .ok (.aload_n 0, 1) := by decide +kernel
theorem dX6_acceptSumEnd_6 : decode cX6_acceptSumEnd 6 = .ok (.getfield 103, 3) := by decide +kernel
theorem dX6_acceptSumEnd_9 : decode cX6_acceptSumEnd 9 = .ok (.iconst 3, 1) := by decide +kernel
theorem dX6_acceptSumEnd_10 : decode cX6_acceptSumEnd 10 = .ok (.if_icmp .ne 21, 3) := by decide +kernel
theorem dX6_acceptSumEnd_13 : decode cX6_acceptSumEnd 13 = .ok (.iload_n 1, 1) := by decide +kernel
theorem dX6_acceptSumEnd_14 : decode cX6_acceptSumEnd 14 = .ok (.iconst 4, 1) := by decide +kernel
theorem dX6_acceptSumEnd_15 : decode cX6_acceptSumEnd 15 = .ok (.if_icmp .ne 16, 3) := by decide +kernel
theorem dX6_acceptSumEnd_18 : decode cX6_acceptSumEnd 18 = .ok (.aload_n 0, 1) := by decide +kernel
theorem dX6_acceptSumEnd_19 : decode cX6_acceptSumEnd 19 = .ok (.iconst 4, 1) := by decide +kernel
theorem dX6_acceptSumEnd_20 : decode cX6_acceptSumEnd 20 = .ok (.putfield 103, 3) := by decide +kernel
theorem dX6_acceptSumEnd_23 : decode cX6_acceptSumEnd 23 = .ok (.aload_n 0, 1) := by decide +kernel
theorem dX6_acceptSumEnd_24 : decode cX6_acceptSumEnd 24 = .ok (.iconst 1, 1) := by decide +kernel
theorem dX6_acceptSumEnd_25 : decode cX6_acceptSumEnd 25 = .ok (.putfield 39, 3) := by decide +kernel
theorem dX6_acceptSumEnd_28 : decode cX6_acceptSumEnd 28 = .ok (.goto 87, 3) := by decide +kernel
theorem dX6_acceptSumEnd_31 : decode cX6_acceptSumEnd 31 = .ok (.aload_n 0, 1) := by decide +kernel
theorem dX6_acceptSumEnd_32 : decode cX6_acceptSumEnd 32 = .ok (.getfield 103, 3) := by decide +kernel
theorem dX6_acceptSumEnd_35 : decode cX6_acceptSumEnd 35 = .ok (.bipush 9, 2) := by decide +kernel
theorem dX6_acceptSumEnd_37 : decode cX6_acceptSumEnd 37 = .ok (.if_icmp .ne 19, 3) := by decide +kernel
theorem dX6_acceptSumEnd_40 : decode cX6_acceptSumEnd 40 = .ok (.iload_n 1, 1) := by decide +kernel
theorem dX6_acceptSumEnd_41 : decode cX6_acceptSumEnd 41 = .ok (.bipush 91, 2) := by decide +kernel
theorem dX6_acceptSumEnd_43 : decode cX6_acceptSumEnd 43 = .ok (.if_icmp .ne 13, 3) := by decide +kernel
theorem dX6_acceptSumEnd_46 : decode cX6_acceptSumEnd 46 = .ok (.aload_n 0, 1) := by decide +kernel
theorem dX6_acceptSumEnd_47 : decode cX6_acceptSumEnd 47 = .ok (.bipush 9, 2) := by decide +kernel
theorem dX6_acceptSumEnd_49 : decode cX6_acceptSumEnd 49 = .ok (.iconst 0, 1) := by decide +kernel
theorem dX6_acceptSumEnd_50 : decode cX6_acceptSumEnd 50 = .ok (.invokevirtual 137, 3) := by decide +kernel
theorem dX6_acceptSumEnd_53 : decode cX6_acceptSumEnd 53 = .ok (.goto 62, 3) := by decide +kernel
theorem dX6_acceptSumEnd_56 : decode cX6_acceptSumEnd 56 = .ok (.aload_n 0, 1) := by decide +kernel
theorem dX6_acceptSumEnd_57 : decode cX6_acceptSumEnd 57 = .ok (.getfield 103, 3) := by decide +kernel
theorem dX6_acceptSumEnd_60 : decode cX6_acceptSumEnd 60 = .ok (.iconst 3, 1) := by decide +kernel
theorem dX6_acceptSumEnd_61 : decode cX6_acceptSumEnd 61 = .ok (.if_icmp .eq 50, 3) := by decide +kernel
theorem dX6_acceptSumEnd_64 : decode cX6_acceptSumEnd 64 = .ok (.aload_n 0, 1) := by decide +kernel
theorem dX6_acceptSumEnd_65 : decode cX6_acceptSumEnd 65 = .ok (.getfield 103, 3) := by decide +kernel
theorem dX6_acceptSumEnd_68 : decode cX6_acceptSumEnd 68 = .ok (.bipush 9, 2) := by decide +kernel
theorem dX6_acceptSumEnd_70 : decode cX6_acceptSumEnd 70 = .ok (.if_icmp .eq 41, 3) := by decide +kernel
theorem dX6_acceptSumEnd_73 : decode cX6_acceptSumEnd 73 = .ok (.iload_n 1, 1) := by decide +kernel
theorem dX6_acceptSumEnd_74 : decode cX6_acceptSumEnd 74 = .ok (.bipush 59, 2) := by decide +kernel
theorem dX6_acceptSumEnd_76 : decode cX6_acceptSumEnd 76 = .ok (.if_icmp .ne 35, 3) := by decide +kernel
theorem dX6_acceptSumEnd_79 : decode cX6_acceptSumEnd 79 = .ok (.aload_n 0, 1) := by decide +kernel
theorem dX6_acceptSumEnd_80 : decode cX6_acceptSumEnd 80 = .ok (.getfield 12, 3) := by decide +kernel
theorem dX6_acceptSumEnd_83 : decode cX6_acceptSumEnd 83 = .ok (.aload_n 0, 1) := by decide +kernel
theorem dX6_acceptSumEnd_84 : decode cX6_acceptSumEnd 84 = .ok (.getfield 103, 3) := by decide +kernel
theorem dX6_acceptSumEnd_87 : decode cX6_acceptSumEnd 87 = .ok (.iconst 4, 1) := by decide +kernel
theorem dX6_acceptSumEnd_88 : decode cX6_acceptSumEnd 88 = .ok (.if_icmp .ne 7, 3) := by decide +kernel
theorem dX6_acceptSumEnd_91 : decode cX6_acceptSumEnd 91 = .ok (.iconst 3, 1) := by decide +kernel
theorem dX6_acceptSumEnd_92 : decode cX6_acceptSumEnd 92 = .ok (.goto 7, 3) := by decide +kernel
theorem dX6_acceptSumEnd_95 : decode cX6_acceptSumEnd 95 = .ok (.aload_n 0, 1) := by decide +kernel
theorem dX6_acceptSumEnd_96 : decode cX6_acceptSumEnd 96 = .ok (.getfield 103, 3) := by decide +kernel
theorem dX6_acceptSumEnd_99 : decode cX6_acceptSumEnd 99 = .ok (.iconst 0, 1) := by decide +kernel
theorem dX6_acceptSumEnd_100 : decode cX6_acceptSumEnd 100 = .ok (.invokevirtual 118, 3) := by decide +kernel
theorem dX6_acceptSumEnd_103 : decode cX6_acceptSumEnd 103 = .ok (.aload_n 0, 1) := by decide +kernel
theorem dX6_acceptSumEnd_104 : decode cX6_acceptSumEnd 104 = .ok (.iconst 0, 1) := by decide +kernel
theorem dX6_acceptSumEnd_105 : decode cX6_acceptSumEnd 105 = .ok (.putfield 39, 3) := by decide +kernel
theorem dX6_acceptSumEnd_108 : decode cX6_acceptSumEnd 108 = .ok (.goto 7, 3) := by decide +kernel
theorem dX6_acceptSumEnd_111 : decode cX6_acceptSumEnd 111 = .ok (.aload_n 0, 1) := by decide +kernel
theorem dX6_acceptSumEnd_112 : decode cX6_acceptSumEnd 112 = .ok (.invokevirtual 112, 3) := by decide +kernel
theorem dX6_acceptSumEnd_115 : decode cX6_acceptSumEnd 115 = .ok (.return_, 1) := by decide +kernel
theorem dX6_acceptRounds_0 : decode cX6_acceptRounds 0 = .ok (.iload_n 1, 1) := by decide +kernel
theorem dX6_acceptRounds_1 : decode cX6_acceptRounds 1 = .ok (.iconst 2, 1) := by decide +kernel
theorem dX6_acceptRounds_2 : decode cX6_acceptRounds 2 = .ok (.if_icmp .eq 8, 3) := by decide +kernel
theorem dX6_acceptRounds_5 : decode cX6_acceptRounds 5 = .ok (.aload_n 0, 1) := by decide +kernel
theorem dX6_acceptRounds_6 : decode cX6_acceptRounds 6 = .ok (.invokevirtual 112, 3) := by decide +kernel
theorem dX6_acceptRounds_9 : decode cX6_acceptRounds 9 = .ok (.return_, 1) := by decide +kernel
theorem dX6_acceptRounds_10 : decode cX6_acceptRounds 10 = .ok (.aload_n 0, 1) := by decide +kernel
theorem dX6_acceptRounds_11 : decode cX6_acceptRounds 11 = .ok (.aload_n 0, 1) := by decide +kernel
theorem dX6_acceptRounds_12 : decode cX6_acceptRounds 12 = .ok (.getfield 21, 3) := by decide +kernel
theorem dX6_acceptRounds_15 : decode cX6_acceptRounds 15 = .ok (.getfield 115, 3) := by decide +kernel
theorem dX6_acceptRounds_18 : decode cX6_acceptRounds 18 = .ok (.putfield 140, 3) := by decide +kernel
theorem dX6_acceptRounds_21 : decode cX6_acceptRounds 21 = .ok (.aload_n 0, 1) := by decide +kernel
theorem dX6_acceptRounds_22 : decode cX6_acceptRounds 22 = .ok (.getfield 140, 3) := by decide +kernel
theorem dX6_acceptRounds_25 : decode cX6_acceptRounds 25 = .ok (.sipush 200, 3) := by decide +kernel
theorem dX6_acceptRounds_28 : decode cX6_acceptRounds 28 = .ok (.if_icmp .le 15, 3) := by decide +kernel
theorem dX6_acceptRounds_31 : decode cX6_acceptRounds 31 = .ok (.aload_n 0, 1) := by decide +kernel
theorem dX6_acceptRounds_32 : decode cX6_acceptRounds 32 = .ok (.iconst 2, 1) := by decide +kernel
theorem dX6_acceptRounds_33 : decode cX6_acceptRounds 33 = .ok (.aload_n 0, 1) := by decide +kernel
theorem dX6_acceptRounds_34 : decode cX6_acceptRounds 34 = .ok (.getfield 21, 3) := by decide +kernel
theorem dX6_acceptRounds_37 : decode cX6_acceptRounds 37 = .ok (.getfield 79, 3) := by decide +kernel
theorem dX6_acceptRounds_40 : decode cX6_acceptRounds 40 = .ok (.invokevirtual 55, 3) := by decide +kernel
theorem dX6_acceptRounds_43 : decode cX6_acceptRounds 43 = .ok (.aload_n 0, 1) := by decide +kernel
theorem dX6_acceptRounds_44 : decode cX6_acceptRounds 44 = .ok (.iconst 4, 1) := by decide +kernel
theorem dX6_acceptRounds_45 : decode cX6_acceptRounds 45 = .ok (.putfield 39, 3) := by decide +kernel
theorem dX6_acceptRounds_48 : decode cX6_acceptRounds 48 = .ok (.return_, 1) := by decide +kernel
theorem dX6_acceptOpening_0 : decode cX6_acceptOpening 0 = .ok (.iload_n 1, 1) := by decide +kernel
theorem dX6_acceptOpening_1 : decode cX6_acceptOpening 1 = .ok (.bipush 91, 2) := by decide +kernel
theorem dX6_acceptOpening_3 : decode cX6_acceptOpening 3 = .ok (.if_icmp .ne 16, 3) := by decide +kernel
theorem dX6_acceptOpening_6 : decode cX6_acceptOpening 6 = .ok (.aload_n 0, 1) := by decide +kernel
theorem dX6_acceptOpening_7 : decode cX6_acceptOpening 7 = .ok (.bipush 8, 2) := by decide +kernel
theorem dX6_acceptOpening_9 : decode cX6_acceptOpening 9 = .ok (.aload_n 0, 1) := by decide +kernel
theorem dX6_acceptOpening_10 : decode cX6_acceptOpening 10 = .ok (.getfield 140, 3) := by decide +kernel
theorem dX6_acceptOpening_13 : decode cX6_acceptOpening 13 = .ok (.invokevirtual 137, 3) := by decide +kernel
theorem dX6_acceptOpening_16 : decode cX6_acceptOpening 16 = .ok (.goto 7, 3) := by decide +kernel
theorem dX6_acceptOpening_19 : decode cX6_acceptOpening 19 = .ok (.aload_n 0, 1) := by decide +kernel
theorem dX6_acceptOpening_20 : decode cX6_acceptOpening 20 = .ok (.invokevirtual 112, 3) := by decide +kernel
theorem dX6_acceptOpening_23 : decode cX6_acceptOpening 23 = .ok (.return_, 1) := by decide +kernel
theorem dX6_acceptBehindBlock_0 : decode cX6_acceptBehindBlock 0 = .ok (.iload_n 1, 1) := by decide +kernel
theorem dX6_acceptBehindBlock_1 : decode cX6_acceptBehindBlock 1 = .ok (.bipush 59, 2) := by decide +kernel
theorem dX6_acceptBehindBlock_3 : decode cX6_acceptBehindBlock 3 = .ok (.if_icmp .ne 11, 3) := by decide +kernel
theorem dX6_acceptBehindBlock_6 : decode cX6_acceptBehindBlock 6 = .ok (.aload_n 0, 1) := by decide +kernel
theorem dX6_acceptBehindBlock_7 : decode cX6_acceptBehindBlock 7 = .ok (.iconst 0, 1) := by decide +kernel
theorem dX6_acceptBehindBlock_8 : decode cX6_acceptBehindBlock 8 = .ok (.putfield 39, 3) := by decide +kernel
theorem dX6_acceptBehindBlock_11 : decode cX6_acceptBehindBlock 11 = .ok (.goto 7, 3) := by decide +kernel
theorem dX6_acceptBehindBlock_14 : decode cX6_acceptBehindBlock 14 = .ok (.aload_n 0, 1) := by decide +kernel
theorem dX6_acceptBehindBlock_15 : decode cX6_acceptBehindBlock 15 = .ok (.invokevirtual 112, 3) := by decide +kernel
theorem dX6_acceptBehindBlock_18 : decode cX6_acceptBehindBlock 18 = .ok (.return_, 1) := by decide +kernel
theorem dX6_open_0 : decode cX6_open 0 = .ok (.aload_n 0, 1) := by decide +kernel
theorem dX6_open_1 : decode cX6_open 1 = .ok (.iconst 0, 1) := by decide +kernel
theorem dX6_open_2 : decode cX6_open 2 = .ok (.putfield 42, 3) := by decide +kernel
theorem dX6_open_5 : decode cX6_open 5 = .ok (.aload_n 0, 1) := by decide +kernel
theorem dX6_open_6 : decode cX6_open 6 = .ok (.getfield 49, 3) := by decide +kernel
theorem dX6_open_9 : decode cX6_open 9 = .ok (.iconst 5, 1) := by decide +kernel
theorem dX6_open_10 : decode cX6_open 10 = .ok (.if_icmp .lt 13, 3) := by decide +kernel
theorem dX6_open_13 : decode cX6_open 13 = .ok (.aload_n 0, 1) := by decide +kernel
theorem dX6_open_14 : decode cX6_open 14 = .ok (.iconst 3, 1) := by decide +kernel
theorem dX6_open_15 : decode cX6_open 15 = .ok (.aload_n 0, 1) := by decide +kernel
theorem dX6_open_16 : decode cX6_open 16 = .ok (.getfield 100, 3) := by decide +kernel
theorem dX6_open_19 : decode cX6_open 19 = .ok (.invokevirtual 55, 3) := by decide +kernel
theorem dX6_open_22 : decode cX6_open 22 = .ok (.return_, 1) := by decide +kernel
theorem dX6_open_23 : decode cX6_open 23 = .ok (.aload_n 0, 1) := by decide +kernel
theorem dX6_open_24 : decode cX6_open 24 = .ok (.getfield 25, 3) := by decide +kernel
theorem dX6_open_27 : decode cX6_open 27 = .ok (.aload_n 0, 1) := by decide +kernel
theorem dX6_open_28 : decode cX6_open 28 = .ok (.getfield 49, 3) := by decide +kernel
theorem dX6_open_31 : decode cX6_open 31 = .ok (.aload_n 0, 1) := by decide +kernel
theorem dX6_open_32 : decode cX6_open 32 = .ok (.getfield 12, 3) := by decide +kernel
theorem dX6_open_35 : decode cX6_open 35 = .ok (.getfield 36, 3) := by decide +kernel
theorem dX6_open_38 : decode cX6_open 38 = .ok (.iastore, 1) := by decide +kernel
theorem dX6_open_39 : decode cX6_open 39 = .ok (.aload_n 0, 1) := by decide +kernel
theorem dX6_open_40 : decode cX6_open 40 = .ok (.dup, 1) := by decide +kernel
theorem dX6_open_41 : decode cX6_open 41 = .ok (.getfield 49, 3) := by decide +kernel
theorem dX6_open_44 : decode cX6_open 44 = .ok (.iconst 1, 1) := by decide +kernel
theorem dX6_open_45 : decode cX6_open 45 = .ok (.iadd, 1) := by decide +kernel
theorem dX6_open_46 : decode cX6_open 46 = .ok (.putfield 49, 3) := by decide +kernel
theorem dX6_open_49 : decode cX6_open 49 = .ok (.aload_n 0, 1) := by decide +kernel
theorem dX6_open_50 : decode cX6_open 50 = .ok (.getfield 12, 3) := by decide +kernel
theorem dX6_open_53 : decode cX6_open 53 = .ok (.iload_n 1, 1) := by decide +kernel
theorem dX6_open_54 : decode cX6_open 54 = .ok (.iload_n 2, 1) := by decide +kernel
theorem dX6_open_55 : decode cX6_open 55 = .ok (.invokevirtual 118, 3) := by decide +kernel
theorem dX6_open_58 : decode cX6_open 58 = .ok (.aload_n 0, 1) := by decide +kernel
theorem dX6_open_59 : decode cX6_open 59 = .ok (.iconst 0, 1) := by decide +kernel
theorem dX6_open_60 : decode cX6_open 60 = .ok (.putfield 39, 3) := by decide +kernel
theorem dX6_open_63 : decode cX6_open 63 = .ok (.return_, 1) := by decide +kernel
theorem dX6_close_0 : decode cX6_close 0 = .ok (.aload_n 0, 1) := by decide +kernel
theorem dX6_close_1 : decode cX6_close 1 = .ok (.dup, 1) := by decide +kernel
theorem dX6_close_2 : decode cX6_close 2 = .ok (.getfield 49, 3) := by decide +kernel
theorem dX6_close_5 : decode cX6_close 5 = .ok (.iconst 1, 1) := by decide +kernel
theorem dX6_close_6 : decode cX6_close 6 = .ok (.isub, 1) := by decide +kernel
theorem dX6_close_7 : decode cX6_close 7 = .ok (.putfield 49, 3) := by decide +kernel
theorem dX6_close_10 : decode cX6_close 10 = .ok (.aload_n 0, 1) := by decide +kernel
theorem dX6_close_11 : decode cX6_close 11 = .ok (.getfield 25, 3) := by decide +kernel
theorem dX6_close_14 : decode cX6_close 14 = .ok (.aload_n 0, 1) := by decide +kernel
theorem dX6_close_15 : decode cX6_close 15 = .ok (.getfield 49, 3) := by decide +kernel
theorem dX6_close_18 : decode cX6_close 18 = .ok (.iaload, 1) := by decide +kernel
theorem dX6_close_19 : decode cX6_close 19 = .ok (.istore_n 1, 1) := by decide +kernel
theorem dX6_close_20 : decode cX6_close 20 = .ok (.aload_n 0, 1) := by decide +kernel
theorem dX6_close_21 : decode cX6_close 21 = .ok (.getfield 12, 3) := by decide +kernel
theorem dX6_close_24 : decode cX6_close 24 = .ok (.iload_n 1, 1) := by decide +kernel
theorem dX6_close_25 : decode cX6_close 25 = .ok (.aload_n 0, 1) := by decide +kernel
theorem dX6_close_26 : decode cX6_close 26 = .ok (.getfield 12, 3) := by decide +kernel
theorem dX6_close_29 : decode cX6_close 29 = .ok (.getfield 36, 3) := by decide +kernel
theorem dX6_close_32 : decode cX6_close 32 = .ok (.invokevirtual 143, 3) := by decide +kernel
theorem dX6_close_35 : decode cX6_close 35 = .ok (.aload_n 0, 1) := by decide +kernel
theorem dX6_close_36 : decode cX6_close 36 = .ok (.getfield 12, 3) := by decide +kernel
theorem dX6_close_39 : decode cX6_close 39 = .ok (.iload_n 1, 1) := by decide +kernel
theorem dX6_close_40 : decode cX6_close 40 = .ok (.invokevirtual 146, 3) := by decide +kernel
theorem dX6_close_43 : decode cX6_close 43 = .ok (.ifCond .eq 30, 3) := by decide +kernel
theorem dX6_close_46 : decode cX6_close 46 = .ok (.aload_n 0, 1) := by decide +kernel
theorem dX6_close_47 : decode cX6_close 47 = .ok (.getfield 12, 3) := by decide +kernel
theorem dX6_close_50 : decode cX6_close 50 = .ok (.bipush 93, 2) := by decide +kernel
theorem dX6_close_52 : decode cX6_close 52 = .ok (.iconst 0, 1) := by decide +kernel
theorem dX6_close_53 : decode cX6_close 53 = .ok (.invokevirtual 118, 3) := by decide +kernel
theorem dX6_close_56 : decode cX6_close 56 = .ok (.aload_n 0, 1) := by decide +kernel
theorem dX6_close_57 : decode cX6_close 57 = .ok (.getfield 12, 3) := by decide +kernel
theorem dX6_close_60 : decode cX6_close 60 = .ok (.aload_n 0, 1) := by decide +kernel
theorem dX6_close_61 : decode cX6_close 61 = .ok (.getfield 12, 3) := by decide +kernel
theorem dX6_close_64 : decode cX6_close 64 = .ok (.getfield 36, 3) := by decide +kernel
theorem dX6_close_67 : decode cX6_close 67 = .ok (.iconst 1, 1) := by decide +kernel
theorem dX6_close_68 : decode cX6_close 68 = .ok (.isub, 1) := by decide +kernel
theorem dX6_close_69 : decode cX6_close 69 = .ok (.iload_n 1, 1) := by decide +kernel
theorem dX6_close_70 : decode cX6_close 70 = .ok (.invokevirtual 143, 3) := by decide +kernel
theorem dX6_close_73 : decode cX6_close 73 = .ok (.aload_n 0, 1) := by decide +kernel
theorem dX6_close_74 : decode cX6_close 74 = .ok (.iconst 5, 1) := by decide +kernel
theorem dX6_close_75 : decode cX6_close 75 = .ok (.putfield 39, 3) := by decide +kernel
theorem dX6_close_78 : decode cX6_close 78 = .ok (.return_, 1) := by decide +kernel
theorem dX6_strength_0 : decode cX6_strength 0 = .ok (.iload_n 0, 1) := by decide +kernel
theorem dX6_strength_1 : decode cX6_strength 1 = .ok (.tableswitch 63 37 47 #[61, 63, 63, 63, 63, 61, 59, 63, 59, 63, 61], 59) := by decide +kernel
theorem dX6_strength_60 : decode cX6_strength 60 = .ok (.iconst 1, 1) := by decide +kernel
theorem dX6_strength_61 : decode cX6_strength 61 = .ok (.ireturn, 1) := by decide +kernel
theorem dX6_strength_62 : decode cX6_strength 62 = .ok (.iconst 2, 1) := by decide +kernel
theorem dX6_strength_63 : decode cX6_strength 63 = .ok (.ireturn, 1) := by decide +kernel
theorem dX6_strength_64 : decode cX6_strength 64 = .ok (.iconst 0, 1) := by decide +kernel
theorem dX6_strength_65 : decode cX6_strength 65 = .ok (.ireturn, 1) := by decide +kernel
theorem dX6_await_0 : decode cX6_await 0 = .ok (.aload_n 0, 1) := by decide +kernel
theorem dX6_await_1 : decode cX6_await 1 = .ok (.getfield 52, 3) := by decide +kernel
theorem dX6_await_4 : decode cX6_await 4 = .ok (.aload_n 0, 1) := by decide +kernel
theorem dX6_await_5 : decode cX6_await 5 = .ok (.getfield 29, 3) := by decide +kernel
theorem dX6_await_8 : decode cX6_await 8 = .ok (.arraylength, 1) := by decide +kernel
theorem dX6_await_9 : decode cX6_await 9 = .ok (.if_icmp .ge 23, 3) := by decide +kernel
theorem dX6_await_12 : decode cX6_await 12 = .ok (.aload_n 0, 1) := by decide +kernel
theorem dX6_await_13 : decode cX6_await 13 = .ok (.getfield 29, 3) := by decide +kernel
theorem dX6_await_16 : decode cX6_await 16 = .ok (.aload_n 0, 1) := by decide +kernel
theorem dX6_await_17 : decode cX6_await 17 = .ok (.getfield 52, 3) := by decide +kernel
theorem dX6_await_20 : decode cX6_await 20 = .ok (.iload_n 1, 1) := by decide +kernel
theorem dX6_await_21 : decode cX6_await 21 = .ok (.iastore, 1) := by decide +kernel
theorem dX6_await_22 : decode cX6_await 22 = .ok (.aload_n 0, 1) := by decide +kernel
theorem dX6_await_23 : decode cX6_await 23 = .ok (.dup, 1) := by decide +kernel
theorem dX6_await_24 : decode cX6_await 24 = .ok (.getfield 52, 3) := by decide +kernel
theorem dX6_await_27 : decode cX6_await 27 = .ok (.iconst 1, 1) := by decide +kernel
theorem dX6_await_28 : decode cX6_await 28 = .ok (.iadd, 1) := by decide +kernel
theorem dX6_await_29 : decode cX6_await 29 = .ok (.putfield 52, 3) := by decide +kernel
theorem dX6_await_32 : decode cX6_await 32 = .ok (.return_, 1) := by decide +kernel
theorem dX6_release_0 : decode cX6_release 0 = .ok (.aload_n 0, 1) := by decide +kernel
theorem dX6_release_1 : decode cX6_release 1 = .ok (.getfield 52, 3) := by decide +kernel
theorem dX6_release_4 : decode cX6_release 4 = .ok (.ifCond .le 51, 3) := by decide +kernel
theorem dX6_release_7 : decode cX6_release 7 = .ok (.aload_n 0, 1) := by decide +kernel
theorem dX6_release_8 : decode cX6_release 8 = .ok (.getfield 29, 3) := by decide +kernel
theorem dX6_release_11 : decode cX6_release 11 = .ok (.aload_n 0, 1) := by decide +kernel
theorem dX6_release_12 : decode cX6_release 12 = .ok (.getfield 52, 3) := by decide +kernel
theorem dX6_release_15 : decode cX6_release 15 = .ok (.iconst 1, 1) := by decide +kernel
theorem dX6_release_16 : decode cX6_release 16 = .ok (.isub, 1) := by decide +kernel
theorem dX6_release_17 : decode cX6_release 17 = .ok (.iaload, 1) := by decide +kernel
theorem dX6_release_18 : decode cX6_release 18 = .ok (.invokestatic 124, 3) := by decide +kernel
theorem dX6_release_21 : decode cX6_release 21 = .ok (.iload_n 1, 1) := by decide +kernel
theorem dX6_release_22 : decode cX6_release 22 = .ok (.if_icmp .lt 33, 3) := by decide +kernel
theorem dX6_release_25 : decode cX6_release 25 = .ok (.aload_n 0, 1) := by decide +kernel
theorem dX6_release_26 : decode cX6_release 26 = .ok (.dup, 1) := by decide +kernel
theorem dX6_release_27 : decode cX6_release 27 = .ok (.getfield 52, 3) := by decide +kernel
theorem dX6_release_30 : decode cX6_release 30 = .ok (.iconst 1, 1) := by decide +kernel
theorem dX6_release_31 : decode cX6_release 31 = .ok (.isub, 1) := by decide +kernel
theorem dX6_release_32 : decode cX6_release 32 = .ok (.putfield 52, 3) := by decide +kernel
theorem dX6_release_35 : decode cX6_release 35 = .ok (.aload_n 0, 1) := by decide +kernel
theorem dX6_release_36 : decode cX6_release 36 = .ok (.getfield 12, 3) := by decide +kernel
theorem dX6_release_39 : decode cX6_release 39 = .ok (.aload_n 0, 1) := by decide +kernel
theorem dX6_release_40 : decode cX6_release 40 = .ok (.getfield 29, 3) := by decide +kernel
theorem dX6_release_43 : decode cX6_release 43 = .ok (.aload_n 0, 1) := by decide +kernel
theorem dX6_release_44 : decode cX6_release 44 = .ok (.getfield 52, 3) := by decide +kernel
theorem dX6_release_47 : decode cX6_release 47 = .ok (.iaload, 1) := by decide +kernel
theorem dX6_release_48 : decode cX6_release 48 = .ok (.iconst 0, 1) := by decide +kernel
theorem dX6_release_49 : decode cX6_release 49 = .ok (.invokevirtual 118, 3) := by decide +kernel
theorem dX6_release_52 : decode cX6_release 52 = .ok (.goto (-52), 3) := by decide +kernel
theorem dX6_release_55 : decode cX6_release 55 = .ok (.return_, 1) := by decide +kernel
def own_k_note : List Cond := [.fieldLink RX6 32 "ClashFree$Parser" "fault" "I", .fieldLink RX6 73 "ClashFree$Parser" "faultPlace" "I", .fieldLink RX6 49 "ClashFree$Parser" "blocks" "I", .fieldLink RX6 76 "ClashFree$Parser" "faultDepth" "I"]
def wp_k_note : List Cond := .code yX6_note cX6_note 3 none :: (own_k_note ++ (wsX60 ++ ([] : List Cond)))
set_option maxRecDepth 20000 in
theorem inown_k_note : ∀ w ∈ own_k_note, w ∈ lw_tbl := mem_places [327, 329, 342, 331] (by decide +kernel)
set_option maxRecDepth 20000 in
theorem in_k_note : ∀ w ∈ wp_k_note, w ∈ lw_tbl := List.forall_mem_cons.mpr ⟨List.mem_of_getElem? (i := 918) (by decide +kernel), List.forall_mem_append.mpr ⟨inown_k_note, List.forall_mem_append.mpr ⟨lwb_X6, fun _ h => absurd h List.not_mem_nil⟩⟩⟩
set_option maxRecDepth 20000 in
theorem good_k_note : wp_k_note.all goodWord = true := by decide +kernel
set_option maxHeartbeats 4000000 in
set_option maxRecDepth 100000 in
theorem k_note (l : Launch) (D : va_G) (sz : Nat) (oq : Nat → Nat) (cI : ClassId) (qf : Int32) (qp : Int32) (qd : Int32) (qs : Int32) (qt : Int32) (qb : Int32) (qh : Int32) (qr : Int32) (qn : Int32) (bk : Nat) (wz : Nat) (fO : Nat → Int32) (fW : Nat → Int32) (pz : Nat) (fK : Nat → Int32) (fN : Nat → Int32) (fL : Nat → Int32) (tx : Value) (zl : Int32) (ta : Int32) (be : Int32) (ki : Int32) (nu : Int32) (wo : Int32) (z1 : Int32) (z2 : Int32) (hbk : bk ≤ 5) (hwz : wz ≤ 600) (hpz : pz ≤ 600) : Met l yX6_note wp_k_note ({ frames := 0, cells := 0, slots := 0, locals := 0 }) (PcWC D [.ref (oq 0), .int z1, .int z2] sz [(oq 0, .inr (6, gPs oq qf qp qd qs qt qb qh qr qn (nI bk) (nI wz))), (oq 6, .inl (cI, 5, .inl fO)), (oq 7, .inl (cI, 600, .inl fW)), (oq 1, .inr (7, [.int (nI pz), .ref (oq 2), .ref (oq 3), .ref (oq 4)])), (oq 2, .inl (cI, 600, .inl fK)), (oq 3, .inl (cI, 600, .inl fN)), (oq 4, .inl (cI, 600, .inl fL)), (oq 5, .inr (8, [tx, .int zl, .int ta, .int be, .int ki, .int nu, .int wo]))] [(cI, .int)]) (va_Qv (fun (u : (Int32) × (Int32) × (Int32) × (Int32) × (Int32) × (Int32) × (Int32) × (Int32) × (Int32) × (Nat) × (Nat) × (Nat → Int32) × (Nat → Int32) × (Nat) × (Nat → Int32) × (Nat → Int32) × (Nat → Int32)) => u.2.2.2.2.2.2.2.2.2.1 ≤ 5 ∧ u.2.2.2.2.2.2.2.2.2.2.1 ≤ 600 ∧ u.2.2.2.2.2.2.2.2.2.2.2.2.2.1 ≤ 600) (fun (u : (Int32) × (Int32) × (Int32) × (Int32) × (Int32) × (Int32) × (Int32) × (Int32) × (Int32) × (Nat) × (Nat) × (Nat → Int32) × (Nat → Int32) × (Nat) × (Nat → Int32) × (Nat → Int32) × (Nat → Int32)) t => va_P D vwCl [(oq 0, .inr (6, gPs oq u.1 u.2.1 u.2.2.1 u.2.2.2.1 u.2.2.2.2.1 u.2.2.2.2.2.1 u.2.2.2.2.2.2.1 u.2.2.2.2.2.2.2.1 u.2.2.2.2.2.2.2.2.1 (nI u.2.2.2.2.2.2.2.2.2.1) (nI u.2.2.2.2.2.2.2.2.2.2.1))), (oq 6, .inl (cI, 5, .inl u.2.2.2.2.2.2.2.2.2.2.2.1)), (oq 7, .inl (cI, 600, .inl u.2.2.2.2.2.2.2.2.2.2.2.2.1)), (oq 1, .inr (7, [.int (nI u.2.2.2.2.2.2.2.2.2.2.2.2.2.1), .ref (oq 2), .ref (oq 3), .ref (oq 4)])), (oq 2, .inl (cI, 600, .inl u.2.2.2.2.2.2.2.2.2.2.2.2.2.2.1)), (oq 3, .inl (cI, 600, .inl u.2.2.2.2.2.2.2.2.2.2.2.2.2.2.2.1)), (oq 4, .inl (cI, 600, .inl u.2.2.2.2.2.2.2.2.2.2.2.2.2.2.2.2)), (oq 5, .inr (8, [tx, .int zl, .int ta, .int be, .int ki, .int nu, .int wo]))] t.heap ∧ va_K D vwCl [(cI, .int)] t ∧ va_D (va_A [(oq 0, .inr (6, gPs oq qf qp qd qs qt qb qh qr qn (nI bk) (nI wz))), (oq 6, .inl (cI, 5, .inl fO)), (oq 7, .inl (cI, 600, .inl fW)), (oq 1, .inr (7, [.int (nI pz), .ref (oq 2), .ref (oq 3), .ref (oq 4)])), (oq 2, .inl (cI, 600, .inl fK)), (oq 3, .inl (cI, 600, .inl fN)), (oq 4, .inl (cI, 600, .inl fL)), (oq 5, .inr (8, [tx, .int zl, .int ta, .int be, .int ki, .int nu, .int wo]))] sz) [(oq 0, .inr (6, gPs oq u.1 u.2.1 u.2.2.1 u.2.2.2.1 u.2.2.2.2.1 u.2.2.2.2.2.1 u.2.2.2.2.2.2.1 u.2.2.2.2.2.2.2.1 u.2.2.2.2.2.2.2.2.1 (nI u.2.2.2.2.2.2.2.2.2.1) (nI u.2.2.2.2.2.2.2.2.2.2.1))), (oq 6, .inl (cI, 5, .inl u.2.2.2.2.2.2.2.2.2.2.2.1)), (oq 7, .inl (cI, 600, .inl u.2.2.2.2.2.2.2.2.2.2.2.2.1)), (oq 1, .inr (7, [.int (nI u.2.2.2.2.2.2.2.2.2.2.2.2.2.1), .ref (oq 2), .ref (oq 3), .ref (oq 4)])), (oq 2, .inl (cI, 600, .inl u.2.2.2.2.2.2.2.2.2.2.2.2.2.2.1)), (oq 3, .inl (cI, 600, .inl u.2.2.2.2.2.2.2.2.2.2.2.2.2.2.2.1)), (oq 4, .inl (cI, 600, .inl u.2.2.2.2.2.2.2.2.2.2.2.2.2.2.2.2)), (oq 5, .inr (8, [tx, .int zl, .int ta, .int be, .int ki, .int nu, .int wo]))]) (va_A [(oq 0, .inr (6, gPs oq qf qp qd qs qt qb qh qr qn (nI bk) (nI wz))), (oq 6, .inl (cI, 5, .inl fO)), (oq 7, .inl (cI, 600, .inl fW)), (oq 1, .inr (7, [.int (nI pz), .ref (oq 2), .ref (oq 3), .ref (oq 4)])), (oq 2, .inl (cI, 600, .inl fK)), (oq 3, .inl (cI, 600, .inl fN)), (oq 4, .inl (cI, 600, .inl fL)), (oq 5, .inr (8, [tx, .int zl, .int ta, .int be, .int ki, .int nu, .int wo]))] sz)) 0 0 (va_A [(oq 0, .inr (6, gPs oq qf qp qd qs qt qb qh qr qn (nI bk) (nI wz))), (oq 6, .inl (cI, 5, .inl fO)), (oq 7, .inl (cI, 600, .inl fW)), (oq 1, .inr (7, [.int (nI pz), .ref (oq 2), .ref (oq 3), .ref (oq 4)])), (oq 2, .inl (cI, 600, .inl fK)), (oq 3, .inl (cI, 600, .inl fN)), (oq 4, .inl (cI, 600, .inl fL)), (oq 5, .inr (8, [tx, .int zl, .int ta, .int be, .int ki, .int nu, .int wo]))] sz) := by
  refine Met.ofW (cc := cX6_note) (maxL := 3) (ret := none) (by decide) rfl ?_
  intro p e s m args below meth c s₁ B hml hv
  obtain ⟨rfl, hsz, hP, hK, hD0, hN⟩ := hv
  have hx := B.exec
  have hb := B.bytes
  have hr := B.returns
  have hts := atoms_spec (ws := wp_k_note) B.pre
  have hin_X6 : ∀ w ∈ wsX60, w ∈ wp_k_note := fun _ h => (List.mem_cons_of_mem _ (List.mem_append_right _ (List.mem_append_left _ h)))
  have hown : s.vm.findClass RX6 = some m.cls := findClass_of_methodNamed B.named
  have hlocks := B.notSynchronized
  subst hsz
  have hD := hD0.self (sz := s.heap.size)
  generalize hAe : va_A [(oq 0, .inr (6, gPs oq qf qp qd qs qt qb qh qr qn (nI bk) (nI wz))), (oq 6, .inl (cI, 5, .inl fO)), (oq 7, .inl (cI, 600, .inl fW)), (oq 1, .inr (7, [.int (nI pz), .ref (oq 2), .ref (oq 3), .ref (oq 4)])), (oq 2, .inl (cI, 600, .inl fK)), (oq 3, .inl (cI, 600, .inl fN)), (oq 4, .inl (cI, 600, .inl fL)), (oq 5, .inr (8, [tx, .int zl, .int ta, .int be, .int ki, .int nu, .int wo]))] s.heap.size = A at hD ⊢
  have hA : ∀ q : Nat, s.heap.size ≤ q → A q := fun q h => by rw [← hAe]; exact Or.inr h
  have hS : va_S A s.heap s.heap [] := va_S.rf
  have hP : va_P D vwCl [(oq 0, .inr (6, gPs oq qf qp qd qs qt qb qh qr qn (nI bk) (nI wz))), (oq 6, .inl (cI, 5, .inl fO)), (oq 7, .inl (cI, 600, .inl fW)), (oq 1, .inr (7, [.int (nI pz), .ref (oq 2), .ref (oq 3), .ref (oq 4)])), (oq 2, .inl (cI, 600, .inl fK)), (oq 3, .inl (cI, 600, .inl fN)), (oq 4, .inl (cI, 600, .inl fL)), (oq 5, .inr (8, [tx, .int zl, .int ta, .int be, .int ki, .int nu, .int wo]))] s.heap := hP
  have hl := lv_entry ([.ref (oq 0), .int z1, .int z2]) (n := 3) (Nat.le_of_ble_eq_true rfl)
  rw [lg_entry_eq]
  generalize (lg_sl ([.ref (oq 0), .int z1, .int z2]) ++ List.replicate (3 - (lg_sl ([.ref (oq 0), .int z1, .int z2])).length) Slot.unset).toArray = ls at hl ⊢
  have hl : lv_has ls 3 [(0, .ref (oq 0)), (1, .int z1), (2, .int z2)] := hl
  refine lv_aload_n hx hb dX6_note_0 rfl (lv_at hl 0 rfl) ?_
  refine va_get (D := D) (ci := 6) (v := .int qf) (C := RX6) (T := TX6) (N := 15) hx hb hts hin_X6 hown hK hP 0 rfl rfl 0 (by decide) (hts (.fieldLink RX6 32 "ClashFree$Parser" "fault" "I") (List.mem_of_getElem? (i := 1) rfl)) (fun _ h9 => h9) rfl dX6_note_1 ?_
  refine lv_if_eq (tgt := 31) hx hb dX6_note_4 (by decide) (fun hc1 => ?_) (fun hc1 => ?_)
  ·
    refine lv_aload_n hx hb dX6_note_31 rfl (lv_at hl 0 rfl) ?_
    refine lv_iload_n hx hb dX6_note_32 rfl (lv_at hl 1 rfl) ?_
    refine va_put (D := D) (ci := 6) (v := .int z1) (ty := .int) (C := RX6) (T := TX6) (N := 15) hx hb hts hin_X6 tyX6 tyX6_ok nmX6 hown hK hP hD hS 0 rfl rfl 0 (by decide) (hts (.fieldLink RX6 32 "ClashFree$Parser" "fault" "I") (List.mem_of_getElem? (i := 1) rfl)) (fun _ h9 => h9) rfl (by decide +kernel) rfl rfl (Nat.le_of_ble_eq_true rfl) dX6_note_33 (fun H locs hP hD hS => ?_)
    have hP : va_P D vwCl [(oq 0, .inr (6, gPs oq z1 qp qd qs qt qb qh qr qn (nI bk) (nI wz))), (oq 6, .inl (cI, 5, .inl fO)), (oq 7, .inl (cI, 600, .inl fW)), (oq 1, .inr (7, [.int (nI pz), .ref (oq 2), .ref (oq 3), .ref (oq 4)])), (oq 2, .inl (cI, 600, .inl fK)), (oq 3, .inl (cI, 600, .inl fN)), (oq 4, .inl (cI, 600, .inl fL)), (oq 5, .inr (8, [tx, .int zl, .int ta, .int be, .int ki, .int nu, .int wo]))] H := hP
    have hD : va_D A [(oq 0, .inr (6, gPs oq z1 qp qd qs qt qb qh qr qn (nI bk) (nI wz))), (oq 6, .inl (cI, 5, .inl fO)), (oq 7, .inl (cI, 600, .inl fW)), (oq 1, .inr (7, [.int (nI pz), .ref (oq 2), .ref (oq 3), .ref (oq 4)])), (oq 2, .inl (cI, 600, .inl fK)), (oq 3, .inl (cI, 600, .inl fN)), (oq 4, .inl (cI, 600, .inl fL)), (oq 5, .inr (8, [tx, .int zl, .int ta, .int be, .int ki, .int nu, .int wo]))] := hD
    refine lv_aload_n hx hb dX6_note_36 rfl (lv_at hl 0 rfl) ?_
    refine lv_iload_n hx hb dX6_note_37 rfl (lv_at hl 2 rfl) ?_
    refine va_put (D := D) (ci := 6) (v := .int z2) (ty := .int) (C := RX6) (T := TX6) (N := 15) hx hb hts hin_X6 tyX6 tyX6_ok nmX6 hown hK hP hD hS 0 rfl rfl 1 (by decide) (hts (.fieldLink RX6 73 "ClashFree$Parser" "faultPlace" "I") (List.mem_of_getElem? (i := 2) rfl)) (fun _ h9 => h9) rfl (by decide +kernel) rfl rfl (Nat.le_of_ble_eq_true rfl) dX6_note_38 (fun H locs hP hD hS => ?_)
    have hP : va_P D vwCl [(oq 0, .inr (6, gPs oq z1 z2 qd qs qt qb qh qr qn (nI bk) (nI wz))), (oq 6, .inl (cI, 5, .inl fO)), (oq 7, .inl (cI, 600, .inl fW)), (oq 1, .inr (7, [.int (nI pz), .ref (oq 2), .ref (oq 3), .ref (oq 4)])), (oq 2, .inl (cI, 600, .inl fK)), (oq 3, .inl (cI, 600, .inl fN)), (oq 4, .inl (cI, 600, .inl fL)), (oq 5, .inr (8, [tx, .int zl, .int ta, .int be, .int ki, .int nu, .int wo]))] H := hP
    have hD : va_D A [(oq 0, .inr (6, gPs oq z1 z2 qd qs qt qb qh qr qn (nI bk) (nI wz))), (oq 6, .inl (cI, 5, .inl fO)), (oq 7, .inl (cI, 600, .inl fW)), (oq 1, .inr (7, [.int (nI pz), .ref (oq 2), .ref (oq 3), .ref (oq 4)])), (oq 2, .inl (cI, 600, .inl fK)), (oq 3, .inl (cI, 600, .inl fN)), (oq 4, .inl (cI, 600, .inl fL)), (oq 5, .inr (8, [tx, .int zl, .int ta, .int be, .int ki, .int nu, .int wo]))] := hD
    refine lv_aload_n hx hb dX6_note_41 rfl (lv_at hl 0 rfl) ?_
    refine lv_aload_n hx hb dX6_note_42 rfl (lv_at hl 0 rfl) ?_
    refine va_get (D := D) (ci := 6) (v := .int (nI bk)) (C := RX6) (T := TX6) (N := 15) hx hb hts hin_X6 hown hK hP 0 rfl rfl 11 (by decide) (hts (.fieldLink RX6 49 "ClashFree$Parser" "blocks" "I") (List.mem_of_getElem? (i := 3) rfl)) (fun _ h9 => h9) rfl dX6_note_43 ?_
    refine va_put (D := D) (ci := 6) (v := .int (nI bk)) (ty := .int) (C := RX6) (T := TX6) (N := 15) hx hb hts hin_X6 tyX6 tyX6_ok nmX6 hown hK hP hD hS 0 rfl rfl 2 (by decide) (hts (.fieldLink RX6 76 "ClashFree$Parser" "faultDepth" "I") (List.mem_of_getElem? (i := 4) rfl)) (fun _ h9 => h9) rfl (by decide +kernel) rfl rfl (Nat.le_of_ble_eq_true rfl) dX6_note_46 (fun H locs hP hD hS => ?_)
    have hP : va_P D vwCl [(oq 0, .inr (6, gPs oq z1 z2 (nI bk) qs qt qb qh qr qn (nI bk) (nI wz))), (oq 6, .inl (cI, 5, .inl fO)), (oq 7, .inl (cI, 600, .inl fW)), (oq 1, .inr (7, [.int (nI pz), .ref (oq 2), .ref (oq 3), .ref (oq 4)])), (oq 2, .inl (cI, 600, .inl fK)), (oq 3, .inl (cI, 600, .inl fN)), (oq 4, .inl (cI, 600, .inl fL)), (oq 5, .inr (8, [tx, .int zl, .int ta, .int be, .int ki, .int nu, .int wo]))] H := hP
    have hD : va_D A [(oq 0, .inr (6, gPs oq z1 z2 (nI bk) qs qt qb qh qr qn (nI bk) (nI wz))), (oq 6, .inl (cI, 5, .inl fO)), (oq 7, .inl (cI, 600, .inl fW)), (oq 1, .inr (7, [.int (nI pz), .ref (oq 2), .ref (oq 3), .ref (oq 4)])), (oq 2, .inl (cI, 600, .inl fK)), (oq 3, .inl (cI, 600, .inl fN)), (oq 4, .inl (cI, 600, .inl fL)), (oq 5, .inr (8, [tx, .int zl, .int ta, .int be, .int ki, .int nu, .int wo]))] := hD
    exact W.vret hx hb hr (fun t ht hW => ⟨⟨(z1, z2, (nI bk), qs, qt, qb, qh, qr, qn, bk, wz, fO, fW, pz, fK, fN, fL), rfl, (by (try dsimp only); first | done | exact ⟨by omega, by omega, by omega⟩), by rw [ht]; exact hP.sub [0, 1, 2, 3, 4, 5, 6, 7] rfl, va_K.moved hW.alike (hK.sub [0] rfl), hD.sub [0, 1, 2, 3, 4, 5, 6, 7] (by decide) rfl⟩, hS.F ht⟩) hS.2.2 dX6_note_49
  ·
    refine lv_iload_n hx hb dX6_note_7 rfl (lv_at hl 2 rfl) ?_
    refine lv_aload_n hx hb dX6_note_8 rfl (lv_at hl 0 rfl) ?_
    refine va_get (D := D) (ci := 6) (v := .int qp) (C := RX6) (T := TX6) (N := 15) hx hb hts hin_X6 hown hK hP 0 rfl rfl 1 (by decide) (hts (.fieldLink RX6 73 "ClashFree$Parser" "faultPlace" "I") (List.mem_of_getElem? (i := 2) rfl)) (fun _ h9 => h9) rfl dX6_note_9 ?_
    refine lv_icmp_lt (tgt := 31) hx hb dX6_note_12 (by decide) (fun hc2 => ?_) (fun hc2 => ?_)
    ·
      refine lv_aload_n hx hb dX6_note_31 rfl (lv_at hl 0 rfl) ?_
      refine lv_iload_n hx hb dX6_note_32 rfl (lv_at hl 1 rfl) ?_
      refine va_put (D := D) (ci := 6) (v := .int z1) (ty := .int) (C := RX6) (T := TX6) (N := 15) hx hb hts hin_X6 tyX6 tyX6_ok nmX6 hown hK hP hD hS 0 rfl rfl 0 (by decide) (hts (.fieldLink RX6 32 "ClashFree$Parser" "fault" "I") (List.mem_of_getElem? (i := 1) rfl)) (fun _ h9 => h9) rfl (by decide +kernel) rfl rfl (Nat.le_of_ble_eq_true rfl) dX6_note_33 (fun H locs hP hD hS => ?_)
      have hP : va_P D vwCl [(oq 0, .inr (6, gPs oq z1 qp qd qs qt qb qh qr qn (nI bk) (nI wz))), (oq 6, .inl (cI, 5, .inl fO)), (oq 7, .inl (cI, 600, .inl fW)), (oq 1, .inr (7, [.int (nI pz), .ref (oq 2), .ref (oq 3), .ref (oq 4)])), (oq 2, .inl (cI, 600, .inl fK)), (oq 3, .inl (cI, 600, .inl fN)), (oq 4, .inl (cI, 600, .inl fL)), (oq 5, .inr (8, [tx, .int zl, .int ta, .int be, .int ki, .int nu, .int wo]))] H := hP
      have hD : va_D A [(oq 0, .inr (6, gPs oq z1 qp qd qs qt qb qh qr qn (nI bk) (nI wz))), (oq 6, .inl (cI, 5, .inl fO)), (oq 7, .inl (cI, 600, .inl fW)), (oq 1, .inr (7, [.int (nI pz), .ref (oq 2), .ref (oq 3), .ref (oq 4)])), (oq 2, .inl (cI, 600, .inl fK)), (oq 3, .inl (cI, 600, .inl fN)), (oq 4, .inl (cI, 600, .inl fL)), (oq 5, .inr (8, [tx, .int zl, .int ta, .int be, .int ki, .int nu, .int wo]))] := hD
      refine lv_aload_n hx hb dX6_note_36 rfl (lv_at hl 0 rfl) ?_
      refine lv_iload_n hx hb dX6_note_37 rfl (lv_at hl 2 rfl) ?_
      refine va_put (D := D) (ci := 6) (v := .int z2) (ty := .int) (C := RX6) (T := TX6) (N := 15) hx hb hts hin_X6 tyX6 tyX6_ok nmX6 hown hK hP hD hS 0 rfl rfl 1 (by decide) (hts (.fieldLink RX6 73 "ClashFree$Parser" "faultPlace" "I") (List.mem_of_getElem? (i := 2) rfl)) (fun _ h9 => h9) rfl (by decide +kernel) rfl rfl (Nat.le_of_ble_eq_true rfl) dX6_note_38 (fun H locs hP hD hS => ?_)
      have hP : va_P D vwCl [(oq 0, .inr (6, gPs oq z1 z2 qd qs qt qb qh qr qn (nI bk) (nI wz))), (oq 6, .inl (cI, 5, .inl fO)), (oq 7, .inl (cI, 600, .inl fW)), (oq 1, .inr (7, [.int (nI pz), .ref (oq 2), .ref (oq 3), .ref (oq 4)])), (oq 2, .inl (cI, 600, .inl fK)), (oq 3, .inl (cI, 600, .inl fN)), (oq 4, .inl (cI, 600, .inl fL)), (oq 5, .inr (8, [tx, .int zl, .int ta, .int be, .int ki, .int nu, .int wo]))] H := hP
      have hD : va_D A [(oq 0, .inr (6, gPs oq z1 z2 qd qs qt qb qh qr qn (nI bk) (nI wz))), (oq 6, .inl (cI, 5, .inl fO)), (oq 7, .inl (cI, 600, .inl fW)), (oq 1, .inr (7, [.int (nI pz), .ref (oq 2), .ref (oq 3), .ref (oq 4)])), (oq 2, .inl (cI, 600, .inl fK)), (oq 3, .inl (cI, 600, .inl fN)), (oq 4, .inl (cI, 600, .inl fL)), (oq 5, .inr (8, [tx, .int zl, .int ta, .int be, .int ki, .int nu, .int wo]))] := hD
      refine lv_aload_n hx hb dX6_note_41 rfl (lv_at hl 0 rfl) ?_
      refine lv_aload_n hx hb dX6_note_42 rfl (lv_at hl 0 rfl) ?_
      refine va_get (D := D) (ci := 6) (v := .int (nI bk)) (C := RX6) (T := TX6) (N := 15) hx hb hts hin_X6 hown hK hP 0 rfl rfl 11 (by decide) (hts (.fieldLink RX6 49 "ClashFree$Parser" "blocks" "I") (List.mem_of_getElem? (i := 3) rfl)) (fun _ h9 => h9) rfl dX6_note_43 ?_
      refine va_put (D := D) (ci := 6) (v := .int (nI bk)) (ty := .int) (C := RX6) (T := TX6) (N := 15) hx hb hts hin_X6 tyX6 tyX6_ok nmX6 hown hK hP hD hS 0 rfl rfl 2 (by decide) (hts (.fieldLink RX6 76 "ClashFree$Parser" "faultDepth" "I") (List.mem_of_getElem? (i := 4) rfl)) (fun _ h9 => h9) rfl (by decide +kernel) rfl rfl (Nat.le_of_ble_eq_true rfl) dX6_note_46 (fun H locs hP hD hS => ?_)
      have hP : va_P D vwCl [(oq 0, .inr (6, gPs oq z1 z2 (nI bk) qs qt qb qh qr qn (nI bk) (nI wz))), (oq 6, .inl (cI, 5, .inl fO)), (oq 7, .inl (cI, 600, .inl fW)), (oq 1, .inr (7, [.int (nI pz), .ref (oq 2), .ref (oq 3), .ref (oq 4)])), (oq 2, .inl (cI, 600, .inl fK)), (oq 3, .inl (cI, 600, .inl fN)), (oq 4, .inl (cI, 600, .inl fL)), (oq 5, .inr (8, [tx, .int zl, .int ta, .int be, .int ki, .int nu, .int wo]))] H := hP
      have hD : va_D A [(oq 0, .inr (6, gPs oq z1 z2 (nI bk) qs qt qb qh qr qn (nI bk) (nI wz))), (oq 6, .inl (cI, 5, .inl fO)), (oq 7, .inl (cI, 600, .inl fW)), (oq 1, .inr (7, [.int (nI pz), .ref (oq 2), .ref (oq 3), .ref (oq 4)])), (oq 2, .inl (cI, 600, .inl fK)), (oq 3, .inl (cI, 600, .inl fN)), (oq 4, .inl (cI, 600, .inl fL)), (oq 5, .inr (8, [tx, .int zl, .int ta, .int be, .int ki, .int nu, .int wo]))] := hD
      exact W.vret hx hb hr (fun t ht hW => ⟨⟨(z1, z2, (nI bk), qs, qt, qb, qh, qr, qn, bk, wz, fO, fW, pz, fK, fN, fL), rfl, (by (try dsimp only); first | done | exact ⟨by omega, by omega, by omega⟩), by rw [ht]; exact hP.sub [0, 1, 2, 3, 4, 5, 6, 7] rfl, va_K.moved hW.alike (hK.sub [0] rfl), hD.sub [0, 1, 2, 3, 4, 5, 6, 7] (by decide) rfl⟩, hS.F ht⟩) hS.2.2 dX6_note_49
    ·
      refine lv_iload_n hx hb dX6_note_15 rfl (lv_at hl 2 rfl) ?_
      refine lv_aload_n hx hb dX6_note_16 rfl (lv_at hl 0 rfl) ?_
      refine va_get (D := D) (ci := 6) (v := .int qp) (C := RX6) (T := TX6) (N := 15) hx hb hts hin_X6 hown hK hP 0 rfl rfl 1 (by decide) (hts (.fieldLink RX6 73 "ClashFree$Parser" "faultPlace" "I") (List.mem_of_getElem? (i := 2) rfl)) (fun _ h9 => h9) rfl dX6_note_17 ?_
      refine lv_icmp_ne (tgt := 49) hx hb dX6_note_20 (by decide) (fun hc3 => ?_) (fun hc3 => ?_)
      ·
        exact W.vret hx hb hr (fun t ht hW => ⟨⟨(qf, qp, qd, qs, qt, qb, qh, qr, qn, bk, wz, fO, fW, pz, fK, fN, fL), rfl, (by (try dsimp only); first | done | exact ⟨by omega, by omega, by omega⟩), by rw [ht]; exact hP.sub [0, 1, 2, 3, 4, 5, 6, 7] rfl, va_K.moved hW.alike (hK.sub [0] rfl), hD.sub [0, 1, 2, 3, 4, 5, 6, 7] (by decide) rfl⟩, hS.F ht⟩) hS.2.2 dX6_note_49
      ·
        refine lv_iload_n hx hb dX6_note_23 rfl (lv_at hl 1 rfl) ?_
        refine lv_aload_n hx hb dX6_note_24 rfl (lv_at hl 0 rfl) ?_
        refine va_get (D := D) (ci := 6) (v := .int qf) (C := RX6) (T := TX6) (N := 15) hx hb hts hin_X6 hown hK hP 0 rfl rfl 0 (by decide) (hts (.fieldLink RX6 32 "ClashFree$Parser" "fault" "I") (List.mem_of_getElem? (i := 1) rfl)) (fun _ h9 => h9) rfl dX6_note_25 ?_
        refine lv_icmp_ge (tgt := 49) hx hb dX6_note_28 (by decide) (fun hc4 => ?_) (fun hc4 => ?_)
        ·
          exact W.vret hx hb hr (fun t ht hW => ⟨⟨(qf, qp, qd, qs, qt, qb, qh, qr, qn, bk, wz, fO, fW, pz, fK, fN, fL), rfl, (by (try dsimp only); first | done | exact ⟨by omega, by omega, by omega⟩), by rw [ht]; exact hP.sub [0, 1, 2, 3, 4, 5, 6, 7] rfl, va_K.moved hW.alike (hK.sub [0] rfl), hD.sub [0, 1, 2, 3, 4, 5, 6, 7] (by decide) rfl⟩, hS.F ht⟩) hS.2.2 dX6_note_49
        ·
          refine lv_aload_n hx hb dX6_note_31 rfl (lv_at hl 0 rfl) ?_
          refine lv_iload_n hx hb dX6_note_32 rfl (lv_at hl 1 rfl) ?_
          refine va_put (D := D) (ci := 6) (v := .int z1) (ty := .int) (C := RX6) (T := TX6) (N := 15) hx hb hts hin_X6 tyX6 tyX6_ok nmX6 hown hK hP hD hS 0 rfl rfl 0 (by decide) (hts (.fieldLink RX6 32 "ClashFree$Parser" "fault" "I") (List.mem_of_getElem? (i := 1) rfl)) (fun _ h9 => h9) rfl (by decide +kernel) rfl rfl (Nat.le_of_ble_eq_true rfl) dX6_note_33 (fun H locs hP hD hS => ?_)
          have hP : va_P D vwCl [(oq 0, .inr (6, gPs oq z1 qp qd qs qt qb qh qr qn (nI bk) (nI wz))), (oq 6, .inl (cI, 5, .inl fO)), (oq 7, .inl (cI, 600, .inl fW)), (oq 1, .inr (7, [.int (nI pz), .ref (oq 2), .ref (oq 3), .ref (oq 4)])), (oq 2, .inl (cI, 600, .inl fK)), (oq 3, .inl (cI, 600, .inl fN)), (oq 4, .inl (cI, 600, .inl fL)), (oq 5, .inr (8, [tx, .int zl, .int ta, .int be, .int ki, .int nu, .int wo]))] H := hP
          have hD : va_D A [(oq 0, .inr (6, gPs oq z1 qp qd qs qt qb qh qr qn (nI bk) (nI wz))), (oq 6, .inl (cI, 5, .inl fO)), (oq 7, .inl (cI, 600, .inl fW)), (oq 1, .inr (7, [.int (nI pz), .ref (oq 2), .ref (oq 3), .ref (oq 4)])), (oq 2, .inl (cI, 600, .inl fK)), (oq 3, .inl (cI, 600, .inl fN)), (oq 4, .inl (cI, 600, .inl fL)), (oq 5, .inr (8, [tx, .int zl, .int ta, .int be, .int ki, .int nu, .int wo]))] := hD
          refine lv_aload_n hx hb dX6_note_36 rfl (lv_at hl 0 rfl) ?_
          refine lv_iload_n hx hb dX6_note_37 rfl (lv_at hl 2 rfl) ?_
          refine va_put (D := D) (ci := 6) (v := .int z2) (ty := .int) (C := RX6) (T := TX6) (N := 15) hx hb hts hin_X6 tyX6 tyX6_ok nmX6 hown hK hP hD hS 0 rfl rfl 1 (by decide) (hts (.fieldLink RX6 73 "ClashFree$Parser" "faultPlace" "I") (List.mem_of_getElem? (i := 2) rfl)) (fun _ h9 => h9) rfl (by decide +kernel) rfl rfl (Nat.le_of_ble_eq_true rfl) dX6_note_38 (fun H locs hP hD hS => ?_)
          have hP : va_P D vwCl [(oq 0, .inr (6, gPs oq z1 z2 qd qs qt qb qh qr qn (nI bk) (nI wz))), (oq 6, .inl (cI, 5, .inl fO)), (oq 7, .inl (cI, 600, .inl fW)), (oq 1, .inr (7, [.int (nI pz), .ref (oq 2), .ref (oq 3), .ref (oq 4)])), (oq 2, .inl (cI, 600, .inl fK)), (oq 3, .inl (cI, 600, .inl fN)), (oq 4, .inl (cI, 600, .inl fL)), (oq 5, .inr (8, [tx, .int zl, .int ta, .int be, .int ki, .int nu, .int wo]))] H := hP
          have hD : va_D A [(oq 0, .inr (6, gPs oq z1 z2 qd qs qt qb qh qr qn (nI bk) (nI wz))), (oq 6, .inl (cI, 5, .inl fO)), (oq 7, .inl (cI, 600, .inl fW)), (oq 1, .inr (7, [.int (nI pz), .ref (oq 2), .ref (oq 3), .ref (oq 4)])), (oq 2, .inl (cI, 600, .inl fK)), (oq 3, .inl (cI, 600, .inl fN)), (oq 4, .inl (cI, 600, .inl fL)), (oq 5, .inr (8, [tx, .int zl, .int ta, .int be, .int ki, .int nu, .int wo]))] := hD
          refine lv_aload_n hx hb dX6_note_41 rfl (lv_at hl 0 rfl) ?_
          refine lv_aload_n hx hb dX6_note_42 rfl (lv_at hl 0 rfl) ?_
          refine va_get (D := D) (ci := 6) (v := .int (nI bk)) (C := RX6) (T := TX6) (N := 15) hx hb hts hin_X6 hown hK hP 0 rfl rfl 11 (by decide) (hts (.fieldLink RX6 49 "ClashFree$Parser" "blocks" "I") (List.mem_of_getElem? (i := 3) rfl)) (fun _ h9 => h9) rfl dX6_note_43 ?_
          refine va_put (D := D) (ci := 6) (v := .int (nI bk)) (ty := .int) (C := RX6) (T := TX6) (N := 15) hx hb hts hin_X6 tyX6 tyX6_ok nmX6 hown hK hP hD hS 0 rfl rfl 2 (by decide) (hts (.fieldLink RX6 76 "ClashFree$Parser" "faultDepth" "I") (List.mem_of_getElem? (i := 4) rfl)) (fun _ h9 => h9) rfl (by decide +kernel) rfl rfl (Nat.le_of_ble_eq_true rfl) dX6_note_46 (fun H locs hP hD hS => ?_)
          have hP : va_P D vwCl [(oq 0, .inr (6, gPs oq z1 z2 (nI bk) qs qt qb qh qr qn (nI bk) (nI wz))), (oq 6, .inl (cI, 5, .inl fO)), (oq 7, .inl (cI, 600, .inl fW)), (oq 1, .inr (7, [.int (nI pz), .ref (oq 2), .ref (oq 3), .ref (oq 4)])), (oq 2, .inl (cI, 600, .inl fK)), (oq 3, .inl (cI, 600, .inl fN)), (oq 4, .inl (cI, 600, .inl fL)), (oq 5, .inr (8, [tx, .int zl, .int ta, .int be, .int ki, .int nu, .int wo]))] H := hP
          have hD : va_D A [(oq 0, .inr (6, gPs oq z1 z2 (nI bk) qs qt qb qh qr qn (nI bk) (nI wz))), (oq 6, .inl (cI, 5, .inl fO)), (oq 7, .inl (cI, 600, .inl fW)), (oq 1, .inr (7, [.int (nI pz), .ref (oq 2), .ref (oq 3), .ref (oq 4)])), (oq 2, .inl (cI, 600, .inl fK)), (oq 3, .inl (cI, 600, .inl fN)), (oq 4, .inl (cI, 600, .inl fL)), (oq 5, .inr (8, [tx, .int zl, .int ta, .int be, .int ki, .int nu, .int wo]))] := hD
          exact W.vret hx hb hr (fun t ht hW => ⟨⟨(z1, z2, (nI bk), qs, qt, qb, qh, qr, qn, bk, wz, fO, fW, pz, fK, fN, fL), rfl, (by (try dsimp only); first | done | exact ⟨by omega, by omega, by omega⟩), by rw [ht]; exact hP.sub [0, 1, 2, 3, 4, 5, 6, 7] rfl, va_K.moved hW.alike (hK.sub [0] rfl), hD.sub [0, 1, 2, 3, 4, 5, 6, 7] (by decide) rfl⟩, hS.F ht⟩) hS.2.2 dX6_note_49

def own_k_refuse : List Cond := [.fieldLink RX6 21 "ClashFree$Parser" "scan" "LClashFree$Scanner;", .fieldLink RX6 79 "ClashFree$Scanner" "at" "I", .methodLink RX6 55 yX6_note, .instanceMethod yX6_note, .selects RX6 yX6_note yX6_note, .initialized RX6, .fieldLink RX6 42 "ClashFree$Parser" "heading" "Z"]
def wp_k_refuse : List Cond := .code yX6_refuse cX6_refuse 1 none :: (own_k_refuse ++ (wp_k_note ++ (wsX60 ++ (wsX80 ++ ([] : List Cond)))))
set_option maxRecDepth 20000 in
theorem inown_k_refuse : ∀ w ∈ own_k_refuse, w ∈ lw_tbl := mem_places [335, 305, 915, 917, 4, 111, 339] (by decide +kernel)
set_option maxRecDepth 20000 in
theorem in_k_refuse : ∀ w ∈ wp_k_refuse, w ∈ lw_tbl := List.forall_mem_cons.mpr ⟨List.mem_of_getElem? (i := 1046) (by decide +kernel), List.forall_mem_append.mpr ⟨inown_k_refuse, List.forall_mem_append.mpr ⟨in_k_note, List.forall_mem_append.mpr ⟨lwb_X6, List.forall_mem_append.mpr ⟨lwb_X8, fun _ h => absurd h List.not_mem_nil⟩⟩⟩⟩⟩
set_option maxRecDepth 20000 in
theorem good_k_refuse : wp_k_refuse.all goodWord = true := by decide +kernel
set_option maxRecDepth 20000 in
theorem g_k_refuse_k_note_55 : GoodIn wp_k_refuse (wsV RX6 55 RX6 yX6_note wp_k_note) := goodIn_sub (List.forall_mem_append.mpr ⟨List.forall_mem_cons.mpr ⟨(List.mem_of_getElem? (i := 3) rfl), List.forall_mem_cons.mpr ⟨(List.mem_of_getElem? (i := 4) rfl), List.forall_mem_cons.mpr ⟨(List.mem_of_getElem? (i := 5) rfl), List.forall_mem_cons.mpr ⟨(List.mem_of_getElem? (i := 6) rfl), fun _ h => absurd h List.not_mem_nil⟩⟩⟩⟩, (fun _ h => (List.mem_cons_of_mem _ (List.mem_append_right _ (List.mem_append_left _ h))))⟩) (by decide +kernel)
set_option maxHeartbeats 4000000 in
set_option maxRecDepth 100000 in
theorem k_refuse (l : Launch) (D : va_G) (sz : Nat) (oq : Nat → Nat) (cI : ClassId) (qf : Int32) (qp : Int32) (qd : Int32) (qs : Int32) (qt : Int32) (qb : Int32) (qh : Int32) (qr : Int32) (qn : Int32) (bk : Nat) (wz : Nat) (fO : Nat → Int32) (fW : Nat → Int32) (pz : Nat) (fK : Nat → Int32) (fN : Nat → Int32) (fL : Nat → Int32) (tx : Value) (zl : Int32) (ta : Int32) (be : Int32) (ki : Int32) (nu : Int32) (wo : Int32) (hbk : bk ≤ 5) (hwz : wz ≤ 600) (hpz : pz ≤ 600) : Met l yX6_refuse wp_k_refuse ({ frames := 1, cells := 0, slots := 0, locals := 22 }) (PcWC D [.ref (oq 0)] sz [(oq 0, .inr (6, gPs oq qf qp qd qs qt qb qh qr qn (nI bk) (nI wz))), (oq 6, .inl (cI, 5, .inl fO)), (oq 7, .inl (cI, 600, .inl fW)), (oq 1, .inr (7, [.int (nI pz), .ref (oq 2), .ref (oq 3), .ref (oq 4)])), (oq 2, .inl (cI, 600, .inl fK)), (oq 3, .inl (cI, 600, .inl fN)), (oq 4, .inl (cI, 600, .inl fL)), (oq 5, .inr (8, [tx, .int zl, .int ta, .int be, .int ki, .int nu, .int wo]))] [(cI, .int)]) (va_Qv (fun (u : (Int32) × (Int32) × (Int32) × (Int32) × (Int32) × (Int32) × (Int32) × (Int32) × (Int32) × (Nat) × (Nat) × (Nat → Int32) × (Nat → Int32) × (Nat) × (Nat → Int32) × (Nat → Int32) × (Nat → Int32)) => u.2.2.2.2.2.2.2.2.2.1 ≤ 5 ∧ u.2.2.2.2.2.2.2.2.2.2.1 ≤ 600 ∧ u.2.2.2.2.2.2.2.2.2.2.2.2.2.1 ≤ 600) (fun (u : (Int32) × (Int32) × (Int32) × (Int32) × (Int32) × (Int32) × (Int32) × (Int32) × (Int32) × (Nat) × (Nat) × (Nat → Int32) × (Nat → Int32) × (Nat) × (Nat → Int32) × (Nat → Int32) × (Nat → Int32)) t => va_P D vwCl [(oq 0, .inr (6, gPs oq u.1 u.2.1 u.2.2.1 u.2.2.2.1 u.2.2.2.2.1 u.2.2.2.2.2.1 u.2.2.2.2.2.2.1 u.2.2.2.2.2.2.2.1 u.2.2.2.2.2.2.2.2.1 (nI u.2.2.2.2.2.2.2.2.2.1) (nI u.2.2.2.2.2.2.2.2.2.2.1))), (oq 6, .inl (cI, 5, .inl u.2.2.2.2.2.2.2.2.2.2.2.1)), (oq 7, .inl (cI, 600, .inl u.2.2.2.2.2.2.2.2.2.2.2.2.1)), (oq 1, .inr (7, [.int (nI u.2.2.2.2.2.2.2.2.2.2.2.2.2.1), .ref (oq 2), .ref (oq 3), .ref (oq 4)])), (oq 2, .inl (cI, 600, .inl u.2.2.2.2.2.2.2.2.2.2.2.2.2.2.1)), (oq 3, .inl (cI, 600, .inl u.2.2.2.2.2.2.2.2.2.2.2.2.2.2.2.1)), (oq 4, .inl (cI, 600, .inl u.2.2.2.2.2.2.2.2.2.2.2.2.2.2.2.2)), (oq 5, .inr (8, [tx, .int zl, .int ta, .int be, .int ki, .int nu, .int wo]))] t.heap ∧ va_K D vwCl [(cI, .int)] t ∧ va_D (va_A [(oq 0, .inr (6, gPs oq qf qp qd qs qt qb qh qr qn (nI bk) (nI wz))), (oq 6, .inl (cI, 5, .inl fO)), (oq 7, .inl (cI, 600, .inl fW)), (oq 1, .inr (7, [.int (nI pz), .ref (oq 2), .ref (oq 3), .ref (oq 4)])), (oq 2, .inl (cI, 600, .inl fK)), (oq 3, .inl (cI, 600, .inl fN)), (oq 4, .inl (cI, 600, .inl fL)), (oq 5, .inr (8, [tx, .int zl, .int ta, .int be, .int ki, .int nu, .int wo]))] sz) [(oq 0, .inr (6, gPs oq u.1 u.2.1 u.2.2.1 u.2.2.2.1 u.2.2.2.2.1 u.2.2.2.2.2.1 u.2.2.2.2.2.2.1 u.2.2.2.2.2.2.2.1 u.2.2.2.2.2.2.2.2.1 (nI u.2.2.2.2.2.2.2.2.2.1) (nI u.2.2.2.2.2.2.2.2.2.2.1))), (oq 6, .inl (cI, 5, .inl u.2.2.2.2.2.2.2.2.2.2.2.1)), (oq 7, .inl (cI, 600, .inl u.2.2.2.2.2.2.2.2.2.2.2.2.1)), (oq 1, .inr (7, [.int (nI u.2.2.2.2.2.2.2.2.2.2.2.2.2.1), .ref (oq 2), .ref (oq 3), .ref (oq 4)])), (oq 2, .inl (cI, 600, .inl u.2.2.2.2.2.2.2.2.2.2.2.2.2.2.1)), (oq 3, .inl (cI, 600, .inl u.2.2.2.2.2.2.2.2.2.2.2.2.2.2.2.1)), (oq 4, .inl (cI, 600, .inl u.2.2.2.2.2.2.2.2.2.2.2.2.2.2.2.2)), (oq 5, .inr (8, [tx, .int zl, .int ta, .int be, .int ki, .int nu, .int wo]))]) (va_A [(oq 0, .inr (6, gPs oq qf qp qd qs qt qb qh qr qn (nI bk) (nI wz))), (oq 6, .inl (cI, 5, .inl fO)), (oq 7, .inl (cI, 600, .inl fW)), (oq 1, .inr (7, [.int (nI pz), .ref (oq 2), .ref (oq 3), .ref (oq 4)])), (oq 2, .inl (cI, 600, .inl fK)), (oq 3, .inl (cI, 600, .inl fN)), (oq 4, .inl (cI, 600, .inl fL)), (oq 5, .inr (8, [tx, .int zl, .int ta, .int be, .int ki, .int nu, .int wo]))] sz)) 0 0 (va_A [(oq 0, .inr (6, gPs oq qf qp qd qs qt qb qh qr qn (nI bk) (nI wz))), (oq 6, .inl (cI, 5, .inl fO)), (oq 7, .inl (cI, 600, .inl fW)), (oq 1, .inr (7, [.int (nI pz), .ref (oq 2), .ref (oq 3), .ref (oq 4)])), (oq 2, .inl (cI, 600, .inl fK)), (oq 3, .inl (cI, 600, .inl fN)), (oq 4, .inl (cI, 600, .inl fL)), (oq 5, .inr (8, [tx, .int zl, .int ta, .int be, .int ki, .int nu, .int wo]))] sz) := by
  refine Met.ofW (cc := cX6_refuse) (maxL := 1) (ret := none) (by decide) rfl ?_
  intro p e s m args below meth c s₁ B hml hv
  obtain ⟨rfl, hsz, hP, hK, hD0, hN⟩ := hv
  have hx := B.exec
  have hb := B.bytes
  have hr := B.returns
  have hts := atoms_spec (ws := wp_k_refuse) B.pre
  have hin_X6 : ∀ w ∈ wsX60, w ∈ wp_k_refuse := fun _ h => (List.mem_cons_of_mem _ (List.mem_append_right _ (List.mem_append_right _ (List.mem_append_left _ h))))
  have hin_X8 : ∀ w ∈ wsX80, w ∈ wp_k_refuse := fun _ h => (List.mem_cons_of_mem _ (List.mem_append_right _ (List.mem_append_right _ (List.mem_append_right _ (List.mem_append_left _ h)))))
  have hown : s.vm.findClass RX6 = some m.cls := findClass_of_methodNamed B.named
  have hlocks := B.notSynchronized
  subst hsz
  have hD := hD0.self (sz := s.heap.size)
  generalize hAe : va_A [(oq 0, .inr (6, gPs oq qf qp qd qs qt qb qh qr qn (nI bk) (nI wz))), (oq 6, .inl (cI, 5, .inl fO)), (oq 7, .inl (cI, 600, .inl fW)), (oq 1, .inr (7, [.int (nI pz), .ref (oq 2), .ref (oq 3), .ref (oq 4)])), (oq 2, .inl (cI, 600, .inl fK)), (oq 3, .inl (cI, 600, .inl fN)), (oq 4, .inl (cI, 600, .inl fL)), (oq 5, .inr (8, [tx, .int zl, .int ta, .int be, .int ki, .int nu, .int wo]))] s.heap.size = A at hD ⊢
  have hA : ∀ q : Nat, s.heap.size ≤ q → A q := fun q h => by rw [← hAe]; exact Or.inr h
  have hS : va_S A s.heap s.heap [] := va_S.rf
  have hP : va_P D vwCl [(oq 0, .inr (6, gPs oq qf qp qd qs qt qb qh qr qn (nI bk) (nI wz))), (oq 6, .inl (cI, 5, .inl fO)), (oq 7, .inl (cI, 600, .inl fW)), (oq 1, .inr (7, [.int (nI pz), .ref (oq 2), .ref (oq 3), .ref (oq 4)])), (oq 2, .inl (cI, 600, .inl fK)), (oq 3, .inl (cI, 600, .inl fN)), (oq 4, .inl (cI, 600, .inl fL)), (oq 5, .inr (8, [tx, .int zl, .int ta, .int be, .int ki, .int nu, .int wo]))] s.heap := hP
  have hl := lv_entry ([.ref (oq 0)]) (n := 1) (Nat.le_of_ble_eq_true rfl)
  rw [lg_entry_eq]
  generalize (lg_sl ([.ref (oq 0)]) ++ List.replicate (1 - (lg_sl ([.ref (oq 0)])).length) Slot.unset).toArray = ls at hl ⊢
  have hl : lv_has ls 1 [(0, .ref (oq 0))] := hl
  refine lv_aload_n hx hb dX6_refuse_0 rfl (lv_at hl 0 rfl) ?_
  refine lv_iconst (v := 1) hx hb dX6_refuse_1 (by decide) ?_
  refine lv_aload_n hx hb dX6_refuse_2 rfl (lv_at hl 0 rfl) ?_
  refine va_get (D := D) (ci := 6) (v := .ref (oq 5)) (C := RX6) (T := TX6) (N := 15) hx hb hts hin_X6 hown hK hP 0 rfl rfl 4 (by decide) (hts (.fieldLink RX6 21 "ClashFree$Parser" "scan" "LClashFree$Scanner;") (List.mem_of_getElem? (i := 1) rfl)) (fun _ h9 => h9) rfl dX6_refuse_3 ?_
  refine va_get (D := D) (ci := 8) (v := .int ta) (C := RX8) (T := TX8) (N := 7) hx hb hts hin_X8 hown hK hP 7 rfl rfl 2 (by decide) (hts (.fieldLink RX6 79 "ClashFree$Scanner" "at" "I") (List.mem_of_getElem? (i := 2) rfl)) (fun _ h9 => h9) rfl dX6_refuse_6 ?_
  have hPc := hP.sub (ws' := [(oq 0, .inr (6, gPs oq qf qp qd qs qt qb qh qr qn (nI bk) (nI wz))), (oq 6, .inl (cI, 5, .inl fO)), (oq 7, .inl (cI, 600, .inl fW)), (oq 1, .inr (7, [.int (nI pz), .ref (oq 2), .ref (oq 3), .ref (oq 4)])), (oq 2, .inl (cI, 600, .inl fK)), (oq 3, .inl (cI, 600, .inl fN)), (oq 4, .inl (cI, 600, .inl fL)), (oq 5, .inr (8, [tx, .int zl, .int ta, .int be, .int ki, .int nu, .int wo]))]) [0, 1, 2, 3, 4, 5, 6, 7] rfl
  have hKc := hK.sub (tys' := [(cI, .int)]) [0] rfl
  have hDc := hD.sub (ws' := [(oq 0, .inr (6, gPs oq qf qp qd qs qt qb qh qr qn (nI bk) (nI wz))), (oq 6, .inl (cI, 5, .inl fO)), (oq 7, .inl (cI, 600, .inl fW)), (oq 1, .inr (7, [.int (nI pz), .ref (oq 2), .ref (oq 3), .ref (oq 4)])), (oq 2, .inl (cI, 600, .inl fK)), (oq 3, .inl (cI, 600, .inl fN)), (oq 4, .inl (cI, 600, .inl fL)), (oq 5, .inr (8, [tx, .int zl, .int ta, .int be, .int ki, .int nu, .int wo]))]) [0, 1, 2, 3, 4, 5, 6, 7] (by decide) rfl
  have hFc := va_free (wc := [(oq 0, .inr (6, gPs oq qf qp qd qs qt qb qh qr qn (nI bk) (nI wz))), (oq 6, .inl (cI, 5, .inl fO)), (oq 7, .inl (cI, 600, .inl fW)), (oq 1, .inr (7, [.int (nI pz), .ref (oq 2), .ref (oq 3), .ref (oq 4)])), (oq 2, .inl (cI, 600, .inl fK)), (oq 3, .inl (cI, 600, .inl fN)), (oq 4, .inl (cI, 600, .inl fL)), (oq 5, .inr (8, [tx, .int zl, .int ta, .int be, .int ki, .int nu, .int wo]))]) hD hS hA [0, 1, 2, 3, 4, 5, 6, 7] rfl
  refine va_callv (va_runV (As := [.int 1, .int ta]) (rest := []) ⟨hx, hb, hml, hown, hts⟩ (k_note l D _ oq cI qf qp qd qs qt qb qh qr qn bk wz fO fW pz fK fN fL tx zl ta be ki nu wo 1 ta hbk hwz hpz) (cwV 2 hts g_k_refuse_k_note_55 rfl rfl rfl (by decide +kernel) ⟨(Nat.le_of_ble_eq_true rfl), (Nat.le_of_ble_eq_true rfl)⟩) (PcWC_V (q0 := 0) hPc hKc hDc hN rfl rfl) rfl rfl hl.1 rfl (lv_room (Nat.le_of_ble_eq_true rfl)) dX6_refuse_9 ⟨(Nat.le_of_ble_eq_true rfl), (Nat.le_of_ble_eq_true rfl)⟩) hS (fun q _ h => hFc q h) hFc (fun uu tt H locs htt hvm hw hB hz1 hk1 hS => ?_)
  obtain ⟨w2, w3, w4, w5, w6, w7, w8, w9, w10, w11, w12, w13, w14, w15, w16, w17, w18⟩ := uu
  obtain ⟨hP1, hK1, hD1⟩ := hB
  rw [htt] at hP1
  have hK1 := va_K.moved hvm.symm hK1
  have hP1 : va_P D vwCl [(oq 0, .inr (6, gPs oq w2 w3 w4 w5 w6 w7 w8 w9 w10 (nI w11) (nI w12))), (oq 6, .inl (cI, 5, .inl w13)), (oq 7, .inl (cI, 600, .inl w14)), (oq 1, .inr (7, [.int (nI w15), .ref (oq 2), .ref (oq 3), .ref (oq 4)])), (oq 2, .inl (cI, 600, .inl w16)), (oq 3, .inl (cI, 600, .inl w17)), (oq 4, .inl (cI, 600, .inl w18)), (oq 5, .inr (8, [tx, .int zl, .int ta, .int be, .int ki, .int nu, .int wo]))] H := hP1
  obtain ⟨hP, hD⟩ := va_join (wr := []) (w1 := [(oq 0, .inr (6, gPs oq w2 w3 w4 w5 w6 w7 w8 w9 w10 (nI w11) (nI w12))), (oq 6, .inl (cI, 5, .inl w13)), (oq 7, .inl (cI, 600, .inl w14)), (oq 1, .inr (7, [.int (nI w15), .ref (oq 2), .ref (oq 3), .ref (oq 4)])), (oq 2, .inl (cI, 600, .inl w16)), (oq 3, .inl (cI, 600, .inl w17)), (oq 4, .inl (cI, 600, .inl w18)), (oq 5, .inr (8, [tx, .int zl, .int ta, .int be, .int ki, .int nu, .int wo]))]) hP hD [0, 1, 2, 3, 4, 5, 6, 7] [] rfl rfl (by decide) (by decide) hk1 hFc hP1 hD1
  have hP : va_P D vwCl [(oq 0, .inr (6, gPs oq w2 w3 w4 w5 w6 w7 w8 w9 w10 (nI w11) (nI w12))), (oq 6, .inl (cI, 5, .inl w13)), (oq 7, .inl (cI, 600, .inl w14)), (oq 1, .inr (7, [.int (nI w15), .ref (oq 2), .ref (oq 3), .ref (oq 4)])), (oq 2, .inl (cI, 600, .inl w16)), (oq 3, .inl (cI, 600, .inl w17)), (oq 4, .inl (cI, 600, .inl w18)), (oq 5, .inr (8, [tx, .int zl, .int ta, .int be, .int ki, .int nu, .int wo]))] H := hP
  have hD : va_D A [(oq 0, .inr (6, gPs oq w2 w3 w4 w5 w6 w7 w8 w9 w10 (nI w11) (nI w12))), (oq 6, .inl (cI, 5, .inl w13)), (oq 7, .inl (cI, 600, .inl w14)), (oq 1, .inr (7, [.int (nI w15), .ref (oq 2), .ref (oq 3), .ref (oq 4)])), (oq 2, .inl (cI, 600, .inl w16)), (oq 3, .inl (cI, 600, .inl w17)), (oq 4, .inl (cI, 600, .inl w18)), (oq 5, .inr (8, [tx, .int zl, .int ta, .int be, .int ki, .int nu, .int wo]))] := hD
  try dsimp only at hw
  clear hz1 hk1 hFc hPc hKc hDc
  obtain ⟨hx19_1, hx19_2, hx19_3⟩ := hw
  refine lv_aload_n hx hb dX6_refuse_12 rfl (lv_at hl 0 rfl) ?_
  refine lv_iconst (v := 0) hx hb dX6_refuse_13 (by decide) ?_
  refine va_put (D := D) (ci := 6) (v := .int 0) (ty := .boolean) (C := RX6) (T := TX6) (N := 15) hx hb hts hin_X6 tyX6 tyX6_ok nmX6 hown hK hP hD hS 0 rfl rfl 8 (by decide) (hts (.fieldLink RX6 42 "ClashFree$Parser" "heading" "Z") (List.mem_of_getElem? (i := 7) rfl)) (fun _ h9 => h9) rfl (by decide +kernel) rfl rfl (Nat.le_of_ble_eq_true rfl) dX6_refuse_14 (fun H locs hP hD hS => ?_)
  have hP : va_P D vwCl [(oq 0, .inr (6, gPs oq w2 w3 w4 w5 w6 w7 0 w9 w10 (nI w11) (nI w12))), (oq 6, .inl (cI, 5, .inl w13)), (oq 7, .inl (cI, 600, .inl w14)), (oq 1, .inr (7, [.int (nI w15), .ref (oq 2), .ref (oq 3), .ref (oq 4)])), (oq 2, .inl (cI, 600, .inl w16)), (oq 3, .inl (cI, 600, .inl w17)), (oq 4, .inl (cI, 600, .inl w18)), (oq 5, .inr (8, [tx, .int zl, .int ta, .int be, .int ki, .int nu, .int wo]))] H := hP
  have hD : va_D A [(oq 0, .inr (6, gPs oq w2 w3 w4 w5 w6 w7 0 w9 w10 (nI w11) (nI w12))), (oq 6, .inl (cI, 5, .inl w13)), (oq 7, .inl (cI, 600, .inl w14)), (oq 1, .inr (7, [.int (nI w15), .ref (oq 2), .ref (oq 3), .ref (oq 4)])), (oq 2, .inl (cI, 600, .inl w16)), (oq 3, .inl (cI, 600, .inl w17)), (oq 4, .inl (cI, 600, .inl w18)), (oq 5, .inr (8, [tx, .int zl, .int ta, .int be, .int ki, .int nu, .int wo]))] := hD
  exact W.vret hx hb hr (fun t ht hW => ⟨⟨(w2, w3, w4, w5, w6, w7, 0, w9, w10, w11, w12, w13, w14, w15, w16, w17, w18), rfl, (by (try dsimp only); first | done | exact ⟨by omega, by omega, by omega⟩), by rw [ht]; exact hP.sub [0, 1, 2, 3, 4, 5, 6, 7] rfl, va_K.moved hW.alike (hK.sub [0] rfl), hD.sub [0, 1, 2, 3, 4, 5, 6, 7] (by decide) rfl⟩, hS.F ht⟩) hS.2.2 dX6_refuse_17

def own_k_strength : List Cond := []
def wp_k_strength : List Cond := .code yX6_strength cX6_strength 1 (some .int) :: (own_k_strength ++ ([] : List Cond))
set_option maxRecDepth 20000 in
theorem inown_k_strength : ∀ w ∈ own_k_strength, w ∈ lw_tbl := mem_places [] (by decide +kernel)
set_option maxRecDepth 20000 in
theorem in_k_strength : ∀ w ∈ wp_k_strength, w ∈ lw_tbl := List.forall_mem_cons.mpr ⟨List.mem_of_getElem? (i := 1061) (by decide +kernel), List.forall_mem_append.mpr ⟨inown_k_strength, fun _ h => absurd h List.not_mem_nil⟩⟩
set_option maxRecDepth 20000 in
theorem good_k_strength : wp_k_strength.all goodWord = true := by decide +kernel
set_option maxHeartbeats 4000000 in
set_option maxRecDepth 100000 in
theorem k_strength (l : Launch) (D : va_G) (sz : Nat) (cI : ClassId) (z1 : Int32)  : Met l yX6_strength wp_k_strength ({ frames := 0, cells := 0, slots := 0, locals := 0 }) (PcRC D [.int z1] sz [] []) (va_Qi (fun (r : Int32) (u : Unit) => True) (fun (_ : Unit) _ => True) (va_A [] sz)) 0 0 (va_A [] sz) := by
  refine Met.ofW (cc := cX6_strength) (maxL := 1) (ret := (some .int)) (by decide) rfl ?_
  intro p e s m args below meth c s₁ B hml hv
  obtain ⟨rfl, hsz, hP, hK, hN⟩ := hv
  have hx := B.exec
  have hb := B.bytes
  have hr := B.returns
  have hts := atoms_spec (ws := wp_k_strength) B.pre
  have hown : s.vm.findClass RX6 = some m.cls := findClass_of_methodNamed B.named
  have hlocks := B.notSynchronized
  subst hsz
  generalize hAe : va_A [] s.heap.size = A at ⊢
  have hA : ∀ q : Nat, s.heap.size ≤ q → A q := fun q h => by rw [← hAe]; exact Or.inr h
  have hS : va_S A s.heap s.heap [] := va_S.rf
  have hP : va_P D vwCl [] s.heap := hP
  have hl := lv_entry ([.int z1]) (n := 1) (Nat.le_of_ble_eq_true rfl)
  rw [lg_entry_eq]
  generalize (lg_sl ([.int z1]) ++ List.replicate (1 - (lg_sl ([.int z1])).length) Slot.unset).toArray = ls at hl ⊢
  have hl : lv_has ls 1 [(0, .int z1)] := hl
  refine lv_iload_n hx hb dX6_strength_0 rfl (lv_at hl 0 rfl) ?_
  by_cases hs1 : z1 = 37
  ·
    subst hs1
    refine lv_tableIn (off := 61) (tgt := 62) hx hb dX6_strength_1 (by decide) (by decide) (by decide +kernel) (by decide) ?_
    refine lv_iconst (v := 2) hx hb dX6_strength_62 (by decide) ?_
    exact W.iret (v := 2) hx hb hr (fun t ht hW => ⟨⟨2, (), rfl, trivial, trivial⟩, hS.F ht⟩) hS.2.2 dX6_strength_63
  by_cases hs2 : z1 = 38
  ·
    subst hs2
    refine lv_tableIn (off := 63) (tgt := 64) hx hb dX6_strength_1 (by decide) (by decide) (by decide +kernel) (by decide) ?_
    refine lv_iconst (v := 0) hx hb dX6_strength_64 (by decide) ?_
    exact W.iret (v := 0) hx hb hr (fun t ht hW => ⟨⟨0, (), rfl, trivial, trivial⟩, hS.F ht⟩) hS.2.2 dX6_strength_65
  by_cases hs3 : z1 = 39
  ·
    subst hs3
    refine lv_tableIn (off := 63) (tgt := 64) hx hb dX6_strength_1 (by decide) (by decide) (by decide +kernel) (by decide) ?_
    refine lv_iconst (v := 0) hx hb dX6_strength_64 (by decide) ?_
    exact W.iret (v := 0) hx hb hr (fun t ht hW => ⟨⟨0, (), rfl, trivial, trivial⟩, hS.F ht⟩) hS.2.2 dX6_strength_65
  by_cases hs4 : z1 = 40
  ·
    subst hs4
    refine lv_tableIn (off := 63) (tgt := 64) hx hb dX6_strength_1 (by decide) (by decide) (by decide +kernel) (by decide) ?_
    refine lv_iconst (v := 0) hx hb dX6_strength_64 (by decide) ?_
    exact W.iret (v := 0) hx hb hr (fun t ht hW => ⟨⟨0, (), rfl, trivial, trivial⟩, hS.F ht⟩) hS.2.2 dX6_strength_65
  by_cases hs5 : z1 = 41
  ·
    subst hs5
    refine lv_tableIn (off := 63) (tgt := 64) hx hb dX6_strength_1 (by decide) (by decide) (by decide +kernel) (by decide) ?_
    refine lv_iconst (v := 0) hx hb dX6_strength_64 (by decide) ?_
    exact W.iret (v := 0) hx hb hr (fun t ht hW => ⟨⟨0, (), rfl, trivial, trivial⟩, hS.F ht⟩) hS.2.2 dX6_strength_65
  by_cases hs6 : z1 = 42
  ·
    subst hs6
    refine lv_tableIn (off := 61) (tgt := 62) hx hb dX6_strength_1 (by decide) (by decide) (by decide +kernel) (by decide) ?_
    refine lv_iconst (v := 2) hx hb dX6_strength_62 (by decide) ?_
    exact W.iret (v := 2) hx hb hr (fun t ht hW => ⟨⟨2, (), rfl, trivial, trivial⟩, hS.F ht⟩) hS.2.2 dX6_strength_63
  by_cases hs7 : z1 = 43
  ·
    subst hs7
    refine lv_tableIn (off := 59) (tgt := 60) hx hb dX6_strength_1 (by decide) (by decide) (by decide +kernel) (by decide) ?_
    refine lv_iconst (v := 1) hx hb dX6_strength_60 (by decide) ?_
    exact W.iret (v := 1) hx hb hr (fun t ht hW => ⟨⟨1, (), rfl, trivial, trivial⟩, hS.F ht⟩) hS.2.2 dX6_strength_61
  by_cases hs8 : z1 = 44
  ·
    subst hs8
    refine lv_tableIn (off := 63) (tgt := 64) hx hb dX6_strength_1 (by decide) (by decide) (by decide +kernel) (by decide) ?_
    refine lv_iconst (v := 0) hx hb dX6_strength_64 (by decide) ?_
    exact W.iret (v := 0) hx hb hr (fun t ht hW => ⟨⟨0, (), rfl, trivial, trivial⟩, hS.F ht⟩) hS.2.2 dX6_strength_65
  by_cases hs9 : z1 = 45
  ·
    subst hs9
    refine lv_tableIn (off := 59) (tgt := 60) hx hb dX6_strength_1 (by decide) (by decide) (by decide +kernel) (by decide) ?_
    refine lv_iconst (v := 1) hx hb dX6_strength_60 (by decide) ?_
    exact W.iret (v := 1) hx hb hr (fun t ht hW => ⟨⟨1, (), rfl, trivial, trivial⟩, hS.F ht⟩) hS.2.2 dX6_strength_61
  by_cases hs10 : z1 = 46
  ·
    subst hs10
    refine lv_tableIn (off := 63) (tgt := 64) hx hb dX6_strength_1 (by decide) (by decide) (by decide +kernel) (by decide) ?_
    refine lv_iconst (v := 0) hx hb dX6_strength_64 (by decide) ?_
    exact W.iret (v := 0) hx hb hr (fun t ht hW => ⟨⟨0, (), rfl, trivial, trivial⟩, hS.F ht⟩) hS.2.2 dX6_strength_65
  by_cases hs11 : z1 = 47
  ·
    subst hs11
    refine lv_tableIn (off := 61) (tgt := 62) hx hb dX6_strength_1 (by decide) (by decide) (by decide +kernel) (by decide) ?_
    refine lv_iconst (v := 2) hx hb dX6_strength_62 (by decide) ?_
    exact W.iret (v := 2) hx hb hr (fun t ht hW => ⟨⟨2, (), rfl, trivial, trivial⟩, hS.F ht⟩) hS.2.2 dX6_strength_63
  refine lv_tableOut (tgt := 64) hx hb dX6_strength_1 (by have a0 := sw_ne (n := 37) hs1 (by decide) (by decide); have a1 := sw_ne (n := 38) hs2 (by decide) (by decide); have a2 := sw_ne (n := 39) hs3 (by decide) (by decide); have a3 := sw_ne (n := 40) hs4 (by decide) (by decide); have a4 := sw_ne (n := 41) hs5 (by decide) (by decide); have a5 := sw_ne (n := 42) hs6 (by decide) (by decide); have a6 := sw_ne (n := 43) hs7 (by decide) (by decide); have a7 := sw_ne (n := 44) hs8 (by decide) (by decide); have a8 := sw_ne (n := 45) hs9 (by decide) (by decide); have a9 := sw_ne (n := 46) hs10 (by decide) (by decide); have a10 := sw_ne (n := 47) hs11 (by decide) (by decide); omega) (by decide) ?_
  refine lv_iconst (v := 0) hx hb dX6_strength_64 (by decide) ?_
  exact W.iret (v := 0) hx hb hr (fun t ht hW => ⟨⟨0, (), rfl, trivial, trivial⟩, hS.F ht⟩) hS.2.2 dX6_strength_65

def own_k_await : List Cond := [.fieldLink RX6 52 "ClashFree$Parser" "waitingSize" "I", .fieldLink RX6 29 "ClashFree$Parser" "waiting" "[I"]
def wp_k_await : List Cond := .code yX6_await cX6_await 2 none :: (own_k_await ++ (wsX60 ++ ([] : List Cond)))
set_option maxRecDepth 20000 in
theorem inown_k_await : ∀ w ∈ own_k_await, w ∈ lw_tbl := mem_places [344, 345] (by decide +kernel)
set_option maxRecDepth 20000 in
theorem in_k_await : ∀ w ∈ wp_k_await, w ∈ lw_tbl := List.forall_mem_cons.mpr ⟨List.mem_of_getElem? (i := 1054) (by decide +kernel), List.forall_mem_append.mpr ⟨inown_k_await, List.forall_mem_append.mpr ⟨lwb_X6, fun _ h => absurd h List.not_mem_nil⟩⟩⟩
set_option maxRecDepth 20000 in
theorem good_k_await : wp_k_await.all goodWord = true := by decide +kernel
set_option maxHeartbeats 4000000 in
set_option maxRecDepth 100000 in
theorem k_await (l : Launch) (D : va_G) (sz : Nat) (oq : Nat → Nat) (cI : ClassId) (qf : Int32) (qp : Int32) (qd : Int32) (qs : Int32) (qt : Int32) (qb : Int32) (qh : Int32) (qr : Int32) (qn : Int32) (bk : Nat) (wz : Nat) (fO : Nat → Int32) (fW : Nat → Int32) (pz : Nat) (fK : Nat → Int32) (fN : Nat → Int32) (fL : Nat → Int32) (tx : Value) (zl : Int32) (ta : Int32) (be : Int32) (ki : Int32) (nu : Int32) (wo : Int32) (z1 : Int32) (hbk : bk ≤ 5) (hwz : wz ≤ 600) (hpz : pz ≤ 600) : Met l yX6_await wp_k_await ({ frames := 0, cells := 0, slots := 0, locals := 0 }) (PcWC D [.ref (oq 0), .int z1] sz [(oq 0, .inr (6, gPs oq qf qp qd qs qt qb qh qr qn (nI bk) (nI wz))), (oq 6, .inl (cI, 5, .inl fO)), (oq 7, .inl (cI, 600, .inl fW)), (oq 1, .inr (7, [.int (nI pz), .ref (oq 2), .ref (oq 3), .ref (oq 4)])), (oq 2, .inl (cI, 600, .inl fK)), (oq 3, .inl (cI, 600, .inl fN)), (oq 4, .inl (cI, 600, .inl fL)), (oq 5, .inr (8, [tx, .int zl, .int ta, .int be, .int ki, .int nu, .int wo]))] [(cI, .int)]) (va_Qv (fun (u : (Int32) × (Int32) × (Int32) × (Int32) × (Int32) × (Int32) × (Int32) × (Int32) × (Int32) × (Nat) × (Nat) × (Nat → Int32) × (Nat → Int32) × (Nat) × (Nat → Int32) × (Nat → Int32) × (Nat → Int32)) => u.2.2.2.2.2.2.2.2.2.1 ≤ 5 ∧ u.2.2.2.2.2.2.2.2.2.2.1 ≤ 600 ∧ u.2.2.2.2.2.2.2.2.2.2.2.2.2.1 ≤ 600) (fun (u : (Int32) × (Int32) × (Int32) × (Int32) × (Int32) × (Int32) × (Int32) × (Int32) × (Int32) × (Nat) × (Nat) × (Nat → Int32) × (Nat → Int32) × (Nat) × (Nat → Int32) × (Nat → Int32) × (Nat → Int32)) t => va_P D vwCl [(oq 0, .inr (6, gPs oq u.1 u.2.1 u.2.2.1 u.2.2.2.1 u.2.2.2.2.1 u.2.2.2.2.2.1 u.2.2.2.2.2.2.1 u.2.2.2.2.2.2.2.1 u.2.2.2.2.2.2.2.2.1 (nI u.2.2.2.2.2.2.2.2.2.1) (nI u.2.2.2.2.2.2.2.2.2.2.1))), (oq 6, .inl (cI, 5, .inl u.2.2.2.2.2.2.2.2.2.2.2.1)), (oq 7, .inl (cI, 600, .inl u.2.2.2.2.2.2.2.2.2.2.2.2.1)), (oq 1, .inr (7, [.int (nI u.2.2.2.2.2.2.2.2.2.2.2.2.2.1), .ref (oq 2), .ref (oq 3), .ref (oq 4)])), (oq 2, .inl (cI, 600, .inl u.2.2.2.2.2.2.2.2.2.2.2.2.2.2.1)), (oq 3, .inl (cI, 600, .inl u.2.2.2.2.2.2.2.2.2.2.2.2.2.2.2.1)), (oq 4, .inl (cI, 600, .inl u.2.2.2.2.2.2.2.2.2.2.2.2.2.2.2.2)), (oq 5, .inr (8, [tx, .int zl, .int ta, .int be, .int ki, .int nu, .int wo]))] t.heap ∧ va_K D vwCl [(cI, .int)] t ∧ va_D (va_A [(oq 0, .inr (6, gPs oq qf qp qd qs qt qb qh qr qn (nI bk) (nI wz))), (oq 6, .inl (cI, 5, .inl fO)), (oq 7, .inl (cI, 600, .inl fW)), (oq 1, .inr (7, [.int (nI pz), .ref (oq 2), .ref (oq 3), .ref (oq 4)])), (oq 2, .inl (cI, 600, .inl fK)), (oq 3, .inl (cI, 600, .inl fN)), (oq 4, .inl (cI, 600, .inl fL)), (oq 5, .inr (8, [tx, .int zl, .int ta, .int be, .int ki, .int nu, .int wo]))] sz) [(oq 0, .inr (6, gPs oq u.1 u.2.1 u.2.2.1 u.2.2.2.1 u.2.2.2.2.1 u.2.2.2.2.2.1 u.2.2.2.2.2.2.1 u.2.2.2.2.2.2.2.1 u.2.2.2.2.2.2.2.2.1 (nI u.2.2.2.2.2.2.2.2.2.1) (nI u.2.2.2.2.2.2.2.2.2.2.1))), (oq 6, .inl (cI, 5, .inl u.2.2.2.2.2.2.2.2.2.2.2.1)), (oq 7, .inl (cI, 600, .inl u.2.2.2.2.2.2.2.2.2.2.2.2.1)), (oq 1, .inr (7, [.int (nI u.2.2.2.2.2.2.2.2.2.2.2.2.2.1), .ref (oq 2), .ref (oq 3), .ref (oq 4)])), (oq 2, .inl (cI, 600, .inl u.2.2.2.2.2.2.2.2.2.2.2.2.2.2.1)), (oq 3, .inl (cI, 600, .inl u.2.2.2.2.2.2.2.2.2.2.2.2.2.2.2.1)), (oq 4, .inl (cI, 600, .inl u.2.2.2.2.2.2.2.2.2.2.2.2.2.2.2.2)), (oq 5, .inr (8, [tx, .int zl, .int ta, .int be, .int ki, .int nu, .int wo]))]) (va_A [(oq 0, .inr (6, gPs oq qf qp qd qs qt qb qh qr qn (nI bk) (nI wz))), (oq 6, .inl (cI, 5, .inl fO)), (oq 7, .inl (cI, 600, .inl fW)), (oq 1, .inr (7, [.int (nI pz), .ref (oq 2), .ref (oq 3), .ref (oq 4)])), (oq 2, .inl (cI, 600, .inl fK)), (oq 3, .inl (cI, 600, .inl fN)), (oq 4, .inl (cI, 600, .inl fL)), (oq 5, .inr (8, [tx, .int zl, .int ta, .int be, .int ki, .int nu, .int wo]))] sz)) 0 0 (va_A [(oq 0, .inr (6, gPs oq qf qp qd qs qt qb qh qr qn (nI bk) (nI wz))), (oq 6, .inl (cI, 5, .inl fO)), (oq 7, .inl (cI, 600, .inl fW)), (oq 1, .inr (7, [.int (nI pz), .ref (oq 2), .ref (oq 3), .ref (oq 4)])), (oq 2, .inl (cI, 600, .inl fK)), (oq 3, .inl (cI, 600, .inl fN)), (oq 4, .inl (cI, 600, .inl fL)), (oq 5, .inr (8, [tx, .int zl, .int ta, .int be, .int ki, .int nu, .int wo]))] sz) := by
  refine Met.ofW (cc := cX6_await) (maxL := 2) (ret := none) (by decide) rfl ?_
  intro p e s m args below meth c s₁ B hml hv
  obtain ⟨rfl, hsz, hP, hK, hD0, hN⟩ := hv
  have hx := B.exec
  have hb := B.bytes
  have hr := B.returns
  have hts := atoms_spec (ws := wp_k_await) B.pre
  have hin_X6 : ∀ w ∈ wsX60, w ∈ wp_k_await := fun _ h => (List.mem_cons_of_mem _ (List.mem_append_right _ (List.mem_append_left _ h)))
  have hown : s.vm.findClass RX6 = some m.cls := findClass_of_methodNamed B.named
  have hlocks := B.notSynchronized
  subst hsz
  have hD := hD0.self (sz := s.heap.size)
  generalize hAe : va_A [(oq 0, .inr (6, gPs oq qf qp qd qs qt qb qh qr qn (nI bk) (nI wz))), (oq 6, .inl (cI, 5, .inl fO)), (oq 7, .inl (cI, 600, .inl fW)), (oq 1, .inr (7, [.int (nI pz), .ref (oq 2), .ref (oq 3), .ref (oq 4)])), (oq 2, .inl (cI, 600, .inl fK)), (oq 3, .inl (cI, 600, .inl fN)), (oq 4, .inl (cI, 600, .inl fL)), (oq 5, .inr (8, [tx, .int zl, .int ta, .int be, .int ki, .int nu, .int wo]))] s.heap.size = A at hD ⊢
  have hA : ∀ q : Nat, s.heap.size ≤ q → A q := fun q h => by rw [← hAe]; exact Or.inr h
  have hS : va_S A s.heap s.heap [] := va_S.rf
  have hP : va_P D vwCl [(oq 0, .inr (6, gPs oq qf qp qd qs qt qb qh qr qn (nI bk) (nI wz))), (oq 6, .inl (cI, 5, .inl fO)), (oq 7, .inl (cI, 600, .inl fW)), (oq 1, .inr (7, [.int (nI pz), .ref (oq 2), .ref (oq 3), .ref (oq 4)])), (oq 2, .inl (cI, 600, .inl fK)), (oq 3, .inl (cI, 600, .inl fN)), (oq 4, .inl (cI, 600, .inl fL)), (oq 5, .inr (8, [tx, .int zl, .int ta, .int be, .int ki, .int nu, .int wo]))] s.heap := hP
  have hl := lv_entry ([.ref (oq 0), .int z1]) (n := 2) (Nat.le_of_ble_eq_true rfl)
  rw [lg_entry_eq]
  generalize (lg_sl ([.ref (oq 0), .int z1]) ++ List.replicate (2 - (lg_sl ([.ref (oq 0), .int z1])).length) Slot.unset).toArray = ls at hl ⊢
  have hl : lv_has ls 2 [(0, .ref (oq 0)), (1, .int z1)] := hl
  refine lv_aload_n hx hb dX6_await_0 rfl (lv_at hl 0 rfl) ?_
  refine va_get (D := D) (ci := 6) (v := .int (nI wz)) (C := RX6) (T := TX6) (N := 15) hx hb hts hin_X6 hown hK hP 0 rfl rfl 13 (by decide) (hts (.fieldLink RX6 52 "ClashFree$Parser" "waitingSize" "I") (List.mem_of_getElem? (i := 1) rfl)) (fun _ h9 => h9) rfl dX6_await_1 ?_
  refine lv_aload_n hx hb dX6_await_4 rfl (lv_at hl 0 rfl) ?_
  refine va_get (D := D) (ci := 6) (v := .ref (oq 7)) (C := RX6) (T := TX6) (N := 15) hx hb hts hin_X6 hown hK hP 0 rfl rfl 14 (by decide) (hts (.fieldLink RX6 29 "ClashFree$Parser" "waiting" "[I") (List.mem_of_getElem? (i := 2) rfl)) (fun _ h9 => h9) rfl dX6_await_5 ?_
  refine va_alen (v := 600) hx hb hK hP 2 0 rfl rfl rfl dX6_await_8 ?_
  refine lv_icmp_ge (tgt := 32) hx hb dX6_await_9 (by decide) (fun hc1 => ?_) (fun hc1 => ?_)
  ·
    have hlt : 600 ≤ wz := (nI_leI (by omega) (by omega)).mp hc1
    exact W.vret hx hb hr (fun t ht hW => ⟨⟨(qf, qp, qd, qs, qt, qb, qh, qr, qn, bk, wz, fO, fW, pz, fK, fN, fL), rfl, (by (try dsimp only); first | done | exact ⟨by omega, by omega, by omega⟩), by rw [ht]; exact hP.sub [0, 1, 2, 3, 4, 5, 6, 7] rfl, va_K.moved hW.alike (hK.sub [0] rfl), hD.sub [0, 1, 2, 3, 4, 5, 6, 7] (by decide) rfl⟩, hS.F ht⟩) hS.2.2 dX6_await_32
  ·
    have hlt : wz < 600 := by
      rcases Nat.lt_or_ge wz (600) with z | z
      · exact z
      · exact absurd (nI_le z (by omega)) hc1
    refine lv_aload_n hx hb dX6_await_12 rfl (lv_at hl 0 rfl) ?_
    refine va_get (D := D) (ci := 6) (v := .ref (oq 7)) (C := RX6) (T := TX6) (N := 15) hx hb hts hin_X6 hown hK hP 0 rfl rfl 14 (by decide) (hts (.fieldLink RX6 29 "ClashFree$Parser" "waiting" "[I") (List.mem_of_getElem? (i := 2) rfl)) (fun _ h9 => h9) rfl dX6_await_13 ?_
    refine lv_aload_n hx hb dX6_await_16 rfl (lv_at hl 0 rfl) ?_
    refine va_get (D := D) (ci := 6) (v := .int (nI wz)) (C := RX6) (T := TX6) (N := 15) hx hb hts hin_X6 hown hK hP 0 rfl rfl 13 (by decide) (hts (.fieldLink RX6 52 "ClashFree$Parser" "waitingSize" "I") (List.mem_of_getElem? (i := 1) rfl)) (fun _ h9 => h9) rfl dX6_await_17 ?_
    refine lv_iload_n hx hb dX6_await_20 rfl (lv_at hl 1 rfl) ?_
    refine va_iast hx hb hK hP hD hS 2 0 rfl rfl (vp_in_nI (by omega) (by decide)) dX6_await_21 (fun H locs hP hD hS => ?_)
    have hP : va_P D vwCl [(oq 0, .inr (6, gPs oq qf qp qd qs qt qb qh qr qn (nI bk) (nI wz))), (oq 6, .inl (cI, 5, .inl fO)), (oq 7, .inl (cI, 600, .inl (upd fW (Int32.toNatClampNeg (nI wz)) z1))), (oq 1, .inr (7, [.int (nI pz), .ref (oq 2), .ref (oq 3), .ref (oq 4)])), (oq 2, .inl (cI, 600, .inl fK)), (oq 3, .inl (cI, 600, .inl fN)), (oq 4, .inl (cI, 600, .inl fL)), (oq 5, .inr (8, [tx, .int zl, .int ta, .int be, .int ki, .int nu, .int wo]))] H := hP
    have hD : va_D A [(oq 0, .inr (6, gPs oq qf qp qd qs qt qb qh qr qn (nI bk) (nI wz))), (oq 6, .inl (cI, 5, .inl fO)), (oq 7, .inl (cI, 600, .inl (upd fW (Int32.toNatClampNeg (nI wz)) z1))), (oq 1, .inr (7, [.int (nI pz), .ref (oq 2), .ref (oq 3), .ref (oq 4)])), (oq 2, .inl (cI, 600, .inl fK)), (oq 3, .inl (cI, 600, .inl fN)), (oq 4, .inl (cI, 600, .inl fL)), (oq 5, .inr (8, [tx, .int zl, .int ta, .int be, .int ki, .int nu, .int wo]))] := hD
    generalize upd fW (Int32.toNatClampNeg (nI wz)) z1 = g2 at hP hD
    refine lv_aload_n hx hb dX6_await_22 rfl (lv_at hl 0 rfl) ?_
    refine lv_dup hx hb dX6_await_23 rfl ?_
    refine va_get (D := D) (ci := 6) (v := .int (nI wz)) (C := RX6) (T := TX6) (N := 15) hx hb hts hin_X6 hown hK hP 0 rfl rfl 13 (by decide) (hts (.fieldLink RX6 52 "ClashFree$Parser" "waitingSize" "I") (List.mem_of_getElem? (i := 1) rfl)) (fun _ h9 => h9) rfl dX6_await_24 ?_
    refine lv_iconst (v := 1) hx hb dX6_await_27 (by decide) ?_
    refine lv_iadd hx hb dX6_await_28 ?_
    refine lv_topi (fun v3 ev3 => ?_)
    obtain rfl : v3 = nI (wz + 1) := ev3.trans (nI_1 _)
    refine va_put (D := D) (ci := 6) (v := .int (nI (wz + 1))) (ty := .int) (C := RX6) (T := TX6) (N := 15) hx hb hts hin_X6 tyX6 tyX6_ok nmX6 hown hK hP hD hS 0 rfl rfl 13 (by decide) (hts (.fieldLink RX6 52 "ClashFree$Parser" "waitingSize" "I") (List.mem_of_getElem? (i := 1) rfl)) (fun _ h9 => h9) rfl (by decide +kernel) rfl rfl (Nat.le_of_ble_eq_true rfl) dX6_await_29 (fun H locs hP hD hS => ?_)
    have hP : va_P D vwCl [(oq 0, .inr (6, gPs oq qf qp qd qs qt qb qh qr qn (nI bk) (nI (wz + 1)))), (oq 6, .inl (cI, 5, .inl fO)), (oq 7, .inl (cI, 600, .inl g2)), (oq 1, .inr (7, [.int (nI pz), .ref (oq 2), .ref (oq 3), .ref (oq 4)])), (oq 2, .inl (cI, 600, .inl fK)), (oq 3, .inl (cI, 600, .inl fN)), (oq 4, .inl (cI, 600, .inl fL)), (oq 5, .inr (8, [tx, .int zl, .int ta, .int be, .int ki, .int nu, .int wo]))] H := hP
    have hD : va_D A [(oq 0, .inr (6, gPs oq qf qp qd qs qt qb qh qr qn (nI bk) (nI (wz + 1)))), (oq 6, .inl (cI, 5, .inl fO)), (oq 7, .inl (cI, 600, .inl g2)), (oq 1, .inr (7, [.int (nI pz), .ref (oq 2), .ref (oq 3), .ref (oq 4)])), (oq 2, .inl (cI, 600, .inl fK)), (oq 3, .inl (cI, 600, .inl fN)), (oq 4, .inl (cI, 600, .inl fL)), (oq 5, .inr (8, [tx, .int zl, .int ta, .int be, .int ki, .int nu, .int wo]))] := hD
    exact W.vret hx hb hr (fun t ht hW => ⟨⟨(qf, qp, qd, qs, qt, qb, qh, qr, qn, bk, (wz + 1), fO, g2, pz, fK, fN, fL), rfl, (by (try dsimp only); first | done | exact ⟨by omega, by omega, by omega⟩), by rw [ht]; exact hP.sub [0, 1, 2, 3, 4, 5, 6, 7] rfl, va_K.moved hW.alike (hK.sub [0] rfl), hD.sub [0, 1, 2, 3, 4, 5, 6, 7] (by decide) rfl⟩, hS.F ht⟩) hS.2.2 dX6_await_32

def own_k_release : List Cond := [.fieldLink RX6 52 "ClashFree$Parser" "waitingSize" "I", .fieldLink RX6 29 "ClashFree$Parser" "waiting" "[I", .methodLink RX6 124 yX6_strength, .static yX6_strength, .initialized RX6, .fieldLink RX6 12 "ClashFree$Parser" "program" "LClashFree$Program;", .methodLink RX6 118 yX7_add, .instanceMethod yX7_add, .selects RX7 yX7_add yX7_add, .initialized RX7]
def wp_k_release : List Cond := .code yX6_release cX6_release 2 none :: (own_k_release ++ (wp_k_strength ++ (wp_k_padd ++ (wsX60 ++ ([] : List Cond)))))
set_option maxRecDepth 20000 in
theorem inown_k_release : ∀ w ∈ own_k_release, w ∈ lw_tbl := mem_places [344, 345, 1059, 1060, 111, 333, 1039, 1040, 1041, 112] (by decide +kernel)
set_option maxRecDepth 20000 in
theorem in_k_release : ∀ w ∈ wp_k_release, w ∈ lw_tbl := List.forall_mem_cons.mpr ⟨List.mem_of_getElem? (i := 1065) (by decide +kernel), List.forall_mem_append.mpr ⟨inown_k_release, List.forall_mem_append.mpr ⟨in_k_strength, List.forall_mem_append.mpr ⟨in_k_padd, List.forall_mem_append.mpr ⟨lwb_X6, fun _ h => absurd h List.not_mem_nil⟩⟩⟩⟩⟩
set_option maxRecDepth 20000 in
theorem good_k_release : wp_k_release.all goodWord = true := by decide +kernel
set_option maxRecDepth 20000 in
theorem g_k_release_k_strength_124 : GoodIn wp_k_release (va_wsS RX6 124 yX6_strength wp_k_strength) := goodIn_sub (List.forall_mem_append.mpr ⟨List.forall_mem_cons.mpr ⟨(List.mem_of_getElem? (i := 3) rfl), List.forall_mem_cons.mpr ⟨(List.mem_of_getElem? (i := 4) rfl), List.forall_mem_cons.mpr ⟨(List.mem_of_getElem? (i := 5) rfl), fun _ h => absurd h List.not_mem_nil⟩⟩⟩, (fun _ h => (List.mem_cons_of_mem _ (List.mem_append_right _ (List.mem_append_left _ h))))⟩) (by decide +kernel)
set_option maxRecDepth 20000 in
theorem g_k_release_k_padd_118 : GoodIn wp_k_release (wsV RX6 118 RX7 yX7_add wp_k_padd) := goodIn_sub (List.forall_mem_append.mpr ⟨List.forall_mem_cons.mpr ⟨(List.mem_of_getElem? (i := 7) rfl), List.forall_mem_cons.mpr ⟨(List.mem_of_getElem? (i := 8) rfl), List.forall_mem_cons.mpr ⟨(List.mem_of_getElem? (i := 9) rfl), List.forall_mem_cons.mpr ⟨(List.mem_of_getElem? (i := 10) rfl), fun _ h => absurd h List.not_mem_nil⟩⟩⟩⟩, (fun _ h => (List.mem_cons_of_mem _ (List.mem_append_right _ (List.mem_append_right _ (List.mem_append_left _ h)))))⟩) (by decide +kernel)
set_option maxHeartbeats 4000000 in
set_option maxRecDepth 100000 in
theorem lk_release (l : Launch) {p : Program} {e : Env} {s : State} {m : MethodId} {args : Array Value} {below : List Frame} {meth : Method} {c : Code} {Q : State → Prop} {A : Nat → Prop} (D : va_G) (oq : Nat → Nat) (cI : ClassId) (qf : Int32) (qp : Int32) (qd : Int32) (qs : Int32) (qt : Int32) (qb : Int32) (qh : Int32) (qr : Int32) (qn : Int32) (bk : Nat) (fO : Nat → Int32) (fW : Nat → Int32) (tx : Value) (zl : Int32) (ta : Int32) (be : Int32) (ki : Int32) (nu : Int32) (wo : Int32) (z1 : Int32)  (hx : p.tables.exec = Jvm.exec) (hb : c.code = cX6_release) (hml : c.maxLocals = 2) (hown : s.vm.findClass RX6 = some m.cls) (hts : ∀ w ∈ wp_k_release, w.before args s = true) (hA : ∀ q, s.heap.size ≤ q → A q) (hK : va_K D vwCl [(cI, .int)] s) (hN : NC s) (kx55 : ∀ (y : Nat), ∀ (p2 : Nat), ∀ (gK : Nat → Int32), ∀ (gN : Nat → Int32), ∀ (gL : Nat → Int32), (y ≤ 600) → (p2 ≤ 600) → ∀ (H : Heap) (locs : List Loc) (ls : Array Slot), va_P D vwCl [(oq 0, .inr (6, gPs oq qf qp qd qs qt qb qh qr qn (nI bk) (nI y))), (oq 6, .inl (cI, 5, .inl fO)), (oq 7, .inl (cI, 600, .inl fW)), (oq 1, .inr (7, [.int (nI p2), .ref (oq 2), .ref (oq 3), .ref (oq 4)])), (oq 2, .inl (cI, 600, .inl gK)), (oq 3, .inl (cI, 600, .inl gN)), (oq 4, .inl (cI, 600, .inl gL)), (oq 5, .inr (8, [tx, .int zl, .int ta, .int be, .int ki, .int nu, .int wo]))] H → va_D A [(oq 0, .inr (6, gPs oq qf qp qd qs qt qb qh qr qn (nI bk) (nI y))), (oq 6, .inl (cI, 5, .inl fO)), (oq 7, .inl (cI, 600, .inl fW)), (oq 1, .inr (7, [.int (nI p2), .ref (oq 2), .ref (oq 3), .ref (oq 4)])), (oq 2, .inl (cI, 600, .inl gK)), (oq 3, .inl (cI, 600, .inl gN)), (oq 4, .inl (cI, 600, .inl gL)), (oq 5, .inr (8, [tx, .int zl, .int ta, .int be, .int ki, .int nu, .int wo]))] → va_S A s.heap H locs → lv_has ls 2 [(0, .ref (oq 0))] → W p l e ({ frames := 1, cells := 0, slots := 0, locals := 40 }) s m args below meth c H locs 0 0 Q (F0 m 55 ls [])) : ∀ (N : Nat), ∀ (y : Nat), ∀ (p2 : Nat), ∀ (gK : Nat → Int32), ∀ (gN : Nat → Int32), ∀ (gL : Nat → Int32), (y ≤ 600) → (p2 ≤ 600) → y < N → ∀ (H : Heap) (locs : List Loc) (ls : Array Slot), va_P D vwCl [(oq 0, .inr (6, gPs oq qf qp qd qs qt qb qh qr qn (nI bk) (nI y))), (oq 6, .inl (cI, 5, .inl fO)), (oq 7, .inl (cI, 600, .inl fW)), (oq 1, .inr (7, [.int (nI p2), .ref (oq 2), .ref (oq 3), .ref (oq 4)])), (oq 2, .inl (cI, 600, .inl gK)), (oq 3, .inl (cI, 600, .inl gN)), (oq 4, .inl (cI, 600, .inl gL)), (oq 5, .inr (8, [tx, .int zl, .int ta, .int be, .int ki, .int nu, .int wo]))] H → va_D A [(oq 0, .inr (6, gPs oq qf qp qd qs qt qb qh qr qn (nI bk) (nI y))), (oq 6, .inl (cI, 5, .inl fO)), (oq 7, .inl (cI, 600, .inl fW)), (oq 1, .inr (7, [.int (nI p2), .ref (oq 2), .ref (oq 3), .ref (oq 4)])), (oq 2, .inl (cI, 600, .inl gK)), (oq 3, .inl (cI, 600, .inl gN)), (oq 4, .inl (cI, 600, .inl gL)), (oq 5, .inr (8, [tx, .int zl, .int ta, .int be, .int ki, .int nu, .int wo]))] → va_S A s.heap H locs → lv_has ls 2 [(0, .ref (oq 0)), (1, .int z1)] → W p l e ({ frames := 1, cells := 0, slots := 0, locals := 40 }) s m args below meth c H locs 0 0 Q (F0 m 0 ls []) := by
  have hin_X6 : ∀ w ∈ wsX60, w ∈ wp_k_release := fun _ h => (List.mem_cons_of_mem _ (List.mem_append_right _ (List.mem_append_right _ (List.mem_append_right _ (List.mem_append_left _ h)))))
  intro N
  induction N with
  | zero =>
    intro y p2 gK gN gL hy1 hp2 hm
    exact absurd hm (Nat.not_lt_zero _)
  | succ N ih =>
    intro y p2 gK gN gL hy1 hp2 hm H locs ls hP hD hS hl
    refine lv_aload_n hx hb dX6_release_0 rfl (lv_at hl 0 rfl) ?_
    refine va_get (D := D) (ci := 6) (v := .int (nI y)) (C := RX6) (T := TX6) (N := 15) hx hb hts hin_X6 hown hK hP 0 rfl rfl 13 (by decide) (hts (.fieldLink RX6 52 "ClashFree$Parser" "waitingSize" "I") (List.mem_of_getElem? (i := 1) rfl)) (fun _ h9 => h9) rfl dX6_release_1 ?_
    refine lv_if_le (tgt := 55) hx hb dX6_release_4 (by decide) (fun hc1 => ?_) (fun hc1 => ?_)
    ·
      exact kx55 y p2 gK gN gL (hy1) (hp2) H locs ls (hP.sub [0, 1, 2, 3, 4, 5, 6, 7] rfl) (hD.sub [0, 1, 2, 3, 4, 5, 6, 7] (by decide) rfl) hS (lv_sub hl [0] rfl)
    ·
      have hy0 : 1 ≤ y := by
        rcases Nat.eq_zero_or_pos y with z | z
        · exact absurd (by rw [z]; decide) hc1
        · exact z
      refine lv_aload_n hx hb dX6_release_7 rfl (lv_at hl 0 rfl) ?_
      refine va_get (D := D) (ci := 6) (v := .ref (oq 7)) (C := RX6) (T := TX6) (N := 15) hx hb hts hin_X6 hown hK hP 0 rfl rfl 14 (by decide) (hts (.fieldLink RX6 29 "ClashFree$Parser" "waiting" "[I") (List.mem_of_getElem? (i := 2) rfl)) (fun _ h9 => h9) rfl dX6_release_8 ?_
      refine lv_aload_n hx hb dX6_release_11 rfl (lv_at hl 0 rfl) ?_
      refine va_get (D := D) (ci := 6) (v := .int (nI y)) (C := RX6) (T := TX6) (N := 15) hx hb hts hin_X6 hown hK hP 0 rfl rfl 13 (by decide) (hts (.fieldLink RX6 52 "ClashFree$Parser" "waitingSize" "I") (List.mem_of_getElem? (i := 1) rfl)) (fun _ h9 => h9) rfl dX6_release_12 ?_
      refine lv_iconst (v := 1) hx hb dX6_release_15 (by decide) ?_
      refine lv_isub hx hb dX6_release_16 ?_
      refine lv_topi (fun v2 ev2 => ?_)
      obtain rfl : v2 = nI (y - 1) := ev2.trans (pk_sub (b := 1) (by omega))
      refine va_iald hx hb hK hP 2 0 rfl rfl (vp_in_nI (by omega) (by decide)) dX6_release_17 ?_
      refine lv_topi (fun v3 ev3 => ?_)
      have hPc := hP.sub (ws' := []) [] rfl
      have hKc := hK.sub (tys' := []) [] rfl
      have hFc := va_free0 hS hA
      refine va_calli (va_runS (As := [.int v3]) (rest := []) ⟨hx, hb, hml, hown, hts⟩ (k_strength l D _ cI v3) (va_cwS 1 hts g_k_release_k_strength_124 rfl rfl rfl (by decide +kernel) ⟨(Nat.le_of_ble_eq_true rfl), (Nat.le_of_ble_eq_true rfl)⟩) (PcRC_S hPc hKc hN) rfl rfl hl.1 rfl (lv_room (Nat.le_of_ble_eq_true rfl)) dX6_release_18 ⟨(Nat.le_of_ble_eq_true rfl), (Nat.le_of_ble_eq_true rfl)⟩) hS (fun q _ h => hFc q h) hFc (fun r4 uu tt H locs htt hvm hw hB hz1 hk1 hS => ?_)
      have hP := va_keep hP hk1
      try dsimp only at hw
      clear hB hz1 hk1 hFc hPc hKc
      refine lv_iload_n hx hb dX6_release_21 rfl (lv_at hl 1 rfl) ?_
      refine lv_icmp_lt (tgt := 55) hx hb dX6_release_22 (by decide) (fun hc5 => ?_) (fun hc5 => ?_)
      ·
        exact kx55 y p2 gK gN gL (hy1) (hp2) H locs ls (hP.sub [0, 1, 2, 3, 4, 5, 6, 7] rfl) (hD.sub [0, 1, 2, 3, 4, 5, 6, 7] (by decide) rfl) hS (lv_sub hl [0] rfl)
      ·
        refine lv_aload_n hx hb dX6_release_25 rfl (lv_at hl 0 rfl) ?_
        refine lv_dup hx hb dX6_release_26 rfl ?_
        refine va_get (D := D) (ci := 6) (v := .int (nI y)) (C := RX6) (T := TX6) (N := 15) hx hb hts hin_X6 hown hK hP 0 rfl rfl 13 (by decide) (hts (.fieldLink RX6 52 "ClashFree$Parser" "waitingSize" "I") (List.mem_of_getElem? (i := 1) rfl)) (fun _ h9 => h9) rfl dX6_release_27 ?_
        refine lv_iconst (v := 1) hx hb dX6_release_30 (by decide) ?_
        refine lv_isub hx hb dX6_release_31 ?_
        refine lv_topi (fun v6 ev6 => ?_)
        obtain rfl : v6 = nI (y - 1) := ev6.trans (pk_sub (b := 1) (by omega))
        refine va_put (D := D) (ci := 6) (v := .int (nI (y - 1))) (ty := .int) (C := RX6) (T := TX6) (N := 15) hx hb hts hin_X6 tyX6 tyX6_ok nmX6 hown hK hP hD hS 0 rfl rfl 13 (by decide) (hts (.fieldLink RX6 52 "ClashFree$Parser" "waitingSize" "I") (List.mem_of_getElem? (i := 1) rfl)) (fun _ h9 => h9) rfl (by decide +kernel) rfl rfl (Nat.le_of_ble_eq_true rfl) dX6_release_32 (fun H locs hP hD hS => ?_)
        have hP : va_P D vwCl [(oq 0, .inr (6, gPs oq qf qp qd qs qt qb qh qr qn (nI bk) (nI (y - 1)))), (oq 6, .inl (cI, 5, .inl fO)), (oq 7, .inl (cI, 600, .inl fW)), (oq 1, .inr (7, [.int (nI p2), .ref (oq 2), .ref (oq 3), .ref (oq 4)])), (oq 2, .inl (cI, 600, .inl gK)), (oq 3, .inl (cI, 600, .inl gN)), (oq 4, .inl (cI, 600, .inl gL)), (oq 5, .inr (8, [tx, .int zl, .int ta, .int be, .int ki, .int nu, .int wo]))] H := hP
        have hD : va_D A [(oq 0, .inr (6, gPs oq qf qp qd qs qt qb qh qr qn (nI bk) (nI (y - 1)))), (oq 6, .inl (cI, 5, .inl fO)), (oq 7, .inl (cI, 600, .inl fW)), (oq 1, .inr (7, [.int (nI p2), .ref (oq 2), .ref (oq 3), .ref (oq 4)])), (oq 2, .inl (cI, 600, .inl gK)), (oq 3, .inl (cI, 600, .inl gN)), (oq 4, .inl (cI, 600, .inl gL)), (oq 5, .inr (8, [tx, .int zl, .int ta, .int be, .int ki, .int nu, .int wo]))] := hD
        refine lv_aload_n hx hb dX6_release_35 rfl (lv_at hl 0 rfl) ?_
        refine va_get (D := D) (ci := 6) (v := .ref (oq 1)) (C := RX6) (T := TX6) (N := 15) hx hb hts hin_X6 hown hK hP 0 rfl rfl 3 (by decide) (hts (.fieldLink RX6 12 "ClashFree$Parser" "program" "LClashFree$Program;") (List.mem_of_getElem? (i := 6) rfl)) (fun _ h9 => h9) rfl dX6_release_36 ?_
        refine lv_aload_n hx hb dX6_release_39 rfl (lv_at hl 0 rfl) ?_
        refine va_get (D := D) (ci := 6) (v := .ref (oq 7)) (C := RX6) (T := TX6) (N := 15) hx hb hts hin_X6 hown hK hP 0 rfl rfl 14 (by decide) (hts (.fieldLink RX6 29 "ClashFree$Parser" "waiting" "[I") (List.mem_of_getElem? (i := 2) rfl)) (fun _ h9 => h9) rfl dX6_release_40 ?_
        refine lv_aload_n hx hb dX6_release_43 rfl (lv_at hl 0 rfl) ?_
        refine va_get (D := D) (ci := 6) (v := .int (nI (y - 1))) (C := RX6) (T := TX6) (N := 15) hx hb hts hin_X6 hown hK hP 0 rfl rfl 13 (by decide) (hts (.fieldLink RX6 52 "ClashFree$Parser" "waitingSize" "I") (List.mem_of_getElem? (i := 1) rfl)) (fun _ h9 => h9) rfl dX6_release_44 ?_
        refine va_iald hx hb hK hP 2 0 rfl rfl (vp_in_nI (by omega) (by decide)) dX6_release_47 ?_
        refine lv_topi (fun v7 ev7 => ?_)
        refine lv_iconst (v := 0) hx hb dX6_release_48 (by decide) ?_
        have hPc := hP.sub (ws' := [(oq 1, .inr (7, [.int (nI p2), .ref (oq 2), .ref (oq 3), .ref (oq 4)])), (oq 2, .inl (cI, 600, .inl gK)), (oq 3, .inl (cI, 600, .inl gN)), (oq 4, .inl (cI, 600, .inl gL))]) [3, 4, 5, 6] rfl
        have hKc := hK.sub (tys' := [(cI, .int)]) [0] rfl
        have hDc := hD.sub (ws' := [(oq 1, .inr (7, [.int (nI p2), .ref (oq 2), .ref (oq 3), .ref (oq 4)])), (oq 2, .inl (cI, 600, .inl gK)), (oq 3, .inl (cI, 600, .inl gN)), (oq 4, .inl (cI, 600, .inl gL))]) [3, 4, 5, 6] (by decide) rfl
        have hFc := va_free (wc := [(oq 1, .inr (7, [.int (nI p2), .ref (oq 2), .ref (oq 3), .ref (oq 4)])), (oq 2, .inl (cI, 600, .inl gK)), (oq 3, .inl (cI, 600, .inl gN)), (oq 4, .inl (cI, 600, .inl gL))]) hD hS hA [3, 4, 5, 6] rfl
        refine va_callv (va_runV (As := [.int v7, .int 0]) (rest := []) ⟨hx, hb, hml, hown, hts⟩ (k_padd l D _ oq cI p2 gK gN gL v7 0 hp2) (cwV 2 hts g_k_release_k_padd_118 rfl rfl rfl (by decide +kernel) ⟨(Nat.le_of_ble_eq_true rfl), (Nat.le_of_ble_eq_true rfl)⟩) (PcWC_V (q0 := 0) hPc hKc hDc hN rfl rfl) rfl rfl hl.1 rfl (lv_room (Nat.le_of_ble_eq_true rfl)) dX6_release_49 ⟨(Nat.le_of_ble_eq_true rfl), (Nat.le_of_ble_eq_true rfl)⟩) hS (fun q _ h => hFc q h) hFc (fun uu tt H locs htt hvm hw hB hz1 hk1 hS => ?_)
        obtain ⟨w9, w10, w11, w12⟩ := uu
        obtain ⟨hP1, hK1, hD1⟩ := hB
        rw [htt] at hP1
        have hK1 := va_K.moved hvm.symm hK1
        have hP1 : va_P D vwCl [(oq 1, .inr (7, [.int (nI w9), .ref (oq 2), .ref (oq 3), .ref (oq 4)])), (oq 2, .inl (cI, 600, .inl w10)), (oq 3, .inl (cI, 600, .inl w11)), (oq 4, .inl (cI, 600, .inl w12))] H := hP1
        obtain ⟨hP, hD⟩ := va_join (wr := [(oq 0, .inr (6, gPs oq qf qp qd qs qt qb qh qr qn (nI bk) (nI (y - 1)))), (oq 6, .inl (cI, 5, .inl fO)), (oq 7, .inl (cI, 600, .inl fW)), (oq 5, .inr (8, [tx, .int zl, .int ta, .int be, .int ki, .int nu, .int wo]))]) (w1 := [(oq 1, .inr (7, [.int (nI w9), .ref (oq 2), .ref (oq 3), .ref (oq 4)])), (oq 2, .inl (cI, 600, .inl w10)), (oq 3, .inl (cI, 600, .inl w11)), (oq 4, .inl (cI, 600, .inl w12))]) hP hD [3, 4, 5, 6] [0, 1, 2, 7] rfl rfl (by decide) (by decide) hk1 hFc hP1 hD1
        have hP : va_P D vwCl [(oq 0, .inr (6, gPs oq qf qp qd qs qt qb qh qr qn (nI bk) (nI (y - 1)))), (oq 6, .inl (cI, 5, .inl fO)), (oq 7, .inl (cI, 600, .inl fW)), (oq 5, .inr (8, [tx, .int zl, .int ta, .int be, .int ki, .int nu, .int wo])), (oq 1, .inr (7, [.int (nI w9), .ref (oq 2), .ref (oq 3), .ref (oq 4)])), (oq 2, .inl (cI, 600, .inl w10)), (oq 3, .inl (cI, 600, .inl w11)), (oq 4, .inl (cI, 600, .inl w12))] H := hP
        have hD : va_D A [(oq 0, .inr (6, gPs oq qf qp qd qs qt qb qh qr qn (nI bk) (nI (y - 1)))), (oq 6, .inl (cI, 5, .inl fO)), (oq 7, .inl (cI, 600, .inl fW)), (oq 5, .inr (8, [tx, .int zl, .int ta, .int be, .int ki, .int nu, .int wo])), (oq 1, .inr (7, [.int (nI w9), .ref (oq 2), .ref (oq 3), .ref (oq 4)])), (oq 2, .inl (cI, 600, .inl w10)), (oq 3, .inl (cI, 600, .inl w11)), (oq 4, .inl (cI, 600, .inl w12))] := hD
        try dsimp only at hw
        clear hz1 hk1 hFc hPc hKc hDc
        have hpz13 := hw
        refine lv_goto (tgt := 0) hx hb dX6_release_52 (by decide) ?_
        exact ih (y - 1) w9 w10 w11 w12 (by omega) (hpz13) (by omega) H locs ls (hP.sub [0, 1, 2, 4, 5, 6, 7, 3] rfl) (hD.sub [0, 1, 2, 4, 5, 6, 7, 3] (by decide) rfl) hS (lv_sub hl [0, 1] rfl)
set_option maxHeartbeats 4000000 in
set_option maxRecDepth 100000 in
theorem k_release (l : Launch) (D : va_G) (sz : Nat) (oq : Nat → Nat) (cI : ClassId) (qf : Int32) (qp : Int32) (qd : Int32) (qs : Int32) (qt : Int32) (qb : Int32) (qh : Int32) (qr : Int32) (qn : Int32) (bk : Nat) (wz : Nat) (fO : Nat → Int32) (fW : Nat → Int32) (pz : Nat) (fK : Nat → Int32) (fN : Nat → Int32) (fL : Nat → Int32) (tx : Value) (zl : Int32) (ta : Int32) (be : Int32) (ki : Int32) (nu : Int32) (wo : Int32) (z1 : Int32) (hbk : bk ≤ 5) (hwz : wz ≤ 600) (hpz : pz ≤ 600) : Met l yX6_release wp_k_release ({ frames := 1, cells := 0, slots := 0, locals := 40 }) (PcWC D [.ref (oq 0), .int z1] sz [(oq 0, .inr (6, gPs oq qf qp qd qs qt qb qh qr qn (nI bk) (nI wz))), (oq 6, .inl (cI, 5, .inl fO)), (oq 7, .inl (cI, 600, .inl fW)), (oq 1, .inr (7, [.int (nI pz), .ref (oq 2), .ref (oq 3), .ref (oq 4)])), (oq 2, .inl (cI, 600, .inl fK)), (oq 3, .inl (cI, 600, .inl fN)), (oq 4, .inl (cI, 600, .inl fL)), (oq 5, .inr (8, [tx, .int zl, .int ta, .int be, .int ki, .int nu, .int wo]))] [(cI, .int)]) (va_Qv (fun (u : (Int32) × (Int32) × (Int32) × (Int32) × (Int32) × (Int32) × (Int32) × (Int32) × (Int32) × (Nat) × (Nat) × (Nat → Int32) × (Nat → Int32) × (Nat) × (Nat → Int32) × (Nat → Int32) × (Nat → Int32)) => u.2.2.2.2.2.2.2.2.2.1 ≤ 5 ∧ u.2.2.2.2.2.2.2.2.2.2.1 ≤ 600 ∧ u.2.2.2.2.2.2.2.2.2.2.2.2.2.1 ≤ 600) (fun (u : (Int32) × (Int32) × (Int32) × (Int32) × (Int32) × (Int32) × (Int32) × (Int32) × (Int32) × (Nat) × (Nat) × (Nat → Int32) × (Nat → Int32) × (Nat) × (Nat → Int32) × (Nat → Int32) × (Nat → Int32)) t => va_P D vwCl [(oq 0, .inr (6, gPs oq u.1 u.2.1 u.2.2.1 u.2.2.2.1 u.2.2.2.2.1 u.2.2.2.2.2.1 u.2.2.2.2.2.2.1 u.2.2.2.2.2.2.2.1 u.2.2.2.2.2.2.2.2.1 (nI u.2.2.2.2.2.2.2.2.2.1) (nI u.2.2.2.2.2.2.2.2.2.2.1))), (oq 6, .inl (cI, 5, .inl u.2.2.2.2.2.2.2.2.2.2.2.1)), (oq 7, .inl (cI, 600, .inl u.2.2.2.2.2.2.2.2.2.2.2.2.1)), (oq 1, .inr (7, [.int (nI u.2.2.2.2.2.2.2.2.2.2.2.2.2.1), .ref (oq 2), .ref (oq 3), .ref (oq 4)])), (oq 2, .inl (cI, 600, .inl u.2.2.2.2.2.2.2.2.2.2.2.2.2.2.1)), (oq 3, .inl (cI, 600, .inl u.2.2.2.2.2.2.2.2.2.2.2.2.2.2.2.1)), (oq 4, .inl (cI, 600, .inl u.2.2.2.2.2.2.2.2.2.2.2.2.2.2.2.2)), (oq 5, .inr (8, [tx, .int zl, .int ta, .int be, .int ki, .int nu, .int wo]))] t.heap ∧ va_K D vwCl [(cI, .int)] t ∧ va_D (va_A [(oq 0, .inr (6, gPs oq qf qp qd qs qt qb qh qr qn (nI bk) (nI wz))), (oq 6, .inl (cI, 5, .inl fO)), (oq 7, .inl (cI, 600, .inl fW)), (oq 1, .inr (7, [.int (nI pz), .ref (oq 2), .ref (oq 3), .ref (oq 4)])), (oq 2, .inl (cI, 600, .inl fK)), (oq 3, .inl (cI, 600, .inl fN)), (oq 4, .inl (cI, 600, .inl fL)), (oq 5, .inr (8, [tx, .int zl, .int ta, .int be, .int ki, .int nu, .int wo]))] sz) [(oq 0, .inr (6, gPs oq u.1 u.2.1 u.2.2.1 u.2.2.2.1 u.2.2.2.2.1 u.2.2.2.2.2.1 u.2.2.2.2.2.2.1 u.2.2.2.2.2.2.2.1 u.2.2.2.2.2.2.2.2.1 (nI u.2.2.2.2.2.2.2.2.2.1) (nI u.2.2.2.2.2.2.2.2.2.2.1))), (oq 6, .inl (cI, 5, .inl u.2.2.2.2.2.2.2.2.2.2.2.1)), (oq 7, .inl (cI, 600, .inl u.2.2.2.2.2.2.2.2.2.2.2.2.1)), (oq 1, .inr (7, [.int (nI u.2.2.2.2.2.2.2.2.2.2.2.2.2.1), .ref (oq 2), .ref (oq 3), .ref (oq 4)])), (oq 2, .inl (cI, 600, .inl u.2.2.2.2.2.2.2.2.2.2.2.2.2.2.1)), (oq 3, .inl (cI, 600, .inl u.2.2.2.2.2.2.2.2.2.2.2.2.2.2.2.1)), (oq 4, .inl (cI, 600, .inl u.2.2.2.2.2.2.2.2.2.2.2.2.2.2.2.2)), (oq 5, .inr (8, [tx, .int zl, .int ta, .int be, .int ki, .int nu, .int wo]))]) (va_A [(oq 0, .inr (6, gPs oq qf qp qd qs qt qb qh qr qn (nI bk) (nI wz))), (oq 6, .inl (cI, 5, .inl fO)), (oq 7, .inl (cI, 600, .inl fW)), (oq 1, .inr (7, [.int (nI pz), .ref (oq 2), .ref (oq 3), .ref (oq 4)])), (oq 2, .inl (cI, 600, .inl fK)), (oq 3, .inl (cI, 600, .inl fN)), (oq 4, .inl (cI, 600, .inl fL)), (oq 5, .inr (8, [tx, .int zl, .int ta, .int be, .int ki, .int nu, .int wo]))] sz)) 0 0 (va_A [(oq 0, .inr (6, gPs oq qf qp qd qs qt qb qh qr qn (nI bk) (nI wz))), (oq 6, .inl (cI, 5, .inl fO)), (oq 7, .inl (cI, 600, .inl fW)), (oq 1, .inr (7, [.int (nI pz), .ref (oq 2), .ref (oq 3), .ref (oq 4)])), (oq 2, .inl (cI, 600, .inl fK)), (oq 3, .inl (cI, 600, .inl fN)), (oq 4, .inl (cI, 600, .inl fL)), (oq 5, .inr (8, [tx, .int zl, .int ta, .int be, .int ki, .int nu, .int wo]))] sz) := by
  refine Met.ofW (cc := cX6_release) (maxL := 2) (ret := none) (by decide) rfl ?_
  intro p e s m args below meth c s₁ B hml hv
  obtain ⟨rfl, hsz, hP, hK, hD0, hN⟩ := hv
  have hx := B.exec
  have hb := B.bytes
  have hr := B.returns
  have hts := atoms_spec (ws := wp_k_release) B.pre
  have hin_X6 : ∀ w ∈ wsX60, w ∈ wp_k_release := fun _ h => (List.mem_cons_of_mem _ (List.mem_append_right _ (List.mem_append_right _ (List.mem_append_right _ (List.mem_append_left _ h)))))
  have hown : s.vm.findClass RX6 = some m.cls := findClass_of_methodNamed B.named
  have hlocks := B.notSynchronized
  subst hsz
  have hD := hD0.self (sz := s.heap.size)
  generalize hAe : va_A [(oq 0, .inr (6, gPs oq qf qp qd qs qt qb qh qr qn (nI bk) (nI wz))), (oq 6, .inl (cI, 5, .inl fO)), (oq 7, .inl (cI, 600, .inl fW)), (oq 1, .inr (7, [.int (nI pz), .ref (oq 2), .ref (oq 3), .ref (oq 4)])), (oq 2, .inl (cI, 600, .inl fK)), (oq 3, .inl (cI, 600, .inl fN)), (oq 4, .inl (cI, 600, .inl fL)), (oq 5, .inr (8, [tx, .int zl, .int ta, .int be, .int ki, .int nu, .int wo]))] s.heap.size = A at hD ⊢
  have hA : ∀ q : Nat, s.heap.size ≤ q → A q := fun q h => by rw [← hAe]; exact Or.inr h
  have hS : va_S A s.heap s.heap [] := va_S.rf
  have hP : va_P D vwCl [(oq 0, .inr (6, gPs oq qf qp qd qs qt qb qh qr qn (nI bk) (nI wz))), (oq 6, .inl (cI, 5, .inl fO)), (oq 7, .inl (cI, 600, .inl fW)), (oq 1, .inr (7, [.int (nI pz), .ref (oq 2), .ref (oq 3), .ref (oq 4)])), (oq 2, .inl (cI, 600, .inl fK)), (oq 3, .inl (cI, 600, .inl fN)), (oq 4, .inl (cI, 600, .inl fL)), (oq 5, .inr (8, [tx, .int zl, .int ta, .int be, .int ki, .int nu, .int wo]))] s.heap := hP
  have hl := lv_entry ([.ref (oq 0), .int z1]) (n := 2) (Nat.le_of_ble_eq_true rfl)
  rw [lg_entry_eq]
  generalize (lg_sl ([.ref (oq 0), .int z1]) ++ List.replicate (2 - (lg_sl ([.ref (oq 0), .int z1])).length) Slot.unset).toArray = ls at hl ⊢
  have hl : lv_has ls 2 [(0, .ref (oq 0)), (1, .int z1)] := hl
  refine lk_release l D oq cI qf qp qd qs qt qb qh qr qn bk fO fW tx zl ta be ki nu wo z1 hx hb hml hown hts hA (hK.sub [0] rfl) hN ?_ (wz + 1) wz pz fK fN fL (hwz) (hpz) (by omega) _ _ _ (hP.sub [0, 1, 2, 3, 4, 5, 6, 7] rfl) (hD.sub [0, 1, 2, 3, 4, 5, 6, 7] (by decide) rfl) hS (lv_sub hl [0, 1] rfl)
  intro y_1 p2_2 gK_3 gN_4 gL_5 hy1_6 hp2_7 H locs ls hP hD hS hl
  exact W.vret hx hb hr (fun t ht hW => ⟨⟨(qf, qp, qd, qs, qt, qb, qh, qr, qn, bk, y_1, fO, fW, p2_2, gK_3, gN_4, gL_5), rfl, (by (try dsimp only); first | done | exact ⟨by omega, by omega, by omega⟩), by rw [ht]; exact hP.sub [0, 1, 2, 3, 4, 5, 6, 7] rfl, va_K.moved hW.alike (hK.sub [0] rfl), hD.sub [0, 1, 2, 3, 4, 5, 6, 7] (by decide) rfl⟩, hS.F ht⟩) hS.2.2 dX6_release_55

def own_k_open : List Cond := [.fieldLink RX6 42 "ClashFree$Parser" "heading" "Z", .fieldLink RX6 49 "ClashFree$Parser" "blocks" "I", .fieldLink RX6 25 "ClashFree$Parser" "opened" "[I", .fieldLink RX6 12 "ClashFree$Parser" "program" "LClashFree$Program;", .fieldLink RX6 36 "ClashFree$Program" "size" "I", .methodLink RX6 118 yX7_add, .instanceMethod yX7_add, .selects RX7 yX7_add yX7_add, .initialized RX7, .fieldLink RX6 39 "ClashFree$Parser" "state" "I", .fieldLink RX6 100 "ClashFree$Parser" "began" "I", .methodLink RX6 55 yX6_note, .instanceMethod yX6_note, .selects RX6 yX6_note yX6_note, .initialized RX6]
def wp_k_open : List Cond := .code yX6_open cX6_open 3 none :: (own_k_open ++ (wp_k_padd ++ (wp_k_note ++ (wsX60 ++ (wsX70 ++ ([] : List Cond))))))
set_option maxRecDepth 20000 in
theorem inown_k_open : ∀ w ∈ own_k_open, w ∈ lw_tbl := mem_places [339, 342, 343, 333, 279, 1039, 1040, 1041, 112, 336, 338, 915, 917, 4, 111] (by decide +kernel)
set_option maxRecDepth 20000 in
theorem in_k_open : ∀ w ∈ wp_k_open, w ∈ lw_tbl := List.forall_mem_cons.mpr ⟨List.mem_of_getElem? (i := 1077) (by decide +kernel), List.forall_mem_append.mpr ⟨inown_k_open, List.forall_mem_append.mpr ⟨in_k_padd, List.forall_mem_append.mpr ⟨in_k_note, List.forall_mem_append.mpr ⟨lwb_X6, List.forall_mem_append.mpr ⟨lwb_X7, fun _ h => absurd h List.not_mem_nil⟩⟩⟩⟩⟩⟩
set_option maxRecDepth 20000 in
theorem good_k_open : wp_k_open.all goodWord = true := by decide +kernel
set_option maxRecDepth 20000 in
theorem g_k_open_k_padd_118 : GoodIn wp_k_open (wsV RX6 118 RX7 yX7_add wp_k_padd) := goodIn_sub (List.forall_mem_append.mpr ⟨List.forall_mem_cons.mpr ⟨(List.mem_of_getElem? (i := 6) rfl), List.forall_mem_cons.mpr ⟨(List.mem_of_getElem? (i := 7) rfl), List.forall_mem_cons.mpr ⟨(List.mem_of_getElem? (i := 8) rfl), List.forall_mem_cons.mpr ⟨(List.mem_of_getElem? (i := 9) rfl), fun _ h => absurd h List.not_mem_nil⟩⟩⟩⟩, (fun _ h => (List.mem_cons_of_mem _ (List.mem_append_right _ (List.mem_append_left _ h))))⟩) (by decide +kernel)
set_option maxRecDepth 20000 in
theorem g_k_open_k_note_55 : GoodIn wp_k_open (wsV RX6 55 RX6 yX6_note wp_k_note) := goodIn_sub (List.forall_mem_append.mpr ⟨List.forall_mem_cons.mpr ⟨(List.mem_of_getElem? (i := 12) rfl), List.forall_mem_cons.mpr ⟨(List.mem_of_getElem? (i := 13) rfl), List.forall_mem_cons.mpr ⟨(List.mem_of_getElem? (i := 14) rfl), List.forall_mem_cons.mpr ⟨(List.mem_of_getElem? (i := 15) rfl), fun _ h => absurd h List.not_mem_nil⟩⟩⟩⟩, (fun _ h => (List.mem_cons_of_mem _ (List.mem_append_right _ (List.mem_append_right _ (List.mem_append_left _ h)))))⟩) (by decide +kernel)
set_option maxHeartbeats 4000000 in
set_option maxRecDepth 100000 in
theorem k_open (l : Launch) (D : va_G) (sz : Nat) (oq : Nat → Nat) (cI : ClassId) (qf : Int32) (qp : Int32) (qd : Int32) (qs : Int32) (qt : Int32) (qb : Int32) (qh : Int32) (qr : Int32) (qn : Int32) (bk : Nat) (wz : Nat) (fO : Nat → Int32) (fW : Nat → Int32) (pz : Nat) (fK : Nat → Int32) (fN : Nat → Int32) (fL : Nat → Int32) (tx : Value) (zl : Int32) (ta : Int32) (be : Int32) (ki : Int32) (nu : Int32) (wo : Int32) (z1 : Int32) (z2 : Int32) (hbk : bk ≤ 5) (hwz : wz ≤ 600) (hpz : pz ≤ 600) : Met l yX6_open wp_k_open ({ frames := 1, cells := 0, slots := 0, locals := 22 }) (PcWC D [.ref (oq 0), .int z1, .int z2] sz [(oq 0, .inr (6, gPs oq qf qp qd qs qt qb qh qr qn (nI bk) (nI wz))), (oq 6, .inl (cI, 5, .inl fO)), (oq 7, .inl (cI, 600, .inl fW)), (oq 1, .inr (7, [.int (nI pz), .ref (oq 2), .ref (oq 3), .ref (oq 4)])), (oq 2, .inl (cI, 600, .inl fK)), (oq 3, .inl (cI, 600, .inl fN)), (oq 4, .inl (cI, 600, .inl fL)), (oq 5, .inr (8, [tx, .int zl, .int ta, .int be, .int ki, .int nu, .int wo]))] [(cI, .int)]) (va_Qv (fun (u : (Int32) × (Int32) × (Int32) × (Int32) × (Int32) × (Int32) × (Int32) × (Int32) × (Int32) × (Nat) × (Nat) × (Nat → Int32) × (Nat → Int32) × (Nat) × (Nat → Int32) × (Nat → Int32) × (Nat → Int32)) => u.2.2.2.2.2.2.2.2.2.1 ≤ 5 ∧ u.2.2.2.2.2.2.2.2.2.2.1 ≤ 600 ∧ u.2.2.2.2.2.2.2.2.2.2.2.2.2.1 ≤ 600) (fun (u : (Int32) × (Int32) × (Int32) × (Int32) × (Int32) × (Int32) × (Int32) × (Int32) × (Int32) × (Nat) × (Nat) × (Nat → Int32) × (Nat → Int32) × (Nat) × (Nat → Int32) × (Nat → Int32) × (Nat → Int32)) t => va_P D vwCl [(oq 0, .inr (6, gPs oq u.1 u.2.1 u.2.2.1 u.2.2.2.1 u.2.2.2.2.1 u.2.2.2.2.2.1 u.2.2.2.2.2.2.1 u.2.2.2.2.2.2.2.1 u.2.2.2.2.2.2.2.2.1 (nI u.2.2.2.2.2.2.2.2.2.1) (nI u.2.2.2.2.2.2.2.2.2.2.1))), (oq 6, .inl (cI, 5, .inl u.2.2.2.2.2.2.2.2.2.2.2.1)), (oq 7, .inl (cI, 600, .inl u.2.2.2.2.2.2.2.2.2.2.2.2.1)), (oq 1, .inr (7, [.int (nI u.2.2.2.2.2.2.2.2.2.2.2.2.2.1), .ref (oq 2), .ref (oq 3), .ref (oq 4)])), (oq 2, .inl (cI, 600, .inl u.2.2.2.2.2.2.2.2.2.2.2.2.2.2.1)), (oq 3, .inl (cI, 600, .inl u.2.2.2.2.2.2.2.2.2.2.2.2.2.2.2.1)), (oq 4, .inl (cI, 600, .inl u.2.2.2.2.2.2.2.2.2.2.2.2.2.2.2.2)), (oq 5, .inr (8, [tx, .int zl, .int ta, .int be, .int ki, .int nu, .int wo]))] t.heap ∧ va_K D vwCl [(cI, .int)] t ∧ va_D (va_A [(oq 0, .inr (6, gPs oq qf qp qd qs qt qb qh qr qn (nI bk) (nI wz))), (oq 6, .inl (cI, 5, .inl fO)), (oq 7, .inl (cI, 600, .inl fW)), (oq 1, .inr (7, [.int (nI pz), .ref (oq 2), .ref (oq 3), .ref (oq 4)])), (oq 2, .inl (cI, 600, .inl fK)), (oq 3, .inl (cI, 600, .inl fN)), (oq 4, .inl (cI, 600, .inl fL)), (oq 5, .inr (8, [tx, .int zl, .int ta, .int be, .int ki, .int nu, .int wo]))] sz) [(oq 0, .inr (6, gPs oq u.1 u.2.1 u.2.2.1 u.2.2.2.1 u.2.2.2.2.1 u.2.2.2.2.2.1 u.2.2.2.2.2.2.1 u.2.2.2.2.2.2.2.1 u.2.2.2.2.2.2.2.2.1 (nI u.2.2.2.2.2.2.2.2.2.1) (nI u.2.2.2.2.2.2.2.2.2.2.1))), (oq 6, .inl (cI, 5, .inl u.2.2.2.2.2.2.2.2.2.2.2.1)), (oq 7, .inl (cI, 600, .inl u.2.2.2.2.2.2.2.2.2.2.2.2.1)), (oq 1, .inr (7, [.int (nI u.2.2.2.2.2.2.2.2.2.2.2.2.2.1), .ref (oq 2), .ref (oq 3), .ref (oq 4)])), (oq 2, .inl (cI, 600, .inl u.2.2.2.2.2.2.2.2.2.2.2.2.2.2.1)), (oq 3, .inl (cI, 600, .inl u.2.2.2.2.2.2.2.2.2.2.2.2.2.2.2.1)), (oq 4, .inl (cI, 600, .inl u.2.2.2.2.2.2.2.2.2.2.2.2.2.2.2.2)), (oq 5, .inr (8, [tx, .int zl, .int ta, .int be, .int ki, .int nu, .int wo]))]) (va_A [(oq 0, .inr (6, gPs oq qf qp qd qs qt qb qh qr qn (nI bk) (nI wz))), (oq 6, .inl (cI, 5, .inl fO)), (oq 7, .inl (cI, 600, .inl fW)), (oq 1, .inr (7, [.int (nI pz), .ref (oq 2), .ref (oq 3), .ref (oq 4)])), (oq 2, .inl (cI, 600, .inl fK)), (oq 3, .inl (cI, 600, .inl fN)), (oq 4, .inl (cI, 600, .inl fL)), (oq 5, .inr (8, [tx, .int zl, .int ta, .int be, .int ki, .int nu, .int wo]))] sz)) 0 0 (va_A [(oq 0, .inr (6, gPs oq qf qp qd qs qt qb qh qr qn (nI bk) (nI wz))), (oq 6, .inl (cI, 5, .inl fO)), (oq 7, .inl (cI, 600, .inl fW)), (oq 1, .inr (7, [.int (nI pz), .ref (oq 2), .ref (oq 3), .ref (oq 4)])), (oq 2, .inl (cI, 600, .inl fK)), (oq 3, .inl (cI, 600, .inl fN)), (oq 4, .inl (cI, 600, .inl fL)), (oq 5, .inr (8, [tx, .int zl, .int ta, .int be, .int ki, .int nu, .int wo]))] sz) := by
  refine Met.ofW (cc := cX6_open) (maxL := 3) (ret := none) (by decide) rfl ?_
  intro p e s m args below meth c s₁ B hml hv
  obtain ⟨rfl, hsz, hP, hK, hD0, hN⟩ := hv
  have hx := B.exec
  have hb := B.bytes
  have hr := B.returns
  have hts := atoms_spec (ws := wp_k_open) B.pre
  have hin_X6 : ∀ w ∈ wsX60, w ∈ wp_k_open := fun _ h => (List.mem_cons_of_mem _ (List.mem_append_right _ (List.mem_append_right _ (List.mem_append_right _ (List.mem_append_left _ h)))))
  have hin_X7 : ∀ w ∈ wsX70, w ∈ wp_k_open := fun _ h => (List.mem_cons_of_mem _ (List.mem_append_right _ (List.mem_append_right _ (List.mem_append_right _ (List.mem_append_right _ (List.mem_append_left _ h))))))
  have hown : s.vm.findClass RX6 = some m.cls := findClass_of_methodNamed B.named
  have hlocks := B.notSynchronized
  subst hsz
  have hD := hD0.self (sz := s.heap.size)
  generalize hAe : va_A [(oq 0, .inr (6, gPs oq qf qp qd qs qt qb qh qr qn (nI bk) (nI wz))), (oq 6, .inl (cI, 5, .inl fO)), (oq 7, .inl (cI, 600, .inl fW)), (oq 1, .inr (7, [.int (nI pz), .ref (oq 2), .ref (oq 3), .ref (oq 4)])), (oq 2, .inl (cI, 600, .inl fK)), (oq 3, .inl (cI, 600, .inl fN)), (oq 4, .inl (cI, 600, .inl fL)), (oq 5, .inr (8, [tx, .int zl, .int ta, .int be, .int ki, .int nu, .int wo]))] s.heap.size = A at hD ⊢
  have hA : ∀ q : Nat, s.heap.size ≤ q → A q := fun q h => by rw [← hAe]; exact Or.inr h
  have hS : va_S A s.heap s.heap [] := va_S.rf
  have hP : va_P D vwCl [(oq 0, .inr (6, gPs oq qf qp qd qs qt qb qh qr qn (nI bk) (nI wz))), (oq 6, .inl (cI, 5, .inl fO)), (oq 7, .inl (cI, 600, .inl fW)), (oq 1, .inr (7, [.int (nI pz), .ref (oq 2), .ref (oq 3), .ref (oq 4)])), (oq 2, .inl (cI, 600, .inl fK)), (oq 3, .inl (cI, 600, .inl fN)), (oq 4, .inl (cI, 600, .inl fL)), (oq 5, .inr (8, [tx, .int zl, .int ta, .int be, .int ki, .int nu, .int wo]))] s.heap := hP
  have hl := lv_entry ([.ref (oq 0), .int z1, .int z2]) (n := 3) (Nat.le_of_ble_eq_true rfl)
  rw [lg_entry_eq]
  generalize (lg_sl ([.ref (oq 0), .int z1, .int z2]) ++ List.replicate (3 - (lg_sl ([.ref (oq 0), .int z1, .int z2])).length) Slot.unset).toArray = ls at hl ⊢
  have hl : lv_has ls 3 [(0, .ref (oq 0)), (1, .int z1), (2, .int z2)] := hl
  refine lv_aload_n hx hb dX6_open_0 rfl (lv_at hl 0 rfl) ?_
  refine lv_iconst (v := 0) hx hb dX6_open_1 (by decide) ?_
  refine va_put (D := D) (ci := 6) (v := .int 0) (ty := .boolean) (C := RX6) (T := TX6) (N := 15) hx hb hts hin_X6 tyX6 tyX6_ok nmX6 hown hK hP hD hS 0 rfl rfl 8 (by decide) (hts (.fieldLink RX6 42 "ClashFree$Parser" "heading" "Z") (List.mem_of_getElem? (i := 1) rfl)) (fun _ h9 => h9) rfl (by decide +kernel) rfl rfl (Nat.le_of_ble_eq_true rfl) dX6_open_2 (fun H locs hP hD hS => ?_)
  have hP : va_P D vwCl [(oq 0, .inr (6, gPs oq qf qp qd qs qt qb 0 qr qn (nI bk) (nI wz))), (oq 6, .inl (cI, 5, .inl fO)), (oq 7, .inl (cI, 600, .inl fW)), (oq 1, .inr (7, [.int (nI pz), .ref (oq 2), .ref (oq 3), .ref (oq 4)])), (oq 2, .inl (cI, 600, .inl fK)), (oq 3, .inl (cI, 600, .inl fN)), (oq 4, .inl (cI, 600, .inl fL)), (oq 5, .inr (8, [tx, .int zl, .int ta, .int be, .int ki, .int nu, .int wo]))] H := hP
  have hD : va_D A [(oq 0, .inr (6, gPs oq qf qp qd qs qt qb 0 qr qn (nI bk) (nI wz))), (oq 6, .inl (cI, 5, .inl fO)), (oq 7, .inl (cI, 600, .inl fW)), (oq 1, .inr (7, [.int (nI pz), .ref (oq 2), .ref (oq 3), .ref (oq 4)])), (oq 2, .inl (cI, 600, .inl fK)), (oq 3, .inl (cI, 600, .inl fN)), (oq 4, .inl (cI, 600, .inl fL)), (oq 5, .inr (8, [tx, .int zl, .int ta, .int be, .int ki, .int nu, .int wo]))] := hD
  refine lv_aload_n hx hb dX6_open_5 rfl (lv_at hl 0 rfl) ?_
  refine va_get (D := D) (ci := 6) (v := .int (nI bk)) (C := RX6) (T := TX6) (N := 15) hx hb hts hin_X6 hown hK hP 0 rfl rfl 11 (by decide) (hts (.fieldLink RX6 49 "ClashFree$Parser" "blocks" "I") (List.mem_of_getElem? (i := 2) rfl)) (fun _ h9 => h9) rfl dX6_open_6 ?_
  refine lv_iconst (v := 5) hx hb dX6_open_9 (by decide) ?_
  refine lv_icmp_lt (tgt := 23) hx hb dX6_open_10 (by decide) (fun hc1 => ?_) (fun hc1 => ?_)
  ·
    have hlt : bk < 5 := by
      rcases Nat.lt_or_ge bk 5 with z | z
      · exact z
      · exact absurd hc1 (Int32.not_lt.mpr (nI_le (a := 5) z (by omega)))
    refine lv_aload_n hx hb dX6_open_23 rfl (lv_at hl 0 rfl) ?_
    refine va_get (D := D) (ci := 6) (v := .ref (oq 6)) (C := RX6) (T := TX6) (N := 15) hx hb hts hin_X6 hown hK hP 0 rfl rfl 12 (by decide) (hts (.fieldLink RX6 25 "ClashFree$Parser" "opened" "[I") (List.mem_of_getElem? (i := 3) rfl)) (fun _ h9 => h9) rfl dX6_open_24 ?_
    refine lv_aload_n hx hb dX6_open_27 rfl (lv_at hl 0 rfl) ?_
    refine va_get (D := D) (ci := 6) (v := .int (nI bk)) (C := RX6) (T := TX6) (N := 15) hx hb hts hin_X6 hown hK hP 0 rfl rfl 11 (by decide) (hts (.fieldLink RX6 49 "ClashFree$Parser" "blocks" "I") (List.mem_of_getElem? (i := 2) rfl)) (fun _ h9 => h9) rfl dX6_open_28 ?_
    refine lv_aload_n hx hb dX6_open_31 rfl (lv_at hl 0 rfl) ?_
    refine va_get (D := D) (ci := 6) (v := .ref (oq 1)) (C := RX6) (T := TX6) (N := 15) hx hb hts hin_X6 hown hK hP 0 rfl rfl 3 (by decide) (hts (.fieldLink RX6 12 "ClashFree$Parser" "program" "LClashFree$Program;") (List.mem_of_getElem? (i := 4) rfl)) (fun _ h9 => h9) rfl dX6_open_32 ?_
    refine va_get (D := D) (ci := 7) (v := .int (nI pz)) (C := RX7) (T := TX7) (N := 4) hx hb hts hin_X7 hown hK hP 3 rfl rfl 0 (by decide) (hts (.fieldLink RX6 36 "ClashFree$Program" "size" "I") (List.mem_of_getElem? (i := 5) rfl)) (fun _ h9 => h9) rfl dX6_open_35 ?_
    refine va_iast hx hb hK hP hD hS 1 0 rfl rfl (vp_in_nI (by omega) (by decide)) dX6_open_38 (fun H locs hP hD hS => ?_)
    have hP : va_P D vwCl [(oq 0, .inr (6, gPs oq qf qp qd qs qt qb 0 qr qn (nI bk) (nI wz))), (oq 6, .inl (cI, 5, .inl (upd fO (Int32.toNatClampNeg (nI bk)) (nI pz)))), (oq 7, .inl (cI, 600, .inl fW)), (oq 1, .inr (7, [.int (nI pz), .ref (oq 2), .ref (oq 3), .ref (oq 4)])), (oq 2, .inl (cI, 600, .inl fK)), (oq 3, .inl (cI, 600, .inl fN)), (oq 4, .inl (cI, 600, .inl fL)), (oq 5, .inr (8, [tx, .int zl, .int ta, .int be, .int ki, .int nu, .int wo]))] H := hP
    have hD : va_D A [(oq 0, .inr (6, gPs oq qf qp qd qs qt qb 0 qr qn (nI bk) (nI wz))), (oq 6, .inl (cI, 5, .inl (upd fO (Int32.toNatClampNeg (nI bk)) (nI pz)))), (oq 7, .inl (cI, 600, .inl fW)), (oq 1, .inr (7, [.int (nI pz), .ref (oq 2), .ref (oq 3), .ref (oq 4)])), (oq 2, .inl (cI, 600, .inl fK)), (oq 3, .inl (cI, 600, .inl fN)), (oq 4, .inl (cI, 600, .inl fL)), (oq 5, .inr (8, [tx, .int zl, .int ta, .int be, .int ki, .int nu, .int wo]))] := hD
    generalize upd fO (Int32.toNatClampNeg (nI bk)) (nI pz) = g2 at hP hD
    refine lv_aload_n hx hb dX6_open_39 rfl (lv_at hl 0 rfl) ?_
    refine lv_dup hx hb dX6_open_40 rfl ?_
    refine va_get (D := D) (ci := 6) (v := .int (nI bk)) (C := RX6) (T := TX6) (N := 15) hx hb hts hin_X6 hown hK hP 0 rfl rfl 11 (by decide) (hts (.fieldLink RX6 49 "ClashFree$Parser" "blocks" "I") (List.mem_of_getElem? (i := 2) rfl)) (fun _ h9 => h9) rfl dX6_open_41 ?_
    refine lv_iconst (v := 1) hx hb dX6_open_44 (by decide) ?_
    refine lv_iadd hx hb dX6_open_45 ?_
    refine lv_topi (fun v3 ev3 => ?_)
    obtain rfl : v3 = nI (bk + 1) := ev3.trans (nI_1 _)
    refine va_put (D := D) (ci := 6) (v := .int (nI (bk + 1))) (ty := .int) (C := RX6) (T := TX6) (N := 15) hx hb hts hin_X6 tyX6 tyX6_ok nmX6 hown hK hP hD hS 0 rfl rfl 11 (by decide) (hts (.fieldLink RX6 49 "ClashFree$Parser" "blocks" "I") (List.mem_of_getElem? (i := 2) rfl)) (fun _ h9 => h9) rfl (by decide +kernel) rfl rfl (Nat.le_of_ble_eq_true rfl) dX6_open_46 (fun H locs hP hD hS => ?_)
    have hP : va_P D vwCl [(oq 0, .inr (6, gPs oq qf qp qd qs qt qb 0 qr qn (nI (bk + 1)) (nI wz))), (oq 6, .inl (cI, 5, .inl g2)), (oq 7, .inl (cI, 600, .inl fW)), (oq 1, .inr (7, [.int (nI pz), .ref (oq 2), .ref (oq 3), .ref (oq 4)])), (oq 2, .inl (cI, 600, .inl fK)), (oq 3, .inl (cI, 600, .inl fN)), (oq 4, .inl (cI, 600, .inl fL)), (oq 5, .inr (8, [tx, .int zl, .int ta, .int be, .int ki, .int nu, .int wo]))] H := hP
    have hD : va_D A [(oq 0, .inr (6, gPs oq qf qp qd qs qt qb 0 qr qn (nI (bk + 1)) (nI wz))), (oq 6, .inl (cI, 5, .inl g2)), (oq 7, .inl (cI, 600, .inl fW)), (oq 1, .inr (7, [.int (nI pz), .ref (oq 2), .ref (oq 3), .ref (oq 4)])), (oq 2, .inl (cI, 600, .inl fK)), (oq 3, .inl (cI, 600, .inl fN)), (oq 4, .inl (cI, 600, .inl fL)), (oq 5, .inr (8, [tx, .int zl, .int ta, .int be, .int ki, .int nu, .int wo]))] := hD
    refine lv_aload_n hx hb dX6_open_49 rfl (lv_at hl 0 rfl) ?_
    refine va_get (D := D) (ci := 6) (v := .ref (oq 1)) (C := RX6) (T := TX6) (N := 15) hx hb hts hin_X6 hown hK hP 0 rfl rfl 3 (by decide) (hts (.fieldLink RX6 12 "ClashFree$Parser" "program" "LClashFree$Program;") (List.mem_of_getElem? (i := 4) rfl)) (fun _ h9 => h9) rfl dX6_open_50 ?_
    refine lv_iload_n hx hb dX6_open_53 rfl (lv_at hl 1 rfl) ?_
    refine lv_iload_n hx hb dX6_open_54 rfl (lv_at hl 2 rfl) ?_
    have hPc := hP.sub (ws' := [(oq 1, .inr (7, [.int (nI pz), .ref (oq 2), .ref (oq 3), .ref (oq 4)])), (oq 2, .inl (cI, 600, .inl fK)), (oq 3, .inl (cI, 600, .inl fN)), (oq 4, .inl (cI, 600, .inl fL))]) [3, 4, 5, 6] rfl
    have hKc := hK.sub (tys' := [(cI, .int)]) [0] rfl
    have hDc := hD.sub (ws' := [(oq 1, .inr (7, [.int (nI pz), .ref (oq 2), .ref (oq 3), .ref (oq 4)])), (oq 2, .inl (cI, 600, .inl fK)), (oq 3, .inl (cI, 600, .inl fN)), (oq 4, .inl (cI, 600, .inl fL))]) [3, 4, 5, 6] (by decide) rfl
    have hFc := va_free (wc := [(oq 1, .inr (7, [.int (nI pz), .ref (oq 2), .ref (oq 3), .ref (oq 4)])), (oq 2, .inl (cI, 600, .inl fK)), (oq 3, .inl (cI, 600, .inl fN)), (oq 4, .inl (cI, 600, .inl fL))]) hD hS hA [3, 4, 5, 6] rfl
    refine va_callv (va_runV (As := [.int z1, .int z2]) (rest := []) ⟨hx, hb, hml, hown, hts⟩ (k_padd l D _ oq cI pz fK fN fL z1 z2 hpz) (cwV 2 hts g_k_open_k_padd_118 rfl rfl rfl (by decide +kernel) ⟨(Nat.le_of_ble_eq_true rfl), (Nat.le_of_ble_eq_true rfl)⟩) (PcWC_V (q0 := 0) hPc hKc hDc hN rfl rfl) rfl rfl hl.1 rfl (lv_room (Nat.le_of_ble_eq_true rfl)) dX6_open_55 ⟨(Nat.le_of_ble_eq_true rfl), (Nat.le_of_ble_eq_true rfl)⟩) hS (fun q _ h => hFc q h) hFc (fun uu tt H locs htt hvm hw hB hz1 hk1 hS => ?_)
    obtain ⟨w5, w6, w7, w8⟩ := uu
    obtain ⟨hP1, hK1, hD1⟩ := hB
    rw [htt] at hP1
    have hK1 := va_K.moved hvm.symm hK1
    have hP1 : va_P D vwCl [(oq 1, .inr (7, [.int (nI w5), .ref (oq 2), .ref (oq 3), .ref (oq 4)])), (oq 2, .inl (cI, 600, .inl w6)), (oq 3, .inl (cI, 600, .inl w7)), (oq 4, .inl (cI, 600, .inl w8))] H := hP1
    obtain ⟨hP, hD⟩ := va_join (wr := [(oq 0, .inr (6, gPs oq qf qp qd qs qt qb 0 qr qn (nI (bk + 1)) (nI wz))), (oq 6, .inl (cI, 5, .inl g2)), (oq 7, .inl (cI, 600, .inl fW)), (oq 5, .inr (8, [tx, .int zl, .int ta, .int be, .int ki, .int nu, .int wo]))]) (w1 := [(oq 1, .inr (7, [.int (nI w5), .ref (oq 2), .ref (oq 3), .ref (oq 4)])), (oq 2, .inl (cI, 600, .inl w6)), (oq 3, .inl (cI, 600, .inl w7)), (oq 4, .inl (cI, 600, .inl w8))]) hP hD [3, 4, 5, 6] [0, 1, 2, 7] rfl rfl (by decide) (by decide) hk1 hFc hP1 hD1
    have hP : va_P D vwCl [(oq 0, .inr (6, gPs oq qf qp qd qs qt qb 0 qr qn (nI (bk + 1)) (nI wz))), (oq 6, .inl (cI, 5, .inl g2)), (oq 7, .inl (cI, 600, .inl fW)), (oq 5, .inr (8, [tx, .int zl, .int ta, .int be, .int ki, .int nu, .int wo])), (oq 1, .inr (7, [.int (nI w5), .ref (oq 2), .ref (oq 3), .ref (oq 4)])), (oq 2, .inl (cI, 600, .inl w6)), (oq 3, .inl (cI, 600, .inl w7)), (oq 4, .inl (cI, 600, .inl w8))] H := hP
    have hD : va_D A [(oq 0, .inr (6, gPs oq qf qp qd qs qt qb 0 qr qn (nI (bk + 1)) (nI wz))), (oq 6, .inl (cI, 5, .inl g2)), (oq 7, .inl (cI, 600, .inl fW)), (oq 5, .inr (8, [tx, .int zl, .int ta, .int be, .int ki, .int nu, .int wo])), (oq 1, .inr (7, [.int (nI w5), .ref (oq 2), .ref (oq 3), .ref (oq 4)])), (oq 2, .inl (cI, 600, .inl w6)), (oq 3, .inl (cI, 600, .inl w7)), (oq 4, .inl (cI, 600, .inl w8))] := hD
    try dsimp only at hw
    clear hz1 hk1 hFc hPc hKc hDc
    have hpz9 := hw
    refine lv_aload_n hx hb dX6_open_58 rfl (lv_at hl 0 rfl) ?_
    refine lv_iconst (v := 0) hx hb dX6_open_59 (by decide) ?_
    refine va_put (D := D) (ci := 6) (v := .int 0) (ty := .int) (C := RX6) (T := TX6) (N := 15) hx hb hts hin_X6 tyX6 tyX6_ok nmX6 hown hK hP hD hS 0 rfl rfl 5 (by decide) (hts (.fieldLink RX6 39 "ClashFree$Parser" "state" "I") (List.mem_of_getElem? (i := 10) rfl)) (fun _ h9 => h9) rfl (by decide +kernel) rfl rfl (Nat.le_of_ble_eq_true rfl) dX6_open_60 (fun H locs hP hD hS => ?_)
    have hP : va_P D vwCl [(oq 0, .inr (6, gPs oq qf qp qd 0 qt qb 0 qr qn (nI (bk + 1)) (nI wz))), (oq 6, .inl (cI, 5, .inl g2)), (oq 7, .inl (cI, 600, .inl fW)), (oq 5, .inr (8, [tx, .int zl, .int ta, .int be, .int ki, .int nu, .int wo])), (oq 1, .inr (7, [.int (nI w5), .ref (oq 2), .ref (oq 3), .ref (oq 4)])), (oq 2, .inl (cI, 600, .inl w6)), (oq 3, .inl (cI, 600, .inl w7)), (oq 4, .inl (cI, 600, .inl w8))] H := hP
    have hD : va_D A [(oq 0, .inr (6, gPs oq qf qp qd 0 qt qb 0 qr qn (nI (bk + 1)) (nI wz))), (oq 6, .inl (cI, 5, .inl g2)), (oq 7, .inl (cI, 600, .inl fW)), (oq 5, .inr (8, [tx, .int zl, .int ta, .int be, .int ki, .int nu, .int wo])), (oq 1, .inr (7, [.int (nI w5), .ref (oq 2), .ref (oq 3), .ref (oq 4)])), (oq 2, .inl (cI, 600, .inl w6)), (oq 3, .inl (cI, 600, .inl w7)), (oq 4, .inl (cI, 600, .inl w8))] := hD
    exact W.vret hx hb hr (fun t ht hW => ⟨⟨(qf, qp, qd, 0, qt, qb, 0, qr, qn, (bk + 1), wz, g2, fW, w5, w6, w7, w8), rfl, (by (try dsimp only); first | done | exact ⟨by omega, by omega, by omega⟩), by rw [ht]; exact hP.sub [0, 1, 2, 4, 5, 6, 7, 3] rfl, va_K.moved hW.alike (hK.sub [0] rfl), hD.sub [0, 1, 2, 4, 5, 6, 7, 3] (by decide) rfl⟩, hS.F ht⟩) hS.2.2 dX6_open_63
  ·
    refine lv_aload_n hx hb dX6_open_13 rfl (lv_at hl 0 rfl) ?_
    refine lv_iconst (v := 3) hx hb dX6_open_14 (by decide) ?_
    refine lv_aload_n hx hb dX6_open_15 rfl (lv_at hl 0 rfl) ?_
    refine va_get (D := D) (ci := 6) (v := .int qb) (C := RX6) (T := TX6) (N := 15) hx hb hts hin_X6 hown hK hP 0 rfl rfl 7 (by decide) (hts (.fieldLink RX6 100 "ClashFree$Parser" "began" "I") (List.mem_of_getElem? (i := 11) rfl)) (fun _ h9 => h9) rfl dX6_open_16 ?_
    have hPc := hP.sub (ws' := [(oq 0, .inr (6, gPs oq qf qp qd qs qt qb 0 qr qn (nI bk) (nI wz))), (oq 6, .inl (cI, 5, .inl fO)), (oq 7, .inl (cI, 600, .inl fW)), (oq 1, .inr (7, [.int (nI pz), .ref (oq 2), .ref (oq 3), .ref (oq 4)])), (oq 2, .inl (cI, 600, .inl fK)), (oq 3, .inl (cI, 600, .inl fN)), (oq 4, .inl (cI, 600, .inl fL)), (oq 5, .inr (8, [tx, .int zl, .int ta, .int be, .int ki, .int nu, .int wo]))]) [0, 1, 2, 3, 4, 5, 6, 7] rfl
    have hKc := hK.sub (tys' := [(cI, .int)]) [0] rfl
    have hDc := hD.sub (ws' := [(oq 0, .inr (6, gPs oq qf qp qd qs qt qb 0 qr qn (nI bk) (nI wz))), (oq 6, .inl (cI, 5, .inl fO)), (oq 7, .inl (cI, 600, .inl fW)), (oq 1, .inr (7, [.int (nI pz), .ref (oq 2), .ref (oq 3), .ref (oq 4)])), (oq 2, .inl (cI, 600, .inl fK)), (oq 3, .inl (cI, 600, .inl fN)), (oq 4, .inl (cI, 600, .inl fL)), (oq 5, .inr (8, [tx, .int zl, .int ta, .int be, .int ki, .int nu, .int wo]))]) [0, 1, 2, 3, 4, 5, 6, 7] (by decide) rfl
    have hFc := va_free (wc := [(oq 0, .inr (6, gPs oq qf qp qd qs qt qb 0 qr qn (nI bk) (nI wz))), (oq 6, .inl (cI, 5, .inl fO)), (oq 7, .inl (cI, 600, .inl fW)), (oq 1, .inr (7, [.int (nI pz), .ref (oq 2), .ref (oq 3), .ref (oq 4)])), (oq 2, .inl (cI, 600, .inl fK)), (oq 3, .inl (cI, 600, .inl fN)), (oq 4, .inl (cI, 600, .inl fL)), (oq 5, .inr (8, [tx, .int zl, .int ta, .int be, .int ki, .int nu, .int wo]))]) hD hS hA [0, 1, 2, 3, 4, 5, 6, 7] rfl
    refine va_callv (va_runV (As := [.int 3, .int qb]) (rest := []) ⟨hx, hb, hml, hown, hts⟩ (k_note l D _ oq cI qf qp qd qs qt qb 0 qr qn bk wz fO fW pz fK fN fL tx zl ta be ki nu wo 3 qb hbk hwz hpz) (cwV 2 hts g_k_open_k_note_55 rfl rfl rfl (by decide +kernel) ⟨(Nat.le_of_ble_eq_true rfl), (Nat.le_of_ble_eq_true rfl)⟩) (PcWC_V (q0 := 0) hPc hKc hDc hN rfl rfl) rfl rfl hl.1 rfl (lv_room (Nat.le_of_ble_eq_true rfl)) dX6_open_19 ⟨(Nat.le_of_ble_eq_true rfl), (Nat.le_of_ble_eq_true rfl)⟩) hS (fun q _ h => hFc q h) hFc (fun uu tt H locs htt hvm hw hB hz1 hk1 hS => ?_)
    obtain ⟨w11, w12, w13, w14, w15, w16, w17, w18, w19, w20, w21, w22, w23, w24, w25, w26, w27⟩ := uu
    obtain ⟨hP1, hK1, hD1⟩ := hB
    rw [htt] at hP1
    have hK1 := va_K.moved hvm.symm hK1
    have hP1 : va_P D vwCl [(oq 0, .inr (6, gPs oq w11 w12 w13 w14 w15 w16 w17 w18 w19 (nI w20) (nI w21))), (oq 6, .inl (cI, 5, .inl w22)), (oq 7, .inl (cI, 600, .inl w23)), (oq 1, .inr (7, [.int (nI w24), .ref (oq 2), .ref (oq 3), .ref (oq 4)])), (oq 2, .inl (cI, 600, .inl w25)), (oq 3, .inl (cI, 600, .inl w26)), (oq 4, .inl (cI, 600, .inl w27)), (oq 5, .inr (8, [tx, .int zl, .int ta, .int be, .int ki, .int nu, .int wo]))] H := hP1
    obtain ⟨hP, hD⟩ := va_join (wr := []) (w1 := [(oq 0, .inr (6, gPs oq w11 w12 w13 w14 w15 w16 w17 w18 w19 (nI w20) (nI w21))), (oq 6, .inl (cI, 5, .inl w22)), (oq 7, .inl (cI, 600, .inl w23)), (oq 1, .inr (7, [.int (nI w24), .ref (oq 2), .ref (oq 3), .ref (oq 4)])), (oq 2, .inl (cI, 600, .inl w25)), (oq 3, .inl (cI, 600, .inl w26)), (oq 4, .inl (cI, 600, .inl w27)), (oq 5, .inr (8, [tx, .int zl, .int ta, .int be, .int ki, .int nu, .int wo]))]) hP hD [0, 1, 2, 3, 4, 5, 6, 7] [] rfl rfl (by decide) (by decide) hk1 hFc hP1 hD1
    have hP : va_P D vwCl [(oq 0, .inr (6, gPs oq w11 w12 w13 w14 w15 w16 w17 w18 w19 (nI w20) (nI w21))), (oq 6, .inl (cI, 5, .inl w22)), (oq 7, .inl (cI, 600, .inl w23)), (oq 1, .inr (7, [.int (nI w24), .ref (oq 2), .ref (oq 3), .ref (oq 4)])), (oq 2, .inl (cI, 600, .inl w25)), (oq 3, .inl (cI, 600, .inl w26)), (oq 4, .inl (cI, 600, .inl w27)), (oq 5, .inr (8, [tx, .int zl, .int ta, .int be, .int ki, .int nu, .int wo]))] H := hP
    have hD : va_D A [(oq 0, .inr (6, gPs oq w11 w12 w13 w14 w15 w16 w17 w18 w19 (nI w20) (nI w21))), (oq 6, .inl (cI, 5, .inl w22)), (oq 7, .inl (cI, 600, .inl w23)), (oq 1, .inr (7, [.int (nI w24), .ref (oq 2), .ref (oq 3), .ref (oq 4)])), (oq 2, .inl (cI, 600, .inl w25)), (oq 3, .inl (cI, 600, .inl w26)), (oq 4, .inl (cI, 600, .inl w27)), (oq 5, .inr (8, [tx, .int zl, .int ta, .int be, .int ki, .int nu, .int wo]))] := hD
    try dsimp only at hw
    clear hz1 hk1 hFc hPc hKc hDc
    obtain ⟨hx28_1, hx28_2, hx28_3⟩ := hw
    exact W.vret hx hb hr (fun t ht hW => ⟨⟨(w11, w12, w13, w14, w15, w16, w17, w18, w19, w20, w21, w22, w23, w24, w25, w26, w27), rfl, (by (try dsimp only); first | done | exact ⟨by omega, by omega, by omega⟩), by rw [ht]; exact hP.sub [0, 1, 2, 3, 4, 5, 6, 7] rfl, va_K.moved hW.alike (hK.sub [0] rfl), hD.sub [0, 1, 2, 3, 4, 5, 6, 7] (by decide) rfl⟩, hS.F ht⟩) hS.2.2 dX6_open_22

def own_k_close : List Cond := [.fieldLink RX6 49 "ClashFree$Parser" "blocks" "I", .fieldLink RX6 25 "ClashFree$Parser" "opened" "[I", .fieldLink RX6 12 "ClashFree$Parser" "program" "LClashFree$Program;", .fieldLink RX6 36 "ClashFree$Program" "size" "I", .methodLink RX6 143 yX7_link, .instanceMethod yX7_link, .selects RX7 yX7_link yX7_link, .initialized RX7, .methodLink RX6 146 yX7_isFor, .instanceMethod yX7_isFor, .selects RX7 yX7_isFor yX7_isFor, .methodLink RX6 118 yX7_add, .instanceMethod yX7_add, .selects RX7 yX7_add yX7_add, .fieldLink RX6 39 "ClashFree$Parser" "state" "I"]
def wp_k_close : List Cond := .code yX6_close cX6_close 2 none :: (own_k_close ++ (wp_k_plink ++ (wp_k_pisFor ++ (wp_k_padd ++ (wsX60 ++ (wsX70 ++ ([] : List Cond)))))))
set_option maxRecDepth 20000 in
theorem inown_k_close : ∀ w ∈ own_k_close, w ∈ lw_tbl := mem_places [342, 343, 333, 279, 1031, 1032, 1033, 112, 1035, 1036, 1037, 1039, 1040, 1041, 336] (by decide +kernel)
set_option maxRecDepth 20000 in
theorem in_k_close : ∀ w ∈ wp_k_close, w ∈ lw_tbl := List.forall_mem_cons.mpr ⟨List.mem_of_getElem? (i := 1030) (by decide +kernel), List.forall_mem_append.mpr ⟨inown_k_close, List.forall_mem_append.mpr ⟨in_k_plink, List.forall_mem_append.mpr ⟨in_k_pisFor, List.forall_mem_append.mpr ⟨in_k_padd, List.forall_mem_append.mpr ⟨lwb_X6, List.forall_mem_append.mpr ⟨lwb_X7, fun _ h => absurd h List.not_mem_nil⟩⟩⟩⟩⟩⟩⟩
set_option maxRecDepth 20000 in
theorem good_k_close : wp_k_close.all goodWord = true := by decide +kernel
set_option maxRecDepth 20000 in
theorem g_k_close_k_plink_143 : GoodIn wp_k_close (wsV RX6 143 RX7 yX7_link wp_k_plink) := goodIn_sub (List.forall_mem_append.mpr ⟨List.forall_mem_cons.mpr ⟨(List.mem_of_getElem? (i := 5) rfl), List.forall_mem_cons.mpr ⟨(List.mem_of_getElem? (i := 6) rfl), List.forall_mem_cons.mpr ⟨(List.mem_of_getElem? (i := 7) rfl), List.forall_mem_cons.mpr ⟨(List.mem_of_getElem? (i := 8) rfl), fun _ h => absurd h List.not_mem_nil⟩⟩⟩⟩, (fun _ h => (List.mem_cons_of_mem _ (List.mem_append_right _ (List.mem_append_left _ h))))⟩) (by decide +kernel)
set_option maxRecDepth 20000 in
theorem g_k_close_k_pisFor_146 : GoodIn wp_k_close (wsV RX6 146 RX7 yX7_isFor wp_k_pisFor) := goodIn_sub (List.forall_mem_append.mpr ⟨List.forall_mem_cons.mpr ⟨(List.mem_of_getElem? (i := 9) rfl), List.forall_mem_cons.mpr ⟨(List.mem_of_getElem? (i := 10) rfl), List.forall_mem_cons.mpr ⟨(List.mem_of_getElem? (i := 11) rfl), List.forall_mem_cons.mpr ⟨(List.mem_of_getElem? (i := 8) rfl), fun _ h => absurd h List.not_mem_nil⟩⟩⟩⟩, (fun _ h => (List.mem_cons_of_mem _ (List.mem_append_right _ (List.mem_append_right _ (List.mem_append_left _ h)))))⟩) (by decide +kernel)
set_option maxRecDepth 20000 in
theorem g_k_close_k_padd_118 : GoodIn wp_k_close (wsV RX6 118 RX7 yX7_add wp_k_padd) := goodIn_sub (List.forall_mem_append.mpr ⟨List.forall_mem_cons.mpr ⟨(List.mem_of_getElem? (i := 12) rfl), List.forall_mem_cons.mpr ⟨(List.mem_of_getElem? (i := 13) rfl), List.forall_mem_cons.mpr ⟨(List.mem_of_getElem? (i := 14) rfl), List.forall_mem_cons.mpr ⟨(List.mem_of_getElem? (i := 8) rfl), fun _ h => absurd h List.not_mem_nil⟩⟩⟩⟩, (fun _ h => (List.mem_cons_of_mem _ (List.mem_append_right _ (List.mem_append_right _ (List.mem_append_right _ (List.mem_append_left _ h))))))⟩) (by decide +kernel)
set_option maxHeartbeats 4000000 in
set_option maxRecDepth 100000 in
theorem k_close (l : Launch) (D : va_G) (sz : Nat) (oq : Nat → Nat) (cI : ClassId) (qf : Int32) (qp : Int32) (qd : Int32) (qs : Int32) (qt : Int32) (qb : Int32) (qh : Int32) (qr : Int32) (qn : Int32) (bk : Nat) (wz : Nat) (fO : Nat → Int32) (fW : Nat → Int32) (pz : Nat) (fK : Nat → Int32) (fN : Nat → Int32) (fL : Nat → Int32) (tx : Value) (zl : Int32) (ta : Int32) (be : Int32) (ki : Int32) (nu : Int32) (wo : Int32) (hbk : bk ≤ 5) (hwz : wz ≤ 600) (hpz : pz ≤ 600) (hb1 : 1 ≤ bk) : Met l yX6_close wp_k_close ({ frames := 1, cells := 0, slots := 0, locals := 22 }) (PcWC D [.ref (oq 0)] sz [(oq 0, .inr (6, gPs oq qf qp qd qs qt qb qh qr qn (nI bk) (nI wz))), (oq 6, .inl (cI, 5, .inl fO)), (oq 7, .inl (cI, 600, .inl fW)), (oq 1, .inr (7, [.int (nI pz), .ref (oq 2), .ref (oq 3), .ref (oq 4)])), (oq 2, .inl (cI, 600, .inl fK)), (oq 3, .inl (cI, 600, .inl fN)), (oq 4, .inl (cI, 600, .inl fL)), (oq 5, .inr (8, [tx, .int zl, .int ta, .int be, .int ki, .int nu, .int wo]))] [(cI, .int)]) (va_Qv (fun (u : (Int32) × (Int32) × (Int32) × (Int32) × (Int32) × (Int32) × (Int32) × (Int32) × (Int32) × (Nat) × (Nat) × (Nat → Int32) × (Nat → Int32) × (Nat) × (Nat → Int32) × (Nat → Int32) × (Nat → Int32)) => u.2.2.2.2.2.2.2.2.2.1 ≤ 5 ∧ u.2.2.2.2.2.2.2.2.2.2.1 ≤ 600 ∧ u.2.2.2.2.2.2.2.2.2.2.2.2.2.1 ≤ 600) (fun (u : (Int32) × (Int32) × (Int32) × (Int32) × (Int32) × (Int32) × (Int32) × (Int32) × (Int32) × (Nat) × (Nat) × (Nat → Int32) × (Nat → Int32) × (Nat) × (Nat → Int32) × (Nat → Int32) × (Nat → Int32)) t => va_P D vwCl [(oq 0, .inr (6, gPs oq u.1 u.2.1 u.2.2.1 u.2.2.2.1 u.2.2.2.2.1 u.2.2.2.2.2.1 u.2.2.2.2.2.2.1 u.2.2.2.2.2.2.2.1 u.2.2.2.2.2.2.2.2.1 (nI u.2.2.2.2.2.2.2.2.2.1) (nI u.2.2.2.2.2.2.2.2.2.2.1))), (oq 6, .inl (cI, 5, .inl u.2.2.2.2.2.2.2.2.2.2.2.1)), (oq 7, .inl (cI, 600, .inl u.2.2.2.2.2.2.2.2.2.2.2.2.1)), (oq 1, .inr (7, [.int (nI u.2.2.2.2.2.2.2.2.2.2.2.2.2.1), .ref (oq 2), .ref (oq 3), .ref (oq 4)])), (oq 2, .inl (cI, 600, .inl u.2.2.2.2.2.2.2.2.2.2.2.2.2.2.1)), (oq 3, .inl (cI, 600, .inl u.2.2.2.2.2.2.2.2.2.2.2.2.2.2.2.1)), (oq 4, .inl (cI, 600, .inl u.2.2.2.2.2.2.2.2.2.2.2.2.2.2.2.2)), (oq 5, .inr (8, [tx, .int zl, .int ta, .int be, .int ki, .int nu, .int wo]))] t.heap ∧ va_K D vwCl [(cI, .int)] t ∧ va_D (va_A [(oq 0, .inr (6, gPs oq qf qp qd qs qt qb qh qr qn (nI bk) (nI wz))), (oq 6, .inl (cI, 5, .inl fO)), (oq 7, .inl (cI, 600, .inl fW)), (oq 1, .inr (7, [.int (nI pz), .ref (oq 2), .ref (oq 3), .ref (oq 4)])), (oq 2, .inl (cI, 600, .inl fK)), (oq 3, .inl (cI, 600, .inl fN)), (oq 4, .inl (cI, 600, .inl fL)), (oq 5, .inr (8, [tx, .int zl, .int ta, .int be, .int ki, .int nu, .int wo]))] sz) [(oq 0, .inr (6, gPs oq u.1 u.2.1 u.2.2.1 u.2.2.2.1 u.2.2.2.2.1 u.2.2.2.2.2.1 u.2.2.2.2.2.2.1 u.2.2.2.2.2.2.2.1 u.2.2.2.2.2.2.2.2.1 (nI u.2.2.2.2.2.2.2.2.2.1) (nI u.2.2.2.2.2.2.2.2.2.2.1))), (oq 6, .inl (cI, 5, .inl u.2.2.2.2.2.2.2.2.2.2.2.1)), (oq 7, .inl (cI, 600, .inl u.2.2.2.2.2.2.2.2.2.2.2.2.1)), (oq 1, .inr (7, [.int (nI u.2.2.2.2.2.2.2.2.2.2.2.2.2.1), .ref (oq 2), .ref (oq 3), .ref (oq 4)])), (oq 2, .inl (cI, 600, .inl u.2.2.2.2.2.2.2.2.2.2.2.2.2.2.1)), (oq 3, .inl (cI, 600, .inl u.2.2.2.2.2.2.2.2.2.2.2.2.2.2.2.1)), (oq 4, .inl (cI, 600, .inl u.2.2.2.2.2.2.2.2.2.2.2.2.2.2.2.2)), (oq 5, .inr (8, [tx, .int zl, .int ta, .int be, .int ki, .int nu, .int wo]))]) (va_A [(oq 0, .inr (6, gPs oq qf qp qd qs qt qb qh qr qn (nI bk) (nI wz))), (oq 6, .inl (cI, 5, .inl fO)), (oq 7, .inl (cI, 600, .inl fW)), (oq 1, .inr (7, [.int (nI pz), .ref (oq 2), .ref (oq 3), .ref (oq 4)])), (oq 2, .inl (cI, 600, .inl fK)), (oq 3, .inl (cI, 600, .inl fN)), (oq 4, .inl (cI, 600, .inl fL)), (oq 5, .inr (8, [tx, .int zl, .int ta, .int be, .int ki, .int nu, .int wo]))] sz)) 0 0 (va_A [(oq 0, .inr (6, gPs oq qf qp qd qs qt qb qh qr qn (nI bk) (nI wz))), (oq 6, .inl (cI, 5, .inl fO)), (oq 7, .inl (cI, 600, .inl fW)), (oq 1, .inr (7, [.int (nI pz), .ref (oq 2), .ref (oq 3), .ref (oq 4)])), (oq 2, .inl (cI, 600, .inl fK)), (oq 3, .inl (cI, 600, .inl fN)), (oq 4, .inl (cI, 600, .inl fL)), (oq 5, .inr (8, [tx, .int zl, .int ta, .int be, .int ki, .int nu, .int wo]))] sz) := by
  refine Met.ofW (cc := cX6_close) (maxL := 2) (ret := none) (by decide) rfl ?_
  intro p e s m args below meth c s₁ B hml hv
  obtain ⟨rfl, hsz, hP, hK, hD0, hN⟩ := hv
  have hx := B.exec
  have hb := B.bytes
  have hr := B.returns
  have hts := atoms_spec (ws := wp_k_close) B.pre
  have hin_X6 : ∀ w ∈ wsX60, w ∈ wp_k_close := fun _ h => (List.mem_cons_of_mem _ (List.mem_append_right _ (List.mem_append_right _ (List.mem_append_right _ (List.mem_append_right _ (List.mem_append_left _ h))))))
  have hin_X7 : ∀ w ∈ wsX70, w ∈ wp_k_close := fun _ h => (List.mem_cons_of_mem _ (List.mem_append_right _ (List.mem_append_right _ (List.mem_append_right _ (List.mem_append_right _ (List.mem_append_right _ (List.mem_append_left _ h)))))))
  have hown : s.vm.findClass RX6 = some m.cls := findClass_of_methodNamed B.named
  have hlocks := B.notSynchronized
  subst hsz
  have hD := hD0.self (sz := s.heap.size)
  generalize hAe : va_A [(oq 0, .inr (6, gPs oq qf qp qd qs qt qb qh qr qn (nI bk) (nI wz))), (oq 6, .inl (cI, 5, .inl fO)), (oq 7, .inl (cI, 600, .inl fW)), (oq 1, .inr (7, [.int (nI pz), .ref (oq 2), .ref (oq 3), .ref (oq 4)])), (oq 2, .inl (cI, 600, .inl fK)), (oq 3, .inl (cI, 600, .inl fN)), (oq 4, .inl (cI, 600, .inl fL)), (oq 5, .inr (8, [tx, .int zl, .int ta, .int be, .int ki, .int nu, .int wo]))] s.heap.size = A at hD ⊢
  have hA : ∀ q : Nat, s.heap.size ≤ q → A q := fun q h => by rw [← hAe]; exact Or.inr h
  have hS : va_S A s.heap s.heap [] := va_S.rf
  have hP : va_P D vwCl [(oq 0, .inr (6, gPs oq qf qp qd qs qt qb qh qr qn (nI bk) (nI wz))), (oq 6, .inl (cI, 5, .inl fO)), (oq 7, .inl (cI, 600, .inl fW)), (oq 1, .inr (7, [.int (nI pz), .ref (oq 2), .ref (oq 3), .ref (oq 4)])), (oq 2, .inl (cI, 600, .inl fK)), (oq 3, .inl (cI, 600, .inl fN)), (oq 4, .inl (cI, 600, .inl fL)), (oq 5, .inr (8, [tx, .int zl, .int ta, .int be, .int ki, .int nu, .int wo]))] s.heap := hP
  have hl := lv_entry ([.ref (oq 0)]) (n := 2) (Nat.le_of_ble_eq_true rfl)
  rw [lg_entry_eq]
  generalize (lg_sl ([.ref (oq 0)]) ++ List.replicate (2 - (lg_sl ([.ref (oq 0)])).length) Slot.unset).toArray = ls at hl ⊢
  have hl : lv_has ls 2 [(0, .ref (oq 0))] := hl
  refine lv_aload_n hx hb dX6_close_0 rfl (lv_at hl 0 rfl) ?_
  refine lv_dup hx hb dX6_close_1 rfl ?_
  refine va_get (D := D) (ci := 6) (v := .int (nI bk)) (C := RX6) (T := TX6) (N := 15) hx hb hts hin_X6 hown hK hP 0 rfl rfl 11 (by decide) (hts (.fieldLink RX6 49 "ClashFree$Parser" "blocks" "I") (List.mem_of_getElem? (i := 1) rfl)) (fun _ h9 => h9) rfl dX6_close_2 ?_
  refine lv_iconst (v := 1) hx hb dX6_close_5 (by decide) ?_
  refine lv_isub hx hb dX6_close_6 ?_
  refine lv_topi (fun v1 ev1 => ?_)
  obtain rfl : v1 = nI (bk - 1) := ev1.trans (pk_sub (b := 1) (by omega))
  refine va_put (D := D) (ci := 6) (v := .int (nI (bk - 1))) (ty := .int) (C := RX6) (T := TX6) (N := 15) hx hb hts hin_X6 tyX6 tyX6_ok nmX6 hown hK hP hD hS 0 rfl rfl 11 (by decide) (hts (.fieldLink RX6 49 "ClashFree$Parser" "blocks" "I") (List.mem_of_getElem? (i := 1) rfl)) (fun _ h9 => h9) rfl (by decide +kernel) rfl rfl (Nat.le_of_ble_eq_true rfl) dX6_close_7 (fun H locs hP hD hS => ?_)
  have hP : va_P D vwCl [(oq 0, .inr (6, gPs oq qf qp qd qs qt qb qh qr qn (nI (bk - 1)) (nI wz))), (oq 6, .inl (cI, 5, .inl fO)), (oq 7, .inl (cI, 600, .inl fW)), (oq 1, .inr (7, [.int (nI pz), .ref (oq 2), .ref (oq 3), .ref (oq 4)])), (oq 2, .inl (cI, 600, .inl fK)), (oq 3, .inl (cI, 600, .inl fN)), (oq 4, .inl (cI, 600, .inl fL)), (oq 5, .inr (8, [tx, .int zl, .int ta, .int be, .int ki, .int nu, .int wo]))] H := hP
  have hD : va_D A [(oq 0, .inr (6, gPs oq qf qp qd qs qt qb qh qr qn (nI (bk - 1)) (nI wz))), (oq 6, .inl (cI, 5, .inl fO)), (oq 7, .inl (cI, 600, .inl fW)), (oq 1, .inr (7, [.int (nI pz), .ref (oq 2), .ref (oq 3), .ref (oq 4)])), (oq 2, .inl (cI, 600, .inl fK)), (oq 3, .inl (cI, 600, .inl fN)), (oq 4, .inl (cI, 600, .inl fL)), (oq 5, .inr (8, [tx, .int zl, .int ta, .int be, .int ki, .int nu, .int wo]))] := hD
  refine lv_aload_n hx hb dX6_close_10 rfl (lv_at hl 0 rfl) ?_
  refine va_get (D := D) (ci := 6) (v := .ref (oq 6)) (C := RX6) (T := TX6) (N := 15) hx hb hts hin_X6 hown hK hP 0 rfl rfl 12 (by decide) (hts (.fieldLink RX6 25 "ClashFree$Parser" "opened" "[I") (List.mem_of_getElem? (i := 2) rfl)) (fun _ h9 => h9) rfl dX6_close_11 ?_
  refine lv_aload_n hx hb dX6_close_14 rfl (lv_at hl 0 rfl) ?_
  refine va_get (D := D) (ci := 6) (v := .int (nI (bk - 1))) (C := RX6) (T := TX6) (N := 15) hx hb hts hin_X6 hown hK hP 0 rfl rfl 11 (by decide) (hts (.fieldLink RX6 49 "ClashFree$Parser" "blocks" "I") (List.mem_of_getElem? (i := 1) rfl)) (fun _ h9 => h9) rfl dX6_close_15 ?_
  refine va_iald hx hb hK hP 1 0 rfl rfl (vp_in_nI (by omega) (by decide)) dX6_close_18 ?_
  refine lv_topi (fun v2 ev2 => ?_)
  refine lv_istore_n (lv' := [(1, .int v2), (0, .ref (oq 0))]) hx hb dX6_close_19 rfl hl (by decide) rfl (fun ls hl => ?_)
  refine lv_aload_n hx hb dX6_close_20 rfl (lv_at hl 1 rfl) ?_
  refine va_get (D := D) (ci := 6) (v := .ref (oq 1)) (C := RX6) (T := TX6) (N := 15) hx hb hts hin_X6 hown hK hP 0 rfl rfl 3 (by decide) (hts (.fieldLink RX6 12 "ClashFree$Parser" "program" "LClashFree$Program;") (List.mem_of_getElem? (i := 3) rfl)) (fun _ h9 => h9) rfl dX6_close_21 ?_
  refine lv_iload_n hx hb dX6_close_24 rfl (lv_at hl 0 rfl) ?_
  refine lv_aload_n hx hb dX6_close_25 rfl (lv_at hl 1 rfl) ?_
  refine va_get (D := D) (ci := 6) (v := .ref (oq 1)) (C := RX6) (T := TX6) (N := 15) hx hb hts hin_X6 hown hK hP 0 rfl rfl 3 (by decide) (hts (.fieldLink RX6 12 "ClashFree$Parser" "program" "LClashFree$Program;") (List.mem_of_getElem? (i := 3) rfl)) (fun _ h9 => h9) rfl dX6_close_26 ?_
  refine va_get (D := D) (ci := 7) (v := .int (nI pz)) (C := RX7) (T := TX7) (N := 4) hx hb hts hin_X7 hown hK hP 3 rfl rfl 0 (by decide) (hts (.fieldLink RX6 36 "ClashFree$Program" "size" "I") (List.mem_of_getElem? (i := 4) rfl)) (fun _ h9 => h9) rfl dX6_close_29 ?_
  have hPc := hP.sub (ws' := [(oq 1, .inr (7, [.int (nI pz), .ref (oq 2), .ref (oq 3), .ref (oq 4)])), (oq 4, .inl (cI, 600, .inl fL))]) [3, 6] rfl
  have hKc := hK.sub (tys' := [(cI, .int)]) [0] rfl
  have hDc := hD.sub (ws' := [(oq 1, .inr (7, [.int (nI pz), .ref (oq 2), .ref (oq 3), .ref (oq 4)])), (oq 4, .inl (cI, 600, .inl fL))]) [3, 6] (by decide) rfl
  have hFc := va_free (wc := [(oq 1, .inr (7, [.int (nI pz), .ref (oq 2), .ref (oq 3), .ref (oq 4)])), (oq 4, .inl (cI, 600, .inl fL))]) hD hS hA [3, 6] rfl
  refine va_callv (va_runV (As := [.int v2, .int (nI pz)]) (rest := []) ⟨hx, hb, hml, hown, hts⟩ (k_plink l D _ oq cI pz fL v2 (nI pz) hpz) (cwV 2 hts g_k_close_k_plink_143 rfl rfl rfl (by decide +kernel) ⟨(Nat.le_of_ble_eq_true rfl), (Nat.le_of_ble_eq_true rfl)⟩) (PcWC_V (q0 := 0) hPc hKc hDc hN rfl rfl) rfl rfl hl.1 rfl (lv_room (Nat.le_of_ble_eq_true rfl)) dX6_close_32 ⟨(Nat.le_of_ble_eq_true rfl), (Nat.le_of_ble_eq_true rfl)⟩) hS (fun q _ h => hFc q h) hFc (fun uu tt H locs htt hvm hw hB hz1 hk1 hS => ?_)
  obtain ⟨w4, rfl⟩ : ∃ z, z = uu := ⟨_, rfl⟩
  obtain ⟨hP1, hK1, hD1⟩ := hB
  rw [htt] at hP1
  have hK1 := va_K.moved hvm.symm hK1
  have hP1 : va_P D vwCl [(oq 1, .inr (7, [.int (nI pz), .ref (oq 2), .ref (oq 3), .ref (oq 4)])), (oq 4, .inl (cI, 600, .inl w4))] H := hP1
  obtain ⟨hP, hD⟩ := va_join (wr := [(oq 0, .inr (6, gPs oq qf qp qd qs qt qb qh qr qn (nI (bk - 1)) (nI wz))), (oq 6, .inl (cI, 5, .inl fO)), (oq 7, .inl (cI, 600, .inl fW)), (oq 2, .inl (cI, 600, .inl fK)), (oq 3, .inl (cI, 600, .inl fN)), (oq 5, .inr (8, [tx, .int zl, .int ta, .int be, .int ki, .int nu, .int wo]))]) (w1 := [(oq 1, .inr (7, [.int (nI pz), .ref (oq 2), .ref (oq 3), .ref (oq 4)])), (oq 4, .inl (cI, 600, .inl w4))]) hP hD [3, 6] [0, 1, 2, 4, 5, 7] rfl rfl (by decide) (by decide) hk1 hFc hP1 hD1
  have hP : va_P D vwCl [(oq 0, .inr (6, gPs oq qf qp qd qs qt qb qh qr qn (nI (bk - 1)) (nI wz))), (oq 6, .inl (cI, 5, .inl fO)), (oq 7, .inl (cI, 600, .inl fW)), (oq 2, .inl (cI, 600, .inl fK)), (oq 3, .inl (cI, 600, .inl fN)), (oq 5, .inr (8, [tx, .int zl, .int ta, .int be, .int ki, .int nu, .int wo])), (oq 1, .inr (7, [.int (nI pz), .ref (oq 2), .ref (oq 3), .ref (oq 4)])), (oq 4, .inl (cI, 600, .inl w4))] H := hP
  have hD : va_D A [(oq 0, .inr (6, gPs oq qf qp qd qs qt qb qh qr qn (nI (bk - 1)) (nI wz))), (oq 6, .inl (cI, 5, .inl fO)), (oq 7, .inl (cI, 600, .inl fW)), (oq 2, .inl (cI, 600, .inl fK)), (oq 3, .inl (cI, 600, .inl fN)), (oq 5, .inr (8, [tx, .int zl, .int ta, .int be, .int ki, .int nu, .int wo])), (oq 1, .inr (7, [.int (nI pz), .ref (oq 2), .ref (oq 3), .ref (oq 4)])), (oq 4, .inl (cI, 600, .inl w4))] := hD
  try dsimp only at hw
  clear hz1 hk1 hFc hPc hKc hDc
  refine lv_aload_n hx hb dX6_close_35 rfl (lv_at hl 1 rfl) ?_
  refine va_get (D := D) (ci := 6) (v := .ref (oq 1)) (C := RX6) (T := TX6) (N := 15) hx hb hts hin_X6 hown hK hP 0 rfl rfl 3 (by decide) (hts (.fieldLink RX6 12 "ClashFree$Parser" "program" "LClashFree$Program;") (List.mem_of_getElem? (i := 3) rfl)) (fun _ h9 => h9) rfl dX6_close_36 ?_
  refine lv_iload_n hx hb dX6_close_39 rfl (lv_at hl 0 rfl) ?_
  have hPc := hP.sub (ws' := [(oq 1, .inr (7, [.int (nI pz), .ref (oq 2), .ref (oq 3), .ref (oq 4)])), (oq 2, .inl (cI, 600, .inl fK))]) [6, 3] rfl
  have hKc := hK.sub (tys' := [(cI, .int)]) [0] rfl
  have hFc := va_free0 hS hA
  refine va_calli (va_runV (As := [.int v2]) (rest := []) ⟨hx, hb, hml, hown, hts⟩ (k_pisFor l D _ oq cI pz fK v2 hpz) (cwV 1 hts g_k_close_k_pisFor_146 rfl rfl rfl (by decide +kernel) ⟨(Nat.le_of_ble_eq_true rfl), (Nat.le_of_ble_eq_true rfl)⟩) (PcRC_V (q0 := 0) hPc hKc hN rfl rfl) rfl rfl hl.1 rfl (lv_room (Nat.le_of_ble_eq_true rfl)) dX6_close_40 ⟨(Nat.le_of_ble_eq_true rfl), (Nat.le_of_ble_eq_true rfl)⟩) hS (fun q _ h => hFc q h) hFc (fun r5 uu tt H locs htt hvm hw hB hz1 hk1 hS => ?_)
  have hP := va_keep hP hk1
  try dsimp only at hw
  clear hB hz1 hk1 hFc hPc hKc
  rcases hw with ⟨rfl, hA_r5⟩ | ⟨rfl, hA_r5⟩
  ·
    refine lv_if_eq (tgt := 73) hx hb dX6_close_43 (by decide) (fun hc => absurd hc (by decide)) (fun hc => ?_)
    refine lv_aload_n hx hb dX6_close_46 rfl (lv_at hl 1 rfl) ?_
    refine va_get (D := D) (ci := 6) (v := .ref (oq 1)) (C := RX6) (T := TX6) (N := 15) hx hb hts hin_X6 hown hK hP 0 rfl rfl 3 (by decide) (hts (.fieldLink RX6 12 "ClashFree$Parser" "program" "LClashFree$Program;") (List.mem_of_getElem? (i := 3) rfl)) (fun _ h9 => h9) rfl dX6_close_47 ?_
    refine lv_bipush (v := 93) hx hb dX6_close_50 (by decide) ?_
    refine lv_iconst (v := 0) hx hb dX6_close_52 (by decide) ?_
    have hPc := hP.sub (ws' := [(oq 1, .inr (7, [.int (nI pz), .ref (oq 2), .ref (oq 3), .ref (oq 4)])), (oq 2, .inl (cI, 600, .inl fK)), (oq 3, .inl (cI, 600, .inl fN)), (oq 4, .inl (cI, 600, .inl w4))]) [6, 3, 4, 7] rfl
    have hKc := hK.sub (tys' := [(cI, .int)]) [0] rfl
    have hDc := hD.sub (ws' := [(oq 1, .inr (7, [.int (nI pz), .ref (oq 2), .ref (oq 3), .ref (oq 4)])), (oq 2, .inl (cI, 600, .inl fK)), (oq 3, .inl (cI, 600, .inl fN)), (oq 4, .inl (cI, 600, .inl w4))]) [6, 3, 4, 7] (by decide) rfl
    have hFc := va_free (wc := [(oq 1, .inr (7, [.int (nI pz), .ref (oq 2), .ref (oq 3), .ref (oq 4)])), (oq 2, .inl (cI, 600, .inl fK)), (oq 3, .inl (cI, 600, .inl fN)), (oq 4, .inl (cI, 600, .inl w4))]) hD hS hA [6, 3, 4, 7] rfl
    refine va_callv (va_runV (As := [.int 93, .int 0]) (rest := []) ⟨hx, hb, hml, hown, hts⟩ (k_padd l D _ oq cI pz fK fN w4 93 0 hpz) (cwV 2 hts g_k_close_k_padd_118 rfl rfl rfl (by decide +kernel) ⟨(Nat.le_of_ble_eq_true rfl), (Nat.le_of_ble_eq_true rfl)⟩) (PcWC_V (q0 := 0) hPc hKc hDc hN rfl rfl) rfl rfl hl.1 rfl (lv_room (Nat.le_of_ble_eq_true rfl)) dX6_close_53 ⟨(Nat.le_of_ble_eq_true rfl), (Nat.le_of_ble_eq_true rfl)⟩) hS (fun q _ h => hFc q h) hFc (fun uu tt H locs htt hvm hw hB hz1 hk1 hS => ?_)
    obtain ⟨w7, w8, w9, w10⟩ := uu
    obtain ⟨hP1, hK1, hD1⟩ := hB
    rw [htt] at hP1
    have hK1 := va_K.moved hvm.symm hK1
    have hP1 : va_P D vwCl [(oq 1, .inr (7, [.int (nI w7), .ref (oq 2), .ref (oq 3), .ref (oq 4)])), (oq 2, .inl (cI, 600, .inl w8)), (oq 3, .inl (cI, 600, .inl w9)), (oq 4, .inl (cI, 600, .inl w10))] H := hP1
    obtain ⟨hP, hD⟩ := va_join (wr := [(oq 0, .inr (6, gPs oq qf qp qd qs qt qb qh qr qn (nI (bk - 1)) (nI wz))), (oq 6, .inl (cI, 5, .inl fO)), (oq 7, .inl (cI, 600, .inl fW)), (oq 5, .inr (8, [tx, .int zl, .int ta, .int be, .int ki, .int nu, .int wo]))]) (w1 := [(oq 1, .inr (7, [.int (nI w7), .ref (oq 2), .ref (oq 3), .ref (oq 4)])), (oq 2, .inl (cI, 600, .inl w8)), (oq 3, .inl (cI, 600, .inl w9)), (oq 4, .inl (cI, 600, .inl w10))]) hP hD [6, 3, 4, 7] [0, 1, 2, 5] rfl rfl (by decide) (by decide) hk1 hFc hP1 hD1
    have hP : va_P D vwCl [(oq 0, .inr (6, gPs oq qf qp qd qs qt qb qh qr qn (nI (bk - 1)) (nI wz))), (oq 6, .inl (cI, 5, .inl fO)), (oq 7, .inl (cI, 600, .inl fW)), (oq 5, .inr (8, [tx, .int zl, .int ta, .int be, .int ki, .int nu, .int wo])), (oq 1, .inr (7, [.int (nI w7), .ref (oq 2), .ref (oq 3), .ref (oq 4)])), (oq 2, .inl (cI, 600, .inl w8)), (oq 3, .inl (cI, 600, .inl w9)), (oq 4, .inl (cI, 600, .inl w10))] H := hP
    have hD : va_D A [(oq 0, .inr (6, gPs oq qf qp qd qs qt qb qh qr qn (nI (bk - 1)) (nI wz))), (oq 6, .inl (cI, 5, .inl fO)), (oq 7, .inl (cI, 600, .inl fW)), (oq 5, .inr (8, [tx, .int zl, .int ta, .int be, .int ki, .int nu, .int wo])), (oq 1, .inr (7, [.int (nI w7), .ref (oq 2), .ref (oq 3), .ref (oq 4)])), (oq 2, .inl (cI, 600, .inl w8)), (oq 3, .inl (cI, 600, .inl w9)), (oq 4, .inl (cI, 600, .inl w10))] := hD
    try dsimp only at hw
    clear hz1 hk1 hFc hPc hKc hDc
    have hpz11 := hw
    refine lv_aload_n hx hb dX6_close_56 rfl (lv_at hl 1 rfl) ?_
    refine va_get (D := D) (ci := 6) (v := .ref (oq 1)) (C := RX6) (T := TX6) (N := 15) hx hb hts hin_X6 hown hK hP 0 rfl rfl 3 (by decide) (hts (.fieldLink RX6 12 "ClashFree$Parser" "program" "LClashFree$Program;") (List.mem_of_getElem? (i := 3) rfl)) (fun _ h9 => h9) rfl dX6_close_57 ?_
    refine lv_aload_n hx hb dX6_close_60 rfl (lv_at hl 1 rfl) ?_
    refine va_get (D := D) (ci := 6) (v := .ref (oq 1)) (C := RX6) (T := TX6) (N := 15) hx hb hts hin_X6 hown hK hP 0 rfl rfl 3 (by decide) (hts (.fieldLink RX6 12 "ClashFree$Parser" "program" "LClashFree$Program;") (List.mem_of_getElem? (i := 3) rfl)) (fun _ h9 => h9) rfl dX6_close_61 ?_
    refine va_get (D := D) (ci := 7) (v := .int (nI w7)) (C := RX7) (T := TX7) (N := 4) hx hb hts hin_X7 hown hK hP 4 rfl rfl 0 (by decide) (hts (.fieldLink RX6 36 "ClashFree$Program" "size" "I") (List.mem_of_getElem? (i := 4) rfl)) (fun _ h9 => h9) rfl dX6_close_64 ?_
    refine lv_iconst (v := 1) hx hb dX6_close_67 (by decide) ?_
    refine lv_isub hx hb dX6_close_68 ?_
    refine lv_topi (fun v12 ev12 => ?_)
    refine lv_iload_n hx hb dX6_close_69 rfl (lv_at hl 0 rfl) ?_
    have hPc := hP.sub (ws' := [(oq 1, .inr (7, [.int (nI w7), .ref (oq 2), .ref (oq 3), .ref (oq 4)])), (oq 4, .inl (cI, 600, .inl w10))]) [4, 7] rfl
    have hKc := hK.sub (tys' := [(cI, .int)]) [0] rfl
    have hDc := hD.sub (ws' := [(oq 1, .inr (7, [.int (nI w7), .ref (oq 2), .ref (oq 3), .ref (oq 4)])), (oq 4, .inl (cI, 600, .inl w10))]) [4, 7] (by decide) rfl
    have hFc := va_free (wc := [(oq 1, .inr (7, [.int (nI w7), .ref (oq 2), .ref (oq 3), .ref (oq 4)])), (oq 4, .inl (cI, 600, .inl w10))]) hD hS hA [4, 7] rfl
    refine va_callv (va_runV (As := [.int v12, .int v2]) (rest := []) ⟨hx, hb, hml, hown, hts⟩ (k_plink l D _ oq cI w7 w10 v12 v2 hpz11) (cwV 2 hts g_k_close_k_plink_143 rfl rfl rfl (by decide +kernel) ⟨(Nat.le_of_ble_eq_true rfl), (Nat.le_of_ble_eq_true rfl)⟩) (PcWC_V (q0 := 0) hPc hKc hDc hN rfl rfl) rfl rfl hl.1 rfl (lv_room (Nat.le_of_ble_eq_true rfl)) dX6_close_70 ⟨(Nat.le_of_ble_eq_true rfl), (Nat.le_of_ble_eq_true rfl)⟩) hS (fun q _ h => hFc q h) hFc (fun uu tt H locs htt hvm hw hB hz1 hk1 hS => ?_)
    obtain ⟨w14, rfl⟩ : ∃ z, z = uu := ⟨_, rfl⟩
    obtain ⟨hP1, hK1, hD1⟩ := hB
    rw [htt] at hP1
    have hK1 := va_K.moved hvm.symm hK1
    have hP1 : va_P D vwCl [(oq 1, .inr (7, [.int (nI w7), .ref (oq 2), .ref (oq 3), .ref (oq 4)])), (oq 4, .inl (cI, 600, .inl w14))] H := hP1
    obtain ⟨hP, hD⟩ := va_join (wr := [(oq 0, .inr (6, gPs oq qf qp qd qs qt qb qh qr qn (nI (bk - 1)) (nI wz))), (oq 6, .inl (cI, 5, .inl fO)), (oq 7, .inl (cI, 600, .inl fW)), (oq 5, .inr (8, [tx, .int zl, .int ta, .int be, .int ki, .int nu, .int wo])), (oq 2, .inl (cI, 600, .inl w8)), (oq 3, .inl (cI, 600, .inl w9))]) (w1 := [(oq 1, .inr (7, [.int (nI w7), .ref (oq 2), .ref (oq 3), .ref (oq 4)])), (oq 4, .inl (cI, 600, .inl w14))]) hP hD [4, 7] [0, 1, 2, 3, 5, 6] rfl rfl (by decide) (by decide) hk1 hFc hP1 hD1
    have hP : va_P D vwCl [(oq 0, .inr (6, gPs oq qf qp qd qs qt qb qh qr qn (nI (bk - 1)) (nI wz))), (oq 6, .inl (cI, 5, .inl fO)), (oq 7, .inl (cI, 600, .inl fW)), (oq 5, .inr (8, [tx, .int zl, .int ta, .int be, .int ki, .int nu, .int wo])), (oq 2, .inl (cI, 600, .inl w8)), (oq 3, .inl (cI, 600, .inl w9)), (oq 1, .inr (7, [.int (nI w7), .ref (oq 2), .ref (oq 3), .ref (oq 4)])), (oq 4, .inl (cI, 600, .inl w14))] H := hP
    have hD : va_D A [(oq 0, .inr (6, gPs oq qf qp qd qs qt qb qh qr qn (nI (bk - 1)) (nI wz))), (oq 6, .inl (cI, 5, .inl fO)), (oq 7, .inl (cI, 600, .inl fW)), (oq 5, .inr (8, [tx, .int zl, .int ta, .int be, .int ki, .int nu, .int wo])), (oq 2, .inl (cI, 600, .inl w8)), (oq 3, .inl (cI, 600, .inl w9)), (oq 1, .inr (7, [.int (nI w7), .ref (oq 2), .ref (oq 3), .ref (oq 4)])), (oq 4, .inl (cI, 600, .inl w14))] := hD
    try dsimp only at hw
    clear hz1 hk1 hFc hPc hKc hDc
    refine lv_aload_n hx hb dX6_close_73 rfl (lv_at hl 1 rfl) ?_
    refine lv_iconst (v := 5) hx hb dX6_close_74 (by decide) ?_
    refine va_put (D := D) (ci := 6) (v := .int 5) (ty := .int) (C := RX6) (T := TX6) (N := 15) hx hb hts hin_X6 tyX6 tyX6_ok nmX6 hown hK hP hD hS 0 rfl rfl 5 (by decide) (hts (.fieldLink RX6 39 "ClashFree$Parser" "state" "I") (List.mem_of_getElem? (i := 15) rfl)) (fun _ h9 => h9) rfl (by decide +kernel) rfl rfl (Nat.le_of_ble_eq_true rfl) dX6_close_75 (fun H locs hP hD hS => ?_)
    have hP : va_P D vwCl [(oq 0, .inr (6, gPs oq qf qp qd 5 qt qb qh qr qn (nI (bk - 1)) (nI wz))), (oq 6, .inl (cI, 5, .inl fO)), (oq 7, .inl (cI, 600, .inl fW)), (oq 5, .inr (8, [tx, .int zl, .int ta, .int be, .int ki, .int nu, .int wo])), (oq 2, .inl (cI, 600, .inl w8)), (oq 3, .inl (cI, 600, .inl w9)), (oq 1, .inr (7, [.int (nI w7), .ref (oq 2), .ref (oq 3), .ref (oq 4)])), (oq 4, .inl (cI, 600, .inl w14))] H := hP
    have hD : va_D A [(oq 0, .inr (6, gPs oq qf qp qd 5 qt qb qh qr qn (nI (bk - 1)) (nI wz))), (oq 6, .inl (cI, 5, .inl fO)), (oq 7, .inl (cI, 600, .inl fW)), (oq 5, .inr (8, [tx, .int zl, .int ta, .int be, .int ki, .int nu, .int wo])), (oq 2, .inl (cI, 600, .inl w8)), (oq 3, .inl (cI, 600, .inl w9)), (oq 1, .inr (7, [.int (nI w7), .ref (oq 2), .ref (oq 3), .ref (oq 4)])), (oq 4, .inl (cI, 600, .inl w14))] := hD
    exact W.vret hx hb hr (fun t ht hW => ⟨⟨(qf, qp, qd, 5, qt, qb, qh, qr, qn, (bk - 1), wz, fO, fW, w7, w8, w9, w14), rfl, (by (try dsimp only); first | done | exact ⟨by omega, by omega, by omega⟩), by rw [ht]; exact hP.sub [0, 1, 2, 6, 4, 5, 7, 3] rfl, va_K.moved hW.alike (hK.sub [0] rfl), hD.sub [0, 1, 2, 6, 4, 5, 7, 3] (by decide) rfl⟩, hS.F ht⟩) hS.2.2 dX6_close_78
  ·
    refine lv_if_eq (tgt := 73) hx hb dX6_close_43 (by decide) (fun hc => ?_) (fun hc => absurd (by decide) hc)
    refine lv_aload_n hx hb dX6_close_73 rfl (lv_at hl 1 rfl) ?_
    refine lv_iconst (v := 5) hx hb dX6_close_74 (by decide) ?_
    refine va_put (D := D) (ci := 6) (v := .int 5) (ty := .int) (C := RX6) (T := TX6) (N := 15) hx hb hts hin_X6 tyX6 tyX6_ok nmX6 hown hK hP hD hS 0 rfl rfl 5 (by decide) (hts (.fieldLink RX6 39 "ClashFree$Parser" "state" "I") (List.mem_of_getElem? (i := 15) rfl)) (fun _ h9 => h9) rfl (by decide +kernel) rfl rfl (Nat.le_of_ble_eq_true rfl) dX6_close_75 (fun H locs hP hD hS => ?_)
    have hP : va_P D vwCl [(oq 0, .inr (6, gPs oq qf qp qd 5 qt qb qh qr qn (nI (bk - 1)) (nI wz))), (oq 6, .inl (cI, 5, .inl fO)), (oq 7, .inl (cI, 600, .inl fW)), (oq 2, .inl (cI, 600, .inl fK)), (oq 3, .inl (cI, 600, .inl fN)), (oq 5, .inr (8, [tx, .int zl, .int ta, .int be, .int ki, .int nu, .int wo])), (oq 1, .inr (7, [.int (nI pz), .ref (oq 2), .ref (oq 3), .ref (oq 4)])), (oq 4, .inl (cI, 600, .inl w4))] H := hP
    have hD : va_D A [(oq 0, .inr (6, gPs oq qf qp qd 5 qt qb qh qr qn (nI (bk - 1)) (nI wz))), (oq 6, .inl (cI, 5, .inl fO)), (oq 7, .inl (cI, 600, .inl fW)), (oq 2, .inl (cI, 600, .inl fK)), (oq 3, .inl (cI, 600, .inl fN)), (oq 5, .inr (8, [tx, .int zl, .int ta, .int be, .int ki, .int nu, .int wo])), (oq 1, .inr (7, [.int (nI pz), .ref (oq 2), .ref (oq 3), .ref (oq 4)])), (oq 4, .inl (cI, 600, .inl w4))] := hD
    exact W.vret hx hb hr (fun t ht hW => ⟨⟨(qf, qp, qd, 5, qt, qb, qh, qr, qn, (bk - 1), wz, fO, fW, pz, fK, fN, w4), rfl, (by (try dsimp only); first | done | exact ⟨by omega, by omega, by omega⟩), by rw [ht]; exact hP.sub [0, 1, 2, 6, 3, 4, 7, 5] rfl, va_K.moved hW.alike (hK.sub [0] rfl), hD.sub [0, 1, 2, 6, 3, 4, 7, 5] (by decide) rfl⟩, hS.F ht⟩) hS.2.2 dX6_close_78

def own_k_aEnd : List Cond := [.methodLink RX6 112 yX6_refuse, .instanceMethod yX6_refuse, .selects RX6 yX6_refuse yX6_refuse, .initialized RX6, .fieldLink RX6 49 "ClashFree$Parser" "blocks" "I", .fieldLink RX6 39 "ClashFree$Parser" "state" "I", .methodLink RX6 109 yX6_close, .instanceMethod yX6_close, .selects RX6 yX6_close yX6_close]
def wp_k_aEnd : List Cond := .code yX6_acceptEnd cX6_acceptEnd 2 none :: (own_k_aEnd ++ (wp_k_refuse ++ (wp_k_close ++ (wsX60 ++ ([] : List Cond)))))
set_option maxRecDepth 20000 in
theorem inown_k_aEnd : ∀ w ∈ own_k_aEnd, w ∈ lw_tbl := mem_places [1043, 1045, 15, 111, 342, 336, 1027, 1029, 14] (by decide +kernel)
set_option maxRecDepth 20000 in
theorem in_k_aEnd : ∀ w ∈ wp_k_aEnd, w ∈ lw_tbl := List.forall_mem_cons.mpr ⟨List.mem_of_getElem? (i := 1026) (by decide +kernel), List.forall_mem_append.mpr ⟨inown_k_aEnd, List.forall_mem_append.mpr ⟨in_k_refuse, List.forall_mem_append.mpr ⟨in_k_close, List.forall_mem_append.mpr ⟨lwb_X6, fun _ h => absurd h List.not_mem_nil⟩⟩⟩⟩⟩
set_option maxRecDepth 20000 in
theorem good_k_aEnd : wp_k_aEnd.all goodWord = true := by decide +kernel
set_option maxRecDepth 20000 in
theorem g_k_aEnd_k_refuse_112 : GoodIn wp_k_aEnd (wsV RX6 112 RX6 yX6_refuse wp_k_refuse) := goodIn_sub (List.forall_mem_append.mpr ⟨List.forall_mem_cons.mpr ⟨(List.mem_of_getElem? (i := 1) rfl), List.forall_mem_cons.mpr ⟨(List.mem_of_getElem? (i := 2) rfl), List.forall_mem_cons.mpr ⟨(List.mem_of_getElem? (i := 3) rfl), List.forall_mem_cons.mpr ⟨(List.mem_of_getElem? (i := 4) rfl), fun _ h => absurd h List.not_mem_nil⟩⟩⟩⟩, (fun _ h => (List.mem_cons_of_mem _ (List.mem_append_right _ (List.mem_append_left _ h))))⟩) (by decide +kernel)
set_option maxRecDepth 20000 in
theorem g_k_aEnd_k_close_109 : GoodIn wp_k_aEnd (wsV RX6 109 RX6 yX6_close wp_k_close) := goodIn_sub (List.forall_mem_append.mpr ⟨List.forall_mem_cons.mpr ⟨(List.mem_of_getElem? (i := 7) rfl), List.forall_mem_cons.mpr ⟨(List.mem_of_getElem? (i := 8) rfl), List.forall_mem_cons.mpr ⟨(List.mem_of_getElem? (i := 9) rfl), List.forall_mem_cons.mpr ⟨(List.mem_of_getElem? (i := 4) rfl), fun _ h => absurd h List.not_mem_nil⟩⟩⟩⟩, (fun _ h => (List.mem_cons_of_mem _ (List.mem_append_right _ (List.mem_append_right _ (List.mem_append_left _ h)))))⟩) (by decide +kernel)
set_option maxHeartbeats 4000000 in
set_option maxRecDepth 100000 in
theorem k_aEnd (l : Launch) (D : va_G) (sz : Nat) (oq : Nat → Nat) (cI : ClassId) (qf : Int32) (qp : Int32) (qd : Int32) (qs : Int32) (qt : Int32) (qb : Int32) (qh : Int32) (qr : Int32) (qn : Int32) (bk : Nat) (wz : Nat) (fO : Nat → Int32) (fW : Nat → Int32) (pz : Nat) (fK : Nat → Int32) (fN : Nat → Int32) (fL : Nat → Int32) (tx : Value) (zl : Int32) (ta : Int32) (be : Int32) (ki : Int32) (nu : Int32) (wo : Int32) (z1 : Int32) (hbk : bk ≤ 5) (hwz : wz ≤ 600) (hpz : pz ≤ 600) : Met l yX6_acceptEnd wp_k_aEnd ({ frames := 2, cells := 0, slots := 0, locals := 43 }) (PcWC D [.ref (oq 0), .int z1] sz [(oq 0, .inr (6, gPs oq qf qp qd qs qt qb qh qr qn (nI bk) (nI wz))), (oq 6, .inl (cI, 5, .inl fO)), (oq 7, .inl (cI, 600, .inl fW)), (oq 1, .inr (7, [.int (nI pz), .ref (oq 2), .ref (oq 3), .ref (oq 4)])), (oq 2, .inl (cI, 600, .inl fK)), (oq 3, .inl (cI, 600, .inl fN)), (oq 4, .inl (cI, 600, .inl fL)), (oq 5, .inr (8, [tx, .int zl, .int ta, .int be, .int ki, .int nu, .int wo]))] [(cI, .int)]) (va_Qv (fun (u : (Int32) × (Int32) × (Int32) × (Int32) × (Int32) × (Int32) × (Int32) × (Int32) × (Int32) × (Nat) × (Nat) × (Nat → Int32) × (Nat → Int32) × (Nat) × (Nat → Int32) × (Nat → Int32) × (Nat → Int32)) => u.2.2.2.2.2.2.2.2.2.1 ≤ 5 ∧ u.2.2.2.2.2.2.2.2.2.2.1 ≤ 600 ∧ u.2.2.2.2.2.2.2.2.2.2.2.2.2.1 ≤ 600) (fun (u : (Int32) × (Int32) × (Int32) × (Int32) × (Int32) × (Int32) × (Int32) × (Int32) × (Int32) × (Nat) × (Nat) × (Nat → Int32) × (Nat → Int32) × (Nat) × (Nat → Int32) × (Nat → Int32) × (Nat → Int32)) t => va_P D vwCl [(oq 0, .inr (6, gPs oq u.1 u.2.1 u.2.2.1 u.2.2.2.1 u.2.2.2.2.1 u.2.2.2.2.2.1 u.2.2.2.2.2.2.1 u.2.2.2.2.2.2.2.1 u.2.2.2.2.2.2.2.2.1 (nI u.2.2.2.2.2.2.2.2.2.1) (nI u.2.2.2.2.2.2.2.2.2.2.1))), (oq 6, .inl (cI, 5, .inl u.2.2.2.2.2.2.2.2.2.2.2.1)), (oq 7, .inl (cI, 600, .inl u.2.2.2.2.2.2.2.2.2.2.2.2.1)), (oq 1, .inr (7, [.int (nI u.2.2.2.2.2.2.2.2.2.2.2.2.2.1), .ref (oq 2), .ref (oq 3), .ref (oq 4)])), (oq 2, .inl (cI, 600, .inl u.2.2.2.2.2.2.2.2.2.2.2.2.2.2.1)), (oq 3, .inl (cI, 600, .inl u.2.2.2.2.2.2.2.2.2.2.2.2.2.2.2.1)), (oq 4, .inl (cI, 600, .inl u.2.2.2.2.2.2.2.2.2.2.2.2.2.2.2.2)), (oq 5, .inr (8, [tx, .int zl, .int ta, .int be, .int ki, .int nu, .int wo]))] t.heap ∧ va_K D vwCl [(cI, .int)] t ∧ va_D (va_A [(oq 0, .inr (6, gPs oq qf qp qd qs qt qb qh qr qn (nI bk) (nI wz))), (oq 6, .inl (cI, 5, .inl fO)), (oq 7, .inl (cI, 600, .inl fW)), (oq 1, .inr (7, [.int (nI pz), .ref (oq 2), .ref (oq 3), .ref (oq 4)])), (oq 2, .inl (cI, 600, .inl fK)), (oq 3, .inl (cI, 600, .inl fN)), (oq 4, .inl (cI, 600, .inl fL)), (oq 5, .inr (8, [tx, .int zl, .int ta, .int be, .int ki, .int nu, .int wo]))] sz) [(oq 0, .inr (6, gPs oq u.1 u.2.1 u.2.2.1 u.2.2.2.1 u.2.2.2.2.1 u.2.2.2.2.2.1 u.2.2.2.2.2.2.1 u.2.2.2.2.2.2.2.1 u.2.2.2.2.2.2.2.2.1 (nI u.2.2.2.2.2.2.2.2.2.1) (nI u.2.2.2.2.2.2.2.2.2.2.1))), (oq 6, .inl (cI, 5, .inl u.2.2.2.2.2.2.2.2.2.2.2.1)), (oq 7, .inl (cI, 600, .inl u.2.2.2.2.2.2.2.2.2.2.2.2.1)), (oq 1, .inr (7, [.int (nI u.2.2.2.2.2.2.2.2.2.2.2.2.2.1), .ref (oq 2), .ref (oq 3), .ref (oq 4)])), (oq 2, .inl (cI, 600, .inl u.2.2.2.2.2.2.2.2.2.2.2.2.2.2.1)), (oq 3, .inl (cI, 600, .inl u.2.2.2.2.2.2.2.2.2.2.2.2.2.2.2.1)), (oq 4, .inl (cI, 600, .inl u.2.2.2.2.2.2.2.2.2.2.2.2.2.2.2.2)), (oq 5, .inr (8, [tx, .int zl, .int ta, .int be, .int ki, .int nu, .int wo]))]) (va_A [(oq 0, .inr (6, gPs oq qf qp qd qs qt qb qh qr qn (nI bk) (nI wz))), (oq 6, .inl (cI, 5, .inl fO)), (oq 7, .inl (cI, 600, .inl fW)), (oq 1, .inr (7, [.int (nI pz), .ref (oq 2), .ref (oq 3), .ref (oq 4)])), (oq 2, .inl (cI, 600, .inl fK)), (oq 3, .inl (cI, 600, .inl fN)), (oq 4, .inl (cI, 600, .inl fL)), (oq 5, .inr (8, [tx, .int zl, .int ta, .int be, .int ki, .int nu, .int wo]))] sz)) 0 0 (va_A [(oq 0, .inr (6, gPs oq qf qp qd qs qt qb qh qr qn (nI bk) (nI wz))), (oq 6, .inl (cI, 5, .inl fO)), (oq 7, .inl (cI, 600, .inl fW)), (oq 1, .inr (7, [.int (nI pz), .ref (oq 2), .ref (oq 3), .ref (oq 4)])), (oq 2, .inl (cI, 600, .inl fK)), (oq 3, .inl (cI, 600, .inl fN)), (oq 4, .inl (cI, 600, .inl fL)), (oq 5, .inr (8, [tx, .int zl, .int ta, .int be, .int ki, .int nu, .int wo]))] sz) := by
  refine Met.ofW (cc := cX6_acceptEnd) (maxL := 2) (ret := none) (by decide) rfl ?_
  intro p e s m args below meth c s₁ B hml hv
  obtain ⟨rfl, hsz, hP, hK, hD0, hN⟩ := hv
  have hx := B.exec
  have hb := B.bytes
  have hr := B.returns
  have hts := atoms_spec (ws := wp_k_aEnd) B.pre
  have hin_X6 : ∀ w ∈ wsX60, w ∈ wp_k_aEnd := fun _ h => (List.mem_cons_of_mem _ (List.mem_append_right _ (List.mem_append_right _ (List.mem_append_right _ (List.mem_append_left _ h)))))
  have hown : s.vm.findClass RX6 = some m.cls := findClass_of_methodNamed B.named
  have hlocks := B.notSynchronized
  subst hsz
  have hD := hD0.self (sz := s.heap.size)
  generalize hAe : va_A [(oq 0, .inr (6, gPs oq qf qp qd qs qt qb qh qr qn (nI bk) (nI wz))), (oq 6, .inl (cI, 5, .inl fO)), (oq 7, .inl (cI, 600, .inl fW)), (oq 1, .inr (7, [.int (nI pz), .ref (oq 2), .ref (oq 3), .ref (oq 4)])), (oq 2, .inl (cI, 600, .inl fK)), (oq 3, .inl (cI, 600, .inl fN)), (oq 4, .inl (cI, 600, .inl fL)), (oq 5, .inr (8, [tx, .int zl, .int ta, .int be, .int ki, .int nu, .int wo]))] s.heap.size = A at hD ⊢
  have hA : ∀ q : Nat, s.heap.size ≤ q → A q := fun q h => by rw [← hAe]; exact Or.inr h
  have hS : va_S A s.heap s.heap [] := va_S.rf
  have hP : va_P D vwCl [(oq 0, .inr (6, gPs oq qf qp qd qs qt qb qh qr qn (nI bk) (nI wz))), (oq 6, .inl (cI, 5, .inl fO)), (oq 7, .inl (cI, 600, .inl fW)), (oq 1, .inr (7, [.int (nI pz), .ref (oq 2), .ref (oq 3), .ref (oq 4)])), (oq 2, .inl (cI, 600, .inl fK)), (oq 3, .inl (cI, 600, .inl fN)), (oq 4, .inl (cI, 600, .inl fL)), (oq 5, .inr (8, [tx, .int zl, .int ta, .int be, .int ki, .int nu, .int wo]))] s.heap := hP
  have hl := lv_entry ([.ref (oq 0), .int z1]) (n := 2) (Nat.le_of_ble_eq_true rfl)
  rw [lg_entry_eq]
  generalize (lg_sl ([.ref (oq 0), .int z1]) ++ List.replicate (2 - (lg_sl ([.ref (oq 0), .int z1])).length) Slot.unset).toArray = ls at hl ⊢
  have hl : lv_has ls 2 [(0, .ref (oq 0)), (1, .int z1)] := hl
  refine lv_iload_n hx hb dX6_acceptEnd_0 rfl (lv_at hl 1 rfl) ?_
  refine lv_bipush (v := 93) hx hb dX6_acceptEnd_1 (by decide) ?_
  refine lv_icmp_ne (tgt := 20) hx hb dX6_acceptEnd_3 (by decide) (fun hc1 => ?_) (fun hc1 => ?_)
  ·
    refine lv_iload_n hx hb dX6_acceptEnd_20 rfl (lv_at hl 1 rfl) ?_
    refine lv_if_ne (tgt := 40) hx hb dX6_acceptEnd_21 (by decide) (fun hc2 => ?_) (fun hc2 => ?_)
    ·
      refine lv_aload_n hx hb dX6_acceptEnd_40 rfl (lv_at hl 0 rfl) ?_
      have hPc := hP.sub (ws' := [(oq 0, .inr (6, gPs oq qf qp qd qs qt qb qh qr qn (nI bk) (nI wz))), (oq 6, .inl (cI, 5, .inl fO)), (oq 7, .inl (cI, 600, .inl fW)), (oq 1, .inr (7, [.int (nI pz), .ref (oq 2), .ref (oq 3), .ref (oq 4)])), (oq 2, .inl (cI, 600, .inl fK)), (oq 3, .inl (cI, 600, .inl fN)), (oq 4, .inl (cI, 600, .inl fL)), (oq 5, .inr (8, [tx, .int zl, .int ta, .int be, .int ki, .int nu, .int wo]))]) [0, 1, 2, 3, 4, 5, 6, 7] rfl
      have hKc := hK.sub (tys' := [(cI, .int)]) [0] rfl
      have hDc := hD.sub (ws' := [(oq 0, .inr (6, gPs oq qf qp qd qs qt qb qh qr qn (nI bk) (nI wz))), (oq 6, .inl (cI, 5, .inl fO)), (oq 7, .inl (cI, 600, .inl fW)), (oq 1, .inr (7, [.int (nI pz), .ref (oq 2), .ref (oq 3), .ref (oq 4)])), (oq 2, .inl (cI, 600, .inl fK)), (oq 3, .inl (cI, 600, .inl fN)), (oq 4, .inl (cI, 600, .inl fL)), (oq 5, .inr (8, [tx, .int zl, .int ta, .int be, .int ki, .int nu, .int wo]))]) [0, 1, 2, 3, 4, 5, 6, 7] (by decide) rfl
      have hFc := va_free (wc := [(oq 0, .inr (6, gPs oq qf qp qd qs qt qb qh qr qn (nI bk) (nI wz))), (oq 6, .inl (cI, 5, .inl fO)), (oq 7, .inl (cI, 600, .inl fW)), (oq 1, .inr (7, [.int (nI pz), .ref (oq 2), .ref (oq 3), .ref (oq 4)])), (oq 2, .inl (cI, 600, .inl fK)), (oq 3, .inl (cI, 600, .inl fN)), (oq 4, .inl (cI, 600, .inl fL)), (oq 5, .inr (8, [tx, .int zl, .int ta, .int be, .int ki, .int nu, .int wo]))]) hD hS hA [0, 1, 2, 3, 4, 5, 6, 7] rfl
      refine va_callv (va_runV (As := []) (rest := []) ⟨hx, hb, hml, hown, hts⟩ (k_refuse l D _ oq cI qf qp qd qs qt qb qh qr qn bk wz fO fW pz fK fN fL tx zl ta be ki nu wo hbk hwz hpz) (cwV 0 hts g_k_aEnd_k_refuse_112 rfl rfl rfl (by decide +kernel) ⟨(Nat.le_of_ble_eq_true rfl), (Nat.le_of_ble_eq_true rfl)⟩) (PcWC_V (q0 := 0) hPc hKc hDc hN rfl rfl) rfl rfl hl.1 rfl (lv_room (Nat.le_of_ble_eq_true rfl)) dX6_acceptEnd_41 ⟨(Nat.le_of_ble_eq_true rfl), (Nat.le_of_ble_eq_true rfl)⟩) hS (fun q _ h => hFc q h) hFc (fun uu tt H locs htt hvm hw hB hz1 hk1 hS => ?_)
      obtain ⟨w4, w5, w6, w7, w8, w9, w10, w11, w12, w13, w14, w15, w16, w17, w18, w19, w20⟩ := uu
      obtain ⟨hP1, hK1, hD1⟩ := hB
      rw [htt] at hP1
      have hK1 := va_K.moved hvm.symm hK1
      have hP1 : va_P D vwCl [(oq 0, .inr (6, gPs oq w4 w5 w6 w7 w8 w9 w10 w11 w12 (nI w13) (nI w14))), (oq 6, .inl (cI, 5, .inl w15)), (oq 7, .inl (cI, 600, .inl w16)), (oq 1, .inr (7, [.int (nI w17), .ref (oq 2), .ref (oq 3), .ref (oq 4)])), (oq 2, .inl (cI, 600, .inl w18)), (oq 3, .inl (cI, 600, .inl w19)), (oq 4, .inl (cI, 600, .inl w20)), (oq 5, .inr (8, [tx, .int zl, .int ta, .int be, .int ki, .int nu, .int wo]))] H := hP1
      obtain ⟨hP, hD⟩ := va_join (wr := []) (w1 := [(oq 0, .inr (6, gPs oq w4 w5 w6 w7 w8 w9 w10 w11 w12 (nI w13) (nI w14))), (oq 6, .inl (cI, 5, .inl w15)), (oq 7, .inl (cI, 600, .inl w16)), (oq 1, .inr (7, [.int (nI w17), .ref (oq 2), .ref (oq 3), .ref (oq 4)])), (oq 2, .inl (cI, 600, .inl w18)), (oq 3, .inl (cI, 600, .inl w19)), (oq 4, .inl (cI, 600, .inl w20)), (oq 5, .inr (8, [tx, .int zl, .int ta, .int be, .int ki, .int nu, .int wo]))]) hP hD [0, 1, 2, 3, 4, 5, 6, 7] [] rfl rfl (by decide) (by decide) hk1 hFc hP1 hD1
      have hP : va_P D vwCl [(oq 0, .inr (6, gPs oq w4 w5 w6 w7 w8 w9 w10 w11 w12 (nI w13) (nI w14))), (oq 6, .inl (cI, 5, .inl w15)), (oq 7, .inl (cI, 600, .inl w16)), (oq 1, .inr (7, [.int (nI w17), .ref (oq 2), .ref (oq 3), .ref (oq 4)])), (oq 2, .inl (cI, 600, .inl w18)), (oq 3, .inl (cI, 600, .inl w19)), (oq 4, .inl (cI, 600, .inl w20)), (oq 5, .inr (8, [tx, .int zl, .int ta, .int be, .int ki, .int nu, .int wo]))] H := hP
      have hD : va_D A [(oq 0, .inr (6, gPs oq w4 w5 w6 w7 w8 w9 w10 w11 w12 (nI w13) (nI w14))), (oq 6, .inl (cI, 5, .inl w15)), (oq 7, .inl (cI, 600, .inl w16)), (oq 1, .inr (7, [.int (nI w17), .ref (oq 2), .ref (oq 3), .ref (oq 4)])), (oq 2, .inl (cI, 600, .inl w18)), (oq 3, .inl (cI, 600, .inl w19)), (oq 4, .inl (cI, 600, .inl w20)), (oq 5, .inr (8, [tx, .int zl, .int ta, .int be, .int ki, .int nu, .int wo]))] := hD
      try dsimp only at hw
      clear hz1 hk1 hFc hPc hKc hDc
      obtain ⟨hx21_1, hx21_2, hx21_3⟩ := hw
      exact W.vret hx hb hr (fun t ht hW => ⟨⟨(w4, w5, w6, w7, w8, w9, w10, w11, w12, w13, w14, w15, w16, w17, w18, w19, w20), rfl, (by (try dsimp only); first | done | exact ⟨by omega, by omega, by omega⟩), by rw [ht]; exact hP.sub [0, 1, 2, 3, 4, 5, 6, 7] rfl, va_K.moved hW.alike (hK.sub [0] rfl), hD.sub [0, 1, 2, 3, 4, 5, 6, 7] (by decide) rfl⟩, hS.F ht⟩) hS.2.2 dX6_acceptEnd_44
    ·
      refine lv_aload_n hx hb dX6_acceptEnd_24 rfl (lv_at hl 0 rfl) ?_
      refine va_get (D := D) (ci := 6) (v := .int (nI bk)) (C := RX6) (T := TX6) (N := 15) hx hb hts hin_X6 hown hK hP 0 rfl rfl 11 (by decide) (hts (.fieldLink RX6 49 "ClashFree$Parser" "blocks" "I") (List.mem_of_getElem? (i := 5) rfl)) (fun _ h9 => h9) rfl dX6_acceptEnd_25 ?_
      refine lv_if_ne (tgt := 40) hx hb dX6_acceptEnd_28 (by decide) (fun hc22 => ?_) (fun hc22 => ?_)
      ·
        refine lv_aload_n hx hb dX6_acceptEnd_40 rfl (lv_at hl 0 rfl) ?_
        have hPc := hP.sub (ws' := [(oq 0, .inr (6, gPs oq qf qp qd qs qt qb qh qr qn (nI bk) (nI wz))), (oq 6, .inl (cI, 5, .inl fO)), (oq 7, .inl (cI, 600, .inl fW)), (oq 1, .inr (7, [.int (nI pz), .ref (oq 2), .ref (oq 3), .ref (oq 4)])), (oq 2, .inl (cI, 600, .inl fK)), (oq 3, .inl (cI, 600, .inl fN)), (oq 4, .inl (cI, 600, .inl fL)), (oq 5, .inr (8, [tx, .int zl, .int ta, .int be, .int ki, .int nu, .int wo]))]) [0, 1, 2, 3, 4, 5, 6, 7] rfl
        have hKc := hK.sub (tys' := [(cI, .int)]) [0] rfl
        have hDc := hD.sub (ws' := [(oq 0, .inr (6, gPs oq qf qp qd qs qt qb qh qr qn (nI bk) (nI wz))), (oq 6, .inl (cI, 5, .inl fO)), (oq 7, .inl (cI, 600, .inl fW)), (oq 1, .inr (7, [.int (nI pz), .ref (oq 2), .ref (oq 3), .ref (oq 4)])), (oq 2, .inl (cI, 600, .inl fK)), (oq 3, .inl (cI, 600, .inl fN)), (oq 4, .inl (cI, 600, .inl fL)), (oq 5, .inr (8, [tx, .int zl, .int ta, .int be, .int ki, .int nu, .int wo]))]) [0, 1, 2, 3, 4, 5, 6, 7] (by decide) rfl
        have hFc := va_free (wc := [(oq 0, .inr (6, gPs oq qf qp qd qs qt qb qh qr qn (nI bk) (nI wz))), (oq 6, .inl (cI, 5, .inl fO)), (oq 7, .inl (cI, 600, .inl fW)), (oq 1, .inr (7, [.int (nI pz), .ref (oq 2), .ref (oq 3), .ref (oq 4)])), (oq 2, .inl (cI, 600, .inl fK)), (oq 3, .inl (cI, 600, .inl fN)), (oq 4, .inl (cI, 600, .inl fL)), (oq 5, .inr (8, [tx, .int zl, .int ta, .int be, .int ki, .int nu, .int wo]))]) hD hS hA [0, 1, 2, 3, 4, 5, 6, 7] rfl
        refine va_callv (va_runV (As := []) (rest := []) ⟨hx, hb, hml, hown, hts⟩ (k_refuse l D _ oq cI qf qp qd qs qt qb qh qr qn bk wz fO fW pz fK fN fL tx zl ta be ki nu wo hbk hwz hpz) (cwV 0 hts g_k_aEnd_k_refuse_112 rfl rfl rfl (by decide +kernel) ⟨(Nat.le_of_ble_eq_true rfl), (Nat.le_of_ble_eq_true rfl)⟩) (PcWC_V (q0 := 0) hPc hKc hDc hN rfl rfl) rfl rfl hl.1 rfl (lv_room (Nat.le_of_ble_eq_true rfl)) dX6_acceptEnd_41 ⟨(Nat.le_of_ble_eq_true rfl), (Nat.le_of_ble_eq_true rfl)⟩) hS (fun q _ h => hFc q h) hFc (fun uu tt H locs htt hvm hw hB hz1 hk1 hS => ?_)
        obtain ⟨w24, w25, w26, w27, w28, w29, w30, w31, w32, w33, w34, w35, w36, w37, w38, w39, w40⟩ := uu
        obtain ⟨hP1, hK1, hD1⟩ := hB
        rw [htt] at hP1
        have hK1 := va_K.moved hvm.symm hK1
        have hP1 : va_P D vwCl [(oq 0, .inr (6, gPs oq w24 w25 w26 w27 w28 w29 w30 w31 w32 (nI w33) (nI w34))), (oq 6, .inl (cI, 5, .inl w35)), (oq 7, .inl (cI, 600, .inl w36)), (oq 1, .inr (7, [.int (nI w37), .ref (oq 2), .ref (oq 3), .ref (oq 4)])), (oq 2, .inl (cI, 600, .inl w38)), (oq 3, .inl (cI, 600, .inl w39)), (oq 4, .inl (cI, 600, .inl w40)), (oq 5, .inr (8, [tx, .int zl, .int ta, .int be, .int ki, .int nu, .int wo]))] H := hP1
        obtain ⟨hP, hD⟩ := va_join (wr := []) (w1 := [(oq 0, .inr (6, gPs oq w24 w25 w26 w27 w28 w29 w30 w31 w32 (nI w33) (nI w34))), (oq 6, .inl (cI, 5, .inl w35)), (oq 7, .inl (cI, 600, .inl w36)), (oq 1, .inr (7, [.int (nI w37), .ref (oq 2), .ref (oq 3), .ref (oq 4)])), (oq 2, .inl (cI, 600, .inl w38)), (oq 3, .inl (cI, 600, .inl w39)), (oq 4, .inl (cI, 600, .inl w40)), (oq 5, .inr (8, [tx, .int zl, .int ta, .int be, .int ki, .int nu, .int wo]))]) hP hD [0, 1, 2, 3, 4, 5, 6, 7] [] rfl rfl (by decide) (by decide) hk1 hFc hP1 hD1
        have hP : va_P D vwCl [(oq 0, .inr (6, gPs oq w24 w25 w26 w27 w28 w29 w30 w31 w32 (nI w33) (nI w34))), (oq 6, .inl (cI, 5, .inl w35)), (oq 7, .inl (cI, 600, .inl w36)), (oq 1, .inr (7, [.int (nI w37), .ref (oq 2), .ref (oq 3), .ref (oq 4)])), (oq 2, .inl (cI, 600, .inl w38)), (oq 3, .inl (cI, 600, .inl w39)), (oq 4, .inl (cI, 600, .inl w40)), (oq 5, .inr (8, [tx, .int zl, .int ta, .int be, .int ki, .int nu, .int wo]))] H := hP
        have hD : va_D A [(oq 0, .inr (6, gPs oq w24 w25 w26 w27 w28 w29 w30 w31 w32 (nI w33) (nI w34))), (oq 6, .inl (cI, 5, .inl w35)), (oq 7, .inl (cI, 600, .inl w36)), (oq 1, .inr (7, [.int (nI w37), .ref (oq 2), .ref (oq 3), .ref (oq 4)])), (oq 2, .inl (cI, 600, .inl w38)), (oq 3, .inl (cI, 600, .inl w39)), (oq 4, .inl (cI, 600, .inl w40)), (oq 5, .inr (8, [tx, .int zl, .int ta, .int be, .int ki, .int nu, .int wo]))] := hD
        try dsimp only at hw
        clear hz1 hk1 hFc hPc hKc hDc
        obtain ⟨hx41_1, hx41_2, hx41_3⟩ := hw
        exact W.vret hx hb hr (fun t ht hW => ⟨⟨(w24, w25, w26, w27, w28, w29, w30, w31, w32, w33, w34, w35, w36, w37, w38, w39, w40), rfl, (by (try dsimp only); first | done | exact ⟨by omega, by omega, by omega⟩), by rw [ht]; exact hP.sub [0, 1, 2, 3, 4, 5, 6, 7] rfl, va_K.moved hW.alike (hK.sub [0] rfl), hD.sub [0, 1, 2, 3, 4, 5, 6, 7] (by decide) rfl⟩, hS.F ht⟩) hS.2.2 dX6_acceptEnd_44
      ·
        refine lv_aload_n hx hb dX6_acceptEnd_31 rfl (lv_at hl 0 rfl) ?_
        refine lv_bipush (v := 6) hx hb dX6_acceptEnd_32 (by decide) ?_
        refine va_put (D := D) (ci := 6) (v := .int 6) (ty := .int) (C := RX6) (T := TX6) (N := 15) hx hb hts hin_X6 tyX6 tyX6_ok nmX6 hown hK hP hD hS 0 rfl rfl 5 (by decide) (hts (.fieldLink RX6 39 "ClashFree$Parser" "state" "I") (List.mem_of_getElem? (i := 6) rfl)) (fun _ h9 => h9) rfl (by decide +kernel) rfl rfl (Nat.le_of_ble_eq_true rfl) dX6_acceptEnd_34 (fun H locs hP hD hS => ?_)
        have hP : va_P D vwCl [(oq 0, .inr (6, gPs oq qf qp qd 6 qt qb qh qr qn (nI bk) (nI wz))), (oq 6, .inl (cI, 5, .inl fO)), (oq 7, .inl (cI, 600, .inl fW)), (oq 1, .inr (7, [.int (nI pz), .ref (oq 2), .ref (oq 3), .ref (oq 4)])), (oq 2, .inl (cI, 600, .inl fK)), (oq 3, .inl (cI, 600, .inl fN)), (oq 4, .inl (cI, 600, .inl fL)), (oq 5, .inr (8, [tx, .int zl, .int ta, .int be, .int ki, .int nu, .int wo]))] H := hP
        have hD : va_D A [(oq 0, .inr (6, gPs oq qf qp qd 6 qt qb qh qr qn (nI bk) (nI wz))), (oq 6, .inl (cI, 5, .inl fO)), (oq 7, .inl (cI, 600, .inl fW)), (oq 1, .inr (7, [.int (nI pz), .ref (oq 2), .ref (oq 3), .ref (oq 4)])), (oq 2, .inl (cI, 600, .inl fK)), (oq 3, .inl (cI, 600, .inl fN)), (oq 4, .inl (cI, 600, .inl fL)), (oq 5, .inr (8, [tx, .int zl, .int ta, .int be, .int ki, .int nu, .int wo]))] := hD
        refine lv_goto (tgt := 44) hx hb dX6_acceptEnd_37 (by decide) ?_
        exact W.vret hx hb hr (fun t ht hW => ⟨⟨(qf, qp, qd, 6, qt, qb, qh, qr, qn, bk, wz, fO, fW, pz, fK, fN, fL), rfl, (by (try dsimp only); first | done | exact ⟨by omega, by omega, by omega⟩), by rw [ht]; exact hP.sub [0, 1, 2, 3, 4, 5, 6, 7] rfl, va_K.moved hW.alike (hK.sub [0] rfl), hD.sub [0, 1, 2, 3, 4, 5, 6, 7] (by decide) rfl⟩, hS.F ht⟩) hS.2.2 dX6_acceptEnd_44
  ·
    refine lv_aload_n hx hb dX6_acceptEnd_6 rfl (lv_at hl 0 rfl) ?_
    refine va_get (D := D) (ci := 6) (v := .int (nI bk)) (C := RX6) (T := TX6) (N := 15) hx hb hts hin_X6 hown hK hP 0 rfl rfl 11 (by decide) (hts (.fieldLink RX6 49 "ClashFree$Parser" "blocks" "I") (List.mem_of_getElem? (i := 5) rfl)) (fun _ h9 => h9) rfl dX6_acceptEnd_7 ?_
    refine lv_if_le (tgt := 20) hx hb dX6_acceptEnd_10 (by decide) (fun hc42 => ?_) (fun hc42 => ?_)
    ·
      refine lv_iload_n hx hb dX6_acceptEnd_20 rfl (lv_at hl 1 rfl) ?_
      refine lv_if_ne (tgt := 40) hx hb dX6_acceptEnd_21 (by decide) (fun hc43 => ?_) (fun hc43 => ?_)
      ·
        refine lv_aload_n hx hb dX6_acceptEnd_40 rfl (lv_at hl 0 rfl) ?_
        have hPc := hP.sub (ws' := [(oq 0, .inr (6, gPs oq qf qp qd qs qt qb qh qr qn (nI bk) (nI wz))), (oq 6, .inl (cI, 5, .inl fO)), (oq 7, .inl (cI, 600, .inl fW)), (oq 1, .inr (7, [.int (nI pz), .ref (oq 2), .ref (oq 3), .ref (oq 4)])), (oq 2, .inl (cI, 600, .inl fK)), (oq 3, .inl (cI, 600, .inl fN)), (oq 4, .inl (cI, 600, .inl fL)), (oq 5, .inr (8, [tx, .int zl, .int ta, .int be, .int ki, .int nu, .int wo]))]) [0, 1, 2, 3, 4, 5, 6, 7] rfl
        have hKc := hK.sub (tys' := [(cI, .int)]) [0] rfl
        have hDc := hD.sub (ws' := [(oq 0, .inr (6, gPs oq qf qp qd qs qt qb qh qr qn (nI bk) (nI wz))), (oq 6, .inl (cI, 5, .inl fO)), (oq 7, .inl (cI, 600, .inl fW)), (oq 1, .inr (7, [.int (nI pz), .ref (oq 2), .ref (oq 3), .ref (oq 4)])), (oq 2, .inl (cI, 600, .inl fK)), (oq 3, .inl (cI, 600, .inl fN)), (oq 4, .inl (cI, 600, .inl fL)), (oq 5, .inr (8, [tx, .int zl, .int ta, .int be, .int ki, .int nu, .int wo]))]) [0, 1, 2, 3, 4, 5, 6, 7] (by decide) rfl
        have hFc := va_free (wc := [(oq 0, .inr (6, gPs oq qf qp qd qs qt qb qh qr qn (nI bk) (nI wz))), (oq 6, .inl (cI, 5, .inl fO)), (oq 7, .inl (cI, 600, .inl fW)), (oq 1, .inr (7, [.int (nI pz), .ref (oq 2), .ref (oq 3), .ref (oq 4)])), (oq 2, .inl (cI, 600, .inl fK)), (oq 3, .inl (cI, 600, .inl fN)), (oq 4, .inl (cI, 600, .inl fL)), (oq 5, .inr (8, [tx, .int zl, .int ta, .int be, .int ki, .int nu, .int wo]))]) hD hS hA [0, 1, 2, 3, 4, 5, 6, 7] rfl
        refine va_callv (va_runV (As := []) (rest := []) ⟨hx, hb, hml, hown, hts⟩ (k_refuse l D _ oq cI qf qp qd qs qt qb qh qr qn bk wz fO fW pz fK fN fL tx zl ta be ki nu wo hbk hwz hpz) (cwV 0 hts g_k_aEnd_k_refuse_112 rfl rfl rfl (by decide +kernel) ⟨(Nat.le_of_ble_eq_true rfl), (Nat.le_of_ble_eq_true rfl)⟩) (PcWC_V (q0 := 0) hPc hKc hDc hN rfl rfl) rfl rfl hl.1 rfl (lv_room (Nat.le_of_ble_eq_true rfl)) dX6_acceptEnd_41 ⟨(Nat.le_of_ble_eq_true rfl), (Nat.le_of_ble_eq_true rfl)⟩) hS (fun q _ h => hFc q h) hFc (fun uu tt H locs htt hvm hw hB hz1 hk1 hS => ?_)
        obtain ⟨w45, w46, w47, w48, w49, w50, w51, w52, w53, w54, w55, w56, w57, w58, w59, w60, w61⟩ := uu
        obtain ⟨hP1, hK1, hD1⟩ := hB
        rw [htt] at hP1
        have hK1 := va_K.moved hvm.symm hK1
        have hP1 : va_P D vwCl [(oq 0, .inr (6, gPs oq w45 w46 w47 w48 w49 w50 w51 w52 w53 (nI w54) (nI w55))), (oq 6, .inl (cI, 5, .inl w56)), (oq 7, .inl (cI, 600, .inl w57)), (oq 1, .inr (7, [.int (nI w58), .ref (oq 2), .ref (oq 3), .ref (oq 4)])), (oq 2, .inl (cI, 600, .inl w59)), (oq 3, .inl (cI, 600, .inl w60)), (oq 4, .inl (cI, 600, .inl w61)), (oq 5, .inr (8, [tx, .int zl, .int ta, .int be, .int ki, .int nu, .int wo]))] H := hP1
        obtain ⟨hP, hD⟩ := va_join (wr := []) (w1 := [(oq 0, .inr (6, gPs oq w45 w46 w47 w48 w49 w50 w51 w52 w53 (nI w54) (nI w55))), (oq 6, .inl (cI, 5, .inl w56)), (oq 7, .inl (cI, 600, .inl w57)), (oq 1, .inr (7, [.int (nI w58), .ref (oq 2), .ref (oq 3), .ref (oq 4)])), (oq 2, .inl (cI, 600, .inl w59)), (oq 3, .inl (cI, 600, .inl w60)), (oq 4, .inl (cI, 600, .inl w61)), (oq 5, .inr (8, [tx, .int zl, .int ta, .int be, .int ki, .int nu, .int wo]))]) hP hD [0, 1, 2, 3, 4, 5, 6, 7] [] rfl rfl (by decide) (by decide) hk1 hFc hP1 hD1
        have hP : va_P D vwCl [(oq 0, .inr (6, gPs oq w45 w46 w47 w48 w49 w50 w51 w52 w53 (nI w54) (nI w55))), (oq 6, .inl (cI, 5, .inl w56)), (oq 7, .inl (cI, 600, .inl w57)), (oq 1, .inr (7, [.int (nI w58), .ref (oq 2), .ref (oq 3), .ref (oq 4)])), (oq 2, .inl (cI, 600, .inl w59)), (oq 3, .inl (cI, 600, .inl w60)), (oq 4, .inl (cI, 600, .inl w61)), (oq 5, .inr (8, [tx, .int zl, .int ta, .int be, .int ki, .int nu, .int wo]))] H := hP
        have hD : va_D A [(oq 0, .inr (6, gPs oq w45 w46 w47 w48 w49 w50 w51 w52 w53 (nI w54) (nI w55))), (oq 6, .inl (cI, 5, .inl w56)), (oq 7, .inl (cI, 600, .inl w57)), (oq 1, .inr (7, [.int (nI w58), .ref (oq 2), .ref (oq 3), .ref (oq 4)])), (oq 2, .inl (cI, 600, .inl w59)), (oq 3, .inl (cI, 600, .inl w60)), (oq 4, .inl (cI, 600, .inl w61)), (oq 5, .inr (8, [tx, .int zl, .int ta, .int be, .int ki, .int nu, .int wo]))] := hD
        try dsimp only at hw
        clear hz1 hk1 hFc hPc hKc hDc
        obtain ⟨hx62_1, hx62_2, hx62_3⟩ := hw
        exact W.vret hx hb hr (fun t ht hW => ⟨⟨(w45, w46, w47, w48, w49, w50, w51, w52, w53, w54, w55, w56, w57, w58, w59, w60, w61), rfl, (by (try dsimp only); first | done | exact ⟨by omega, by omega, by omega⟩), by rw [ht]; exact hP.sub [0, 1, 2, 3, 4, 5, 6, 7] rfl, va_K.moved hW.alike (hK.sub [0] rfl), hD.sub [0, 1, 2, 3, 4, 5, 6, 7] (by decide) rfl⟩, hS.F ht⟩) hS.2.2 dX6_acceptEnd_44
      ·
        refine lv_aload_n hx hb dX6_acceptEnd_24 rfl (lv_at hl 0 rfl) ?_
        refine va_get (D := D) (ci := 6) (v := .int (nI bk)) (C := RX6) (T := TX6) (N := 15) hx hb hts hin_X6 hown hK hP 0 rfl rfl 11 (by decide) (hts (.fieldLink RX6 49 "ClashFree$Parser" "blocks" "I") (List.mem_of_getElem? (i := 5) rfl)) (fun _ h9 => h9) rfl dX6_acceptEnd_25 ?_
        refine lv_if_ne (tgt := 40) hx hb dX6_acceptEnd_28 (by decide) (fun hc63 => ?_) (fun hc63 => ?_)
        ·
          refine lv_aload_n hx hb dX6_acceptEnd_40 rfl (lv_at hl 0 rfl) ?_
          have hPc := hP.sub (ws' := [(oq 0, .inr (6, gPs oq qf qp qd qs qt qb qh qr qn (nI bk) (nI wz))), (oq 6, .inl (cI, 5, .inl fO)), (oq 7, .inl (cI, 600, .inl fW)), (oq 1, .inr (7, [.int (nI pz), .ref (oq 2), .ref (oq 3), .ref (oq 4)])), (oq 2, .inl (cI, 600, .inl fK)), (oq 3, .inl (cI, 600, .inl fN)), (oq 4, .inl (cI, 600, .inl fL)), (oq 5, .inr (8, [tx, .int zl, .int ta, .int be, .int ki, .int nu, .int wo]))]) [0, 1, 2, 3, 4, 5, 6, 7] rfl
          have hKc := hK.sub (tys' := [(cI, .int)]) [0] rfl
          have hDc := hD.sub (ws' := [(oq 0, .inr (6, gPs oq qf qp qd qs qt qb qh qr qn (nI bk) (nI wz))), (oq 6, .inl (cI, 5, .inl fO)), (oq 7, .inl (cI, 600, .inl fW)), (oq 1, .inr (7, [.int (nI pz), .ref (oq 2), .ref (oq 3), .ref (oq 4)])), (oq 2, .inl (cI, 600, .inl fK)), (oq 3, .inl (cI, 600, .inl fN)), (oq 4, .inl (cI, 600, .inl fL)), (oq 5, .inr (8, [tx, .int zl, .int ta, .int be, .int ki, .int nu, .int wo]))]) [0, 1, 2, 3, 4, 5, 6, 7] (by decide) rfl
          have hFc := va_free (wc := [(oq 0, .inr (6, gPs oq qf qp qd qs qt qb qh qr qn (nI bk) (nI wz))), (oq 6, .inl (cI, 5, .inl fO)), (oq 7, .inl (cI, 600, .inl fW)), (oq 1, .inr (7, [.int (nI pz), .ref (oq 2), .ref (oq 3), .ref (oq 4)])), (oq 2, .inl (cI, 600, .inl fK)), (oq 3, .inl (cI, 600, .inl fN)), (oq 4, .inl (cI, 600, .inl fL)), (oq 5, .inr (8, [tx, .int zl, .int ta, .int be, .int ki, .int nu, .int wo]))]) hD hS hA [0, 1, 2, 3, 4, 5, 6, 7] rfl
          refine va_callv (va_runV (As := []) (rest := []) ⟨hx, hb, hml, hown, hts⟩ (k_refuse l D _ oq cI qf qp qd qs qt qb qh qr qn bk wz fO fW pz fK fN fL tx zl ta be ki nu wo hbk hwz hpz) (cwV 0 hts g_k_aEnd_k_refuse_112 rfl rfl rfl (by decide +kernel) ⟨(Nat.le_of_ble_eq_true rfl), (Nat.le_of_ble_eq_true rfl)⟩) (PcWC_V (q0 := 0) hPc hKc hDc hN rfl rfl) rfl rfl hl.1 rfl (lv_room (Nat.le_of_ble_eq_true rfl)) dX6_acceptEnd_41 ⟨(Nat.le_of_ble_eq_true rfl), (Nat.le_of_ble_eq_true rfl)⟩) hS (fun q _ h => hFc q h) hFc (fun uu tt H locs htt hvm hw hB hz1 hk1 hS => ?_)
          obtain ⟨w65, w66, w67, w68, w69, w70, w71, w72, w73, w74, w75, w76, w77, w78, w79, w80, w81⟩ := uu
          obtain ⟨hP1, hK1, hD1⟩ := hB
          rw [htt] at hP1
          have hK1 := va_K.moved hvm.symm hK1
          have hP1 : va_P D vwCl [(oq 0, .inr (6, gPs oq w65 w66 w67 w68 w69 w70 w71 w72 w73 (nI w74) (nI w75))), (oq 6, .inl (cI, 5, .inl w76)), (oq 7, .inl (cI, 600, .inl w77)), (oq 1, .inr (7, [.int (nI w78), .ref (oq 2), .ref (oq 3), .ref (oq 4)])), (oq 2, .inl (cI, 600, .inl w79)), (oq 3, .inl (cI, 600, .inl w80)), (oq 4, .inl (cI, 600, .inl w81)), (oq 5, .inr (8, [tx, .int zl, .int ta, .int be, .int ki, .int nu, .int wo]))] H := hP1
          obtain ⟨hP, hD⟩ := va_join (wr := []) (w1 := [(oq 0, .inr (6, gPs oq w65 w66 w67 w68 w69 w70 w71 w72 w73 (nI w74) (nI w75))), (oq 6, .inl (cI, 5, .inl w76)), (oq 7, .inl (cI, 600, .inl w77)), (oq 1, .inr (7, [.int (nI w78), .ref (oq 2), .ref (oq 3), .ref (oq 4)])), (oq 2, .inl (cI, 600, .inl w79)), (oq 3, .inl (cI, 600, .inl w80)), (oq 4, .inl (cI, 600, .inl w81)), (oq 5, .inr (8, [tx, .int zl, .int ta, .int be, .int ki, .int nu, .int wo]))]) hP hD [0, 1, 2, 3, 4, 5, 6, 7] [] rfl rfl (by decide) (by decide) hk1 hFc hP1 hD1
          have hP : va_P D vwCl [(oq 0, .inr (6, gPs oq w65 w66 w67 w68 w69 w70 w71 w72 w73 (nI w74) (nI w75))), (oq 6, .inl (cI, 5, .inl w76)), (oq 7, .inl (cI, 600, .inl w77)), (oq 1, .inr (7, [.int (nI w78), .ref (oq 2), .ref (oq 3), .ref (oq 4)])), (oq 2, .inl (cI, 600, .inl w79)), (oq 3, .inl (cI, 600, .inl w80)), (oq 4, .inl (cI, 600, .inl w81)), (oq 5, .inr (8, [tx, .int zl, .int ta, .int be, .int ki, .int nu, .int wo]))] H := hP
          have hD : va_D A [(oq 0, .inr (6, gPs oq w65 w66 w67 w68 w69 w70 w71 w72 w73 (nI w74) (nI w75))), (oq 6, .inl (cI, 5, .inl w76)), (oq 7, .inl (cI, 600, .inl w77)), (oq 1, .inr (7, [.int (nI w78), .ref (oq 2), .ref (oq 3), .ref (oq 4)])), (oq 2, .inl (cI, 600, .inl w79)), (oq 3, .inl (cI, 600, .inl w80)), (oq 4, .inl (cI, 600, .inl w81)), (oq 5, .inr (8, [tx, .int zl, .int ta, .int be, .int ki, .int nu, .int wo]))] := hD
          try dsimp only at hw
          clear hz1 hk1 hFc hPc hKc hDc
          obtain ⟨hx82_1, hx82_2, hx82_3⟩ := hw
          exact W.vret hx hb hr (fun t ht hW => ⟨⟨(w65, w66, w67, w68, w69, w70, w71, w72, w73, w74, w75, w76, w77, w78, w79, w80, w81), rfl, (by (try dsimp only); first | done | exact ⟨by omega, by omega, by omega⟩), by rw [ht]; exact hP.sub [0, 1, 2, 3, 4, 5, 6, 7] rfl, va_K.moved hW.alike (hK.sub [0] rfl), hD.sub [0, 1, 2, 3, 4, 5, 6, 7] (by decide) rfl⟩, hS.F ht⟩) hS.2.2 dX6_acceptEnd_44
        ·
          refine lv_aload_n hx hb dX6_acceptEnd_31 rfl (lv_at hl 0 rfl) ?_
          refine lv_bipush (v := 6) hx hb dX6_acceptEnd_32 (by decide) ?_
          refine va_put (D := D) (ci := 6) (v := .int 6) (ty := .int) (C := RX6) (T := TX6) (N := 15) hx hb hts hin_X6 tyX6 tyX6_ok nmX6 hown hK hP hD hS 0 rfl rfl 5 (by decide) (hts (.fieldLink RX6 39 "ClashFree$Parser" "state" "I") (List.mem_of_getElem? (i := 6) rfl)) (fun _ h9 => h9) rfl (by decide +kernel) rfl rfl (Nat.le_of_ble_eq_true rfl) dX6_acceptEnd_34 (fun H locs hP hD hS => ?_)
          have hP : va_P D vwCl [(oq 0, .inr (6, gPs oq qf qp qd 6 qt qb qh qr qn (nI bk) (nI wz))), (oq 6, .inl (cI, 5, .inl fO)), (oq 7, .inl (cI, 600, .inl fW)), (oq 1, .inr (7, [.int (nI pz), .ref (oq 2), .ref (oq 3), .ref (oq 4)])), (oq 2, .inl (cI, 600, .inl fK)), (oq 3, .inl (cI, 600, .inl fN)), (oq 4, .inl (cI, 600, .inl fL)), (oq 5, .inr (8, [tx, .int zl, .int ta, .int be, .int ki, .int nu, .int wo]))] H := hP
          have hD : va_D A [(oq 0, .inr (6, gPs oq qf qp qd 6 qt qb qh qr qn (nI bk) (nI wz))), (oq 6, .inl (cI, 5, .inl fO)), (oq 7, .inl (cI, 600, .inl fW)), (oq 1, .inr (7, [.int (nI pz), .ref (oq 2), .ref (oq 3), .ref (oq 4)])), (oq 2, .inl (cI, 600, .inl fK)), (oq 3, .inl (cI, 600, .inl fN)), (oq 4, .inl (cI, 600, .inl fL)), (oq 5, .inr (8, [tx, .int zl, .int ta, .int be, .int ki, .int nu, .int wo]))] := hD
          refine lv_goto (tgt := 44) hx hb dX6_acceptEnd_37 (by decide) ?_
          exact W.vret hx hb hr (fun t ht hW => ⟨⟨(qf, qp, qd, 6, qt, qb, qh, qr, qn, bk, wz, fO, fW, pz, fK, fN, fL), rfl, (by (try dsimp only); first | done | exact ⟨by omega, by omega, by omega⟩), by rw [ht]; exact hP.sub [0, 1, 2, 3, 4, 5, 6, 7] rfl, va_K.moved hW.alike (hK.sub [0] rfl), hD.sub [0, 1, 2, 3, 4, 5, 6, 7] (by decide) rfl⟩, hS.F ht⟩) hS.2.2 dX6_acceptEnd_44
    ·
      have hb1 : 1 ≤ bk := by
        rcases Nat.eq_zero_or_pos bk with z | z
        · exact absurd (by rw [z]; decide) hc42
        · exact z
      refine lv_aload_n hx hb dX6_acceptEnd_13 rfl (lv_at hl 0 rfl) ?_
      have hPc := hP.sub (ws' := [(oq 0, .inr (6, gPs oq qf qp qd qs qt qb qh qr qn (nI bk) (nI wz))), (oq 6, .inl (cI, 5, .inl fO)), (oq 7, .inl (cI, 600, .inl fW)), (oq 1, .inr (7, [.int (nI pz), .ref (oq 2), .ref (oq 3), .ref (oq 4)])), (oq 2, .inl (cI, 600, .inl fK)), (oq 3, .inl (cI, 600, .inl fN)), (oq 4, .inl (cI, 600, .inl fL)), (oq 5, .inr (8, [tx, .int zl, .int ta, .int be, .int ki, .int nu, .int wo]))]) [0, 1, 2, 3, 4, 5, 6, 7] rfl
      have hKc := hK.sub (tys' := [(cI, .int)]) [0] rfl
      have hDc := hD.sub (ws' := [(oq 0, .inr (6, gPs oq qf qp qd qs qt qb qh qr qn (nI bk) (nI wz))), (oq 6, .inl (cI, 5, .inl fO)), (oq 7, .inl (cI, 600, .inl fW)), (oq 1, .inr (7, [.int (nI pz), .ref (oq 2), .ref (oq 3), .ref (oq 4)])), (oq 2, .inl (cI, 600, .inl fK)), (oq 3, .inl (cI, 600, .inl fN)), (oq 4, .inl (cI, 600, .inl fL)), (oq 5, .inr (8, [tx, .int zl, .int ta, .int be, .int ki, .int nu, .int wo]))]) [0, 1, 2, 3, 4, 5, 6, 7] (by decide) rfl
      have hFc := va_free (wc := [(oq 0, .inr (6, gPs oq qf qp qd qs qt qb qh qr qn (nI bk) (nI wz))), (oq 6, .inl (cI, 5, .inl fO)), (oq 7, .inl (cI, 600, .inl fW)), (oq 1, .inr (7, [.int (nI pz), .ref (oq 2), .ref (oq 3), .ref (oq 4)])), (oq 2, .inl (cI, 600, .inl fK)), (oq 3, .inl (cI, 600, .inl fN)), (oq 4, .inl (cI, 600, .inl fL)), (oq 5, .inr (8, [tx, .int zl, .int ta, .int be, .int ki, .int nu, .int wo]))]) hD hS hA [0, 1, 2, 3, 4, 5, 6, 7] rfl
      refine va_callv (va_runV (As := []) (rest := []) ⟨hx, hb, hml, hown, hts⟩ (k_close l D _ oq cI qf qp qd qs qt qb qh qr qn bk wz fO fW pz fK fN fL tx zl ta be ki nu wo hbk hwz hpz (by first | assumption | omega)) (cwV 0 hts g_k_aEnd_k_close_109 rfl rfl rfl (by decide +kernel) ⟨(Nat.le_of_ble_eq_true rfl), (Nat.le_of_ble_eq_true rfl)⟩) (PcWC_V (q0 := 0) hPc hKc hDc hN rfl rfl) rfl rfl hl.1 rfl (lv_room (Nat.le_of_ble_eq_true rfl)) dX6_acceptEnd_14 ⟨(Nat.le_of_ble_eq_true rfl), (Nat.le_of_ble_eq_true rfl)⟩) hS (fun q _ h => hFc q h) hFc (fun uu tt H locs htt hvm hw hB hz1 hk1 hS => ?_)
      obtain ⟨w84, w85, w86, w87, w88, w89, w90, w91, w92, w93, w94, w95, w96, w97, w98, w99, w100⟩ := uu
      obtain ⟨hP1, hK1, hD1⟩ := hB
      rw [htt] at hP1
      have hK1 := va_K.moved hvm.symm hK1
      have hP1 : va_P D vwCl [(oq 0, .inr (6, gPs oq w84 w85 w86 w87 w88 w89 w90 w91 w92 (nI w93) (nI w94))), (oq 6, .inl (cI, 5, .inl w95)), (oq 7, .inl (cI, 600, .inl w96)), (oq 1, .inr (7, [.int (nI w97), .ref (oq 2), .ref (oq 3), .ref (oq 4)])), (oq 2, .inl (cI, 600, .inl w98)), (oq 3, .inl (cI, 600, .inl w99)), (oq 4, .inl (cI, 600, .inl w100)), (oq 5, .inr (8, [tx, .int zl, .int ta, .int be, .int ki, .int nu, .int wo]))] H := hP1
      obtain ⟨hP, hD⟩ := va_join (wr := []) (w1 := [(oq 0, .inr (6, gPs oq w84 w85 w86 w87 w88 w89 w90 w91 w92 (nI w93) (nI w94))), (oq 6, .inl (cI, 5, .inl w95)), (oq 7, .inl (cI, 600, .inl w96)), (oq 1, .inr (7, [.int (nI w97), .ref (oq 2), .ref (oq 3), .ref (oq 4)])), (oq 2, .inl (cI, 600, .inl w98)), (oq 3, .inl (cI, 600, .inl w99)), (oq 4, .inl (cI, 600, .inl w100)), (oq 5, .inr (8, [tx, .int zl, .int ta, .int be, .int ki, .int nu, .int wo]))]) hP hD [0, 1, 2, 3, 4, 5, 6, 7] [] rfl rfl (by decide) (by decide) hk1 hFc hP1 hD1
      have hP : va_P D vwCl [(oq 0, .inr (6, gPs oq w84 w85 w86 w87 w88 w89 w90 w91 w92 (nI w93) (nI w94))), (oq 6, .inl (cI, 5, .inl w95)), (oq 7, .inl (cI, 600, .inl w96)), (oq 1, .inr (7, [.int (nI w97), .ref (oq 2), .ref (oq 3), .ref (oq 4)])), (oq 2, .inl (cI, 600, .inl w98)), (oq 3, .inl (cI, 600, .inl w99)), (oq 4, .inl (cI, 600, .inl w100)), (oq 5, .inr (8, [tx, .int zl, .int ta, .int be, .int ki, .int nu, .int wo]))] H := hP
      have hD : va_D A [(oq 0, .inr (6, gPs oq w84 w85 w86 w87 w88 w89 w90 w91 w92 (nI w93) (nI w94))), (oq 6, .inl (cI, 5, .inl w95)), (oq 7, .inl (cI, 600, .inl w96)), (oq 1, .inr (7, [.int (nI w97), .ref (oq 2), .ref (oq 3), .ref (oq 4)])), (oq 2, .inl (cI, 600, .inl w98)), (oq 3, .inl (cI, 600, .inl w99)), (oq 4, .inl (cI, 600, .inl w100)), (oq 5, .inr (8, [tx, .int zl, .int ta, .int be, .int ki, .int nu, .int wo]))] := hD
      try dsimp only at hw
      clear hz1 hk1 hFc hPc hKc hDc
      obtain ⟨hx101_1, hx101_2, hx101_3⟩ := hw
      refine lv_goto (tgt := 44) hx hb dX6_acceptEnd_17 (by decide) ?_
      exact W.vret hx hb hr (fun t ht hW => ⟨⟨(w84, w85, w86, w87, w88, w89, w90, w91, w92, w93, w94, w95, w96, w97, w98, w99, w100), rfl, (by (try dsimp only); first | done | exact ⟨by omega, by omega, by omega⟩), by rw [ht]; exact hP.sub [0, 1, 2, 3, 4, 5, 6, 7] rfl, va_K.moved hW.alike (hK.sub [0] rfl), hD.sub [0, 1, 2, 3, 4, 5, 6, 7] (by decide) rfl⟩, hS.F ht⟩) hS.2.2 dX6_acceptEnd_44

def own_k_aStat : List Cond := [.fieldLink RX6 21 "ClashFree$Parser" "scan" "LClashFree$Scanner;", .fieldLink RX6 79 "ClashFree$Scanner" "at" "I", .fieldLink RX6 100 "ClashFree$Parser" "began" "I", .fieldLink RX6 103 "ClashFree$Parser" "statement" "I", .fieldLink RX6 39 "ClashFree$Parser" "state" "I", .methodLink RX6 106 yX6_acceptEnd, .instanceMethod yX6_acceptEnd, .selects RX6 yX6_acceptEnd yX6_acceptEnd, .initialized RX6, .fieldLink RX6 42 "ClashFree$Parser" "heading" "Z"]
def wp_k_aStat : List Cond := .code yX6_acceptStatement cX6_acceptStatement 2 none :: (own_k_aStat ++ (wp_k_aEnd ++ (wsX60 ++ (wsX80 ++ ([] : List Cond)))))
set_option maxRecDepth 20000 in
theorem inown_k_aStat : ∀ w ∈ own_k_aStat, w ∈ lw_tbl := mem_places [335, 305, 338, 337, 336, 1023, 1025, 13, 111, 339] (by decide +kernel)
set_option maxRecDepth 20000 in
theorem in_k_aStat : ∀ w ∈ wp_k_aStat, w ∈ lw_tbl := List.forall_mem_cons.mpr ⟨List.mem_of_getElem? (i := 1022) (by decide +kernel), List.forall_mem_append.mpr ⟨inown_k_aStat, List.forall_mem_append.mpr ⟨in_k_aEnd, List.forall_mem_append.mpr ⟨lwb_X6, List.forall_mem_append.mpr ⟨lwb_X8, fun _ h => absurd h List.not_mem_nil⟩⟩⟩⟩⟩
set_option maxRecDepth 20000 in
theorem good_k_aStat : wp_k_aStat.all goodWord = true := by decide +kernel
set_option maxRecDepth 20000 in
theorem g_k_aStat_k_aEnd_106 : GoodIn wp_k_aStat (wsV RX6 106 RX6 yX6_acceptEnd wp_k_aEnd) := goodIn_sub (List.forall_mem_append.mpr ⟨List.forall_mem_cons.mpr ⟨(List.mem_of_getElem? (i := 6) rfl), List.forall_mem_cons.mpr ⟨(List.mem_of_getElem? (i := 7) rfl), List.forall_mem_cons.mpr ⟨(List.mem_of_getElem? (i := 8) rfl), List.forall_mem_cons.mpr ⟨(List.mem_of_getElem? (i := 9) rfl), fun _ h => absurd h List.not_mem_nil⟩⟩⟩⟩, (fun _ h => (List.mem_cons_of_mem _ (List.mem_append_right _ (List.mem_append_left _ h))))⟩) (by decide +kernel)
set_option maxHeartbeats 4000000 in
set_option maxRecDepth 100000 in
theorem k_aStat (l : Launch) (D : va_G) (sz : Nat) (oq : Nat → Nat) (cI : ClassId) (qf : Int32) (qp : Int32) (qd : Int32) (qs : Int32) (qt : Int32) (qb : Int32) (qh : Int32) (qr : Int32) (qn : Int32) (bk : Nat) (wz : Nat) (fO : Nat → Int32) (fW : Nat → Int32) (pz : Nat) (fK : Nat → Int32) (fN : Nat → Int32) (fL : Nat → Int32) (tx : Value) (zl : Int32) (ta : Int32) (be : Int32) (ki : Int32) (nu : Int32) (wo : Int32) (z1 : Int32) (hbk : bk ≤ 5) (hwz : wz ≤ 600) (hpz : pz ≤ 600) : Met l yX6_acceptStatement wp_k_aStat ({ frames := 3, cells := 0, slots := 0, locals := 64 }) (PcWC D [.ref (oq 0), .int z1] sz [(oq 0, .inr (6, gPs oq qf qp qd qs qt qb qh qr qn (nI bk) (nI wz))), (oq 6, .inl (cI, 5, .inl fO)), (oq 7, .inl (cI, 600, .inl fW)), (oq 1, .inr (7, [.int (nI pz), .ref (oq 2), .ref (oq 3), .ref (oq 4)])), (oq 2, .inl (cI, 600, .inl fK)), (oq 3, .inl (cI, 600, .inl fN)), (oq 4, .inl (cI, 600, .inl fL)), (oq 5, .inr (8, [tx, .int zl, .int ta, .int be, .int ki, .int nu, .int wo]))] [(cI, .int)]) (va_Qv (fun (u : (Int32) × (Int32) × (Int32) × (Int32) × (Int32) × (Int32) × (Int32) × (Int32) × (Int32) × (Nat) × (Nat) × (Nat → Int32) × (Nat → Int32) × (Nat) × (Nat → Int32) × (Nat → Int32) × (Nat → Int32)) => u.2.2.2.2.2.2.2.2.2.1 ≤ 5 ∧ u.2.2.2.2.2.2.2.2.2.2.1 ≤ 600 ∧ u.2.2.2.2.2.2.2.2.2.2.2.2.2.1 ≤ 600) (fun (u : (Int32) × (Int32) × (Int32) × (Int32) × (Int32) × (Int32) × (Int32) × (Int32) × (Int32) × (Nat) × (Nat) × (Nat → Int32) × (Nat → Int32) × (Nat) × (Nat → Int32) × (Nat → Int32) × (Nat → Int32)) t => va_P D vwCl [(oq 0, .inr (6, gPs oq u.1 u.2.1 u.2.2.1 u.2.2.2.1 u.2.2.2.2.1 u.2.2.2.2.2.1 u.2.2.2.2.2.2.1 u.2.2.2.2.2.2.2.1 u.2.2.2.2.2.2.2.2.1 (nI u.2.2.2.2.2.2.2.2.2.1) (nI u.2.2.2.2.2.2.2.2.2.2.1))), (oq 6, .inl (cI, 5, .inl u.2.2.2.2.2.2.2.2.2.2.2.1)), (oq 7, .inl (cI, 600, .inl u.2.2.2.2.2.2.2.2.2.2.2.2.1)), (oq 1, .inr (7, [.int (nI u.2.2.2.2.2.2.2.2.2.2.2.2.2.1), .ref (oq 2), .ref (oq 3), .ref (oq 4)])), (oq 2, .inl (cI, 600, .inl u.2.2.2.2.2.2.2.2.2.2.2.2.2.2.1)), (oq 3, .inl (cI, 600, .inl u.2.2.2.2.2.2.2.2.2.2.2.2.2.2.2.1)), (oq 4, .inl (cI, 600, .inl u.2.2.2.2.2.2.2.2.2.2.2.2.2.2.2.2)), (oq 5, .inr (8, [tx, .int zl, .int ta, .int be, .int ki, .int nu, .int wo]))] t.heap ∧ va_K D vwCl [(cI, .int)] t ∧ va_D (va_A [(oq 0, .inr (6, gPs oq qf qp qd qs qt qb qh qr qn (nI bk) (nI wz))), (oq 6, .inl (cI, 5, .inl fO)), (oq 7, .inl (cI, 600, .inl fW)), (oq 1, .inr (7, [.int (nI pz), .ref (oq 2), .ref (oq 3), .ref (oq 4)])), (oq 2, .inl (cI, 600, .inl fK)), (oq 3, .inl (cI, 600, .inl fN)), (oq 4, .inl (cI, 600, .inl fL)), (oq 5, .inr (8, [tx, .int zl, .int ta, .int be, .int ki, .int nu, .int wo]))] sz) [(oq 0, .inr (6, gPs oq u.1 u.2.1 u.2.2.1 u.2.2.2.1 u.2.2.2.2.1 u.2.2.2.2.2.1 u.2.2.2.2.2.2.1 u.2.2.2.2.2.2.2.1 u.2.2.2.2.2.2.2.2.1 (nI u.2.2.2.2.2.2.2.2.2.1) (nI u.2.2.2.2.2.2.2.2.2.2.1))), (oq 6, .inl (cI, 5, .inl u.2.2.2.2.2.2.2.2.2.2.2.1)), (oq 7, .inl (cI, 600, .inl u.2.2.2.2.2.2.2.2.2.2.2.2.1)), (oq 1, .inr (7, [.int (nI u.2.2.2.2.2.2.2.2.2.2.2.2.2.1), .ref (oq 2), .ref (oq 3), .ref (oq 4)])), (oq 2, .inl (cI, 600, .inl u.2.2.2.2.2.2.2.2.2.2.2.2.2.2.1)), (oq 3, .inl (cI, 600, .inl u.2.2.2.2.2.2.2.2.2.2.2.2.2.2.2.1)), (oq 4, .inl (cI, 600, .inl u.2.2.2.2.2.2.2.2.2.2.2.2.2.2.2.2)), (oq 5, .inr (8, [tx, .int zl, .int ta, .int be, .int ki, .int nu, .int wo]))]) (va_A [(oq 0, .inr (6, gPs oq qf qp qd qs qt qb qh qr qn (nI bk) (nI wz))), (oq 6, .inl (cI, 5, .inl fO)), (oq 7, .inl (cI, 600, .inl fW)), (oq 1, .inr (7, [.int (nI pz), .ref (oq 2), .ref (oq 3), .ref (oq 4)])), (oq 2, .inl (cI, 600, .inl fK)), (oq 3, .inl (cI, 600, .inl fN)), (oq 4, .inl (cI, 600, .inl fL)), (oq 5, .inr (8, [tx, .int zl, .int ta, .int be, .int ki, .int nu, .int wo]))] sz)) 0 0 (va_A [(oq 0, .inr (6, gPs oq qf qp qd qs qt qb qh qr qn (nI bk) (nI wz))), (oq 6, .inl (cI, 5, .inl fO)), (oq 7, .inl (cI, 600, .inl fW)), (oq 1, .inr (7, [.int (nI pz), .ref (oq 2), .ref (oq 3), .ref (oq 4)])), (oq 2, .inl (cI, 600, .inl fK)), (oq 3, .inl (cI, 600, .inl fN)), (oq 4, .inl (cI, 600, .inl fL)), (oq 5, .inr (8, [tx, .int zl, .int ta, .int be, .int ki, .int nu, .int wo]))] sz) := by
  refine Met.ofW (cc := cX6_acceptStatement) (maxL := 2) (ret := none) (by decide) rfl ?_
  intro p e s m args below meth c s₁ B hml hv
  obtain ⟨rfl, hsz, hP, hK, hD0, hN⟩ := hv
  have hx := B.exec
  have hb := B.bytes
  have hr := B.returns
  have hts := atoms_spec (ws := wp_k_aStat) B.pre
  have hin_X6 : ∀ w ∈ wsX60, w ∈ wp_k_aStat := fun _ h => (List.mem_cons_of_mem _ (List.mem_append_right _ (List.mem_append_right _ (List.mem_append_left _ h))))
  have hin_X8 : ∀ w ∈ wsX80, w ∈ wp_k_aStat := fun _ h => (List.mem_cons_of_mem _ (List.mem_append_right _ (List.mem_append_right _ (List.mem_append_right _ (List.mem_append_left _ h)))))
  have hown : s.vm.findClass RX6 = some m.cls := findClass_of_methodNamed B.named
  have hlocks := B.notSynchronized
  subst hsz
  have hD := hD0.self (sz := s.heap.size)
  generalize hAe : va_A [(oq 0, .inr (6, gPs oq qf qp qd qs qt qb qh qr qn (nI bk) (nI wz))), (oq 6, .inl (cI, 5, .inl fO)), (oq 7, .inl (cI, 600, .inl fW)), (oq 1, .inr (7, [.int (nI pz), .ref (oq 2), .ref (oq 3), .ref (oq 4)])), (oq 2, .inl (cI, 600, .inl fK)), (oq 3, .inl (cI, 600, .inl fN)), (oq 4, .inl (cI, 600, .inl fL)), (oq 5, .inr (8, [tx, .int zl, .int ta, .int be, .int ki, .int nu, .int wo]))] s.heap.size = A at hD ⊢
  have hA : ∀ q : Nat, s.heap.size ≤ q → A q := fun q h => by rw [← hAe]; exact Or.inr h
  have hS : va_S A s.heap s.heap [] := va_S.rf
  have hP : va_P D vwCl [(oq 0, .inr (6, gPs oq qf qp qd qs qt qb qh qr qn (nI bk) (nI wz))), (oq 6, .inl (cI, 5, .inl fO)), (oq 7, .inl (cI, 600, .inl fW)), (oq 1, .inr (7, [.int (nI pz), .ref (oq 2), .ref (oq 3), .ref (oq 4)])), (oq 2, .inl (cI, 600, .inl fK)), (oq 3, .inl (cI, 600, .inl fN)), (oq 4, .inl (cI, 600, .inl fL)), (oq 5, .inr (8, [tx, .int zl, .int ta, .int be, .int ki, .int nu, .int wo]))] s.heap := hP
  have hl := lv_entry ([.ref (oq 0), .int z1]) (n := 2) (Nat.le_of_ble_eq_true rfl)
  rw [lg_entry_eq]
  generalize (lg_sl ([.ref (oq 0), .int z1]) ++ List.replicate (2 - (lg_sl ([.ref (oq 0), .int z1])).length) Slot.unset).toArray = ls at hl ⊢
  have hl : lv_has ls 2 [(0, .ref (oq 0)), (1, .int z1)] := hl
  refine lv_aload_n hx hb dX6_acceptStatement_0 rfl (lv_at hl 0 rfl) ?_
  refine lv_aload_n hx hb dX6_acceptStatement_1 rfl (lv_at hl 0 rfl) ?_
  refine va_get (D := D) (ci := 6) (v := .ref (oq 5)) (C := RX6) (T := TX6) (N := 15) hx hb hts hin_X6 hown hK hP 0 rfl rfl 4 (by decide) (hts (.fieldLink RX6 21 "ClashFree$Parser" "scan" "LClashFree$Scanner;") (List.mem_of_getElem? (i := 1) rfl)) (fun _ h9 => h9) rfl dX6_acceptStatement_2 ?_
  refine va_get (D := D) (ci := 8) (v := .int ta) (C := RX8) (T := TX8) (N := 7) hx hb hts hin_X8 hown hK hP 7 rfl rfl 2 (by decide) (hts (.fieldLink RX6 79 "ClashFree$Scanner" "at" "I") (List.mem_of_getElem? (i := 2) rfl)) (fun _ h9 => h9) rfl dX6_acceptStatement_5 ?_
  refine va_put (D := D) (ci := 6) (v := .int ta) (ty := .int) (C := RX6) (T := TX6) (N := 15) hx hb hts hin_X6 tyX6 tyX6_ok nmX6 hown hK hP hD hS 0 rfl rfl 7 (by decide) (hts (.fieldLink RX6 100 "ClashFree$Parser" "began" "I") (List.mem_of_getElem? (i := 3) rfl)) (fun _ h9 => h9) rfl (by decide +kernel) rfl rfl (Nat.le_of_ble_eq_true rfl) dX6_acceptStatement_8 (fun H locs hP hD hS => ?_)
  have hP : va_P D vwCl [(oq 0, .inr (6, gPs oq qf qp qd qs qt ta qh qr qn (nI bk) (nI wz))), (oq 6, .inl (cI, 5, .inl fO)), (oq 7, .inl (cI, 600, .inl fW)), (oq 1, .inr (7, [.int (nI pz), .ref (oq 2), .ref (oq 3), .ref (oq 4)])), (oq 2, .inl (cI, 600, .inl fK)), (oq 3, .inl (cI, 600, .inl fN)), (oq 4, .inl (cI, 600, .inl fL)), (oq 5, .inr (8, [tx, .int zl, .int ta, .int be, .int ki, .int nu, .int wo]))] H := hP
  have hD : va_D A [(oq 0, .inr (6, gPs oq qf qp qd qs qt ta qh qr qn (nI bk) (nI wz))), (oq 6, .inl (cI, 5, .inl fO)), (oq 7, .inl (cI, 600, .inl fW)), (oq 1, .inr (7, [.int (nI pz), .ref (oq 2), .ref (oq 3), .ref (oq 4)])), (oq 2, .inl (cI, 600, .inl fK)), (oq 3, .inl (cI, 600, .inl fN)), (oq 4, .inl (cI, 600, .inl fL)), (oq 5, .inr (8, [tx, .int zl, .int ta, .int be, .int ki, .int nu, .int wo]))] := hD
  refine lv_aload_n hx hb dX6_acceptStatement_11 rfl (lv_at hl 0 rfl) ?_
  refine lv_iload_n hx hb dX6_acceptStatement_12 rfl (lv_at hl 1 rfl) ?_
  refine va_put (D := D) (ci := 6) (v := .int z1) (ty := .int) (C := RX6) (T := TX6) (N := 15) hx hb hts hin_X6 tyX6 tyX6_ok nmX6 hown hK hP hD hS 0 rfl rfl 6 (by decide) (hts (.fieldLink RX6 103 "ClashFree$Parser" "statement" "I") (List.mem_of_getElem? (i := 4) rfl)) (fun _ h9 => h9) rfl (by decide +kernel) rfl rfl (Nat.le_of_ble_eq_true rfl) dX6_acceptStatement_13 (fun H locs hP hD hS => ?_)
  have hP : va_P D vwCl [(oq 0, .inr (6, gPs oq qf qp qd qs z1 ta qh qr qn (nI bk) (nI wz))), (oq 6, .inl (cI, 5, .inl fO)), (oq 7, .inl (cI, 600, .inl fW)), (oq 1, .inr (7, [.int (nI pz), .ref (oq 2), .ref (oq 3), .ref (oq 4)])), (oq 2, .inl (cI, 600, .inl fK)), (oq 3, .inl (cI, 600, .inl fN)), (oq 4, .inl (cI, 600, .inl fL)), (oq 5, .inr (8, [tx, .int zl, .int ta, .int be, .int ki, .int nu, .int wo]))] H := hP
  have hD : va_D A [(oq 0, .inr (6, gPs oq qf qp qd qs z1 ta qh qr qn (nI bk) (nI wz))), (oq 6, .inl (cI, 5, .inl fO)), (oq 7, .inl (cI, 600, .inl fW)), (oq 1, .inr (7, [.int (nI pz), .ref (oq 2), .ref (oq 3), .ref (oq 4)])), (oq 2, .inl (cI, 600, .inl fK)), (oq 3, .inl (cI, 600, .inl fN)), (oq 4, .inl (cI, 600, .inl fL)), (oq 5, .inr (8, [tx, .int zl, .int ta, .int be, .int ki, .int nu, .int wo]))] := hD
  refine lv_iload_n hx hb dX6_acceptStatement_16 rfl (lv_at hl 1 rfl) ?_
  by_cases hs1 : z1 = 3
  ·
    subst hs1
    refine lv_tableIn (off := 43) (tgt := 60) hx hb dX6_acceptStatement_17 (by decide) (by decide) (by decide +kernel) (by decide) ?_
    refine lv_aload_n hx hb dX6_acceptStatement_60 rfl (lv_at hl 0 rfl) ?_
    refine lv_iconst (v := 1) hx hb dX6_acceptStatement_61 (by decide) ?_
    refine va_put (D := D) (ci := 6) (v := .int 1) (ty := .int) (C := RX6) (T := TX6) (N := 15) hx hb hts hin_X6 tyX6 tyX6_ok nmX6 hown hK hP hD hS 0 rfl rfl 5 (by decide) (hts (.fieldLink RX6 39 "ClashFree$Parser" "state" "I") (List.mem_of_getElem? (i := 5) rfl)) (fun _ h9 => h9) rfl (by decide +kernel) rfl rfl (Nat.le_of_ble_eq_true rfl) dX6_acceptStatement_62 (fun H locs hP hD hS => ?_)
    have hP : va_P D vwCl [(oq 0, .inr (6, gPs oq qf qp qd 1 3 ta qh qr qn (nI bk) (nI wz))), (oq 6, .inl (cI, 5, .inl fO)), (oq 7, .inl (cI, 600, .inl fW)), (oq 1, .inr (7, [.int (nI pz), .ref (oq 2), .ref (oq 3), .ref (oq 4)])), (oq 2, .inl (cI, 600, .inl fK)), (oq 3, .inl (cI, 600, .inl fN)), (oq 4, .inl (cI, 600, .inl fL)), (oq 5, .inr (8, [tx, .int zl, .int ta, .int be, .int ki, .int nu, .int wo]))] H := hP
    have hD : va_D A [(oq 0, .inr (6, gPs oq qf qp qd 1 3 ta qh qr qn (nI bk) (nI wz))), (oq 6, .inl (cI, 5, .inl fO)), (oq 7, .inl (cI, 600, .inl fW)), (oq 1, .inr (7, [.int (nI pz), .ref (oq 2), .ref (oq 3), .ref (oq 4)])), (oq 2, .inl (cI, 600, .inl fK)), (oq 3, .inl (cI, 600, .inl fN)), (oq 4, .inl (cI, 600, .inl fL)), (oq 5, .inr (8, [tx, .int zl, .int ta, .int be, .int ki, .int nu, .int wo]))] := hD
    refine lv_goto (tgt := 99) hx hb dX6_acceptStatement_65 (by decide) ?_
    exact W.vret hx hb hr (fun t ht hW => ⟨⟨(qf, qp, qd, 1, 3, ta, qh, qr, qn, bk, wz, fO, fW, pz, fK, fN, fL), rfl, (by (try dsimp only); first | done | exact ⟨by omega, by omega, by omega⟩), by rw [ht]; exact hP.sub [0, 1, 2, 3, 4, 5, 6, 7] rfl, va_K.moved hW.alike (hK.sub [0] rfl), hD.sub [0, 1, 2, 3, 4, 5, 6, 7] (by decide) rfl⟩, hS.F ht⟩) hS.2.2 dX6_acceptStatement_99
  by_cases hs2 : z1 = 4
  ·
    subst hs2
    refine lv_tableIn (off := 77) (tgt := 94) hx hb dX6_acceptStatement_17 (by decide) (by decide) (by decide +kernel) (by decide) ?_
    refine lv_aload_n hx hb dX6_acceptStatement_94 rfl (lv_at hl 0 rfl) ?_
    refine lv_iload_n hx hb dX6_acceptStatement_95 rfl (lv_at hl 1 rfl) ?_
    have hPc := hP.sub (ws' := [(oq 0, .inr (6, gPs oq qf qp qd qs 4 ta qh qr qn (nI bk) (nI wz))), (oq 6, .inl (cI, 5, .inl fO)), (oq 7, .inl (cI, 600, .inl fW)), (oq 1, .inr (7, [.int (nI pz), .ref (oq 2), .ref (oq 3), .ref (oq 4)])), (oq 2, .inl (cI, 600, .inl fK)), (oq 3, .inl (cI, 600, .inl fN)), (oq 4, .inl (cI, 600, .inl fL)), (oq 5, .inr (8, [tx, .int zl, .int ta, .int be, .int ki, .int nu, .int wo]))]) [0, 1, 2, 3, 4, 5, 6, 7] rfl
    have hKc := hK.sub (tys' := [(cI, .int)]) [0] rfl
    have hDc := hD.sub (ws' := [(oq 0, .inr (6, gPs oq qf qp qd qs 4 ta qh qr qn (nI bk) (nI wz))), (oq 6, .inl (cI, 5, .inl fO)), (oq 7, .inl (cI, 600, .inl fW)), (oq 1, .inr (7, [.int (nI pz), .ref (oq 2), .ref (oq 3), .ref (oq 4)])), (oq 2, .inl (cI, 600, .inl fK)), (oq 3, .inl (cI, 600, .inl fN)), (oq 4, .inl (cI, 600, .inl fL)), (oq 5, .inr (8, [tx, .int zl, .int ta, .int be, .int ki, .int nu, .int wo]))]) [0, 1, 2, 3, 4, 5, 6, 7] (by decide) rfl
    have hFc := va_free (wc := [(oq 0, .inr (6, gPs oq qf qp qd qs 4 ta qh qr qn (nI bk) (nI wz))), (oq 6, .inl (cI, 5, .inl fO)), (oq 7, .inl (cI, 600, .inl fW)), (oq 1, .inr (7, [.int (nI pz), .ref (oq 2), .ref (oq 3), .ref (oq 4)])), (oq 2, .inl (cI, 600, .inl fK)), (oq 3, .inl (cI, 600, .inl fN)), (oq 4, .inl (cI, 600, .inl fL)), (oq 5, .inr (8, [tx, .int zl, .int ta, .int be, .int ki, .int nu, .int wo]))]) hD hS hA [0, 1, 2, 3, 4, 5, 6, 7] rfl
    refine va_callv (va_runV (As := [.int 4]) (rest := []) ⟨hx, hb, hml, hown, hts⟩ (k_aEnd l D _ oq cI qf qp qd qs 4 ta qh qr qn bk wz fO fW pz fK fN fL tx zl ta be ki nu wo 4 hbk hwz hpz) (cwV 1 hts g_k_aStat_k_aEnd_106 rfl rfl rfl (by decide +kernel) ⟨(Nat.le_of_ble_eq_true rfl), (Nat.le_of_ble_eq_true rfl)⟩) (PcWC_V (q0 := 0) hPc hKc hDc hN rfl rfl) rfl rfl hl.1 rfl (lv_room (Nat.le_of_ble_eq_true rfl)) dX6_acceptStatement_96 ⟨(Nat.le_of_ble_eq_true rfl), (Nat.le_of_ble_eq_true rfl)⟩) hS (fun q _ h => hFc q h) hFc (fun uu tt H locs htt hvm hw hB hz1 hk1 hS => ?_)
    obtain ⟨w4, w5, w6, w7, w8, w9, w10, w11, w12, w13, w14, w15, w16, w17, w18, w19, w20⟩ := uu
    obtain ⟨hP1, hK1, hD1⟩ := hB
    rw [htt] at hP1
    have hK1 := va_K.moved hvm.symm hK1
    have hP1 : va_P D vwCl [(oq 0, .inr (6, gPs oq w4 w5 w6 w7 w8 w9 w10 w11 w12 (nI w13) (nI w14))), (oq 6, .inl (cI, 5, .inl w15)), (oq 7, .inl (cI, 600, .inl w16)), (oq 1, .inr (7, [.int (nI w17), .ref (oq 2), .ref (oq 3), .ref (oq 4)])), (oq 2, .inl (cI, 600, .inl w18)), (oq 3, .inl (cI, 600, .inl w19)), (oq 4, .inl (cI, 600, .inl w20)), (oq 5, .inr (8, [tx, .int zl, .int ta, .int be, .int ki, .int nu, .int wo]))] H := hP1
    obtain ⟨hP, hD⟩ := va_join (wr := []) (w1 := [(oq 0, .inr (6, gPs oq w4 w5 w6 w7 w8 w9 w10 w11 w12 (nI w13) (nI w14))), (oq 6, .inl (cI, 5, .inl w15)), (oq 7, .inl (cI, 600, .inl w16)), (oq 1, .inr (7, [.int (nI w17), .ref (oq 2), .ref (oq 3), .ref (oq 4)])), (oq 2, .inl (cI, 600, .inl w18)), (oq 3, .inl (cI, 600, .inl w19)), (oq 4, .inl (cI, 600, .inl w20)), (oq 5, .inr (8, [tx, .int zl, .int ta, .int be, .int ki, .int nu, .int wo]))]) hP hD [0, 1, 2, 3, 4, 5, 6, 7] [] rfl rfl (by decide) (by decide) hk1 hFc hP1 hD1
    have hP : va_P D vwCl [(oq 0, .inr (6, gPs oq w4 w5 w6 w7 w8 w9 w10 w11 w12 (nI w13) (nI w14))), (oq 6, .inl (cI, 5, .inl w15)), (oq 7, .inl (cI, 600, .inl w16)), (oq 1, .inr (7, [.int (nI w17), .ref (oq 2), .ref (oq 3), .ref (oq 4)])), (oq 2, .inl (cI, 600, .inl w18)), (oq 3, .inl (cI, 600, .inl w19)), (oq 4, .inl (cI, 600, .inl w20)), (oq 5, .inr (8, [tx, .int zl, .int ta, .int be, .int ki, .int nu, .int wo]))] H := hP
    have hD : va_D A [(oq 0, .inr (6, gPs oq w4 w5 w6 w7 w8 w9 w10 w11 w12 (nI w13) (nI w14))), (oq 6, .inl (cI, 5, .inl w15)), (oq 7, .inl (cI, 600, .inl w16)), (oq 1, .inr (7, [.int (nI w17), .ref (oq 2), .ref (oq 3), .ref (oq 4)])), (oq 2, .inl (cI, 600, .inl w18)), (oq 3, .inl (cI, 600, .inl w19)), (oq 4, .inl (cI, 600, .inl w20)), (oq 5, .inr (8, [tx, .int zl, .int ta, .int be, .int ki, .int nu, .int wo]))] := hD
    try dsimp only at hw
    clear hz1 hk1 hFc hPc hKc hDc
    obtain ⟨hx21_1, hx21_2, hx21_3⟩ := hw
    exact W.vret hx hb hr (fun t ht hW => ⟨⟨(w4, w5, w6, w7, w8, w9, w10, w11, w12, w13, w14, w15, w16, w17, w18, w19, w20), rfl, (by (try dsimp only); first | done | exact ⟨by omega, by omega, by omega⟩), by rw [ht]; exact hP.sub [0, 1, 2, 3, 4, 5, 6, 7] rfl, va_K.moved hW.alike (hK.sub [0] rfl), hD.sub [0, 1, 2, 3, 4, 5, 6, 7] (by decide) rfl⟩, hS.F ht⟩) hS.2.2 dX6_acceptStatement_99
  by_cases hs22 : z1 = 5
  ·
    subst hs22
    refine lv_tableIn (off := 43) (tgt := 60) hx hb dX6_acceptStatement_17 (by decide) (by decide) (by decide +kernel) (by decide) ?_
    refine lv_aload_n hx hb dX6_acceptStatement_60 rfl (lv_at hl 0 rfl) ?_
    refine lv_iconst (v := 1) hx hb dX6_acceptStatement_61 (by decide) ?_
    refine va_put (D := D) (ci := 6) (v := .int 1) (ty := .int) (C := RX6) (T := TX6) (N := 15) hx hb hts hin_X6 tyX6 tyX6_ok nmX6 hown hK hP hD hS 0 rfl rfl 5 (by decide) (hts (.fieldLink RX6 39 "ClashFree$Parser" "state" "I") (List.mem_of_getElem? (i := 5) rfl)) (fun _ h9 => h9) rfl (by decide +kernel) rfl rfl (Nat.le_of_ble_eq_true rfl) dX6_acceptStatement_62 (fun H locs hP hD hS => ?_)
    have hP : va_P D vwCl [(oq 0, .inr (6, gPs oq qf qp qd 1 5 ta qh qr qn (nI bk) (nI wz))), (oq 6, .inl (cI, 5, .inl fO)), (oq 7, .inl (cI, 600, .inl fW)), (oq 1, .inr (7, [.int (nI pz), .ref (oq 2), .ref (oq 3), .ref (oq 4)])), (oq 2, .inl (cI, 600, .inl fK)), (oq 3, .inl (cI, 600, .inl fN)), (oq 4, .inl (cI, 600, .inl fL)), (oq 5, .inr (8, [tx, .int zl, .int ta, .int be, .int ki, .int nu, .int wo]))] H := hP
    have hD : va_D A [(oq 0, .inr (6, gPs oq qf qp qd 1 5 ta qh qr qn (nI bk) (nI wz))), (oq 6, .inl (cI, 5, .inl fO)), (oq 7, .inl (cI, 600, .inl fW)), (oq 1, .inr (7, [.int (nI pz), .ref (oq 2), .ref (oq 3), .ref (oq 4)])), (oq 2, .inl (cI, 600, .inl fK)), (oq 3, .inl (cI, 600, .inl fN)), (oq 4, .inl (cI, 600, .inl fL)), (oq 5, .inr (8, [tx, .int zl, .int ta, .int be, .int ki, .int nu, .int wo]))] := hD
    refine lv_goto (tgt := 99) hx hb dX6_acceptStatement_65 (by decide) ?_
    exact W.vret hx hb hr (fun t ht hW => ⟨⟨(qf, qp, qd, 1, 5, ta, qh, qr, qn, bk, wz, fO, fW, pz, fK, fN, fL), rfl, (by (try dsimp only); first | done | exact ⟨by omega, by omega, by omega⟩), by rw [ht]; exact hP.sub [0, 1, 2, 3, 4, 5, 6, 7] rfl, va_K.moved hW.alike (hK.sub [0] rfl), hD.sub [0, 1, 2, 3, 4, 5, 6, 7] (by decide) rfl⟩, hS.F ht⟩) hS.2.2 dX6_acceptStatement_99
  by_cases hs23 : z1 = 6
  ·
    subst hs23
    refine lv_tableIn (off := 43) (tgt := 60) hx hb dX6_acceptStatement_17 (by decide) (by decide) (by decide +kernel) (by decide) ?_
    refine lv_aload_n hx hb dX6_acceptStatement_60 rfl (lv_at hl 0 rfl) ?_
    refine lv_iconst (v := 1) hx hb dX6_acceptStatement_61 (by decide) ?_
    refine va_put (D := D) (ci := 6) (v := .int 1) (ty := .int) (C := RX6) (T := TX6) (N := 15) hx hb hts hin_X6 tyX6 tyX6_ok nmX6 hown hK hP hD hS 0 rfl rfl 5 (by decide) (hts (.fieldLink RX6 39 "ClashFree$Parser" "state" "I") (List.mem_of_getElem? (i := 5) rfl)) (fun _ h9 => h9) rfl (by decide +kernel) rfl rfl (Nat.le_of_ble_eq_true rfl) dX6_acceptStatement_62 (fun H locs hP hD hS => ?_)
    have hP : va_P D vwCl [(oq 0, .inr (6, gPs oq qf qp qd 1 6 ta qh qr qn (nI bk) (nI wz))), (oq 6, .inl (cI, 5, .inl fO)), (oq 7, .inl (cI, 600, .inl fW)), (oq 1, .inr (7, [.int (nI pz), .ref (oq 2), .ref (oq 3), .ref (oq 4)])), (oq 2, .inl (cI, 600, .inl fK)), (oq 3, .inl (cI, 600, .inl fN)), (oq 4, .inl (cI, 600, .inl fL)), (oq 5, .inr (8, [tx, .int zl, .int ta, .int be, .int ki, .int nu, .int wo]))] H := hP
    have hD : va_D A [(oq 0, .inr (6, gPs oq qf qp qd 1 6 ta qh qr qn (nI bk) (nI wz))), (oq 6, .inl (cI, 5, .inl fO)), (oq 7, .inl (cI, 600, .inl fW)), (oq 1, .inr (7, [.int (nI pz), .ref (oq 2), .ref (oq 3), .ref (oq 4)])), (oq 2, .inl (cI, 600, .inl fK)), (oq 3, .inl (cI, 600, .inl fN)), (oq 4, .inl (cI, 600, .inl fL)), (oq 5, .inr (8, [tx, .int zl, .int ta, .int be, .int ki, .int nu, .int wo]))] := hD
    refine lv_goto (tgt := 99) hx hb dX6_acceptStatement_65 (by decide) ?_
    exact W.vret hx hb hr (fun t ht hW => ⟨⟨(qf, qp, qd, 1, 6, ta, qh, qr, qn, bk, wz, fO, fW, pz, fK, fN, fL), rfl, (by (try dsimp only); first | done | exact ⟨by omega, by omega, by omega⟩), by rw [ht]; exact hP.sub [0, 1, 2, 3, 4, 5, 6, 7] rfl, va_K.moved hW.alike (hK.sub [0] rfl), hD.sub [0, 1, 2, 3, 4, 5, 6, 7] (by decide) rfl⟩, hS.F ht⟩) hS.2.2 dX6_acceptStatement_99
  by_cases hs24 : z1 = 7
  ·
    subst hs24
    refine lv_tableIn (off := 43) (tgt := 60) hx hb dX6_acceptStatement_17 (by decide) (by decide) (by decide +kernel) (by decide) ?_
    refine lv_aload_n hx hb dX6_acceptStatement_60 rfl (lv_at hl 0 rfl) ?_
    refine lv_iconst (v := 1) hx hb dX6_acceptStatement_61 (by decide) ?_
    refine va_put (D := D) (ci := 6) (v := .int 1) (ty := .int) (C := RX6) (T := TX6) (N := 15) hx hb hts hin_X6 tyX6 tyX6_ok nmX6 hown hK hP hD hS 0 rfl rfl 5 (by decide) (hts (.fieldLink RX6 39 "ClashFree$Parser" "state" "I") (List.mem_of_getElem? (i := 5) rfl)) (fun _ h9 => h9) rfl (by decide +kernel) rfl rfl (Nat.le_of_ble_eq_true rfl) dX6_acceptStatement_62 (fun H locs hP hD hS => ?_)
    have hP : va_P D vwCl [(oq 0, .inr (6, gPs oq qf qp qd 1 7 ta qh qr qn (nI bk) (nI wz))), (oq 6, .inl (cI, 5, .inl fO)), (oq 7, .inl (cI, 600, .inl fW)), (oq 1, .inr (7, [.int (nI pz), .ref (oq 2), .ref (oq 3), .ref (oq 4)])), (oq 2, .inl (cI, 600, .inl fK)), (oq 3, .inl (cI, 600, .inl fN)), (oq 4, .inl (cI, 600, .inl fL)), (oq 5, .inr (8, [tx, .int zl, .int ta, .int be, .int ki, .int nu, .int wo]))] H := hP
    have hD : va_D A [(oq 0, .inr (6, gPs oq qf qp qd 1 7 ta qh qr qn (nI bk) (nI wz))), (oq 6, .inl (cI, 5, .inl fO)), (oq 7, .inl (cI, 600, .inl fW)), (oq 1, .inr (7, [.int (nI pz), .ref (oq 2), .ref (oq 3), .ref (oq 4)])), (oq 2, .inl (cI, 600, .inl fK)), (oq 3, .inl (cI, 600, .inl fN)), (oq 4, .inl (cI, 600, .inl fL)), (oq 5, .inr (8, [tx, .int zl, .int ta, .int be, .int ki, .int nu, .int wo]))] := hD
    refine lv_goto (tgt := 99) hx hb dX6_acceptStatement_65 (by decide) ?_
    exact W.vret hx hb hr (fun t ht hW => ⟨⟨(qf, qp, qd, 1, 7, ta, qh, qr, qn, bk, wz, fO, fW, pz, fK, fN, fL), rfl, (by (try dsimp only); first | done | exact ⟨by omega, by omega, by omega⟩), by rw [ht]; exact hP.sub [0, 1, 2, 3, 4, 5, 6, 7] rfl, va_K.moved hW.alike (hK.sub [0] rfl), hD.sub [0, 1, 2, 3, 4, 5, 6, 7] (by decide) rfl⟩, hS.F ht⟩) hS.2.2 dX6_acceptStatement_99
  by_cases hs25 : z1 = 8
  ·
    subst hs25
    refine lv_tableIn (off := 64) (tgt := 81) hx hb dX6_acceptStatement_17 (by decide) (by decide) (by decide +kernel) (by decide) ?_
    refine lv_aload_n hx hb dX6_acceptStatement_81 rfl (lv_at hl 0 rfl) ?_
    refine lv_iconst (v := 1) hx hb dX6_acceptStatement_82 (by decide) ?_
    refine va_put (D := D) (ci := 6) (v := .int 1) (ty := .boolean) (C := RX6) (T := TX6) (N := 15) hx hb hts hin_X6 tyX6 tyX6_ok nmX6 hown hK hP hD hS 0 rfl rfl 8 (by decide) (hts (.fieldLink RX6 42 "ClashFree$Parser" "heading" "Z") (List.mem_of_getElem? (i := 10) rfl)) (fun _ h9 => h9) rfl (by decide +kernel) rfl rfl (Nat.le_of_ble_eq_true rfl) dX6_acceptStatement_83 (fun H locs hP hD hS => ?_)
    have hP : va_P D vwCl [(oq 0, .inr (6, gPs oq qf qp qd qs 8 ta 1 qr qn (nI bk) (nI wz))), (oq 6, .inl (cI, 5, .inl fO)), (oq 7, .inl (cI, 600, .inl fW)), (oq 1, .inr (7, [.int (nI pz), .ref (oq 2), .ref (oq 3), .ref (oq 4)])), (oq 2, .inl (cI, 600, .inl fK)), (oq 3, .inl (cI, 600, .inl fN)), (oq 4, .inl (cI, 600, .inl fL)), (oq 5, .inr (8, [tx, .int zl, .int ta, .int be, .int ki, .int nu, .int wo]))] H := hP
    have hD : va_D A [(oq 0, .inr (6, gPs oq qf qp qd qs 8 ta 1 qr qn (nI bk) (nI wz))), (oq 6, .inl (cI, 5, .inl fO)), (oq 7, .inl (cI, 600, .inl fW)), (oq 1, .inr (7, [.int (nI pz), .ref (oq 2), .ref (oq 3), .ref (oq 4)])), (oq 2, .inl (cI, 600, .inl fK)), (oq 3, .inl (cI, 600, .inl fN)), (oq 4, .inl (cI, 600, .inl fL)), (oq 5, .inr (8, [tx, .int zl, .int ta, .int be, .int ki, .int nu, .int wo]))] := hD
    refine lv_aload_n hx hb dX6_acceptStatement_86 rfl (lv_at hl 0 rfl) ?_
    refine lv_iconst (v := 3) hx hb dX6_acceptStatement_87 (by decide) ?_
    refine va_put (D := D) (ci := 6) (v := .int 3) (ty := .int) (C := RX6) (T := TX6) (N := 15) hx hb hts hin_X6 tyX6 tyX6_ok nmX6 hown hK hP hD hS 0 rfl rfl 5 (by decide) (hts (.fieldLink RX6 39 "ClashFree$Parser" "state" "I") (List.mem_of_getElem? (i := 5) rfl)) (fun _ h9 => h9) rfl (by decide +kernel) rfl rfl (Nat.le_of_ble_eq_true rfl) dX6_acceptStatement_88 (fun H locs hP hD hS => ?_)
    have hP : va_P D vwCl [(oq 0, .inr (6, gPs oq qf qp qd 3 8 ta 1 qr qn (nI bk) (nI wz))), (oq 6, .inl (cI, 5, .inl fO)), (oq 7, .inl (cI, 600, .inl fW)), (oq 1, .inr (7, [.int (nI pz), .ref (oq 2), .ref (oq 3), .ref (oq 4)])), (oq 2, .inl (cI, 600, .inl fK)), (oq 3, .inl (cI, 600, .inl fN)), (oq 4, .inl (cI, 600, .inl fL)), (oq 5, .inr (8, [tx, .int zl, .int ta, .int be, .int ki, .int nu, .int wo]))] H := hP
    have hD : va_D A [(oq 0, .inr (6, gPs oq qf qp qd 3 8 ta 1 qr qn (nI bk) (nI wz))), (oq 6, .inl (cI, 5, .inl fO)), (oq 7, .inl (cI, 600, .inl fW)), (oq 1, .inr (7, [.int (nI pz), .ref (oq 2), .ref (oq 3), .ref (oq 4)])), (oq 2, .inl (cI, 600, .inl fK)), (oq 3, .inl (cI, 600, .inl fN)), (oq 4, .inl (cI, 600, .inl fL)), (oq 5, .inr (8, [tx, .int zl, .int ta, .int be, .int ki, .int nu, .int wo]))] := hD
    refine lv_goto (tgt := 99) hx hb dX6_acceptStatement_91 (by decide) ?_
    exact W.vret hx hb hr (fun t ht hW => ⟨⟨(qf, qp, qd, 3, 8, ta, 1, qr, qn, bk, wz, fO, fW, pz, fK, fN, fL), rfl, (by (try dsimp only); first | done | exact ⟨by omega, by omega, by omega⟩), by rw [ht]; exact hP.sub [0, 1, 2, 3, 4, 5, 6, 7] rfl, va_K.moved hW.alike (hK.sub [0] rfl), hD.sub [0, 1, 2, 3, 4, 5, 6, 7] (by decide) rfl⟩, hS.F ht⟩) hS.2.2 dX6_acceptStatement_99
  by_cases hs26 : z1 = 9
  ·
    subst hs26
    refine lv_tableIn (off := 51) (tgt := 68) hx hb dX6_acceptStatement_17 (by decide) (by decide) (by decide +kernel) (by decide) ?_
    refine lv_aload_n hx hb dX6_acceptStatement_68 rfl (lv_at hl 0 rfl) ?_
    refine lv_iconst (v := 1) hx hb dX6_acceptStatement_69 (by decide) ?_
    refine va_put (D := D) (ci := 6) (v := .int 1) (ty := .boolean) (C := RX6) (T := TX6) (N := 15) hx hb hts hin_X6 tyX6 tyX6_ok nmX6 hown hK hP hD hS 0 rfl rfl 8 (by decide) (hts (.fieldLink RX6 42 "ClashFree$Parser" "heading" "Z") (List.mem_of_getElem? (i := 10) rfl)) (fun _ h9 => h9) rfl (by decide +kernel) rfl rfl (Nat.le_of_ble_eq_true rfl) dX6_acceptStatement_70 (fun H locs hP hD hS => ?_)
    have hP : va_P D vwCl [(oq 0, .inr (6, gPs oq qf qp qd qs 9 ta 1 qr qn (nI bk) (nI wz))), (oq 6, .inl (cI, 5, .inl fO)), (oq 7, .inl (cI, 600, .inl fW)), (oq 1, .inr (7, [.int (nI pz), .ref (oq 2), .ref (oq 3), .ref (oq 4)])), (oq 2, .inl (cI, 600, .inl fK)), (oq 3, .inl (cI, 600, .inl fN)), (oq 4, .inl (cI, 600, .inl fL)), (oq 5, .inr (8, [tx, .int zl, .int ta, .int be, .int ki, .int nu, .int wo]))] H := hP
    have hD : va_D A [(oq 0, .inr (6, gPs oq qf qp qd qs 9 ta 1 qr qn (nI bk) (nI wz))), (oq 6, .inl (cI, 5, .inl fO)), (oq 7, .inl (cI, 600, .inl fW)), (oq 1, .inr (7, [.int (nI pz), .ref (oq 2), .ref (oq 3), .ref (oq 4)])), (oq 2, .inl (cI, 600, .inl fK)), (oq 3, .inl (cI, 600, .inl fN)), (oq 4, .inl (cI, 600, .inl fL)), (oq 5, .inr (8, [tx, .int zl, .int ta, .int be, .int ki, .int nu, .int wo]))] := hD
    refine lv_aload_n hx hb dX6_acceptStatement_73 rfl (lv_at hl 0 rfl) ?_
    refine lv_iconst (v := 1) hx hb dX6_acceptStatement_74 (by decide) ?_
    refine va_put (D := D) (ci := 6) (v := .int 1) (ty := .int) (C := RX6) (T := TX6) (N := 15) hx hb hts hin_X6 tyX6 tyX6_ok nmX6 hown hK hP hD hS 0 rfl rfl 5 (by decide) (hts (.fieldLink RX6 39 "ClashFree$Parser" "state" "I") (List.mem_of_getElem? (i := 5) rfl)) (fun _ h9 => h9) rfl (by decide +kernel) rfl rfl (Nat.le_of_ble_eq_true rfl) dX6_acceptStatement_75 (fun H locs hP hD hS => ?_)
    have hP : va_P D vwCl [(oq 0, .inr (6, gPs oq qf qp qd 1 9 ta 1 qr qn (nI bk) (nI wz))), (oq 6, .inl (cI, 5, .inl fO)), (oq 7, .inl (cI, 600, .inl fW)), (oq 1, .inr (7, [.int (nI pz), .ref (oq 2), .ref (oq 3), .ref (oq 4)])), (oq 2, .inl (cI, 600, .inl fK)), (oq 3, .inl (cI, 600, .inl fN)), (oq 4, .inl (cI, 600, .inl fL)), (oq 5, .inr (8, [tx, .int zl, .int ta, .int be, .int ki, .int nu, .int wo]))] H := hP
    have hD : va_D A [(oq 0, .inr (6, gPs oq qf qp qd 1 9 ta 1 qr qn (nI bk) (nI wz))), (oq 6, .inl (cI, 5, .inl fO)), (oq 7, .inl (cI, 600, .inl fW)), (oq 1, .inr (7, [.int (nI pz), .ref (oq 2), .ref (oq 3), .ref (oq 4)])), (oq 2, .inl (cI, 600, .inl fK)), (oq 3, .inl (cI, 600, .inl fN)), (oq 4, .inl (cI, 600, .inl fL)), (oq 5, .inr (8, [tx, .int zl, .int ta, .int be, .int ki, .int nu, .int wo]))] := hD
    refine lv_goto (tgt := 99) hx hb dX6_acceptStatement_78 (by decide) ?_
    exact W.vret hx hb hr (fun t ht hW => ⟨⟨(qf, qp, qd, 1, 9, ta, 1, qr, qn, bk, wz, fO, fW, pz, fK, fN, fL), rfl, (by (try dsimp only); first | done | exact ⟨by omega, by omega, by omega⟩), by rw [ht]; exact hP.sub [0, 1, 2, 3, 4, 5, 6, 7] rfl, va_K.moved hW.alike (hK.sub [0] rfl), hD.sub [0, 1, 2, 3, 4, 5, 6, 7] (by decide) rfl⟩, hS.F ht⟩) hS.2.2 dX6_acceptStatement_99
  refine lv_tableOut (tgt := 94) hx hb dX6_acceptStatement_17 (by have a0 := sw_ne (n := 3) hs1 (by decide) (by decide); have a1 := sw_ne (n := 4) hs2 (by decide) (by decide); have a2 := sw_ne (n := 5) hs22 (by decide) (by decide); have a3 := sw_ne (n := 6) hs23 (by decide) (by decide); have a4 := sw_ne (n := 7) hs24 (by decide) (by decide); have a5 := sw_ne (n := 8) hs25 (by decide) (by decide); have a6 := sw_ne (n := 9) hs26 (by decide) (by decide); omega) (by decide) ?_
  refine lv_aload_n hx hb dX6_acceptStatement_94 rfl (lv_at hl 0 rfl) ?_
  refine lv_iload_n hx hb dX6_acceptStatement_95 rfl (lv_at hl 1 rfl) ?_
  have hPc := hP.sub (ws' := [(oq 0, .inr (6, gPs oq qf qp qd qs z1 ta qh qr qn (nI bk) (nI wz))), (oq 6, .inl (cI, 5, .inl fO)), (oq 7, .inl (cI, 600, .inl fW)), (oq 1, .inr (7, [.int (nI pz), .ref (oq 2), .ref (oq 3), .ref (oq 4)])), (oq 2, .inl (cI, 600, .inl fK)), (oq 3, .inl (cI, 600, .inl fN)), (oq 4, .inl (cI, 600, .inl fL)), (oq 5, .inr (8, [tx, .int zl, .int ta, .int be, .int ki, .int nu, .int wo]))]) [0, 1, 2, 3, 4, 5, 6, 7] rfl
  have hKc := hK.sub (tys' := [(cI, .int)]) [0] rfl
  have hDc := hD.sub (ws' := [(oq 0, .inr (6, gPs oq qf qp qd qs z1 ta qh qr qn (nI bk) (nI wz))), (oq 6, .inl (cI, 5, .inl fO)), (oq 7, .inl (cI, 600, .inl fW)), (oq 1, .inr (7, [.int (nI pz), .ref (oq 2), .ref (oq 3), .ref (oq 4)])), (oq 2, .inl (cI, 600, .inl fK)), (oq 3, .inl (cI, 600, .inl fN)), (oq 4, .inl (cI, 600, .inl fL)), (oq 5, .inr (8, [tx, .int zl, .int ta, .int be, .int ki, .int nu, .int wo]))]) [0, 1, 2, 3, 4, 5, 6, 7] (by decide) rfl
  have hFc := va_free (wc := [(oq 0, .inr (6, gPs oq qf qp qd qs z1 ta qh qr qn (nI bk) (nI wz))), (oq 6, .inl (cI, 5, .inl fO)), (oq 7, .inl (cI, 600, .inl fW)), (oq 1, .inr (7, [.int (nI pz), .ref (oq 2), .ref (oq 3), .ref (oq 4)])), (oq 2, .inl (cI, 600, .inl fK)), (oq 3, .inl (cI, 600, .inl fN)), (oq 4, .inl (cI, 600, .inl fL)), (oq 5, .inr (8, [tx, .int zl, .int ta, .int be, .int ki, .int nu, .int wo]))]) hD hS hA [0, 1, 2, 3, 4, 5, 6, 7] rfl
  refine va_callv (va_runV (As := [.int z1]) (rest := []) ⟨hx, hb, hml, hown, hts⟩ (k_aEnd l D _ oq cI qf qp qd qs z1 ta qh qr qn bk wz fO fW pz fK fN fL tx zl ta be ki nu wo z1 hbk hwz hpz) (cwV 1 hts g_k_aStat_k_aEnd_106 rfl rfl rfl (by decide +kernel) ⟨(Nat.le_of_ble_eq_true rfl), (Nat.le_of_ble_eq_true rfl)⟩) (PcWC_V (q0 := 0) hPc hKc hDc hN rfl rfl) rfl rfl hl.1 rfl (lv_room (Nat.le_of_ble_eq_true rfl)) dX6_acceptStatement_96 ⟨(Nat.le_of_ble_eq_true rfl), (Nat.le_of_ble_eq_true rfl)⟩) hS (fun q _ h => hFc q h) hFc (fun uu tt H locs htt hvm hw hB hz1 hk1 hS => ?_)
  obtain ⟨w28, w29, w30, w31, w32, w33, w34, w35, w36, w37, w38, w39, w40, w41, w42, w43, w44⟩ := uu
  obtain ⟨hP1, hK1, hD1⟩ := hB
  rw [htt] at hP1
  have hK1 := va_K.moved hvm.symm hK1
  have hP1 : va_P D vwCl [(oq 0, .inr (6, gPs oq w28 w29 w30 w31 w32 w33 w34 w35 w36 (nI w37) (nI w38))), (oq 6, .inl (cI, 5, .inl w39)), (oq 7, .inl (cI, 600, .inl w40)), (oq 1, .inr (7, [.int (nI w41), .ref (oq 2), .ref (oq 3), .ref (oq 4)])), (oq 2, .inl (cI, 600, .inl w42)), (oq 3, .inl (cI, 600, .inl w43)), (oq 4, .inl (cI, 600, .inl w44)), (oq 5, .inr (8, [tx, .int zl, .int ta, .int be, .int ki, .int nu, .int wo]))] H := hP1
  obtain ⟨hP, hD⟩ := va_join (wr := []) (w1 := [(oq 0, .inr (6, gPs oq w28 w29 w30 w31 w32 w33 w34 w35 w36 (nI w37) (nI w38))), (oq 6, .inl (cI, 5, .inl w39)), (oq 7, .inl (cI, 600, .inl w40)), (oq 1, .inr (7, [.int (nI w41), .ref (oq 2), .ref (oq 3), .ref (oq 4)])), (oq 2, .inl (cI, 600, .inl w42)), (oq 3, .inl (cI, 600, .inl w43)), (oq 4, .inl (cI, 600, .inl w44)), (oq 5, .inr (8, [tx, .int zl, .int ta, .int be, .int ki, .int nu, .int wo]))]) hP hD [0, 1, 2, 3, 4, 5, 6, 7] [] rfl rfl (by decide) (by decide) hk1 hFc hP1 hD1
  have hP : va_P D vwCl [(oq 0, .inr (6, gPs oq w28 w29 w30 w31 w32 w33 w34 w35 w36 (nI w37) (nI w38))), (oq 6, .inl (cI, 5, .inl w39)), (oq 7, .inl (cI, 600, .inl w40)), (oq 1, .inr (7, [.int (nI w41), .ref (oq 2), .ref (oq 3), .ref (oq 4)])), (oq 2, .inl (cI, 600, .inl w42)), (oq 3, .inl (cI, 600, .inl w43)), (oq 4, .inl (cI, 600, .inl w44)), (oq 5, .inr (8, [tx, .int zl, .int ta, .int be, .int ki, .int nu, .int wo]))] H := hP
  have hD : va_D A [(oq 0, .inr (6, gPs oq w28 w29 w30 w31 w32 w33 w34 w35 w36 (nI w37) (nI w38))), (oq 6, .inl (cI, 5, .inl w39)), (oq 7, .inl (cI, 600, .inl w40)), (oq 1, .inr (7, [.int (nI w41), .ref (oq 2), .ref (oq 3), .ref (oq 4)])), (oq 2, .inl (cI, 600, .inl w42)), (oq 3, .inl (cI, 600, .inl w43)), (oq 4, .inl (cI, 600, .inl w44)), (oq 5, .inr (8, [tx, .int zl, .int ta, .int be, .int ki, .int nu, .int wo]))] := hD
  try dsimp only at hw
  clear hz1 hk1 hFc hPc hKc hDc
  obtain ⟨hx45_1, hx45_2, hx45_3⟩ := hw
  exact W.vret hx hb hr (fun t ht hW => ⟨⟨(w28, w29, w30, w31, w32, w33, w34, w35, w36, w37, w38, w39, w40, w41, w42, w43, w44), rfl, (by (try dsimp only); first | done | exact ⟨by omega, by omega, by omega⟩), by rw [ht]; exact hP.sub [0, 1, 2, 3, 4, 5, 6, 7] rfl, va_K.moved hW.alike (hK.sub [0] rfl), hD.sub [0, 1, 2, 3, 4, 5, 6, 7] (by decide) rfl⟩, hS.F ht⟩) hS.2.2 dX6_acceptStatement_99

def own_k_aUnit : List Cond := [.fieldLink RX6 12 "ClashFree$Parser" "program" "LClashFree$Program;", .fieldLink RX6 21 "ClashFree$Parser" "scan" "LClashFree$Scanner;", .fieldLink RX6 115 "ClashFree$Scanner" "number" "I", .methodLink RX6 118 yX7_add, .instanceMethod yX7_add, .selects RX7 yX7_add yX7_add, .initialized RX7, .fieldLink RX6 39 "ClashFree$Parser" "state" "I", .fieldLink RX6 46 "ClashFree$Parser" "parens" "I", .methodLink RX6 121 yX6_await, .instanceMethod yX6_await, .selects RX6 yX6_await yX6_await, .initialized RX6, .fieldLink RX6 79 "ClashFree$Scanner" "at" "I", .methodLink RX6 55 yX6_note, .instanceMethod yX6_note, .selects RX6 yX6_note yX6_note, .methodLink RX6 112 yX6_refuse, .instanceMethod yX6_refuse, .selects RX6 yX6_refuse yX6_refuse]
def wp_k_aUnit : List Cond := .code yX6_acceptUnit cX6_acceptUnit 2 none :: (own_k_aUnit ++ (wp_k_padd ++ (wp_k_await ++ (wp_k_note ++ (wp_k_refuse ++ (wsX60 ++ (wsX80 ++ ([] : List Cond))))))))
set_option maxRecDepth 20000 in
theorem inown_k_aUnit : ∀ w ∈ own_k_aUnit, w ∈ lw_tbl := mem_places [333, 335, 310, 1039, 1040, 1041, 112, 336, 341, 1051, 1053, 17, 111, 305, 915, 917, 4, 1043, 1045, 15] (by decide +kernel)
set_option maxRecDepth 20000 in
theorem in_k_aUnit : ∀ w ∈ wp_k_aUnit, w ∈ lw_tbl := List.forall_mem_cons.mpr ⟨List.mem_of_getElem? (i := 1050) (by decide +kernel), List.forall_mem_append.mpr ⟨inown_k_aUnit, List.forall_mem_append.mpr ⟨in_k_padd, List.forall_mem_append.mpr ⟨in_k_await, List.forall_mem_append.mpr ⟨in_k_note, List.forall_mem_append.mpr ⟨in_k_refuse, List.forall_mem_append.mpr ⟨lwb_X6, List.forall_mem_append.mpr ⟨lwb_X8, fun _ h => absurd h List.not_mem_nil⟩⟩⟩⟩⟩⟩⟩⟩
set_option maxRecDepth 20000 in
theorem good_k_aUnit : wp_k_aUnit.all goodWord = true := by decide +kernel
set_option maxRecDepth 20000 in
theorem g_k_aUnit_k_padd_118 : GoodIn wp_k_aUnit (wsV RX6 118 RX7 yX7_add wp_k_padd) := goodIn_sub (List.forall_mem_append.mpr ⟨List.forall_mem_cons.mpr ⟨(List.mem_of_getElem? (i := 4) rfl), List.forall_mem_cons.mpr ⟨(List.mem_of_getElem? (i := 5) rfl), List.forall_mem_cons.mpr ⟨(List.mem_of_getElem? (i := 6) rfl), List.forall_mem_cons.mpr ⟨(List.mem_of_getElem? (i := 7) rfl), fun _ h => absurd h List.not_mem_nil⟩⟩⟩⟩, (fun _ h => (List.mem_cons_of_mem _ (List.mem_append_right _ (List.mem_append_left _ h))))⟩) (by decide +kernel)
set_option maxRecDepth 20000 in
theorem g_k_aUnit_k_await_121 : GoodIn wp_k_aUnit (wsV RX6 121 RX6 yX6_await wp_k_await) := goodIn_sub (List.forall_mem_append.mpr ⟨List.forall_mem_cons.mpr ⟨(List.mem_of_getElem? (i := 10) rfl), List.forall_mem_cons.mpr ⟨(List.mem_of_getElem? (i := 11) rfl), List.forall_mem_cons.mpr ⟨(List.mem_of_getElem? (i := 12) rfl), List.forall_mem_cons.mpr ⟨(List.mem_of_getElem? (i := 13) rfl), fun _ h => absurd h List.not_mem_nil⟩⟩⟩⟩, (fun _ h => (List.mem_cons_of_mem _ (List.mem_append_right _ (List.mem_append_right _ (List.mem_append_left _ h)))))⟩) (by decide +kernel)
set_option maxRecDepth 20000 in
theorem g_k_aUnit_k_note_55 : GoodIn wp_k_aUnit (wsV RX6 55 RX6 yX6_note wp_k_note) := goodIn_sub (List.forall_mem_append.mpr ⟨List.forall_mem_cons.mpr ⟨(List.mem_of_getElem? (i := 15) rfl), List.forall_mem_cons.mpr ⟨(List.mem_of_getElem? (i := 16) rfl), List.forall_mem_cons.mpr ⟨(List.mem_of_getElem? (i := 17) rfl), List.forall_mem_cons.mpr ⟨(List.mem_of_getElem? (i := 13) rfl), fun _ h => absurd h List.not_mem_nil⟩⟩⟩⟩, (fun _ h => (List.mem_cons_of_mem _ (List.mem_append_right _ (List.mem_append_right _ (List.mem_append_right _ (List.mem_append_left _ h))))))⟩) (by decide +kernel)
set_option maxRecDepth 20000 in
theorem g_k_aUnit_k_refuse_112 : GoodIn wp_k_aUnit (wsV RX6 112 RX6 yX6_refuse wp_k_refuse) := goodIn_sub (List.forall_mem_append.mpr ⟨List.forall_mem_cons.mpr ⟨(List.mem_of_getElem? (i := 18) rfl), List.forall_mem_cons.mpr ⟨(List.mem_of_getElem? (i := 19) rfl), List.forall_mem_cons.mpr ⟨(List.mem_of_getElem? (i := 20) rfl), List.forall_mem_cons.mpr ⟨(List.mem_of_getElem? (i := 13) rfl), fun _ h => absurd h List.not_mem_nil⟩⟩⟩⟩, (fun _ h => (List.mem_cons_of_mem _ (List.mem_append_right _ (List.mem_append_right _ (List.mem_append_right _ (List.mem_append_right _ (List.mem_append_left _ h)))))))⟩) (by decide +kernel)
set_option maxHeartbeats 4000000 in
set_option maxRecDepth 100000 in
theorem k_aUnit (l : Launch) (D : va_G) (sz : Nat) (oq : Nat → Nat) (cI : ClassId) (qf : Int32) (qp : Int32) (qd : Int32) (qs : Int32) (qt : Int32) (qb : Int32) (qh : Int32) (qr : Int32) (qn : Int32) (bk : Nat) (wz : Nat) (fO : Nat → Int32) (fW : Nat → Int32) (pz : Nat) (fK : Nat → Int32) (fN : Nat → Int32) (fL : Nat → Int32) (tx : Value) (zl : Int32) (ta : Int32) (be : Int32) (ki : Int32) (nu : Int32) (wo : Int32) (z1 : Int32) (hbk : bk ≤ 5) (hwz : wz ≤ 600) (hpz : pz ≤ 600) : Met l yX6_acceptUnit wp_k_aUnit ({ frames := 2, cells := 0, slots := 0, locals := 42 }) (PcWC D [.ref (oq 0), .int z1] sz [(oq 0, .inr (6, gPs oq qf qp qd qs qt qb qh qr qn (nI bk) (nI wz))), (oq 6, .inl (cI, 5, .inl fO)), (oq 7, .inl (cI, 600, .inl fW)), (oq 1, .inr (7, [.int (nI pz), .ref (oq 2), .ref (oq 3), .ref (oq 4)])), (oq 2, .inl (cI, 600, .inl fK)), (oq 3, .inl (cI, 600, .inl fN)), (oq 4, .inl (cI, 600, .inl fL)), (oq 5, .inr (8, [tx, .int zl, .int ta, .int be, .int ki, .int nu, .int wo]))] [(cI, .int)]) (va_Qv (fun (u : (Int32) × (Int32) × (Int32) × (Int32) × (Int32) × (Int32) × (Int32) × (Int32) × (Int32) × (Nat) × (Nat) × (Nat → Int32) × (Nat → Int32) × (Nat) × (Nat → Int32) × (Nat → Int32) × (Nat → Int32)) => u.2.2.2.2.2.2.2.2.2.1 ≤ 5 ∧ u.2.2.2.2.2.2.2.2.2.2.1 ≤ 600 ∧ u.2.2.2.2.2.2.2.2.2.2.2.2.2.1 ≤ 600) (fun (u : (Int32) × (Int32) × (Int32) × (Int32) × (Int32) × (Int32) × (Int32) × (Int32) × (Int32) × (Nat) × (Nat) × (Nat → Int32) × (Nat → Int32) × (Nat) × (Nat → Int32) × (Nat → Int32) × (Nat → Int32)) t => va_P D vwCl [(oq 0, .inr (6, gPs oq u.1 u.2.1 u.2.2.1 u.2.2.2.1 u.2.2.2.2.1 u.2.2.2.2.2.1 u.2.2.2.2.2.2.1 u.2.2.2.2.2.2.2.1 u.2.2.2.2.2.2.2.2.1 (nI u.2.2.2.2.2.2.2.2.2.1) (nI u.2.2.2.2.2.2.2.2.2.2.1))), (oq 6, .inl (cI, 5, .inl u.2.2.2.2.2.2.2.2.2.2.2.1)), (oq 7, .inl (cI, 600, .inl u.2.2.2.2.2.2.2.2.2.2.2.2.1)), (oq 1, .inr (7, [.int (nI u.2.2.2.2.2.2.2.2.2.2.2.2.2.1), .ref (oq 2), .ref (oq 3), .ref (oq 4)])), (oq 2, .inl (cI, 600, .inl u.2.2.2.2.2.2.2.2.2.2.2.2.2.2.1)), (oq 3, .inl (cI, 600, .inl u.2.2.2.2.2.2.2.2.2.2.2.2.2.2.2.1)), (oq 4, .inl (cI, 600, .inl u.2.2.2.2.2.2.2.2.2.2.2.2.2.2.2.2)), (oq 5, .inr (8, [tx, .int zl, .int ta, .int be, .int ki, .int nu, .int wo]))] t.heap ∧ va_K D vwCl [(cI, .int)] t ∧ va_D (va_A [(oq 0, .inr (6, gPs oq qf qp qd qs qt qb qh qr qn (nI bk) (nI wz))), (oq 6, .inl (cI, 5, .inl fO)), (oq 7, .inl (cI, 600, .inl fW)), (oq 1, .inr (7, [.int (nI pz), .ref (oq 2), .ref (oq 3), .ref (oq 4)])), (oq 2, .inl (cI, 600, .inl fK)), (oq 3, .inl (cI, 600, .inl fN)), (oq 4, .inl (cI, 600, .inl fL)), (oq 5, .inr (8, [tx, .int zl, .int ta, .int be, .int ki, .int nu, .int wo]))] sz) [(oq 0, .inr (6, gPs oq u.1 u.2.1 u.2.2.1 u.2.2.2.1 u.2.2.2.2.1 u.2.2.2.2.2.1 u.2.2.2.2.2.2.1 u.2.2.2.2.2.2.2.1 u.2.2.2.2.2.2.2.2.1 (nI u.2.2.2.2.2.2.2.2.2.1) (nI u.2.2.2.2.2.2.2.2.2.2.1))), (oq 6, .inl (cI, 5, .inl u.2.2.2.2.2.2.2.2.2.2.2.1)), (oq 7, .inl (cI, 600, .inl u.2.2.2.2.2.2.2.2.2.2.2.2.1)), (oq 1, .inr (7, [.int (nI u.2.2.2.2.2.2.2.2.2.2.2.2.2.1), .ref (oq 2), .ref (oq 3), .ref (oq 4)])), (oq 2, .inl (cI, 600, .inl u.2.2.2.2.2.2.2.2.2.2.2.2.2.2.1)), (oq 3, .inl (cI, 600, .inl u.2.2.2.2.2.2.2.2.2.2.2.2.2.2.2.1)), (oq 4, .inl (cI, 600, .inl u.2.2.2.2.2.2.2.2.2.2.2.2.2.2.2.2)), (oq 5, .inr (8, [tx, .int zl, .int ta, .int be, .int ki, .int nu, .int wo]))]) (va_A [(oq 0, .inr (6, gPs oq qf qp qd qs qt qb qh qr qn (nI bk) (nI wz))), (oq 6, .inl (cI, 5, .inl fO)), (oq 7, .inl (cI, 600, .inl fW)), (oq 1, .inr (7, [.int (nI pz), .ref (oq 2), .ref (oq 3), .ref (oq 4)])), (oq 2, .inl (cI, 600, .inl fK)), (oq 3, .inl (cI, 600, .inl fN)), (oq 4, .inl (cI, 600, .inl fL)), (oq 5, .inr (8, [tx, .int zl, .int ta, .int be, .int ki, .int nu, .int wo]))] sz)) 0 0 (va_A [(oq 0, .inr (6, gPs oq qf qp qd qs qt qb qh qr qn (nI bk) (nI wz))), (oq 6, .inl (cI, 5, .inl fO)), (oq 7, .inl (cI, 600, .inl fW)), (oq 1, .inr (7, [.int (nI pz), .ref (oq 2), .ref (oq 3), .ref (oq 4)])), (oq 2, .inl (cI, 600, .inl fK)), (oq 3, .inl (cI, 600, .inl fN)), (oq 4, .inl (cI, 600, .inl fL)), (oq 5, .inr (8, [tx, .int zl, .int ta, .int be, .int ki, .int nu, .int wo]))] sz) := by
  refine Met.ofW (cc := cX6_acceptUnit) (maxL := 2) (ret := none) (by decide) rfl ?_
  intro p e s m args below meth c s₁ B hml hv
  obtain ⟨rfl, hsz, hP, hK, hD0, hN⟩ := hv
  have hx := B.exec
  have hb := B.bytes
  have hr := B.returns
  have hts := atoms_spec (ws := wp_k_aUnit) B.pre
  have hin_X6 : ∀ w ∈ wsX60, w ∈ wp_k_aUnit := fun _ h => (List.mem_cons_of_mem _ (List.mem_append_right _ (List.mem_append_right _ (List.mem_append_right _ (List.mem_append_right _ (List.mem_append_right _ (List.mem_append_left _ h)))))))
  have hin_X8 : ∀ w ∈ wsX80, w ∈ wp_k_aUnit := fun _ h => (List.mem_cons_of_mem _ (List.mem_append_right _ (List.mem_append_right _ (List.mem_append_right _ (List.mem_append_right _ (List.mem_append_right _ (List.mem_append_right _ (List.mem_append_left _ h))))))))
  have hown : s.vm.findClass RX6 = some m.cls := findClass_of_methodNamed B.named
  have hlocks := B.notSynchronized
  subst hsz
  have hD := hD0.self (sz := s.heap.size)
  generalize hAe : va_A [(oq 0, .inr (6, gPs oq qf qp qd qs qt qb qh qr qn (nI bk) (nI wz))), (oq 6, .inl (cI, 5, .inl fO)), (oq 7, .inl (cI, 600, .inl fW)), (oq 1, .inr (7, [.int (nI pz), .ref (oq 2), .ref (oq 3), .ref (oq 4)])), (oq 2, .inl (cI, 600, .inl fK)), (oq 3, .inl (cI, 600, .inl fN)), (oq 4, .inl (cI, 600, .inl fL)), (oq 5, .inr (8, [tx, .int zl, .int ta, .int be, .int ki, .int nu, .int wo]))] s.heap.size = A at hD ⊢
  have hA : ∀ q : Nat, s.heap.size ≤ q → A q := fun q h => by rw [← hAe]; exact Or.inr h
  have hS : va_S A s.heap s.heap [] := va_S.rf
  have hP : va_P D vwCl [(oq 0, .inr (6, gPs oq qf qp qd qs qt qb qh qr qn (nI bk) (nI wz))), (oq 6, .inl (cI, 5, .inl fO)), (oq 7, .inl (cI, 600, .inl fW)), (oq 1, .inr (7, [.int (nI pz), .ref (oq 2), .ref (oq 3), .ref (oq 4)])), (oq 2, .inl (cI, 600, .inl fK)), (oq 3, .inl (cI, 600, .inl fN)), (oq 4, .inl (cI, 600, .inl fL)), (oq 5, .inr (8, [tx, .int zl, .int ta, .int be, .int ki, .int nu, .int wo]))] s.heap := hP
  have hl := lv_entry ([.ref (oq 0), .int z1]) (n := 2) (Nat.le_of_ble_eq_true rfl)
  rw [lg_entry_eq]
  generalize (lg_sl ([.ref (oq 0), .int z1]) ++ List.replicate (2 - (lg_sl ([.ref (oq 0), .int z1])).length) Slot.unset).toArray = ls at hl ⊢
  have hl : lv_has ls 2 [(0, .ref (oq 0)), (1, .int z1)] := hl
  refine lv_iload_n hx hb dX6_acceptUnit_0 rfl (lv_at hl 1 rfl) ?_
  by_cases hs1 : z1 = 2
  ·
    subst hs1
    refine lv_lookup (off := 43) (tgt := 44) hx hb dX6_acceptUnit_1 (by decide +kernel) (by decide +kernel) (by decide) ?_
    refine lv_aload_n hx hb dX6_acceptUnit_44 rfl (lv_at hl 0 rfl) ?_
    refine va_get (D := D) (ci := 6) (v := .ref (oq 1)) (C := RX6) (T := TX6) (N := 15) hx hb hts hin_X6 hown hK hP 0 rfl rfl 3 (by decide) (hts (.fieldLink RX6 12 "ClashFree$Parser" "program" "LClashFree$Program;") (List.mem_of_getElem? (i := 1) rfl)) (fun _ h9 => h9) rfl dX6_acceptUnit_45 ?_
    refine lv_iload_n hx hb dX6_acceptUnit_48 rfl (lv_at hl 1 rfl) ?_
    refine lv_aload_n hx hb dX6_acceptUnit_49 rfl (lv_at hl 0 rfl) ?_
    refine va_get (D := D) (ci := 6) (v := .ref (oq 5)) (C := RX6) (T := TX6) (N := 15) hx hb hts hin_X6 hown hK hP 0 rfl rfl 4 (by decide) (hts (.fieldLink RX6 21 "ClashFree$Parser" "scan" "LClashFree$Scanner;") (List.mem_of_getElem? (i := 2) rfl)) (fun _ h9 => h9) rfl dX6_acceptUnit_50 ?_
    refine va_get (D := D) (ci := 8) (v := .int nu) (C := RX8) (T := TX8) (N := 7) hx hb hts hin_X8 hown hK hP 7 rfl rfl 5 (by decide) (hts (.fieldLink RX6 115 "ClashFree$Scanner" "number" "I") (List.mem_of_getElem? (i := 3) rfl)) (fun _ h9 => h9) rfl dX6_acceptUnit_53 ?_
    have hPc := hP.sub (ws' := [(oq 1, .inr (7, [.int (nI pz), .ref (oq 2), .ref (oq 3), .ref (oq 4)])), (oq 2, .inl (cI, 600, .inl fK)), (oq 3, .inl (cI, 600, .inl fN)), (oq 4, .inl (cI, 600, .inl fL))]) [3, 4, 5, 6] rfl
    have hKc := hK.sub (tys' := [(cI, .int)]) [0] rfl
    have hDc := hD.sub (ws' := [(oq 1, .inr (7, [.int (nI pz), .ref (oq 2), .ref (oq 3), .ref (oq 4)])), (oq 2, .inl (cI, 600, .inl fK)), (oq 3, .inl (cI, 600, .inl fN)), (oq 4, .inl (cI, 600, .inl fL))]) [3, 4, 5, 6] (by decide) rfl
    have hFc := va_free (wc := [(oq 1, .inr (7, [.int (nI pz), .ref (oq 2), .ref (oq 3), .ref (oq 4)])), (oq 2, .inl (cI, 600, .inl fK)), (oq 3, .inl (cI, 600, .inl fN)), (oq 4, .inl (cI, 600, .inl fL))]) hD hS hA [3, 4, 5, 6] rfl
    refine va_callv (va_runV (As := [.int 2, .int nu]) (rest := []) ⟨hx, hb, hml, hown, hts⟩ (k_padd l D _ oq cI pz fK fN fL 2 nu hpz) (cwV 2 hts g_k_aUnit_k_padd_118 rfl rfl rfl (by decide +kernel) ⟨(Nat.le_of_ble_eq_true rfl), (Nat.le_of_ble_eq_true rfl)⟩) (PcWC_V (q0 := 0) hPc hKc hDc hN rfl rfl) rfl rfl hl.1 rfl (lv_room (Nat.le_of_ble_eq_true rfl)) dX6_acceptUnit_56 ⟨(Nat.le_of_ble_eq_true rfl), (Nat.le_of_ble_eq_true rfl)⟩) hS (fun q _ h => hFc q h) hFc (fun uu tt H locs htt hvm hw hB hz1 hk1 hS => ?_)
    obtain ⟨w3, w4, w5, w6⟩ := uu
    obtain ⟨hP1, hK1, hD1⟩ := hB
    rw [htt] at hP1
    have hK1 := va_K.moved hvm.symm hK1
    have hP1 : va_P D vwCl [(oq 1, .inr (7, [.int (nI w3), .ref (oq 2), .ref (oq 3), .ref (oq 4)])), (oq 2, .inl (cI, 600, .inl w4)), (oq 3, .inl (cI, 600, .inl w5)), (oq 4, .inl (cI, 600, .inl w6))] H := hP1
    obtain ⟨hP, hD⟩ := va_join (wr := [(oq 0, .inr (6, gPs oq qf qp qd qs qt qb qh qr qn (nI bk) (nI wz))), (oq 6, .inl (cI, 5, .inl fO)), (oq 7, .inl (cI, 600, .inl fW)), (oq 5, .inr (8, [tx, .int zl, .int ta, .int be, .int ki, .int nu, .int wo]))]) (w1 := [(oq 1, .inr (7, [.int (nI w3), .ref (oq 2), .ref (oq 3), .ref (oq 4)])), (oq 2, .inl (cI, 600, .inl w4)), (oq 3, .inl (cI, 600, .inl w5)), (oq 4, .inl (cI, 600, .inl w6))]) hP hD [3, 4, 5, 6] [0, 1, 2, 7] rfl rfl (by decide) (by decide) hk1 hFc hP1 hD1
    have hP : va_P D vwCl [(oq 0, .inr (6, gPs oq qf qp qd qs qt qb qh qr qn (nI bk) (nI wz))), (oq 6, .inl (cI, 5, .inl fO)), (oq 7, .inl (cI, 600, .inl fW)), (oq 5, .inr (8, [tx, .int zl, .int ta, .int be, .int ki, .int nu, .int wo])), (oq 1, .inr (7, [.int (nI w3), .ref (oq 2), .ref (oq 3), .ref (oq 4)])), (oq 2, .inl (cI, 600, .inl w4)), (oq 3, .inl (cI, 600, .inl w5)), (oq 4, .inl (cI, 600, .inl w6))] H := hP
    have hD : va_D A [(oq 0, .inr (6, gPs oq qf qp qd qs qt qb qh qr qn (nI bk) (nI wz))), (oq 6, .inl (cI, 5, .inl fO)), (oq 7, .inl (cI, 600, .inl fW)), (oq 5, .inr (8, [tx, .int zl, .int ta, .int be, .int ki, .int nu, .int wo])), (oq 1, .inr (7, [.int (nI w3), .ref (oq 2), .ref (oq 3), .ref (oq 4)])), (oq 2, .inl (cI, 600, .inl w4)), (oq 3, .inl (cI, 600, .inl w5)), (oq 4, .inl (cI, 600, .inl w6))] := hD
    try dsimp only at hw
    clear hz1 hk1 hFc hPc hKc hDc
    have hpz7 := hw
    refine lv_aload_n hx hb dX6_acceptUnit_59 rfl (lv_at hl 0 rfl) ?_
    refine lv_iconst (v := 2) hx hb dX6_acceptUnit_60 (by decide) ?_
    refine va_put (D := D) (ci := 6) (v := .int 2) (ty := .int) (C := RX6) (T := TX6) (N := 15) hx hb hts hin_X6 tyX6 tyX6_ok nmX6 hown hK hP hD hS 0 rfl rfl 5 (by decide) (hts (.fieldLink RX6 39 "ClashFree$Parser" "state" "I") (List.mem_of_getElem? (i := 8) rfl)) (fun _ h9 => h9) rfl (by decide +kernel) rfl rfl (Nat.le_of_ble_eq_true rfl) dX6_acceptUnit_61 (fun H locs hP hD hS => ?_)
    have hP : va_P D vwCl [(oq 0, .inr (6, gPs oq qf qp qd 2 qt qb qh qr qn (nI bk) (nI wz))), (oq 6, .inl (cI, 5, .inl fO)), (oq 7, .inl (cI, 600, .inl fW)), (oq 5, .inr (8, [tx, .int zl, .int ta, .int be, .int ki, .int nu, .int wo])), (oq 1, .inr (7, [.int (nI w3), .ref (oq 2), .ref (oq 3), .ref (oq 4)])), (oq 2, .inl (cI, 600, .inl w4)), (oq 3, .inl (cI, 600, .inl w5)), (oq 4, .inl (cI, 600, .inl w6))] H := hP
    have hD : va_D A [(oq 0, .inr (6, gPs oq qf qp qd 2 qt qb qh qr qn (nI bk) (nI wz))), (oq 6, .inl (cI, 5, .inl fO)), (oq 7, .inl (cI, 600, .inl fW)), (oq 5, .inr (8, [tx, .int zl, .int ta, .int be, .int ki, .int nu, .int wo])), (oq 1, .inr (7, [.int (nI w3), .ref (oq 2), .ref (oq 3), .ref (oq 4)])), (oq 2, .inl (cI, 600, .inl w4)), (oq 3, .inl (cI, 600, .inl w5)), (oq 4, .inl (cI, 600, .inl w6))] := hD
    refine lv_goto (tgt := 110) hx hb dX6_acceptUnit_64 (by decide) ?_
    exact W.vret hx hb hr (fun t ht hW => ⟨⟨(qf, qp, qd, 2, qt, qb, qh, qr, qn, bk, wz, fO, fW, w3, w4, w5, w6), rfl, (by (try dsimp only); first | done | exact ⟨by omega, by omega, by omega⟩), by rw [ht]; exact hP.sub [0, 1, 2, 4, 5, 6, 7, 3] rfl, va_K.moved hW.alike (hK.sub [0] rfl), hD.sub [0, 1, 2, 4, 5, 6, 7, 3] (by decide) rfl⟩, hS.F ht⟩) hS.2.2 dX6_acceptUnit_110
  by_cases hs8 : z1 = 10
  ·
    subst hs8
    refine lv_lookup (off := 43) (tgt := 44) hx hb dX6_acceptUnit_1 (by decide +kernel) (by decide +kernel) (by decide) ?_
    refine lv_aload_n hx hb dX6_acceptUnit_44 rfl (lv_at hl 0 rfl) ?_
    refine va_get (D := D) (ci := 6) (v := .ref (oq 1)) (C := RX6) (T := TX6) (N := 15) hx hb hts hin_X6 hown hK hP 0 rfl rfl 3 (by decide) (hts (.fieldLink RX6 12 "ClashFree$Parser" "program" "LClashFree$Program;") (List.mem_of_getElem? (i := 1) rfl)) (fun _ h9 => h9) rfl dX6_acceptUnit_45 ?_
    refine lv_iload_n hx hb dX6_acceptUnit_48 rfl (lv_at hl 1 rfl) ?_
    refine lv_aload_n hx hb dX6_acceptUnit_49 rfl (lv_at hl 0 rfl) ?_
    refine va_get (D := D) (ci := 6) (v := .ref (oq 5)) (C := RX6) (T := TX6) (N := 15) hx hb hts hin_X6 hown hK hP 0 rfl rfl 4 (by decide) (hts (.fieldLink RX6 21 "ClashFree$Parser" "scan" "LClashFree$Scanner;") (List.mem_of_getElem? (i := 2) rfl)) (fun _ h9 => h9) rfl dX6_acceptUnit_50 ?_
    refine va_get (D := D) (ci := 8) (v := .int nu) (C := RX8) (T := TX8) (N := 7) hx hb hts hin_X8 hown hK hP 7 rfl rfl 5 (by decide) (hts (.fieldLink RX6 115 "ClashFree$Scanner" "number" "I") (List.mem_of_getElem? (i := 3) rfl)) (fun _ h9 => h9) rfl dX6_acceptUnit_53 ?_
    have hPc := hP.sub (ws' := [(oq 1, .inr (7, [.int (nI pz), .ref (oq 2), .ref (oq 3), .ref (oq 4)])), (oq 2, .inl (cI, 600, .inl fK)), (oq 3, .inl (cI, 600, .inl fN)), (oq 4, .inl (cI, 600, .inl fL))]) [3, 4, 5, 6] rfl
    have hKc := hK.sub (tys' := [(cI, .int)]) [0] rfl
    have hDc := hD.sub (ws' := [(oq 1, .inr (7, [.int (nI pz), .ref (oq 2), .ref (oq 3), .ref (oq 4)])), (oq 2, .inl (cI, 600, .inl fK)), (oq 3, .inl (cI, 600, .inl fN)), (oq 4, .inl (cI, 600, .inl fL))]) [3, 4, 5, 6] (by decide) rfl
    have hFc := va_free (wc := [(oq 1, .inr (7, [.int (nI pz), .ref (oq 2), .ref (oq 3), .ref (oq 4)])), (oq 2, .inl (cI, 600, .inl fK)), (oq 3, .inl (cI, 600, .inl fN)), (oq 4, .inl (cI, 600, .inl fL))]) hD hS hA [3, 4, 5, 6] rfl
    refine va_callv (va_runV (As := [.int 10, .int nu]) (rest := []) ⟨hx, hb, hml, hown, hts⟩ (k_padd l D _ oq cI pz fK fN fL 10 nu hpz) (cwV 2 hts g_k_aUnit_k_padd_118 rfl rfl rfl (by decide +kernel) ⟨(Nat.le_of_ble_eq_true rfl), (Nat.le_of_ble_eq_true rfl)⟩) (PcWC_V (q0 := 0) hPc hKc hDc hN rfl rfl) rfl rfl hl.1 rfl (lv_room (Nat.le_of_ble_eq_true rfl)) dX6_acceptUnit_56 ⟨(Nat.le_of_ble_eq_true rfl), (Nat.le_of_ble_eq_true rfl)⟩) hS (fun q _ h => hFc q h) hFc (fun uu tt H locs htt hvm hw hB hz1 hk1 hS => ?_)
    obtain ⟨w10, w11, w12, w13⟩ := uu
    obtain ⟨hP1, hK1, hD1⟩ := hB
    rw [htt] at hP1
    have hK1 := va_K.moved hvm.symm hK1
    have hP1 : va_P D vwCl [(oq 1, .inr (7, [.int (nI w10), .ref (oq 2), .ref (oq 3), .ref (oq 4)])), (oq 2, .inl (cI, 600, .inl w11)), (oq 3, .inl (cI, 600, .inl w12)), (oq 4, .inl (cI, 600, .inl w13))] H := hP1
    obtain ⟨hP, hD⟩ := va_join (wr := [(oq 0, .inr (6, gPs oq qf qp qd qs qt qb qh qr qn (nI bk) (nI wz))), (oq 6, .inl (cI, 5, .inl fO)), (oq 7, .inl (cI, 600, .inl fW)), (oq 5, .inr (8, [tx, .int zl, .int ta, .int be, .int ki, .int nu, .int wo]))]) (w1 := [(oq 1, .inr (7, [.int (nI w10), .ref (oq 2), .ref (oq 3), .ref (oq 4)])), (oq 2, .inl (cI, 600, .inl w11)), (oq 3, .inl (cI, 600, .inl w12)), (oq 4, .inl (cI, 600, .inl w13))]) hP hD [3, 4, 5, 6] [0, 1, 2, 7] rfl rfl (by decide) (by decide) hk1 hFc hP1 hD1
    have hP : va_P D vwCl [(oq 0, .inr (6, gPs oq qf qp qd qs qt qb qh qr qn (nI bk) (nI wz))), (oq 6, .inl (cI, 5, .inl fO)), (oq 7, .inl (cI, 600, .inl fW)), (oq 5, .inr (8, [tx, .int zl, .int ta, .int be, .int ki, .int nu, .int wo])), (oq 1, .inr (7, [.int (nI w10), .ref (oq 2), .ref (oq 3), .ref (oq 4)])), (oq 2, .inl (cI, 600, .inl w11)), (oq 3, .inl (cI, 600, .inl w12)), (oq 4, .inl (cI, 600, .inl w13))] H := hP
    have hD : va_D A [(oq 0, .inr (6, gPs oq qf qp qd qs qt qb qh qr qn (nI bk) (nI wz))), (oq 6, .inl (cI, 5, .inl fO)), (oq 7, .inl (cI, 600, .inl fW)), (oq 5, .inr (8, [tx, .int zl, .int ta, .int be, .int ki, .int nu, .int wo])), (oq 1, .inr (7, [.int (nI w10), .ref (oq 2), .ref (oq 3), .ref (oq 4)])), (oq 2, .inl (cI, 600, .inl w11)), (oq 3, .inl (cI, 600, .inl w12)), (oq 4, .inl (cI, 600, .inl w13))] := hD
    try dsimp only at hw
    clear hz1 hk1 hFc hPc hKc hDc
    have hpz14 := hw
    refine lv_aload_n hx hb dX6_acceptUnit_59 rfl (lv_at hl 0 rfl) ?_
    refine lv_iconst (v := 2) hx hb dX6_acceptUnit_60 (by decide) ?_
    refine va_put (D := D) (ci := 6) (v := .int 2) (ty := .int) (C := RX6) (T := TX6) (N := 15) hx hb hts hin_X6 tyX6 tyX6_ok nmX6 hown hK hP hD hS 0 rfl rfl 5 (by decide) (hts (.fieldLink RX6 39 "ClashFree$Parser" "state" "I") (List.mem_of_getElem? (i := 8) rfl)) (fun _ h9 => h9) rfl (by decide +kernel) rfl rfl (Nat.le_of_ble_eq_true rfl) dX6_acceptUnit_61 (fun H locs hP hD hS => ?_)
    have hP : va_P D vwCl [(oq 0, .inr (6, gPs oq qf qp qd 2 qt qb qh qr qn (nI bk) (nI wz))), (oq 6, .inl (cI, 5, .inl fO)), (oq 7, .inl (cI, 600, .inl fW)), (oq 5, .inr (8, [tx, .int zl, .int ta, .int be, .int ki, .int nu, .int wo])), (oq 1, .inr (7, [.int (nI w10), .ref (oq 2), .ref (oq 3), .ref (oq 4)])), (oq 2, .inl (cI, 600, .inl w11)), (oq 3, .inl (cI, 600, .inl w12)), (oq 4, .inl (cI, 600, .inl w13))] H := hP
    have hD : va_D A [(oq 0, .inr (6, gPs oq qf qp qd 2 qt qb qh qr qn (nI bk) (nI wz))), (oq 6, .inl (cI, 5, .inl fO)), (oq 7, .inl (cI, 600, .inl fW)), (oq 5, .inr (8, [tx, .int zl, .int ta, .int be, .int ki, .int nu, .int wo])), (oq 1, .inr (7, [.int (nI w10), .ref (oq 2), .ref (oq 3), .ref (oq 4)])), (oq 2, .inl (cI, 600, .inl w11)), (oq 3, .inl (cI, 600, .inl w12)), (oq 4, .inl (cI, 600, .inl w13))] := hD
    refine lv_goto (tgt := 110) hx hb dX6_acceptUnit_64 (by decide) ?_
    exact W.vret hx hb hr (fun t ht hW => ⟨⟨(qf, qp, qd, 2, qt, qb, qh, qr, qn, bk, wz, fO, fW, w10, w11, w12, w13), rfl, (by (try dsimp only); first | done | exact ⟨by omega, by omega, by omega⟩), by rw [ht]; exact hP.sub [0, 1, 2, 4, 5, 6, 7, 3] rfl, va_K.moved hW.alike (hK.sub [0] rfl), hD.sub [0, 1, 2, 4, 5, 6, 7, 3] (by decide) rfl⟩, hS.F ht⟩) hS.2.2 dX6_acceptUnit_110
  by_cases hs15 : z1 = 11
  ·
    subst hs15
    refine lv_lookup (off := 43) (tgt := 44) hx hb dX6_acceptUnit_1 (by decide +kernel) (by decide +kernel) (by decide) ?_
    refine lv_aload_n hx hb dX6_acceptUnit_44 rfl (lv_at hl 0 rfl) ?_
    refine va_get (D := D) (ci := 6) (v := .ref (oq 1)) (C := RX6) (T := TX6) (N := 15) hx hb hts hin_X6 hown hK hP 0 rfl rfl 3 (by decide) (hts (.fieldLink RX6 12 "ClashFree$Parser" "program" "LClashFree$Program;") (List.mem_of_getElem? (i := 1) rfl)) (fun _ h9 => h9) rfl dX6_acceptUnit_45 ?_
    refine lv_iload_n hx hb dX6_acceptUnit_48 rfl (lv_at hl 1 rfl) ?_
    refine lv_aload_n hx hb dX6_acceptUnit_49 rfl (lv_at hl 0 rfl) ?_
    refine va_get (D := D) (ci := 6) (v := .ref (oq 5)) (C := RX6) (T := TX6) (N := 15) hx hb hts hin_X6 hown hK hP 0 rfl rfl 4 (by decide) (hts (.fieldLink RX6 21 "ClashFree$Parser" "scan" "LClashFree$Scanner;") (List.mem_of_getElem? (i := 2) rfl)) (fun _ h9 => h9) rfl dX6_acceptUnit_50 ?_
    refine va_get (D := D) (ci := 8) (v := .int nu) (C := RX8) (T := TX8) (N := 7) hx hb hts hin_X8 hown hK hP 7 rfl rfl 5 (by decide) (hts (.fieldLink RX6 115 "ClashFree$Scanner" "number" "I") (List.mem_of_getElem? (i := 3) rfl)) (fun _ h9 => h9) rfl dX6_acceptUnit_53 ?_
    have hPc := hP.sub (ws' := [(oq 1, .inr (7, [.int (nI pz), .ref (oq 2), .ref (oq 3), .ref (oq 4)])), (oq 2, .inl (cI, 600, .inl fK)), (oq 3, .inl (cI, 600, .inl fN)), (oq 4, .inl (cI, 600, .inl fL))]) [3, 4, 5, 6] rfl
    have hKc := hK.sub (tys' := [(cI, .int)]) [0] rfl
    have hDc := hD.sub (ws' := [(oq 1, .inr (7, [.int (nI pz), .ref (oq 2), .ref (oq 3), .ref (oq 4)])), (oq 2, .inl (cI, 600, .inl fK)), (oq 3, .inl (cI, 600, .inl fN)), (oq 4, .inl (cI, 600, .inl fL))]) [3, 4, 5, 6] (by decide) rfl
    have hFc := va_free (wc := [(oq 1, .inr (7, [.int (nI pz), .ref (oq 2), .ref (oq 3), .ref (oq 4)])), (oq 2, .inl (cI, 600, .inl fK)), (oq 3, .inl (cI, 600, .inl fN)), (oq 4, .inl (cI, 600, .inl fL))]) hD hS hA [3, 4, 5, 6] rfl
    refine va_callv (va_runV (As := [.int 11, .int nu]) (rest := []) ⟨hx, hb, hml, hown, hts⟩ (k_padd l D _ oq cI pz fK fN fL 11 nu hpz) (cwV 2 hts g_k_aUnit_k_padd_118 rfl rfl rfl (by decide +kernel) ⟨(Nat.le_of_ble_eq_true rfl), (Nat.le_of_ble_eq_true rfl)⟩) (PcWC_V (q0 := 0) hPc hKc hDc hN rfl rfl) rfl rfl hl.1 rfl (lv_room (Nat.le_of_ble_eq_true rfl)) dX6_acceptUnit_56 ⟨(Nat.le_of_ble_eq_true rfl), (Nat.le_of_ble_eq_true rfl)⟩) hS (fun q _ h => hFc q h) hFc (fun uu tt H locs htt hvm hw hB hz1 hk1 hS => ?_)
    obtain ⟨w17, w18, w19, w20⟩ := uu
    obtain ⟨hP1, hK1, hD1⟩ := hB
    rw [htt] at hP1
    have hK1 := va_K.moved hvm.symm hK1
    have hP1 : va_P D vwCl [(oq 1, .inr (7, [.int (nI w17), .ref (oq 2), .ref (oq 3), .ref (oq 4)])), (oq 2, .inl (cI, 600, .inl w18)), (oq 3, .inl (cI, 600, .inl w19)), (oq 4, .inl (cI, 600, .inl w20))] H := hP1
    obtain ⟨hP, hD⟩ := va_join (wr := [(oq 0, .inr (6, gPs oq qf qp qd qs qt qb qh qr qn (nI bk) (nI wz))), (oq 6, .inl (cI, 5, .inl fO)), (oq 7, .inl (cI, 600, .inl fW)), (oq 5, .inr (8, [tx, .int zl, .int ta, .int be, .int ki, .int nu, .int wo]))]) (w1 := [(oq 1, .inr (7, [.int (nI w17), .ref (oq 2), .ref (oq 3), .ref (oq 4)])), (oq 2, .inl (cI, 600, .inl w18)), (oq 3, .inl (cI, 600, .inl w19)), (oq 4, .inl (cI, 600, .inl w20))]) hP hD [3, 4, 5, 6] [0, 1, 2, 7] rfl rfl (by decide) (by decide) hk1 hFc hP1 hD1
    have hP : va_P D vwCl [(oq 0, .inr (6, gPs oq qf qp qd qs qt qb qh qr qn (nI bk) (nI wz))), (oq 6, .inl (cI, 5, .inl fO)), (oq 7, .inl (cI, 600, .inl fW)), (oq 5, .inr (8, [tx, .int zl, .int ta, .int be, .int ki, .int nu, .int wo])), (oq 1, .inr (7, [.int (nI w17), .ref (oq 2), .ref (oq 3), .ref (oq 4)])), (oq 2, .inl (cI, 600, .inl w18)), (oq 3, .inl (cI, 600, .inl w19)), (oq 4, .inl (cI, 600, .inl w20))] H := hP
    have hD : va_D A [(oq 0, .inr (6, gPs oq qf qp qd qs qt qb qh qr qn (nI bk) (nI wz))), (oq 6, .inl (cI, 5, .inl fO)), (oq 7, .inl (cI, 600, .inl fW)), (oq 5, .inr (8, [tx, .int zl, .int ta, .int be, .int ki, .int nu, .int wo])), (oq 1, .inr (7, [.int (nI w17), .ref (oq 2), .ref (oq 3), .ref (oq 4)])), (oq 2, .inl (cI, 600, .inl w18)), (oq 3, .inl (cI, 600, .inl w19)), (oq 4, .inl (cI, 600, .inl w20))] := hD
    try dsimp only at hw
    clear hz1 hk1 hFc hPc hKc hDc
    have hpz21 := hw
    refine lv_aload_n hx hb dX6_acceptUnit_59 rfl (lv_at hl 0 rfl) ?_
    refine lv_iconst (v := 2) hx hb dX6_acceptUnit_60 (by decide) ?_
    refine va_put (D := D) (ci := 6) (v := .int 2) (ty := .int) (C := RX6) (T := TX6) (N := 15) hx hb hts hin_X6 tyX6 tyX6_ok nmX6 hown hK hP hD hS 0 rfl rfl 5 (by decide) (hts (.fieldLink RX6 39 "ClashFree$Parser" "state" "I") (List.mem_of_getElem? (i := 8) rfl)) (fun _ h9 => h9) rfl (by decide +kernel) rfl rfl (Nat.le_of_ble_eq_true rfl) dX6_acceptUnit_61 (fun H locs hP hD hS => ?_)
    have hP : va_P D vwCl [(oq 0, .inr (6, gPs oq qf qp qd 2 qt qb qh qr qn (nI bk) (nI wz))), (oq 6, .inl (cI, 5, .inl fO)), (oq 7, .inl (cI, 600, .inl fW)), (oq 5, .inr (8, [tx, .int zl, .int ta, .int be, .int ki, .int nu, .int wo])), (oq 1, .inr (7, [.int (nI w17), .ref (oq 2), .ref (oq 3), .ref (oq 4)])), (oq 2, .inl (cI, 600, .inl w18)), (oq 3, .inl (cI, 600, .inl w19)), (oq 4, .inl (cI, 600, .inl w20))] H := hP
    have hD : va_D A [(oq 0, .inr (6, gPs oq qf qp qd 2 qt qb qh qr qn (nI bk) (nI wz))), (oq 6, .inl (cI, 5, .inl fO)), (oq 7, .inl (cI, 600, .inl fW)), (oq 5, .inr (8, [tx, .int zl, .int ta, .int be, .int ki, .int nu, .int wo])), (oq 1, .inr (7, [.int (nI w17), .ref (oq 2), .ref (oq 3), .ref (oq 4)])), (oq 2, .inl (cI, 600, .inl w18)), (oq 3, .inl (cI, 600, .inl w19)), (oq 4, .inl (cI, 600, .inl w20))] := hD
    refine lv_goto (tgt := 110) hx hb dX6_acceptUnit_64 (by decide) ?_
    exact W.vret hx hb hr (fun t ht hW => ⟨⟨(qf, qp, qd, 2, qt, qb, qh, qr, qn, bk, wz, fO, fW, w17, w18, w19, w20), rfl, (by (try dsimp only); first | done | exact ⟨by omega, by omega, by omega⟩), by rw [ht]; exact hP.sub [0, 1, 2, 4, 5, 6, 7, 3] rfl, va_K.moved hW.alike (hK.sub [0] rfl), hD.sub [0, 1, 2, 4, 5, 6, 7, 3] (by decide) rfl⟩, hS.F ht⟩) hS.2.2 dX6_acceptUnit_110
  by_cases hs22 : z1 = 40
  ·
    subst hs22
    refine lv_lookup (off := 66) (tgt := 67) hx hb dX6_acceptUnit_1 (by decide +kernel) (by decide +kernel) (by decide) ?_
    refine lv_aload_n hx hb dX6_acceptUnit_67 rfl (lv_at hl 0 rfl) ?_
    refine lv_dup hx hb dX6_acceptUnit_68 rfl ?_
    refine va_get (D := D) (ci := 6) (v := .int qn) (C := RX6) (T := TX6) (N := 15) hx hb hts hin_X6 hown hK hP 0 rfl rfl 10 (by decide) (hts (.fieldLink RX6 46 "ClashFree$Parser" "parens" "I") (List.mem_of_getElem? (i := 9) rfl)) (fun _ h9 => h9) rfl dX6_acceptUnit_69 ?_
    refine lv_iconst (v := 1) hx hb dX6_acceptUnit_72 (by decide) ?_
    refine lv_iadd hx hb dX6_acceptUnit_73 ?_
    refine lv_topi (fun v23 ev23 => ?_)
    refine va_put (D := D) (ci := 6) (v := .int v23) (ty := .int) (C := RX6) (T := TX6) (N := 15) hx hb hts hin_X6 tyX6 tyX6_ok nmX6 hown hK hP hD hS 0 rfl rfl 10 (by decide) (hts (.fieldLink RX6 46 "ClashFree$Parser" "parens" "I") (List.mem_of_getElem? (i := 9) rfl)) (fun _ h9 => h9) rfl (by decide +kernel) rfl rfl (Nat.le_of_ble_eq_true rfl) dX6_acceptUnit_74 (fun H locs hP hD hS => ?_)
    have hP : va_P D vwCl [(oq 0, .inr (6, gPs oq qf qp qd qs qt qb qh qr v23 (nI bk) (nI wz))), (oq 6, .inl (cI, 5, .inl fO)), (oq 7, .inl (cI, 600, .inl fW)), (oq 1, .inr (7, [.int (nI pz), .ref (oq 2), .ref (oq 3), .ref (oq 4)])), (oq 2, .inl (cI, 600, .inl fK)), (oq 3, .inl (cI, 600, .inl fN)), (oq 4, .inl (cI, 600, .inl fL)), (oq 5, .inr (8, [tx, .int zl, .int ta, .int be, .int ki, .int nu, .int wo]))] H := hP
    have hD : va_D A [(oq 0, .inr (6, gPs oq qf qp qd qs qt qb qh qr v23 (nI bk) (nI wz))), (oq 6, .inl (cI, 5, .inl fO)), (oq 7, .inl (cI, 600, .inl fW)), (oq 1, .inr (7, [.int (nI pz), .ref (oq 2), .ref (oq 3), .ref (oq 4)])), (oq 2, .inl (cI, 600, .inl fK)), (oq 3, .inl (cI, 600, .inl fN)), (oq 4, .inl (cI, 600, .inl fL)), (oq 5, .inr (8, [tx, .int zl, .int ta, .int be, .int ki, .int nu, .int wo]))] := hD
    refine lv_aload_n hx hb dX6_acceptUnit_77 rfl (lv_at hl 0 rfl) ?_
    refine va_get (D := D) (ci := 6) (v := .int v23) (C := RX6) (T := TX6) (N := 15) hx hb hts hin_X6 hown hK hP 0 rfl rfl 10 (by decide) (hts (.fieldLink RX6 46 "ClashFree$Parser" "parens" "I") (List.mem_of_getElem? (i := 9) rfl)) (fun _ h9 => h9) rfl dX6_acceptUnit_78 ?_
    refine lv_bipush (v := 8) hx hb dX6_acceptUnit_81 (by decide) ?_
    refine lv_icmp_le (tgt := 98) hx hb dX6_acceptUnit_83 (by decide) (fun hc24 => ?_) (fun hc24 => ?_)
    ·
      refine lv_aload_n hx hb dX6_acceptUnit_98 rfl (lv_at hl 0 rfl) ?_
      refine lv_iload_n hx hb dX6_acceptUnit_99 rfl (lv_at hl 1 rfl) ?_
      have hPc := hP.sub (ws' := [(oq 0, .inr (6, gPs oq qf qp qd qs qt qb qh qr v23 (nI bk) (nI wz))), (oq 6, .inl (cI, 5, .inl fO)), (oq 7, .inl (cI, 600, .inl fW)), (oq 1, .inr (7, [.int (nI pz), .ref (oq 2), .ref (oq 3), .ref (oq 4)])), (oq 2, .inl (cI, 600, .inl fK)), (oq 3, .inl (cI, 600, .inl fN)), (oq 4, .inl (cI, 600, .inl fL)), (oq 5, .inr (8, [tx, .int zl, .int ta, .int be, .int ki, .int nu, .int wo]))]) [0, 1, 2, 3, 4, 5, 6, 7] rfl
      have hKc := hK.sub (tys' := [(cI, .int)]) [0] rfl
      have hDc := hD.sub (ws' := [(oq 0, .inr (6, gPs oq qf qp qd qs qt qb qh qr v23 (nI bk) (nI wz))), (oq 6, .inl (cI, 5, .inl fO)), (oq 7, .inl (cI, 600, .inl fW)), (oq 1, .inr (7, [.int (nI pz), .ref (oq 2), .ref (oq 3), .ref (oq 4)])), (oq 2, .inl (cI, 600, .inl fK)), (oq 3, .inl (cI, 600, .inl fN)), (oq 4, .inl (cI, 600, .inl fL)), (oq 5, .inr (8, [tx, .int zl, .int ta, .int be, .int ki, .int nu, .int wo]))]) [0, 1, 2, 3, 4, 5, 6, 7] (by decide) rfl
      have hFc := va_free (wc := [(oq 0, .inr (6, gPs oq qf qp qd qs qt qb qh qr v23 (nI bk) (nI wz))), (oq 6, .inl (cI, 5, .inl fO)), (oq 7, .inl (cI, 600, .inl fW)), (oq 1, .inr (7, [.int (nI pz), .ref (oq 2), .ref (oq 3), .ref (oq 4)])), (oq 2, .inl (cI, 600, .inl fK)), (oq 3, .inl (cI, 600, .inl fN)), (oq 4, .inl (cI, 600, .inl fL)), (oq 5, .inr (8, [tx, .int zl, .int ta, .int be, .int ki, .int nu, .int wo]))]) hD hS hA [0, 1, 2, 3, 4, 5, 6, 7] rfl
      refine va_callv (va_runV (As := [.int 40]) (rest := []) ⟨hx, hb, hml, hown, hts⟩ (k_await l D _ oq cI qf qp qd qs qt qb qh qr v23 bk wz fO fW pz fK fN fL tx zl ta be ki nu wo 40 hbk hwz hpz) (cwV 1 hts g_k_aUnit_k_await_121 rfl rfl rfl (by decide +kernel) ⟨(Nat.le_of_ble_eq_true rfl), (Nat.le_of_ble_eq_true rfl)⟩) (PcWC_V (q0 := 0) hPc hKc hDc hN rfl rfl) rfl rfl hl.1 rfl (lv_room (Nat.le_of_ble_eq_true rfl)) dX6_acceptUnit_100 ⟨(Nat.le_of_ble_eq_true rfl), (Nat.le_of_ble_eq_true rfl)⟩) hS (fun q _ h => hFc q h) hFc (fun uu tt H locs htt hvm hw hB hz1 hk1 hS => ?_)
      obtain ⟨w26, w27, w28, w29, w30, w31, w32, w33, w34, w35, w36, w37, w38, w39, w40, w41, w42⟩ := uu
      obtain ⟨hP1, hK1, hD1⟩ := hB
      rw [htt] at hP1
      have hK1 := va_K.moved hvm.symm hK1
      have hP1 : va_P D vwCl [(oq 0, .inr (6, gPs oq w26 w27 w28 w29 w30 w31 w32 w33 w34 (nI w35) (nI w36))), (oq 6, .inl (cI, 5, .inl w37)), (oq 7, .inl (cI, 600, .inl w38)), (oq 1, .inr (7, [.int (nI w39), .ref (oq 2), .ref (oq 3), .ref (oq 4)])), (oq 2, .inl (cI, 600, .inl w40)), (oq 3, .inl (cI, 600, .inl w41)), (oq 4, .inl (cI, 600, .inl w42)), (oq 5, .inr (8, [tx, .int zl, .int ta, .int be, .int ki, .int nu, .int wo]))] H := hP1
      obtain ⟨hP, hD⟩ := va_join (wr := []) (w1 := [(oq 0, .inr (6, gPs oq w26 w27 w28 w29 w30 w31 w32 w33 w34 (nI w35) (nI w36))), (oq 6, .inl (cI, 5, .inl w37)), (oq 7, .inl (cI, 600, .inl w38)), (oq 1, .inr (7, [.int (nI w39), .ref (oq 2), .ref (oq 3), .ref (oq 4)])), (oq 2, .inl (cI, 600, .inl w40)), (oq 3, .inl (cI, 600, .inl w41)), (oq 4, .inl (cI, 600, .inl w42)), (oq 5, .inr (8, [tx, .int zl, .int ta, .int be, .int ki, .int nu, .int wo]))]) hP hD [0, 1, 2, 3, 4, 5, 6, 7] [] rfl rfl (by decide) (by decide) hk1 hFc hP1 hD1
      have hP : va_P D vwCl [(oq 0, .inr (6, gPs oq w26 w27 w28 w29 w30 w31 w32 w33 w34 (nI w35) (nI w36))), (oq 6, .inl (cI, 5, .inl w37)), (oq 7, .inl (cI, 600, .inl w38)), (oq 1, .inr (7, [.int (nI w39), .ref (oq 2), .ref (oq 3), .ref (oq 4)])), (oq 2, .inl (cI, 600, .inl w40)), (oq 3, .inl (cI, 600, .inl w41)), (oq 4, .inl (cI, 600, .inl w42)), (oq 5, .inr (8, [tx, .int zl, .int ta, .int be, .int ki, .int nu, .int wo]))] H := hP
      have hD : va_D A [(oq 0, .inr (6, gPs oq w26 w27 w28 w29 w30 w31 w32 w33 w34 (nI w35) (nI w36))), (oq 6, .inl (cI, 5, .inl w37)), (oq 7, .inl (cI, 600, .inl w38)), (oq 1, .inr (7, [.int (nI w39), .ref (oq 2), .ref (oq 3), .ref (oq 4)])), (oq 2, .inl (cI, 600, .inl w40)), (oq 3, .inl (cI, 600, .inl w41)), (oq 4, .inl (cI, 600, .inl w42)), (oq 5, .inr (8, [tx, .int zl, .int ta, .int be, .int ki, .int nu, .int wo]))] := hD
      try dsimp only at hw
      clear hz1 hk1 hFc hPc hKc hDc
      obtain ⟨hx43_1, hx43_2, hx43_3⟩ := hw
      refine lv_goto (tgt := 110) hx hb dX6_acceptUnit_103 (by decide) ?_
      exact W.vret hx hb hr (fun t ht hW => ⟨⟨(w26, w27, w28, w29, w30, w31, w32, w33, w34, w35, w36, w37, w38, w39, w40, w41, w42), rfl, (by (try dsimp only); first | done | exact ⟨by omega, by omega, by omega⟩), by rw [ht]; exact hP.sub [0, 1, 2, 3, 4, 5, 6, 7] rfl, va_K.moved hW.alike (hK.sub [0] rfl), hD.sub [0, 1, 2, 3, 4, 5, 6, 7] (by decide) rfl⟩, hS.F ht⟩) hS.2.2 dX6_acceptUnit_110
    ·
      refine lv_aload_n hx hb dX6_acceptUnit_86 rfl (lv_at hl 0 rfl) ?_
      refine lv_iconst (v := 3) hx hb dX6_acceptUnit_87 (by decide) ?_
      refine lv_aload_n hx hb dX6_acceptUnit_88 rfl (lv_at hl 0 rfl) ?_
      refine va_get (D := D) (ci := 6) (v := .ref (oq 5)) (C := RX6) (T := TX6) (N := 15) hx hb hts hin_X6 hown hK hP 0 rfl rfl 4 (by decide) (hts (.fieldLink RX6 21 "ClashFree$Parser" "scan" "LClashFree$Scanner;") (List.mem_of_getElem? (i := 2) rfl)) (fun _ h9 => h9) rfl dX6_acceptUnit_89 ?_
      refine va_get (D := D) (ci := 8) (v := .int ta) (C := RX8) (T := TX8) (N := 7) hx hb hts hin_X8 hown hK hP 7 rfl rfl 2 (by decide) (hts (.fieldLink RX6 79 "ClashFree$Scanner" "at" "I") (List.mem_of_getElem? (i := 14) rfl)) (fun _ h9 => h9) rfl dX6_acceptUnit_92 ?_
      have hPc := hP.sub (ws' := [(oq 0, .inr (6, gPs oq qf qp qd qs qt qb qh qr v23 (nI bk) (nI wz))), (oq 6, .inl (cI, 5, .inl fO)), (oq 7, .inl (cI, 600, .inl fW)), (oq 1, .inr (7, [.int (nI pz), .ref (oq 2), .ref (oq 3), .ref (oq 4)])), (oq 2, .inl (cI, 600, .inl fK)), (oq 3, .inl (cI, 600, .inl fN)), (oq 4, .inl (cI, 600, .inl fL)), (oq 5, .inr (8, [tx, .int zl, .int ta, .int be, .int ki, .int nu, .int wo]))]) [0, 1, 2, 3, 4, 5, 6, 7] rfl
      have hKc := hK.sub (tys' := [(cI, .int)]) [0] rfl
      have hDc := hD.sub (ws' := [(oq 0, .inr (6, gPs oq qf qp qd qs qt qb qh qr v23 (nI bk) (nI wz))), (oq 6, .inl (cI, 5, .inl fO)), (oq 7, .inl (cI, 600, .inl fW)), (oq 1, .inr (7, [.int (nI pz), .ref (oq 2), .ref (oq 3), .ref (oq 4)])), (oq 2, .inl (cI, 600, .inl fK)), (oq 3, .inl (cI, 600, .inl fN)), (oq 4, .inl (cI, 600, .inl fL)), (oq 5, .inr (8, [tx, .int zl, .int ta, .int be, .int ki, .int nu, .int wo]))]) [0, 1, 2, 3, 4, 5, 6, 7] (by decide) rfl
      have hFc := va_free (wc := [(oq 0, .inr (6, gPs oq qf qp qd qs qt qb qh qr v23 (nI bk) (nI wz))), (oq 6, .inl (cI, 5, .inl fO)), (oq 7, .inl (cI, 600, .inl fW)), (oq 1, .inr (7, [.int (nI pz), .ref (oq 2), .ref (oq 3), .ref (oq 4)])), (oq 2, .inl (cI, 600, .inl fK)), (oq 3, .inl (cI, 600, .inl fN)), (oq 4, .inl (cI, 600, .inl fL)), (oq 5, .inr (8, [tx, .int zl, .int ta, .int be, .int ki, .int nu, .int wo]))]) hD hS hA [0, 1, 2, 3, 4, 5, 6, 7] rfl
      refine va_callv (va_runV (As := [.int 3, .int ta]) (rest := []) ⟨hx, hb, hml, hown, hts⟩ (k_note l D _ oq cI qf qp qd qs qt qb qh qr v23 bk wz fO fW pz fK fN fL tx zl ta be ki nu wo 3 ta hbk hwz hpz) (cwV 2 hts g_k_aUnit_k_note_55 rfl rfl rfl (by decide +kernel) ⟨(Nat.le_of_ble_eq_true rfl), (Nat.le_of_ble_eq_true rfl)⟩) (PcWC_V (q0 := 0) hPc hKc hDc hN rfl rfl) rfl rfl hl.1 rfl (lv_room (Nat.le_of_ble_eq_true rfl)) dX6_acceptUnit_95 ⟨(Nat.le_of_ble_eq_true rfl), (Nat.le_of_ble_eq_true rfl)⟩) hS (fun q _ h => hFc q h) hFc (fun uu tt H locs htt hvm hw hB hz1 hk1 hS => ?_)
      obtain ⟨w45, w46, w47, w48, w49, w50, w51, w52, w53, w54, w55, w56, w57, w58, w59, w60, w61⟩ := uu
      obtain ⟨hP1, hK1, hD1⟩ := hB
      rw [htt] at hP1
      have hK1 := va_K.moved hvm.symm hK1
      have hP1 : va_P D vwCl [(oq 0, .inr (6, gPs oq w45 w46 w47 w48 w49 w50 w51 w52 w53 (nI w54) (nI w55))), (oq 6, .inl (cI, 5, .inl w56)), (oq 7, .inl (cI, 600, .inl w57)), (oq 1, .inr (7, [.int (nI w58), .ref (oq 2), .ref (oq 3), .ref (oq 4)])), (oq 2, .inl (cI, 600, .inl w59)), (oq 3, .inl (cI, 600, .inl w60)), (oq 4, .inl (cI, 600, .inl w61)), (oq 5, .inr (8, [tx, .int zl, .int ta, .int be, .int ki, .int nu, .int wo]))] H := hP1
      obtain ⟨hP, hD⟩ := va_join (wr := []) (w1 := [(oq 0, .inr (6, gPs oq w45 w46 w47 w48 w49 w50 w51 w52 w53 (nI w54) (nI w55))), (oq 6, .inl (cI, 5, .inl w56)), (oq 7, .inl (cI, 600, .inl w57)), (oq 1, .inr (7, [.int (nI w58), .ref (oq 2), .ref (oq 3), .ref (oq 4)])), (oq 2, .inl (cI, 600, .inl w59)), (oq 3, .inl (cI, 600, .inl w60)), (oq 4, .inl (cI, 600, .inl w61)), (oq 5, .inr (8, [tx, .int zl, .int ta, .int be, .int ki, .int nu, .int wo]))]) hP hD [0, 1, 2, 3, 4, 5, 6, 7] [] rfl rfl (by decide) (by decide) hk1 hFc hP1 hD1
      have hP : va_P D vwCl [(oq 0, .inr (6, gPs oq w45 w46 w47 w48 w49 w50 w51 w52 w53 (nI w54) (nI w55))), (oq 6, .inl (cI, 5, .inl w56)), (oq 7, .inl (cI, 600, .inl w57)), (oq 1, .inr (7, [.int (nI w58), .ref (oq 2), .ref (oq 3), .ref (oq 4)])), (oq 2, .inl (cI, 600, .inl w59)), (oq 3, .inl (cI, 600, .inl w60)), (oq 4, .inl (cI, 600, .inl w61)), (oq 5, .inr (8, [tx, .int zl, .int ta, .int be, .int ki, .int nu, .int wo]))] H := hP
      have hD : va_D A [(oq 0, .inr (6, gPs oq w45 w46 w47 w48 w49 w50 w51 w52 w53 (nI w54) (nI w55))), (oq 6, .inl (cI, 5, .inl w56)), (oq 7, .inl (cI, 600, .inl w57)), (oq 1, .inr (7, [.int (nI w58), .ref (oq 2), .ref (oq 3), .ref (oq 4)])), (oq 2, .inl (cI, 600, .inl w59)), (oq 3, .inl (cI, 600, .inl w60)), (oq 4, .inl (cI, 600, .inl w61)), (oq 5, .inr (8, [tx, .int zl, .int ta, .int be, .int ki, .int nu, .int wo]))] := hD
      try dsimp only at hw
      clear hz1 hk1 hFc hPc hKc hDc
      obtain ⟨hx62_1, hx62_2, hx62_3⟩ := hw
      refine lv_aload_n hx hb dX6_acceptUnit_98 rfl (lv_at hl 0 rfl) ?_
      refine lv_iload_n hx hb dX6_acceptUnit_99 rfl (lv_at hl 1 rfl) ?_
      have hPc := hP.sub (ws' := [(oq 0, .inr (6, gPs oq w45 w46 w47 w48 w49 w50 w51 w52 w53 (nI w54) (nI w55))), (oq 6, .inl (cI, 5, .inl w56)), (oq 7, .inl (cI, 600, .inl w57)), (oq 1, .inr (7, [.int (nI w58), .ref (oq 2), .ref (oq 3), .ref (oq 4)])), (oq 2, .inl (cI, 600, .inl w59)), (oq 3, .inl (cI, 600, .inl w60)), (oq 4, .inl (cI, 600, .inl w61)), (oq 5, .inr (8, [tx, .int zl, .int ta, .int be, .int ki, .int nu, .int wo]))]) [0, 1, 2, 3, 4, 5, 6, 7] rfl
      have hKc := hK.sub (tys' := [(cI, .int)]) [0] rfl
      have hDc := hD.sub (ws' := [(oq 0, .inr (6, gPs oq w45 w46 w47 w48 w49 w50 w51 w52 w53 (nI w54) (nI w55))), (oq 6, .inl (cI, 5, .inl w56)), (oq 7, .inl (cI, 600, .inl w57)), (oq 1, .inr (7, [.int (nI w58), .ref (oq 2), .ref (oq 3), .ref (oq 4)])), (oq 2, .inl (cI, 600, .inl w59)), (oq 3, .inl (cI, 600, .inl w60)), (oq 4, .inl (cI, 600, .inl w61)), (oq 5, .inr (8, [tx, .int zl, .int ta, .int be, .int ki, .int nu, .int wo]))]) [0, 1, 2, 3, 4, 5, 6, 7] (by decide) rfl
      have hFc := va_free (wc := [(oq 0, .inr (6, gPs oq w45 w46 w47 w48 w49 w50 w51 w52 w53 (nI w54) (nI w55))), (oq 6, .inl (cI, 5, .inl w56)), (oq 7, .inl (cI, 600, .inl w57)), (oq 1, .inr (7, [.int (nI w58), .ref (oq 2), .ref (oq 3), .ref (oq 4)])), (oq 2, .inl (cI, 600, .inl w59)), (oq 3, .inl (cI, 600, .inl w60)), (oq 4, .inl (cI, 600, .inl w61)), (oq 5, .inr (8, [tx, .int zl, .int ta, .int be, .int ki, .int nu, .int wo]))]) hD hS hA [0, 1, 2, 3, 4, 5, 6, 7] rfl
      refine va_callv (va_runV (As := [.int 40]) (rest := []) ⟨hx, hb, hml, hown, hts⟩ (k_await l D _ oq cI w45 w46 w47 w48 w49 w50 w51 w52 w53 w54 w55 w56 w57 w58 w59 w60 w61 tx zl ta be ki nu wo 40 hx62_1 hx62_2 hx62_3) (cwV 1 hts g_k_aUnit_k_await_121 rfl rfl rfl (by decide +kernel) ⟨(Nat.le_of_ble_eq_true rfl), (Nat.le_of_ble_eq_true rfl)⟩) (PcWC_V (q0 := 0) hPc hKc hDc hN rfl rfl) rfl rfl hl.1 rfl (lv_room (Nat.le_of_ble_eq_true rfl)) dX6_acceptUnit_100 ⟨(Nat.le_of_ble_eq_true rfl), (Nat.le_of_ble_eq_true rfl)⟩) hS (fun q _ h => hFc q h) hFc (fun uu tt H locs htt hvm hw hB hz1 hk1 hS => ?_)
      obtain ⟨w64, w65, w66, w67, w68, w69, w70, w71, w72, w73, w74, w75, w76, w77, w78, w79, w80⟩ := uu
      obtain ⟨hP1, hK1, hD1⟩ := hB
      rw [htt] at hP1
      have hK1 := va_K.moved hvm.symm hK1
      have hP1 : va_P D vwCl [(oq 0, .inr (6, gPs oq w64 w65 w66 w67 w68 w69 w70 w71 w72 (nI w73) (nI w74))), (oq 6, .inl (cI, 5, .inl w75)), (oq 7, .inl (cI, 600, .inl w76)), (oq 1, .inr (7, [.int (nI w77), .ref (oq 2), .ref (oq 3), .ref (oq 4)])), (oq 2, .inl (cI, 600, .inl w78)), (oq 3, .inl (cI, 600, .inl w79)), (oq 4, .inl (cI, 600, .inl w80)), (oq 5, .inr (8, [tx, .int zl, .int ta, .int be, .int ki, .int nu, .int wo]))] H := hP1
      obtain ⟨hP, hD⟩ := va_join (wr := []) (w1 := [(oq 0, .inr (6, gPs oq w64 w65 w66 w67 w68 w69 w70 w71 w72 (nI w73) (nI w74))), (oq 6, .inl (cI, 5, .inl w75)), (oq 7, .inl (cI, 600, .inl w76)), (oq 1, .inr (7, [.int (nI w77), .ref (oq 2), .ref (oq 3), .ref (oq 4)])), (oq 2, .inl (cI, 600, .inl w78)), (oq 3, .inl (cI, 600, .inl w79)), (oq 4, .inl (cI, 600, .inl w80)), (oq 5, .inr (8, [tx, .int zl, .int ta, .int be, .int ki, .int nu, .int wo]))]) hP hD [0, 1, 2, 3, 4, 5, 6, 7] [] rfl rfl (by decide) (by decide) hk1 hFc hP1 hD1
      have hP : va_P D vwCl [(oq 0, .inr (6, gPs oq w64 w65 w66 w67 w68 w69 w70 w71 w72 (nI w73) (nI w74))), (oq 6, .inl (cI, 5, .inl w75)), (oq 7, .inl (cI, 600, .inl w76)), (oq 1, .inr (7, [.int (nI w77), .ref (oq 2), .ref (oq 3), .ref (oq 4)])), (oq 2, .inl (cI, 600, .inl w78)), (oq 3, .inl (cI, 600, .inl w79)), (oq 4, .inl (cI, 600, .inl w80)), (oq 5, .inr (8, [tx, .int zl, .int ta, .int be, .int ki, .int nu, .int wo]))] H := hP
      have hD : va_D A [(oq 0, .inr (6, gPs oq w64 w65 w66 w67 w68 w69 w70 w71 w72 (nI w73) (nI w74))), (oq 6, .inl (cI, 5, .inl w75)), (oq 7, .inl (cI, 600, .inl w76)), (oq 1, .inr (7, [.int (nI w77), .ref (oq 2), .ref (oq 3), .ref (oq 4)])), (oq 2, .inl (cI, 600, .inl w78)), (oq 3, .inl (cI, 600, .inl w79)), (oq 4, .inl (cI, 600, .inl w80)), (oq 5, .inr (8, [tx, .int zl, .int ta, .int be, .int ki, .int nu, .int wo]))] := hD
      try dsimp only at hw
      clear hz1 hk1 hFc hPc hKc hDc
      obtain ⟨hx81_1, hx81_2, hx81_3⟩ := hw
      refine lv_goto (tgt := 110) hx hb dX6_acceptUnit_103 (by decide) ?_
      exact W.vret hx hb hr (fun t ht hW => ⟨⟨(w64, w65, w66, w67, w68, w69, w70, w71, w72, w73, w74, w75, w76, w77, w78, w79, w80), rfl, (by (try dsimp only); first | done | exact ⟨by omega, by omega, by omega⟩), by rw [ht]; exact hP.sub [0, 1, 2, 3, 4, 5, 6, 7] rfl, va_K.moved hW.alike (hK.sub [0] rfl), hD.sub [0, 1, 2, 3, 4, 5, 6, 7] (by decide) rfl⟩, hS.F ht⟩) hS.2.2 dX6_acceptUnit_110
  refine lv_lookup (off := 105) (tgt := 106) hx hb dX6_acceptUnit_1 (by decide +kernel) (by simp [Op.lookupswitch.offset, List.find?, show ¬ (2 : Int) = Int32.toInt z1 from fun q => sw_ne (n := 2) hs1 (by decide) (by decide) q.symm, show ¬ (10 : Int) = Int32.toInt z1 from fun q => sw_ne (n := 10) hs8 (by decide) (by decide) q.symm, show ¬ (11 : Int) = Int32.toInt z1 from fun q => sw_ne (n := 11) hs15 (by decide) (by decide) q.symm, show ¬ (40 : Int) = Int32.toInt z1 from fun q => sw_ne (n := 40) hs22 (by decide) (by decide) q.symm]) (by decide) ?_
  refine lv_aload_n hx hb dX6_acceptUnit_106 rfl (lv_at hl 0 rfl) ?_
  have hPc := hP.sub (ws' := [(oq 0, .inr (6, gPs oq qf qp qd qs qt qb qh qr qn (nI bk) (nI wz))), (oq 6, .inl (cI, 5, .inl fO)), (oq 7, .inl (cI, 600, .inl fW)), (oq 1, .inr (7, [.int (nI pz), .ref (oq 2), .ref (oq 3), .ref (oq 4)])), (oq 2, .inl (cI, 600, .inl fK)), (oq 3, .inl (cI, 600, .inl fN)), (oq 4, .inl (cI, 600, .inl fL)), (oq 5, .inr (8, [tx, .int zl, .int ta, .int be, .int ki, .int nu, .int wo]))]) [0, 1, 2, 3, 4, 5, 6, 7] rfl
  have hKc := hK.sub (tys' := [(cI, .int)]) [0] rfl
  have hDc := hD.sub (ws' := [(oq 0, .inr (6, gPs oq qf qp qd qs qt qb qh qr qn (nI bk) (nI wz))), (oq 6, .inl (cI, 5, .inl fO)), (oq 7, .inl (cI, 600, .inl fW)), (oq 1, .inr (7, [.int (nI pz), .ref (oq 2), .ref (oq 3), .ref (oq 4)])), (oq 2, .inl (cI, 600, .inl fK)), (oq 3, .inl (cI, 600, .inl fN)), (oq 4, .inl (cI, 600, .inl fL)), (oq 5, .inr (8, [tx, .int zl, .int ta, .int be, .int ki, .int nu, .int wo]))]) [0, 1, 2, 3, 4, 5, 6, 7] (by decide) rfl
  have hFc := va_free (wc := [(oq 0, .inr (6, gPs oq qf qp qd qs qt qb qh qr qn (nI bk) (nI wz))), (oq 6, .inl (cI, 5, .inl fO)), (oq 7, .inl (cI, 600, .inl fW)), (oq 1, .inr (7, [.int (nI pz), .ref (oq 2), .ref (oq 3), .ref (oq 4)])), (oq 2, .inl (cI, 600, .inl fK)), (oq 3, .inl (cI, 600, .inl fN)), (oq 4, .inl (cI, 600, .inl fL)), (oq 5, .inr (8, [tx, .int zl, .int ta, .int be, .int ki, .int nu, .int wo]))]) hD hS hA [0, 1, 2, 3, 4, 5, 6, 7] rfl
  refine va_callv (va_runV (As := []) (rest := []) ⟨hx, hb, hml, hown, hts⟩ (k_refuse l D _ oq cI qf qp qd qs qt qb qh qr qn bk wz fO fW pz fK fN fL tx zl ta be ki nu wo hbk hwz hpz) (cwV 0 hts g_k_aUnit_k_refuse_112 rfl rfl rfl (by decide +kernel) ⟨(Nat.le_of_ble_eq_true rfl), (Nat.le_of_ble_eq_true rfl)⟩) (PcWC_V (q0 := 0) hPc hKc hDc hN rfl rfl) rfl rfl hl.1 rfl (lv_room (Nat.le_of_ble_eq_true rfl)) dX6_acceptUnit_107 ⟨(Nat.le_of_ble_eq_true rfl), (Nat.le_of_ble_eq_true rfl)⟩) hS (fun q _ h => hFc q h) hFc (fun uu tt H locs htt hvm hw hB hz1 hk1 hS => ?_)
  obtain ⟨w83, w84, w85, w86, w87, w88, w89, w90, w91, w92, w93, w94, w95, w96, w97, w98, w99⟩ := uu
  obtain ⟨hP1, hK1, hD1⟩ := hB
  rw [htt] at hP1
  have hK1 := va_K.moved hvm.symm hK1
  have hP1 : va_P D vwCl [(oq 0, .inr (6, gPs oq w83 w84 w85 w86 w87 w88 w89 w90 w91 (nI w92) (nI w93))), (oq 6, .inl (cI, 5, .inl w94)), (oq 7, .inl (cI, 600, .inl w95)), (oq 1, .inr (7, [.int (nI w96), .ref (oq 2), .ref (oq 3), .ref (oq 4)])), (oq 2, .inl (cI, 600, .inl w97)), (oq 3, .inl (cI, 600, .inl w98)), (oq 4, .inl (cI, 600, .inl w99)), (oq 5, .inr (8, [tx, .int zl, .int ta, .int be, .int ki, .int nu, .int wo]))] H := hP1
  obtain ⟨hP, hD⟩ := va_join (wr := []) (w1 := [(oq 0, .inr (6, gPs oq w83 w84 w85 w86 w87 w88 w89 w90 w91 (nI w92) (nI w93))), (oq 6, .inl (cI, 5, .inl w94)), (oq 7, .inl (cI, 600, .inl w95)), (oq 1, .inr (7, [.int (nI w96), .ref (oq 2), .ref (oq 3), .ref (oq 4)])), (oq 2, .inl (cI, 600, .inl w97)), (oq 3, .inl (cI, 600, .inl w98)), (oq 4, .inl (cI, 600, .inl w99)), (oq 5, .inr (8, [tx, .int zl, .int ta, .int be, .int ki, .int nu, .int wo]))]) hP hD [0, 1, 2, 3, 4, 5, 6, 7] [] rfl rfl (by decide) (by decide) hk1 hFc hP1 hD1
  have hP : va_P D vwCl [(oq 0, .inr (6, gPs oq w83 w84 w85 w86 w87 w88 w89 w90 w91 (nI w92) (nI w93))), (oq 6, .inl (cI, 5, .inl w94)), (oq 7, .inl (cI, 600, .inl w95)), (oq 1, .inr (7, [.int (nI w96), .ref (oq 2), .ref (oq 3), .ref (oq 4)])), (oq 2, .inl (cI, 600, .inl w97)), (oq 3, .inl (cI, 600, .inl w98)), (oq 4, .inl (cI, 600, .inl w99)), (oq 5, .inr (8, [tx, .int zl, .int ta, .int be, .int ki, .int nu, .int wo]))] H := hP
  have hD : va_D A [(oq 0, .inr (6, gPs oq w83 w84 w85 w86 w87 w88 w89 w90 w91 (nI w92) (nI w93))), (oq 6, .inl (cI, 5, .inl w94)), (oq 7, .inl (cI, 600, .inl w95)), (oq 1, .inr (7, [.int (nI w96), .ref (oq 2), .ref (oq 3), .ref (oq 4)])), (oq 2, .inl (cI, 600, .inl w97)), (oq 3, .inl (cI, 600, .inl w98)), (oq 4, .inl (cI, 600, .inl w99)), (oq 5, .inr (8, [tx, .int zl, .int ta, .int be, .int ki, .int nu, .int wo]))] := hD
  try dsimp only at hw
  clear hz1 hk1 hFc hPc hKc hDc
  obtain ⟨hx100_1, hx100_2, hx100_3⟩ := hw
  exact W.vret hx hb hr (fun t ht hW => ⟨⟨(w83, w84, w85, w86, w87, w88, w89, w90, w91, w92, w93, w94, w95, w96, w97, w98, w99), rfl, (by (try dsimp only); first | done | exact ⟨by omega, by omega, by omega⟩), by rw [ht]; exact hP.sub [0, 1, 2, 3, 4, 5, 6, 7] rfl, va_K.moved hW.alike (hK.sub [0] rfl), hD.sub [0, 1, 2, 3, 4, 5, 6, 7] (by decide) rfl⟩, hS.F ht⟩) hS.2.2 dX6_acceptUnit_110

def own_k_aClosing : List Cond := [.methodLink RX6 128 yX6_release, .instanceMethod yX6_release, .selects RX6 yX6_release yX6_release, .initialized RX6, .fieldLink RX6 46 "ClashFree$Parser" "parens" "I", .fieldLink RX6 52 "ClashFree$Parser" "waitingSize" "I", .methodLink RX6 112 yX6_refuse, .instanceMethod yX6_refuse, .selects RX6 yX6_refuse yX6_refuse]
def wp_k_aClosing : List Cond := .code yX6_acceptClosing cX6_acceptClosing 2 none :: (own_k_aClosing ++ (wp_k_release ++ (wp_k_refuse ++ (wsX60 ++ ([] : List Cond)))))
set_option maxRecDepth 20000 in
theorem inown_k_aClosing : ∀ w ∈ own_k_aClosing, w ∈ lw_tbl := mem_places [1062, 1064, 19, 111, 341, 344, 1043, 1045, 15] (by decide +kernel)
set_option maxRecDepth 20000 in
theorem in_k_aClosing : ∀ w ∈ wp_k_aClosing, w ∈ lw_tbl := List.forall_mem_cons.mpr ⟨List.mem_of_getElem? (i := 1069) (by decide +kernel), List.forall_mem_append.mpr ⟨inown_k_aClosing, List.forall_mem_append.mpr ⟨in_k_release, List.forall_mem_append.mpr ⟨in_k_refuse, List.forall_mem_append.mpr ⟨lwb_X6, fun _ h => absurd h List.not_mem_nil⟩⟩⟩⟩⟩
set_option maxRecDepth 20000 in
theorem good_k_aClosing : wp_k_aClosing.all goodWord = true := by decide +kernel
set_option maxRecDepth 20000 in
theorem g_k_aClosing_k_release_128 : GoodIn wp_k_aClosing (wsV RX6 128 RX6 yX6_release wp_k_release) := goodIn_sub (List.forall_mem_append.mpr ⟨List.forall_mem_cons.mpr ⟨(List.mem_of_getElem? (i := 1) rfl), List.forall_mem_cons.mpr ⟨(List.mem_of_getElem? (i := 2) rfl), List.forall_mem_cons.mpr ⟨(List.mem_of_getElem? (i := 3) rfl), List.forall_mem_cons.mpr ⟨(List.mem_of_getElem? (i := 4) rfl), fun _ h => absurd h List.not_mem_nil⟩⟩⟩⟩, (fun _ h => (List.mem_cons_of_mem _ (List.mem_append_right _ (List.mem_append_left _ h))))⟩) (by decide +kernel)
set_option maxRecDepth 20000 in
theorem g_k_aClosing_k_refuse_112 : GoodIn wp_k_aClosing (wsV RX6 112 RX6 yX6_refuse wp_k_refuse) := goodIn_sub (List.forall_mem_append.mpr ⟨List.forall_mem_cons.mpr ⟨(List.mem_of_getElem? (i := 7) rfl), List.forall_mem_cons.mpr ⟨(List.mem_of_getElem? (i := 8) rfl), List.forall_mem_cons.mpr ⟨(List.mem_of_getElem? (i := 9) rfl), List.forall_mem_cons.mpr ⟨(List.mem_of_getElem? (i := 4) rfl), fun _ h => absurd h List.not_mem_nil⟩⟩⟩⟩, (fun _ h => (List.mem_cons_of_mem _ (List.mem_append_right _ (List.mem_append_right _ (List.mem_append_left _ h)))))⟩) (by decide +kernel)
set_option maxHeartbeats 4000000 in
set_option maxRecDepth 100000 in
theorem k_aClosing (l : Launch) (D : va_G) (sz : Nat) (oq : Nat → Nat) (cI : ClassId) (qf : Int32) (qp : Int32) (qd : Int32) (qs : Int32) (qt : Int32) (qb : Int32) (qh : Int32) (qr : Int32) (qn : Int32) (bk : Nat) (wz : Nat) (fO : Nat → Int32) (fW : Nat → Int32) (pz : Nat) (fK : Nat → Int32) (fN : Nat → Int32) (fL : Nat → Int32) (tx : Value) (zl : Int32) (ta : Int32) (be : Int32) (ki : Int32) (nu : Int32) (wo : Int32) (z1 : Int32) (hbk : bk ≤ 5) (hwz : wz ≤ 600) (hpz : pz ≤ 600) : Met l yX6_acceptClosing wp_k_aClosing ({ frames := 2, cells := 0, slots := 0, locals := 61 }) (PcWC D [.ref (oq 0), .int z1] sz [(oq 0, .inr (6, gPs oq qf qp qd qs qt qb qh qr qn (nI bk) (nI wz))), (oq 6, .inl (cI, 5, .inl fO)), (oq 7, .inl (cI, 600, .inl fW)), (oq 1, .inr (7, [.int (nI pz), .ref (oq 2), .ref (oq 3), .ref (oq 4)])), (oq 2, .inl (cI, 600, .inl fK)), (oq 3, .inl (cI, 600, .inl fN)), (oq 4, .inl (cI, 600, .inl fL)), (oq 5, .inr (8, [tx, .int zl, .int ta, .int be, .int ki, .int nu, .int wo]))] [(cI, .int)]) (va_Qv (fun (u : (Int32) × (Int32) × (Int32) × (Int32) × (Int32) × (Int32) × (Int32) × (Int32) × (Int32) × (Nat) × (Nat) × (Nat → Int32) × (Nat → Int32) × (Nat) × (Nat → Int32) × (Nat → Int32) × (Nat → Int32)) => u.2.2.2.2.2.2.2.2.2.1 ≤ 5 ∧ u.2.2.2.2.2.2.2.2.2.2.1 ≤ 600 ∧ u.2.2.2.2.2.2.2.2.2.2.2.2.2.1 ≤ 600) (fun (u : (Int32) × (Int32) × (Int32) × (Int32) × (Int32) × (Int32) × (Int32) × (Int32) × (Int32) × (Nat) × (Nat) × (Nat → Int32) × (Nat → Int32) × (Nat) × (Nat → Int32) × (Nat → Int32) × (Nat → Int32)) t => va_P D vwCl [(oq 0, .inr (6, gPs oq u.1 u.2.1 u.2.2.1 u.2.2.2.1 u.2.2.2.2.1 u.2.2.2.2.2.1 u.2.2.2.2.2.2.1 u.2.2.2.2.2.2.2.1 u.2.2.2.2.2.2.2.2.1 (nI u.2.2.2.2.2.2.2.2.2.1) (nI u.2.2.2.2.2.2.2.2.2.2.1))), (oq 6, .inl (cI, 5, .inl u.2.2.2.2.2.2.2.2.2.2.2.1)), (oq 7, .inl (cI, 600, .inl u.2.2.2.2.2.2.2.2.2.2.2.2.1)), (oq 1, .inr (7, [.int (nI u.2.2.2.2.2.2.2.2.2.2.2.2.2.1), .ref (oq 2), .ref (oq 3), .ref (oq 4)])), (oq 2, .inl (cI, 600, .inl u.2.2.2.2.2.2.2.2.2.2.2.2.2.2.1)), (oq 3, .inl (cI, 600, .inl u.2.2.2.2.2.2.2.2.2.2.2.2.2.2.2.1)), (oq 4, .inl (cI, 600, .inl u.2.2.2.2.2.2.2.2.2.2.2.2.2.2.2.2)), (oq 5, .inr (8, [tx, .int zl, .int ta, .int be, .int ki, .int nu, .int wo]))] t.heap ∧ va_K D vwCl [(cI, .int)] t ∧ va_D (va_A [(oq 0, .inr (6, gPs oq qf qp qd qs qt qb qh qr qn (nI bk) (nI wz))), (oq 6, .inl (cI, 5, .inl fO)), (oq 7, .inl (cI, 600, .inl fW)), (oq 1, .inr (7, [.int (nI pz), .ref (oq 2), .ref (oq 3), .ref (oq 4)])), (oq 2, .inl (cI, 600, .inl fK)), (oq 3, .inl (cI, 600, .inl fN)), (oq 4, .inl (cI, 600, .inl fL)), (oq 5, .inr (8, [tx, .int zl, .int ta, .int be, .int ki, .int nu, .int wo]))] sz) [(oq 0, .inr (6, gPs oq u.1 u.2.1 u.2.2.1 u.2.2.2.1 u.2.2.2.2.1 u.2.2.2.2.2.1 u.2.2.2.2.2.2.1 u.2.2.2.2.2.2.2.1 u.2.2.2.2.2.2.2.2.1 (nI u.2.2.2.2.2.2.2.2.2.1) (nI u.2.2.2.2.2.2.2.2.2.2.1))), (oq 6, .inl (cI, 5, .inl u.2.2.2.2.2.2.2.2.2.2.2.1)), (oq 7, .inl (cI, 600, .inl u.2.2.2.2.2.2.2.2.2.2.2.2.1)), (oq 1, .inr (7, [.int (nI u.2.2.2.2.2.2.2.2.2.2.2.2.2.1), .ref (oq 2), .ref (oq 3), .ref (oq 4)])), (oq 2, .inl (cI, 600, .inl u.2.2.2.2.2.2.2.2.2.2.2.2.2.2.1)), (oq 3, .inl (cI, 600, .inl u.2.2.2.2.2.2.2.2.2.2.2.2.2.2.2.1)), (oq 4, .inl (cI, 600, .inl u.2.2.2.2.2.2.2.2.2.2.2.2.2.2.2.2)), (oq 5, .inr (8, [tx, .int zl, .int ta, .int be, .int ki, .int nu, .int wo]))]) (va_A [(oq 0, .inr (6, gPs oq qf qp qd qs qt qb qh qr qn (nI bk) (nI wz))), (oq 6, .inl (cI, 5, .inl fO)), (oq 7, .inl (cI, 600, .inl fW)), (oq 1, .inr (7, [.int (nI pz), .ref (oq 2), .ref (oq 3), .ref (oq 4)])), (oq 2, .inl (cI, 600, .inl fK)), (oq 3, .inl (cI, 600, .inl fN)), (oq 4, .inl (cI, 600, .inl fL)), (oq 5, .inr (8, [tx, .int zl, .int ta, .int be, .int ki, .int nu, .int wo]))] sz)) 0 0 (va_A [(oq 0, .inr (6, gPs oq qf qp qd qs qt qb qh qr qn (nI bk) (nI wz))), (oq 6, .inl (cI, 5, .inl fO)), (oq 7, .inl (cI, 600, .inl fW)), (oq 1, .inr (7, [.int (nI pz), .ref (oq 2), .ref (oq 3), .ref (oq 4)])), (oq 2, .inl (cI, 600, .inl fK)), (oq 3, .inl (cI, 600, .inl fN)), (oq 4, .inl (cI, 600, .inl fL)), (oq 5, .inr (8, [tx, .int zl, .int ta, .int be, .int ki, .int nu, .int wo]))] sz) := by
  refine Met.ofW (cc := cX6_acceptClosing) (maxL := 2) (ret := none) (by decide) rfl ?_
  intro p e s m args below meth c s₁ B hml hv
  obtain ⟨rfl, hsz, hP, hK, hD0, hN⟩ := hv
  have hx := B.exec
  have hb := B.bytes
  have hr := B.returns
  have hts := atoms_spec (ws := wp_k_aClosing) B.pre
  have hin_X6 : ∀ w ∈ wsX60, w ∈ wp_k_aClosing := fun _ h => (List.mem_cons_of_mem _ (List.mem_append_right _ (List.mem_append_right _ (List.mem_append_right _ (List.mem_append_left _ h)))))
  have hown : s.vm.findClass RX6 = some m.cls := findClass_of_methodNamed B.named
  have hlocks := B.notSynchronized
  subst hsz
  have hD := hD0.self (sz := s.heap.size)
  generalize hAe : va_A [(oq 0, .inr (6, gPs oq qf qp qd qs qt qb qh qr qn (nI bk) (nI wz))), (oq 6, .inl (cI, 5, .inl fO)), (oq 7, .inl (cI, 600, .inl fW)), (oq 1, .inr (7, [.int (nI pz), .ref (oq 2), .ref (oq 3), .ref (oq 4)])), (oq 2, .inl (cI, 600, .inl fK)), (oq 3, .inl (cI, 600, .inl fN)), (oq 4, .inl (cI, 600, .inl fL)), (oq 5, .inr (8, [tx, .int zl, .int ta, .int be, .int ki, .int nu, .int wo]))] s.heap.size = A at hD ⊢
  have hA : ∀ q : Nat, s.heap.size ≤ q → A q := fun q h => by rw [← hAe]; exact Or.inr h
  have hS : va_S A s.heap s.heap [] := va_S.rf
  have hP : va_P D vwCl [(oq 0, .inr (6, gPs oq qf qp qd qs qt qb qh qr qn (nI bk) (nI wz))), (oq 6, .inl (cI, 5, .inl fO)), (oq 7, .inl (cI, 600, .inl fW)), (oq 1, .inr (7, [.int (nI pz), .ref (oq 2), .ref (oq 3), .ref (oq 4)])), (oq 2, .inl (cI, 600, .inl fK)), (oq 3, .inl (cI, 600, .inl fN)), (oq 4, .inl (cI, 600, .inl fL)), (oq 5, .inr (8, [tx, .int zl, .int ta, .int be, .int ki, .int nu, .int wo]))] s.heap := hP
  have hl := lv_entry ([.ref (oq 0), .int z1]) (n := 2) (Nat.le_of_ble_eq_true rfl)
  rw [lg_entry_eq]
  generalize (lg_sl ([.ref (oq 0), .int z1]) ++ List.replicate (2 - (lg_sl ([.ref (oq 0), .int z1])).length) Slot.unset).toArray = ls at hl ⊢
  have hl : lv_has ls 2 [(0, .ref (oq 0)), (1, .int z1)] := hl
  refine lv_iload_n hx hb dX6_acceptClosing_0 rfl (lv_at hl 1 rfl) ?_
  refine lv_bipush (v := 41) hx hb dX6_acceptClosing_1 (by decide) ?_
  refine lv_icmp_eq (tgt := 11) hx hb dX6_acceptClosing_3 (by decide) (fun hc1 => ?_) (fun hc1 => ?_)
  ·
    refine lv_aload_n hx hb dX6_acceptClosing_11 rfl (lv_at hl 0 rfl) ?_
    refine lv_iconst (v := 1) hx hb dX6_acceptClosing_12 (by decide) ?_
    have hPc := hP.sub (ws' := [(oq 0, .inr (6, gPs oq qf qp qd qs qt qb qh qr qn (nI bk) (nI wz))), (oq 6, .inl (cI, 5, .inl fO)), (oq 7, .inl (cI, 600, .inl fW)), (oq 1, .inr (7, [.int (nI pz), .ref (oq 2), .ref (oq 3), .ref (oq 4)])), (oq 2, .inl (cI, 600, .inl fK)), (oq 3, .inl (cI, 600, .inl fN)), (oq 4, .inl (cI, 600, .inl fL)), (oq 5, .inr (8, [tx, .int zl, .int ta, .int be, .int ki, .int nu, .int wo]))]) [0, 1, 2, 3, 4, 5, 6, 7] rfl
    have hKc := hK.sub (tys' := [(cI, .int)]) [0] rfl
    have hDc := hD.sub (ws' := [(oq 0, .inr (6, gPs oq qf qp qd qs qt qb qh qr qn (nI bk) (nI wz))), (oq 6, .inl (cI, 5, .inl fO)), (oq 7, .inl (cI, 600, .inl fW)), (oq 1, .inr (7, [.int (nI pz), .ref (oq 2), .ref (oq 3), .ref (oq 4)])), (oq 2, .inl (cI, 600, .inl fK)), (oq 3, .inl (cI, 600, .inl fN)), (oq 4, .inl (cI, 600, .inl fL)), (oq 5, .inr (8, [tx, .int zl, .int ta, .int be, .int ki, .int nu, .int wo]))]) [0, 1, 2, 3, 4, 5, 6, 7] (by decide) rfl
    have hFc := va_free (wc := [(oq 0, .inr (6, gPs oq qf qp qd qs qt qb qh qr qn (nI bk) (nI wz))), (oq 6, .inl (cI, 5, .inl fO)), (oq 7, .inl (cI, 600, .inl fW)), (oq 1, .inr (7, [.int (nI pz), .ref (oq 2), .ref (oq 3), .ref (oq 4)])), (oq 2, .inl (cI, 600, .inl fK)), (oq 3, .inl (cI, 600, .inl fN)), (oq 4, .inl (cI, 600, .inl fL)), (oq 5, .inr (8, [tx, .int zl, .int ta, .int be, .int ki, .int nu, .int wo]))]) hD hS hA [0, 1, 2, 3, 4, 5, 6, 7] rfl
    refine va_callv (va_runV (As := [.int 1]) (rest := []) ⟨hx, hb, hml, hown, hts⟩ (k_release l D _ oq cI qf qp qd qs qt qb qh qr qn bk wz fO fW pz fK fN fL tx zl ta be ki nu wo 1 hbk hwz hpz) (cwV 1 hts g_k_aClosing_k_release_128 rfl rfl rfl (by decide +kernel) ⟨(Nat.le_of_ble_eq_true rfl), (Nat.le_of_ble_eq_true rfl)⟩) (PcWC_V (q0 := 0) hPc hKc hDc hN rfl rfl) rfl rfl hl.1 rfl (lv_room (Nat.le_of_ble_eq_true rfl)) dX6_acceptClosing_13 ⟨(Nat.le_of_ble_eq_true rfl), (Nat.le_of_ble_eq_true rfl)⟩) hS (fun q _ h => hFc q h) hFc (fun uu tt H locs htt hvm hw hB hz1 hk1 hS => ?_)
    obtain ⟨w3, w4, w5, w6, w7, w8, w9, w10, w11, w12, w13, w14, w15, w16, w17, w18, w19⟩ := uu
    obtain ⟨hP1, hK1, hD1⟩ := hB
    rw [htt] at hP1
    have hK1 := va_K.moved hvm.symm hK1
    have hP1 : va_P D vwCl [(oq 0, .inr (6, gPs oq w3 w4 w5 w6 w7 w8 w9 w10 w11 (nI w12) (nI w13))), (oq 6, .inl (cI, 5, .inl w14)), (oq 7, .inl (cI, 600, .inl w15)), (oq 1, .inr (7, [.int (nI w16), .ref (oq 2), .ref (oq 3), .ref (oq 4)])), (oq 2, .inl (cI, 600, .inl w17)), (oq 3, .inl (cI, 600, .inl w18)), (oq 4, .inl (cI, 600, .inl w19)), (oq 5, .inr (8, [tx, .int zl, .int ta, .int be, .int ki, .int nu, .int wo]))] H := hP1
    obtain ⟨hP, hD⟩ := va_join (wr := []) (w1 := [(oq 0, .inr (6, gPs oq w3 w4 w5 w6 w7 w8 w9 w10 w11 (nI w12) (nI w13))), (oq 6, .inl (cI, 5, .inl w14)), (oq 7, .inl (cI, 600, .inl w15)), (oq 1, .inr (7, [.int (nI w16), .ref (oq 2), .ref (oq 3), .ref (oq 4)])), (oq 2, .inl (cI, 600, .inl w17)), (oq 3, .inl (cI, 600, .inl w18)), (oq 4, .inl (cI, 600, .inl w19)), (oq 5, .inr (8, [tx, .int zl, .int ta, .int be, .int ki, .int nu, .int wo]))]) hP hD [0, 1, 2, 3, 4, 5, 6, 7] [] rfl rfl (by decide) (by decide) hk1 hFc hP1 hD1
    have hP : va_P D vwCl [(oq 0, .inr (6, gPs oq w3 w4 w5 w6 w7 w8 w9 w10 w11 (nI w12) (nI w13))), (oq 6, .inl (cI, 5, .inl w14)), (oq 7, .inl (cI, 600, .inl w15)), (oq 1, .inr (7, [.int (nI w16), .ref (oq 2), .ref (oq 3), .ref (oq 4)])), (oq 2, .inl (cI, 600, .inl w17)), (oq 3, .inl (cI, 600, .inl w18)), (oq 4, .inl (cI, 600, .inl w19)), (oq 5, .inr (8, [tx, .int zl, .int ta, .int be, .int ki, .int nu, .int wo]))] H := hP
    have hD : va_D A [(oq 0, .inr (6, gPs oq w3 w4 w5 w6 w7 w8 w9 w10 w11 (nI w12) (nI w13))), (oq 6, .inl (cI, 5, .inl w14)), (oq 7, .inl (cI, 600, .inl w15)), (oq 1, .inr (7, [.int (nI w16), .ref (oq 2), .ref (oq 3), .ref (oq 4)])), (oq 2, .inl (cI, 600, .inl w17)), (oq 3, .inl (cI, 600, .inl w18)), (oq 4, .inl (cI, 600, .inl w19)), (oq 5, .inr (8, [tx, .int zl, .int ta, .int be, .int ki, .int nu, .int wo]))] := hD
    try dsimp only at hw
    clear hz1 hk1 hFc hPc hKc hDc
    obtain ⟨hx20_1, hx20_2, hx20_3⟩ := hw
    refine lv_aload_n hx hb dX6_acceptClosing_16 rfl (lv_at hl 0 rfl) ?_
    refine lv_dup hx hb dX6_acceptClosing_17 rfl ?_
    refine va_get (D := D) (ci := 6) (v := .int w11) (C := RX6) (T := TX6) (N := 15) hx hb hts hin_X6 hown hK hP 0 rfl rfl 10 (by decide) (hts (.fieldLink RX6 46 "ClashFree$Parser" "parens" "I") (List.mem_of_getElem? (i := 5) rfl)) (fun _ h9 => h9) rfl dX6_acceptClosing_18 ?_
    refine lv_iconst (v := 1) hx hb dX6_acceptClosing_21 (by decide) ?_
    refine lv_isub hx hb dX6_acceptClosing_22 ?_
    refine lv_topi (fun v21 ev21 => ?_)
    refine va_put (D := D) (ci := 6) (v := .int v21) (ty := .int) (C := RX6) (T := TX6) (N := 15) hx hb hts hin_X6 tyX6 tyX6_ok nmX6 hown hK hP hD hS 0 rfl rfl 10 (by decide) (hts (.fieldLink RX6 46 "ClashFree$Parser" "parens" "I") (List.mem_of_getElem? (i := 5) rfl)) (fun _ h9 => h9) rfl (by decide +kernel) rfl rfl (Nat.le_of_ble_eq_true rfl) dX6_acceptClosing_23 (fun H locs hP hD hS => ?_)
    have hP : va_P D vwCl [(oq 0, .inr (6, gPs oq w3 w4 w5 w6 w7 w8 w9 w10 v21 (nI w12) (nI w13))), (oq 6, .inl (cI, 5, .inl w14)), (oq 7, .inl (cI, 600, .inl w15)), (oq 1, .inr (7, [.int (nI w16), .ref (oq 2), .ref (oq 3), .ref (oq 4)])), (oq 2, .inl (cI, 600, .inl w17)), (oq 3, .inl (cI, 600, .inl w18)), (oq 4, .inl (cI, 600, .inl w19)), (oq 5, .inr (8, [tx, .int zl, .int ta, .int be, .int ki, .int nu, .int wo]))] H := hP
    have hD : va_D A [(oq 0, .inr (6, gPs oq w3 w4 w5 w6 w7 w8 w9 w10 v21 (nI w12) (nI w13))), (oq 6, .inl (cI, 5, .inl w14)), (oq 7, .inl (cI, 600, .inl w15)), (oq 1, .inr (7, [.int (nI w16), .ref (oq 2), .ref (oq 3), .ref (oq 4)])), (oq 2, .inl (cI, 600, .inl w17)), (oq 3, .inl (cI, 600, .inl w18)), (oq 4, .inl (cI, 600, .inl w19)), (oq 5, .inr (8, [tx, .int zl, .int ta, .int be, .int ki, .int nu, .int wo]))] := hD
    refine lv_aload_n hx hb dX6_acceptClosing_26 rfl (lv_at hl 0 rfl) ?_
    refine va_get (D := D) (ci := 6) (v := .int (nI w13)) (C := RX6) (T := TX6) (N := 15) hx hb hts hin_X6 hown hK hP 0 rfl rfl 13 (by decide) (hts (.fieldLink RX6 52 "ClashFree$Parser" "waitingSize" "I") (List.mem_of_getElem? (i := 6) rfl)) (fun _ h9 => h9) rfl dX6_acceptClosing_27 ?_
    refine lv_if_le (tgt := 43) hx hb dX6_acceptClosing_30 (by decide) (fun hc22 => ?_) (fun hc22 => ?_)
    ·
      exact W.vret hx hb hr (fun t ht hW => ⟨⟨(w3, w4, w5, w6, w7, w8, w9, w10, v21, w12, w13, w14, w15, w16, w17, w18, w19), rfl, (by (try dsimp only); first | done | exact ⟨by omega, by omega, by omega⟩), by rw [ht]; exact hP.sub [0, 1, 2, 3, 4, 5, 6, 7] rfl, va_K.moved hW.alike (hK.sub [0] rfl), hD.sub [0, 1, 2, 3, 4, 5, 6, 7] (by decide) rfl⟩, hS.F ht⟩) hS.2.2 dX6_acceptClosing_43
    ·
      have hw1 : 1 ≤ w13 := by
        rcases Nat.eq_zero_or_pos w13 with z | z
        · exact absurd (by rw [z]; decide) hc22
        · exact z
      refine lv_aload_n hx hb dX6_acceptClosing_33 rfl (lv_at hl 0 rfl) ?_
      refine lv_dup hx hb dX6_acceptClosing_34 rfl ?_
      refine va_get (D := D) (ci := 6) (v := .int (nI w13)) (C := RX6) (T := TX6) (N := 15) hx hb hts hin_X6 hown hK hP 0 rfl rfl 13 (by decide) (hts (.fieldLink RX6 52 "ClashFree$Parser" "waitingSize" "I") (List.mem_of_getElem? (i := 6) rfl)) (fun _ h9 => h9) rfl dX6_acceptClosing_35 ?_
      refine lv_iconst (v := 1) hx hb dX6_acceptClosing_38 (by decide) ?_
      refine lv_isub hx hb dX6_acceptClosing_39 ?_
      refine lv_topi (fun v23 ev23 => ?_)
      obtain rfl : v23 = nI (w13 - 1) := ev23.trans (pk_sub (b := 1) (by omega))
      refine va_put (D := D) (ci := 6) (v := .int (nI (w13 - 1))) (ty := .int) (C := RX6) (T := TX6) (N := 15) hx hb hts hin_X6 tyX6 tyX6_ok nmX6 hown hK hP hD hS 0 rfl rfl 13 (by decide) (hts (.fieldLink RX6 52 "ClashFree$Parser" "waitingSize" "I") (List.mem_of_getElem? (i := 6) rfl)) (fun _ h9 => h9) rfl (by decide +kernel) rfl rfl (Nat.le_of_ble_eq_true rfl) dX6_acceptClosing_40 (fun H locs hP hD hS => ?_)
      have hP : va_P D vwCl [(oq 0, .inr (6, gPs oq w3 w4 w5 w6 w7 w8 w9 w10 v21 (nI w12) (nI (w13 - 1)))), (oq 6, .inl (cI, 5, .inl w14)), (oq 7, .inl (cI, 600, .inl w15)), (oq 1, .inr (7, [.int (nI w16), .ref (oq 2), .ref (oq 3), .ref (oq 4)])), (oq 2, .inl (cI, 600, .inl w17)), (oq 3, .inl (cI, 600, .inl w18)), (oq 4, .inl (cI, 600, .inl w19)), (oq 5, .inr (8, [tx, .int zl, .int ta, .int be, .int ki, .int nu, .int wo]))] H := hP
      have hD : va_D A [(oq 0, .inr (6, gPs oq w3 w4 w5 w6 w7 w8 w9 w10 v21 (nI w12) (nI (w13 - 1)))), (oq 6, .inl (cI, 5, .inl w14)), (oq 7, .inl (cI, 600, .inl w15)), (oq 1, .inr (7, [.int (nI w16), .ref (oq 2), .ref (oq 3), .ref (oq 4)])), (oq 2, .inl (cI, 600, .inl w17)), (oq 3, .inl (cI, 600, .inl w18)), (oq 4, .inl (cI, 600, .inl w19)), (oq 5, .inr (8, [tx, .int zl, .int ta, .int be, .int ki, .int nu, .int wo]))] := hD
      exact W.vret hx hb hr (fun t ht hW => ⟨⟨(w3, w4, w5, w6, w7, w8, w9, w10, v21, w12, (w13 - 1), w14, w15, w16, w17, w18, w19), rfl, (by (try dsimp only); first | done | exact ⟨by omega, by omega, by omega⟩), by rw [ht]; exact hP.sub [0, 1, 2, 3, 4, 5, 6, 7] rfl, va_K.moved hW.alike (hK.sub [0] rfl), hD.sub [0, 1, 2, 3, 4, 5, 6, 7] (by decide) rfl⟩, hS.F ht⟩) hS.2.2 dX6_acceptClosing_43
  ·
    refine lv_aload_n hx hb dX6_acceptClosing_6 rfl (lv_at hl 0 rfl) ?_
    have hPc := hP.sub (ws' := [(oq 0, .inr (6, gPs oq qf qp qd qs qt qb qh qr qn (nI bk) (nI wz))), (oq 6, .inl (cI, 5, .inl fO)), (oq 7, .inl (cI, 600, .inl fW)), (oq 1, .inr (7, [.int (nI pz), .ref (oq 2), .ref (oq 3), .ref (oq 4)])), (oq 2, .inl (cI, 600, .inl fK)), (oq 3, .inl (cI, 600, .inl fN)), (oq 4, .inl (cI, 600, .inl fL)), (oq 5, .inr (8, [tx, .int zl, .int ta, .int be, .int ki, .int nu, .int wo]))]) [0, 1, 2, 3, 4, 5, 6, 7] rfl
    have hKc := hK.sub (tys' := [(cI, .int)]) [0] rfl
    have hDc := hD.sub (ws' := [(oq 0, .inr (6, gPs oq qf qp qd qs qt qb qh qr qn (nI bk) (nI wz))), (oq 6, .inl (cI, 5, .inl fO)), (oq 7, .inl (cI, 600, .inl fW)), (oq 1, .inr (7, [.int (nI pz), .ref (oq 2), .ref (oq 3), .ref (oq 4)])), (oq 2, .inl (cI, 600, .inl fK)), (oq 3, .inl (cI, 600, .inl fN)), (oq 4, .inl (cI, 600, .inl fL)), (oq 5, .inr (8, [tx, .int zl, .int ta, .int be, .int ki, .int nu, .int wo]))]) [0, 1, 2, 3, 4, 5, 6, 7] (by decide) rfl
    have hFc := va_free (wc := [(oq 0, .inr (6, gPs oq qf qp qd qs qt qb qh qr qn (nI bk) (nI wz))), (oq 6, .inl (cI, 5, .inl fO)), (oq 7, .inl (cI, 600, .inl fW)), (oq 1, .inr (7, [.int (nI pz), .ref (oq 2), .ref (oq 3), .ref (oq 4)])), (oq 2, .inl (cI, 600, .inl fK)), (oq 3, .inl (cI, 600, .inl fN)), (oq 4, .inl (cI, 600, .inl fL)), (oq 5, .inr (8, [tx, .int zl, .int ta, .int be, .int ki, .int nu, .int wo]))]) hD hS hA [0, 1, 2, 3, 4, 5, 6, 7] rfl
    refine va_callv (va_runV (As := []) (rest := []) ⟨hx, hb, hml, hown, hts⟩ (k_refuse l D _ oq cI qf qp qd qs qt qb qh qr qn bk wz fO fW pz fK fN fL tx zl ta be ki nu wo hbk hwz hpz) (cwV 0 hts g_k_aClosing_k_refuse_112 rfl rfl rfl (by decide +kernel) ⟨(Nat.le_of_ble_eq_true rfl), (Nat.le_of_ble_eq_true rfl)⟩) (PcWC_V (q0 := 0) hPc hKc hDc hN rfl rfl) rfl rfl hl.1 rfl (lv_room (Nat.le_of_ble_eq_true rfl)) dX6_acceptClosing_7 ⟨(Nat.le_of_ble_eq_true rfl), (Nat.le_of_ble_eq_true rfl)⟩) hS (fun q _ h => hFc q h) hFc (fun uu tt H locs htt hvm hw hB hz1 hk1 hS => ?_)
    obtain ⟨w25, w26, w27, w28, w29, w30, w31, w32, w33, w34, w35, w36, w37, w38, w39, w40, w41⟩ := uu
    obtain ⟨hP1, hK1, hD1⟩ := hB
    rw [htt] at hP1
    have hK1 := va_K.moved hvm.symm hK1
    have hP1 : va_P D vwCl [(oq 0, .inr (6, gPs oq w25 w26 w27 w28 w29 w30 w31 w32 w33 (nI w34) (nI w35))), (oq 6, .inl (cI, 5, .inl w36)), (oq 7, .inl (cI, 600, .inl w37)), (oq 1, .inr (7, [.int (nI w38), .ref (oq 2), .ref (oq 3), .ref (oq 4)])), (oq 2, .inl (cI, 600, .inl w39)), (oq 3, .inl (cI, 600, .inl w40)), (oq 4, .inl (cI, 600, .inl w41)), (oq 5, .inr (8, [tx, .int zl, .int ta, .int be, .int ki, .int nu, .int wo]))] H := hP1
    obtain ⟨hP, hD⟩ := va_join (wr := []) (w1 := [(oq 0, .inr (6, gPs oq w25 w26 w27 w28 w29 w30 w31 w32 w33 (nI w34) (nI w35))), (oq 6, .inl (cI, 5, .inl w36)), (oq 7, .inl (cI, 600, .inl w37)), (oq 1, .inr (7, [.int (nI w38), .ref (oq 2), .ref (oq 3), .ref (oq 4)])), (oq 2, .inl (cI, 600, .inl w39)), (oq 3, .inl (cI, 600, .inl w40)), (oq 4, .inl (cI, 600, .inl w41)), (oq 5, .inr (8, [tx, .int zl, .int ta, .int be, .int ki, .int nu, .int wo]))]) hP hD [0, 1, 2, 3, 4, 5, 6, 7] [] rfl rfl (by decide) (by decide) hk1 hFc hP1 hD1
    have hP : va_P D vwCl [(oq 0, .inr (6, gPs oq w25 w26 w27 w28 w29 w30 w31 w32 w33 (nI w34) (nI w35))), (oq 6, .inl (cI, 5, .inl w36)), (oq 7, .inl (cI, 600, .inl w37)), (oq 1, .inr (7, [.int (nI w38), .ref (oq 2), .ref (oq 3), .ref (oq 4)])), (oq 2, .inl (cI, 600, .inl w39)), (oq 3, .inl (cI, 600, .inl w40)), (oq 4, .inl (cI, 600, .inl w41)), (oq 5, .inr (8, [tx, .int zl, .int ta, .int be, .int ki, .int nu, .int wo]))] H := hP
    have hD : va_D A [(oq 0, .inr (6, gPs oq w25 w26 w27 w28 w29 w30 w31 w32 w33 (nI w34) (nI w35))), (oq 6, .inl (cI, 5, .inl w36)), (oq 7, .inl (cI, 600, .inl w37)), (oq 1, .inr (7, [.int (nI w38), .ref (oq 2), .ref (oq 3), .ref (oq 4)])), (oq 2, .inl (cI, 600, .inl w39)), (oq 3, .inl (cI, 600, .inl w40)), (oq 4, .inl (cI, 600, .inl w41)), (oq 5, .inr (8, [tx, .int zl, .int ta, .int be, .int ki, .int nu, .int wo]))] := hD
    try dsimp only at hw
    clear hz1 hk1 hFc hPc hKc hDc
    obtain ⟨hx42_1, hx42_2, hx42_3⟩ := hw
    exact W.vret hx hb hr (fun t ht hW => ⟨⟨(w25, w26, w27, w28, w29, w30, w31, w32, w33, w34, w35, w36, w37, w38, w39, w40, w41), rfl, (by (try dsimp only); first | done | exact ⟨by omega, by omega, by omega⟩), by rw [ht]; exact hP.sub [0, 1, 2, 3, 4, 5, 6, 7] rfl, va_K.moved hW.alike (hK.sub [0] rfl), hD.sub [0, 1, 2, 3, 4, 5, 6, 7] (by decide) rfl⟩, hS.F ht⟩) hS.2.2 dX6_acceptClosing_10

def own_k_aSumEnd : List Cond := [.methodLink RX6 128 yX6_release, .instanceMethod yX6_release, .selects RX6 yX6_release yX6_release, .initialized RX6, .fieldLink RX6 103 "ClashFree$Parser" "statement" "I", .methodLink RX6 112 yX6_refuse, .instanceMethod yX6_refuse, .selects RX6 yX6_refuse yX6_refuse, .fieldLink RX6 12 "ClashFree$Parser" "program" "LClashFree$Program;", .methodLink RX6 118 yX7_add, .instanceMethod yX7_add, .selects RX7 yX7_add yX7_add, .initialized RX7, .fieldLink RX6 39 "ClashFree$Parser" "state" "I", .methodLink RX6 137 yX6_open, .instanceMethod yX6_open, .selects RX6 yX6_open yX6_open]
def wp_k_aSumEnd : List Cond := .code yX6_acceptSumEnd cX6_acceptSumEnd 2 none :: (own_k_aSumEnd ++ (wp_k_release ++ (wp_k_refuse ++ (wp_k_padd ++ (wp_k_open ++ (wsX60 ++ ([] : List Cond)))))))
set_option maxRecDepth 20000 in
theorem inown_k_aSumEnd : ∀ w ∈ own_k_aSumEnd, w ∈ lw_tbl := mem_places [1062, 1064, 19, 111, 337, 1043, 1045, 15, 333, 1039, 1040, 1041, 112, 336, 1074, 1076, 22] (by decide +kernel)
set_option maxRecDepth 20000 in
theorem in_k_aSumEnd : ∀ w ∈ wp_k_aSumEnd, w ∈ lw_tbl := List.forall_mem_cons.mpr ⟨List.mem_of_getElem? (i := 1073) (by decide +kernel), List.forall_mem_append.mpr ⟨inown_k_aSumEnd, List.forall_mem_append.mpr ⟨in_k_release, List.forall_mem_append.mpr ⟨in_k_refuse, List.forall_mem_append.mpr ⟨in_k_padd, List.forall_mem_append.mpr ⟨in_k_open, List.forall_mem_append.mpr ⟨lwb_X6, fun _ h => absurd h List.not_mem_nil⟩⟩⟩⟩⟩⟩⟩
set_option maxRecDepth 20000 in
theorem good_k_aSumEnd : wp_k_aSumEnd.all goodWord = true := by decide +kernel
set_option maxRecDepth 20000 in
theorem g_k_aSumEnd_k_release_128 : GoodIn wp_k_aSumEnd (wsV RX6 128 RX6 yX6_release wp_k_release) := goodIn_sub (List.forall_mem_append.mpr ⟨List.forall_mem_cons.mpr ⟨(List.mem_of_getElem? (i := 1) rfl), List.forall_mem_cons.mpr ⟨(List.mem_of_getElem? (i := 2) rfl), List.forall_mem_cons.mpr ⟨(List.mem_of_getElem? (i := 3) rfl), List.forall_mem_cons.mpr ⟨(List.mem_of_getElem? (i := 4) rfl), fun _ h => absurd h List.not_mem_nil⟩⟩⟩⟩, (fun _ h => (List.mem_cons_of_mem _ (List.mem_append_right _ (List.mem_append_left _ h))))⟩) (by decide +kernel)
set_option maxRecDepth 20000 in
theorem g_k_aSumEnd_k_refuse_112 : GoodIn wp_k_aSumEnd (wsV RX6 112 RX6 yX6_refuse wp_k_refuse) := goodIn_sub (List.forall_mem_append.mpr ⟨List.forall_mem_cons.mpr ⟨(List.mem_of_getElem? (i := 6) rfl), List.forall_mem_cons.mpr ⟨(List.mem_of_getElem? (i := 7) rfl), List.forall_mem_cons.mpr ⟨(List.mem_of_getElem? (i := 8) rfl), List.forall_mem_cons.mpr ⟨(List.mem_of_getElem? (i := 4) rfl), fun _ h => absurd h List.not_mem_nil⟩⟩⟩⟩, (fun _ h => (List.mem_cons_of_mem _ (List.mem_append_right _ (List.mem_append_right _ (List.mem_append_left _ h)))))⟩) (by decide +kernel)
set_option maxRecDepth 20000 in
theorem g_k_aSumEnd_k_padd_118 : GoodIn wp_k_aSumEnd (wsV RX6 118 RX7 yX7_add wp_k_padd) := goodIn_sub (List.forall_mem_append.mpr ⟨List.forall_mem_cons.mpr ⟨(List.mem_of_getElem? (i := 10) rfl), List.forall_mem_cons.mpr ⟨(List.mem_of_getElem? (i := 11) rfl), List.forall_mem_cons.mpr ⟨(List.mem_of_getElem? (i := 12) rfl), List.forall_mem_cons.mpr ⟨(List.mem_of_getElem? (i := 13) rfl), fun _ h => absurd h List.not_mem_nil⟩⟩⟩⟩, (fun _ h => (List.mem_cons_of_mem _ (List.mem_append_right _ (List.mem_append_right _ (List.mem_append_right _ (List.mem_append_left _ h))))))⟩) (by decide +kernel)
set_option maxRecDepth 20000 in
theorem g_k_aSumEnd_k_open_137 : GoodIn wp_k_aSumEnd (wsV RX6 137 RX6 yX6_open wp_k_open) := goodIn_sub (List.forall_mem_append.mpr ⟨List.forall_mem_cons.mpr ⟨(List.mem_of_getElem? (i := 15) rfl), List.forall_mem_cons.mpr ⟨(List.mem_of_getElem? (i := 16) rfl), List.forall_mem_cons.mpr ⟨(List.mem_of_getElem? (i := 17) rfl), List.forall_mem_cons.mpr ⟨(List.mem_of_getElem? (i := 4) rfl), fun _ h => absurd h List.not_mem_nil⟩⟩⟩⟩, (fun _ h => (List.mem_cons_of_mem _ (List.mem_append_right _ (List.mem_append_right _ (List.mem_append_right _ (List.mem_append_right _ (List.mem_append_left _ h)))))))⟩) (by decide +kernel)
set_option maxHeartbeats 4000000 in
set_option maxRecDepth 100000 in
theorem k_aSumEnd (l : Launch) (D : va_G) (sz : Nat) (oq : Nat → Nat) (cI : ClassId) (qf : Int32) (qp : Int32) (qd : Int32) (qs : Int32) (qt : Int32) (qb : Int32) (qh : Int32) (qr : Int32) (qn : Int32) (bk : Nat) (wz : Nat) (fO : Nat → Int32) (fW : Nat → Int32) (pz : Nat) (fK : Nat → Int32) (fN : Nat → Int32) (fL : Nat → Int32) (tx : Value) (zl : Int32) (ta : Int32) (be : Int32) (ki : Int32) (nu : Int32) (wo : Int32) (z1 : Int32) (hbk : bk ≤ 5) (hwz : wz ≤ 600) (hpz : pz ≤ 600) : Met l yX6_acceptSumEnd wp_k_aSumEnd ({ frames := 2, cells := 0, slots := 0, locals := 61 }) (PcWC D [.ref (oq 0), .int z1] sz [(oq 0, .inr (6, gPs oq qf qp qd qs qt qb qh qr qn (nI bk) (nI wz))), (oq 6, .inl (cI, 5, .inl fO)), (oq 7, .inl (cI, 600, .inl fW)), (oq 1, .inr (7, [.int (nI pz), .ref (oq 2), .ref (oq 3), .ref (oq 4)])), (oq 2, .inl (cI, 600, .inl fK)), (oq 3, .inl (cI, 600, .inl fN)), (oq 4, .inl (cI, 600, .inl fL)), (oq 5, .inr (8, [tx, .int zl, .int ta, .int be, .int ki, .int nu, .int wo]))] [(cI, .int)]) (va_Qv (fun (u : (Int32) × (Int32) × (Int32) × (Int32) × (Int32) × (Int32) × (Int32) × (Int32) × (Int32) × (Nat) × (Nat) × (Nat → Int32) × (Nat → Int32) × (Nat) × (Nat → Int32) × (Nat → Int32) × (Nat → Int32)) => u.2.2.2.2.2.2.2.2.2.1 ≤ 5 ∧ u.2.2.2.2.2.2.2.2.2.2.1 ≤ 600 ∧ u.2.2.2.2.2.2.2.2.2.2.2.2.2.1 ≤ 600) (fun (u : (Int32) × (Int32) × (Int32) × (Int32) × (Int32) × (Int32) × (Int32) × (Int32) × (Int32) × (Nat) × (Nat) × (Nat → Int32) × (Nat → Int32) × (Nat) × (Nat → Int32) × (Nat → Int32) × (Nat → Int32)) t => va_P D vwCl [(oq 0, .inr (6, gPs oq u.1 u.2.1 u.2.2.1 u.2.2.2.1 u.2.2.2.2.1 u.2.2.2.2.2.1 u.2.2.2.2.2.2.1 u.2.2.2.2.2.2.2.1 u.2.2.2.2.2.2.2.2.1 (nI u.2.2.2.2.2.2.2.2.2.1) (nI u.2.2.2.2.2.2.2.2.2.2.1))), (oq 6, .inl (cI, 5, .inl u.2.2.2.2.2.2.2.2.2.2.2.1)), (oq 7, .inl (cI, 600, .inl u.2.2.2.2.2.2.2.2.2.2.2.2.1)), (oq 1, .inr (7, [.int (nI u.2.2.2.2.2.2.2.2.2.2.2.2.2.1), .ref (oq 2), .ref (oq 3), .ref (oq 4)])), (oq 2, .inl (cI, 600, .inl u.2.2.2.2.2.2.2.2.2.2.2.2.2.2.1)), (oq 3, .inl (cI, 600, .inl u.2.2.2.2.2.2.2.2.2.2.2.2.2.2.2.1)), (oq 4, .inl (cI, 600, .inl u.2.2.2.2.2.2.2.2.2.2.2.2.2.2.2.2)), (oq 5, .inr (8, [tx, .int zl, .int ta, .int be, .int ki, .int nu, .int wo]))] t.heap ∧ va_K D vwCl [(cI, .int)] t ∧ va_D (va_A [(oq 0, .inr (6, gPs oq qf qp qd qs qt qb qh qr qn (nI bk) (nI wz))), (oq 6, .inl (cI, 5, .inl fO)), (oq 7, .inl (cI, 600, .inl fW)), (oq 1, .inr (7, [.int (nI pz), .ref (oq 2), .ref (oq 3), .ref (oq 4)])), (oq 2, .inl (cI, 600, .inl fK)), (oq 3, .inl (cI, 600, .inl fN)), (oq 4, .inl (cI, 600, .inl fL)), (oq 5, .inr (8, [tx, .int zl, .int ta, .int be, .int ki, .int nu, .int wo]))] sz) [(oq 0, .inr (6, gPs oq u.1 u.2.1 u.2.2.1 u.2.2.2.1 u.2.2.2.2.1 u.2.2.2.2.2.1 u.2.2.2.2.2.2.1 u.2.2.2.2.2.2.2.1 u.2.2.2.2.2.2.2.2.1 (nI u.2.2.2.2.2.2.2.2.2.1) (nI u.2.2.2.2.2.2.2.2.2.2.1))), (oq 6, .inl (cI, 5, .inl u.2.2.2.2.2.2.2.2.2.2.2.1)), (oq 7, .inl (cI, 600, .inl u.2.2.2.2.2.2.2.2.2.2.2.2.1)), (oq 1, .inr (7, [.int (nI u.2.2.2.2.2.2.2.2.2.2.2.2.2.1), .ref (oq 2), .ref (oq 3), .ref (oq 4)])), (oq 2, .inl (cI, 600, .inl u.2.2.2.2.2.2.2.2.2.2.2.2.2.2.1)), (oq 3, .inl (cI, 600, .inl u.2.2.2.2.2.2.2.2.2.2.2.2.2.2.2.1)), (oq 4, .inl (cI, 600, .inl u.2.2.2.2.2.2.2.2.2.2.2.2.2.2.2.2)), (oq 5, .inr (8, [tx, .int zl, .int ta, .int be, .int ki, .int nu, .int wo]))]) (va_A [(oq 0, .inr (6, gPs oq qf qp qd qs qt qb qh qr qn (nI bk) (nI wz))), (oq 6, .inl (cI, 5, .inl fO)), (oq 7, .inl (cI, 600, .inl fW)), (oq 1, .inr (7, [.int (nI pz), .ref (oq 2), .ref (oq 3), .ref (oq 4)])), (oq 2, .inl (cI, 600, .inl fK)), (oq 3, .inl (cI, 600, .inl fN)), (oq 4, .inl (cI, 600, .inl fL)), (oq 5, .inr (8, [tx, .int zl, .int ta, .int be, .int ki, .int nu, .int wo]))] sz)) 0 0 (va_A [(oq 0, .inr (6, gPs oq qf qp qd qs qt qb qh qr qn (nI bk) (nI wz))), (oq 6, .inl (cI, 5, .inl fO)), (oq 7, .inl (cI, 600, .inl fW)), (oq 1, .inr (7, [.int (nI pz), .ref (oq 2), .ref (oq 3), .ref (oq 4)])), (oq 2, .inl (cI, 600, .inl fK)), (oq 3, .inl (cI, 600, .inl fN)), (oq 4, .inl (cI, 600, .inl fL)), (oq 5, .inr (8, [tx, .int zl, .int ta, .int be, .int ki, .int nu, .int wo]))] sz) := by
  refine Met.ofW (cc := cX6_acceptSumEnd) (maxL := 2) (ret := none) (by decide) rfl ?_
  intro p e s m args below meth c s₁ B hml hv
  obtain ⟨rfl, hsz, hP, hK, hD0, hN⟩ := hv
  have hx := B.exec
  have hb := B.bytes
  have hr := B.returns
  have hts := atoms_spec (ws := wp_k_aSumEnd) B.pre
  have hin_X6 : ∀ w ∈ wsX60, w ∈ wp_k_aSumEnd := fun _ h => (List.mem_cons_of_mem _ (List.mem_append_right _ (List.mem_append_right _ (List.mem_append_right _ (List.mem_append_right _ (List.mem_append_right _ (List.mem_append_left _ h)))))))
  have hown : s.vm.findClass RX6 = some m.cls := findClass_of_methodNamed B.named
  have hlocks := B.notSynchronized
  subst hsz
  have hD := hD0.self (sz := s.heap.size)
  generalize hAe : va_A [(oq 0, .inr (6, gPs oq qf qp qd qs qt qb qh qr qn (nI bk) (nI wz))), (oq 6, .inl (cI, 5, .inl fO)), (oq 7, .inl (cI, 600, .inl fW)), (oq 1, .inr (7, [.int (nI pz), .ref (oq 2), .ref (oq 3), .ref (oq 4)])), (oq 2, .inl (cI, 600, .inl fK)), (oq 3, .inl (cI, 600, .inl fN)), (oq 4, .inl (cI, 600, .inl fL)), (oq 5, .inr (8, [tx, .int zl, .int ta, .int be, .int ki, .int nu, .int wo]))] s.heap.size = A at hD ⊢
  have hA : ∀ q : Nat, s.heap.size ≤ q → A q := fun q h => by rw [← hAe]; exact Or.inr h
  have hS : va_S A s.heap s.heap [] := va_S.rf
  have hP : va_P D vwCl [(oq 0, .inr (6, gPs oq qf qp qd qs qt qb qh qr qn (nI bk) (nI wz))), (oq 6, .inl (cI, 5, .inl fO)), (oq 7, .inl (cI, 600, .inl fW)), (oq 1, .inr (7, [.int (nI pz), .ref (oq 2), .ref (oq 3), .ref (oq 4)])), (oq 2, .inl (cI, 600, .inl fK)), (oq 3, .inl (cI, 600, .inl fN)), (oq 4, .inl (cI, 600, .inl fL)), (oq 5, .inr (8, [tx, .int zl, .int ta, .int be, .int ki, .int nu, .int wo]))] s.heap := hP
  have hl := lv_entry ([.ref (oq 0), .int z1]) (n := 2) (Nat.le_of_ble_eq_true rfl)
  rw [lg_entry_eq]
  generalize (lg_sl ([.ref (oq 0), .int z1]) ++ List.replicate (2 - (lg_sl ([.ref (oq 0), .int z1])).length) Slot.unset).toArray = ls at hl ⊢
  have hl : lv_has ls 2 [(0, .ref (oq 0)), (1, .int z1)] := hl
  refine lv_aload_n hx hb dX6_acceptSumEnd_0 rfl (lv_at hl 0 rfl) ?_
  refine lv_iconst (v := 1) hx hb dX6_acceptSumEnd_1 (by decide) ?_
  have hPc := hP.sub (ws' := [(oq 0, .inr (6, gPs oq qf qp qd qs qt qb qh qr qn (nI bk) (nI wz))), (oq 6, .inl (cI, 5, .inl fO)), (oq 7, .inl (cI, 600, .inl fW)), (oq 1, .inr (7, [.int (nI pz), .ref (oq 2), .ref (oq 3), .ref (oq 4)])), (oq 2, .inl (cI, 600, .inl fK)), (oq 3, .inl (cI, 600, .inl fN)), (oq 4, .inl (cI, 600, .inl fL)), (oq 5, .inr (8, [tx, .int zl, .int ta, .int be, .int ki, .int nu, .int wo]))]) [0, 1, 2, 3, 4, 5, 6, 7] rfl
  have hKc := hK.sub (tys' := [(cI, .int)]) [0] rfl
  have hDc := hD.sub (ws' := [(oq 0, .inr (6, gPs oq qf qp qd qs qt qb qh qr qn (nI bk) (nI wz))), (oq 6, .inl (cI, 5, .inl fO)), (oq 7, .inl (cI, 600, .inl fW)), (oq 1, .inr (7, [.int (nI pz), .ref (oq 2), .ref (oq 3), .ref (oq 4)])), (oq 2, .inl (cI, 600, .inl fK)), (oq 3, .inl (cI, 600, .inl fN)), (oq 4, .inl (cI, 600, .inl fL)), (oq 5, .inr (8, [tx, .int zl, .int ta, .int be, .int ki, .int nu, .int wo]))]) [0, 1, 2, 3, 4, 5, 6, 7] (by decide) rfl
  have hFc := va_free (wc := [(oq 0, .inr (6, gPs oq qf qp qd qs qt qb qh qr qn (nI bk) (nI wz))), (oq 6, .inl (cI, 5, .inl fO)), (oq 7, .inl (cI, 600, .inl fW)), (oq 1, .inr (7, [.int (nI pz), .ref (oq 2), .ref (oq 3), .ref (oq 4)])), (oq 2, .inl (cI, 600, .inl fK)), (oq 3, .inl (cI, 600, .inl fN)), (oq 4, .inl (cI, 600, .inl fL)), (oq 5, .inr (8, [tx, .int zl, .int ta, .int be, .int ki, .int nu, .int wo]))]) hD hS hA [0, 1, 2, 3, 4, 5, 6, 7] rfl
  refine va_callv (va_runV (As := [.int 1]) (rest := []) ⟨hx, hb, hml, hown, hts⟩ (k_release l D _ oq cI qf qp qd qs qt qb qh qr qn bk wz fO fW pz fK fN fL tx zl ta be ki nu wo 1 hbk hwz hpz) (cwV 1 hts g_k_aSumEnd_k_release_128 rfl rfl rfl (by decide +kernel) ⟨(Nat.le_of_ble_eq_true rfl), (Nat.le_of_ble_eq_true rfl)⟩) (PcWC_V (q0 := 0) hPc hKc hDc hN rfl rfl) rfl rfl hl.1 rfl (lv_room (Nat.le_of_ble_eq_true rfl)) dX6_acceptSumEnd_2 ⟨(Nat.le_of_ble_eq_true rfl), (Nat.le_of_ble_eq_true rfl)⟩) hS (fun q _ h => hFc q h) hFc (fun uu tt H locs htt hvm hw hB hz1 hk1 hS => ?_)
  obtain ⟨w2, w3, w4, w5, w6, w7, w8, w9, w10, w11, w12, w13, w14, w15, w16, w17, w18⟩ := uu
  obtain ⟨hP1, hK1, hD1⟩ := hB
  rw [htt] at hP1
  have hK1 := va_K.moved hvm.symm hK1
  have hP1 : va_P D vwCl [(oq 0, .inr (6, gPs oq w2 w3 w4 w5 w6 w7 w8 w9 w10 (nI w11) (nI w12))), (oq 6, .inl (cI, 5, .inl w13)), (oq 7, .inl (cI, 600, .inl w14)), (oq 1, .inr (7, [.int (nI w15), .ref (oq 2), .ref (oq 3), .ref (oq 4)])), (oq 2, .inl (cI, 600, .inl w16)), (oq 3, .inl (cI, 600, .inl w17)), (oq 4, .inl (cI, 600, .inl w18)), (oq 5, .inr (8, [tx, .int zl, .int ta, .int be, .int ki, .int nu, .int wo]))] H := hP1
  obtain ⟨hP, hD⟩ := va_join (wr := []) (w1 := [(oq 0, .inr (6, gPs oq w2 w3 w4 w5 w6 w7 w8 w9 w10 (nI w11) (nI w12))), (oq 6, .inl (cI, 5, .inl w13)), (oq 7, .inl (cI, 600, .inl w14)), (oq 1, .inr (7, [.int (nI w15), .ref (oq 2), .ref (oq 3), .ref (oq 4)])), (oq 2, .inl (cI, 600, .inl w16)), (oq 3, .inl (cI, 600, .inl w17)), (oq 4, .inl (cI, 600, .inl w18)), (oq 5, .inr (8, [tx, .int zl, .int ta, .int be, .int ki, .int nu, .int wo]))]) hP hD [0, 1, 2, 3, 4, 5, 6, 7] [] rfl rfl (by decide) (by decide) hk1 hFc hP1 hD1
  have hP : va_P D vwCl [(oq 0, .inr (6, gPs oq w2 w3 w4 w5 w6 w7 w8 w9 w10 (nI w11) (nI w12))), (oq 6, .inl (cI, 5, .inl w13)), (oq 7, .inl (cI, 600, .inl w14)), (oq 1, .inr (7, [.int (nI w15), .ref (oq 2), .ref (oq 3), .ref (oq 4)])), (oq 2, .inl (cI, 600, .inl w16)), (oq 3, .inl (cI, 600, .inl w17)), (oq 4, .inl (cI, 600, .inl w18)), (oq 5, .inr (8, [tx, .int zl, .int ta, .int be, .int ki, .int nu, .int wo]))] H := hP
  have hD : va_D A [(oq 0, .inr (6, gPs oq w2 w3 w4 w5 w6 w7 w8 w9 w10 (nI w11) (nI w12))), (oq 6, .inl (cI, 5, .inl w13)), (oq 7, .inl (cI, 600, .inl w14)), (oq 1, .inr (7, [.int (nI w15), .ref (oq 2), .ref (oq 3), .ref (oq 4)])), (oq 2, .inl (cI, 600, .inl w16)), (oq 3, .inl (cI, 600, .inl w17)), (oq 4, .inl (cI, 600, .inl w18)), (oq 5, .inr (8, [tx, .int zl, .int ta, .int be, .int ki, .int nu, .int wo]))] := hD
  try dsimp only at hw
  clear hz1 hk1 hFc hPc hKc hDc
  obtain ⟨hx19_1, hx19_2, hx19_3⟩ := hw
  refine lv_aload_n hx hb dX6_acceptSumEnd_5 rfl (lv_at hl 0 rfl) ?_
  refine va_get (D := D) (ci := 6) (v := .int w6) (C := RX6) (T := TX6) (N := 15) hx hb hts hin_X6 hown hK hP 0 rfl rfl 6 (by decide) (hts (.fieldLink RX6 103 "ClashFree$Parser" "statement" "I") (List.mem_of_getElem? (i := 5) rfl)) (fun _ h9 => h9) rfl dX6_acceptSumEnd_6 ?_
  refine lv_iconst (v := 3) hx hb dX6_acceptSumEnd_9 (by decide) ?_
  refine lv_icmp_ne (tgt := 31) hx hb dX6_acceptSumEnd_10 (by decide) (fun hc20 => ?_) (fun hc20 => ?_)
  ·
    refine lv_aload_n hx hb dX6_acceptSumEnd_31 rfl (lv_at hl 0 rfl) ?_
    refine va_get (D := D) (ci := 6) (v := .int w6) (C := RX6) (T := TX6) (N := 15) hx hb hts hin_X6 hown hK hP 0 rfl rfl 6 (by decide) (hts (.fieldLink RX6 103 "ClashFree$Parser" "statement" "I") (List.mem_of_getElem? (i := 5) rfl)) (fun _ h9 => h9) rfl dX6_acceptSumEnd_32 ?_
    refine lv_bipush (v := 9) hx hb dX6_acceptSumEnd_35 (by decide) ?_
    refine lv_icmp_ne (tgt := 56) hx hb dX6_acceptSumEnd_37 (by decide) (fun hc21 => ?_) (fun hc21 => ?_)
    ·
      refine lv_aload_n hx hb dX6_acceptSumEnd_56 rfl (lv_at hl 0 rfl) ?_
      refine va_get (D := D) (ci := 6) (v := .int w6) (C := RX6) (T := TX6) (N := 15) hx hb hts hin_X6 hown hK hP 0 rfl rfl 6 (by decide) (hts (.fieldLink RX6 103 "ClashFree$Parser" "statement" "I") (List.mem_of_getElem? (i := 5) rfl)) (fun _ h9 => h9) rfl dX6_acceptSumEnd_57 ?_
      refine lv_iconst (v := 3) hx hb dX6_acceptSumEnd_60 (by decide) ?_
      refine lv_icmp_eq (tgt := 111) hx hb dX6_acceptSumEnd_61 (by decide) (fun hc22 => ?_) (fun hc22 => ?_)
      ·
        refine lv_aload_n hx hb dX6_acceptSumEnd_111 rfl (lv_at hl 0 rfl) ?_
        have hPc := hP.sub (ws' := [(oq 0, .inr (6, gPs oq w2 w3 w4 w5 w6 w7 w8 w9 w10 (nI w11) (nI w12))), (oq 6, .inl (cI, 5, .inl w13)), (oq 7, .inl (cI, 600, .inl w14)), (oq 1, .inr (7, [.int (nI w15), .ref (oq 2), .ref (oq 3), .ref (oq 4)])), (oq 2, .inl (cI, 600, .inl w16)), (oq 3, .inl (cI, 600, .inl w17)), (oq 4, .inl (cI, 600, .inl w18)), (oq 5, .inr (8, [tx, .int zl, .int ta, .int be, .int ki, .int nu, .int wo]))]) [0, 1, 2, 3, 4, 5, 6, 7] rfl
        have hKc := hK.sub (tys' := [(cI, .int)]) [0] rfl
        have hDc := hD.sub (ws' := [(oq 0, .inr (6, gPs oq w2 w3 w4 w5 w6 w7 w8 w9 w10 (nI w11) (nI w12))), (oq 6, .inl (cI, 5, .inl w13)), (oq 7, .inl (cI, 600, .inl w14)), (oq 1, .inr (7, [.int (nI w15), .ref (oq 2), .ref (oq 3), .ref (oq 4)])), (oq 2, .inl (cI, 600, .inl w16)), (oq 3, .inl (cI, 600, .inl w17)), (oq 4, .inl (cI, 600, .inl w18)), (oq 5, .inr (8, [tx, .int zl, .int ta, .int be, .int ki, .int nu, .int wo]))]) [0, 1, 2, 3, 4, 5, 6, 7] (by decide) rfl
        have hFc := va_free (wc := [(oq 0, .inr (6, gPs oq w2 w3 w4 w5 w6 w7 w8 w9 w10 (nI w11) (nI w12))), (oq 6, .inl (cI, 5, .inl w13)), (oq 7, .inl (cI, 600, .inl w14)), (oq 1, .inr (7, [.int (nI w15), .ref (oq 2), .ref (oq 3), .ref (oq 4)])), (oq 2, .inl (cI, 600, .inl w16)), (oq 3, .inl (cI, 600, .inl w17)), (oq 4, .inl (cI, 600, .inl w18)), (oq 5, .inr (8, [tx, .int zl, .int ta, .int be, .int ki, .int nu, .int wo]))]) hD hS hA [0, 1, 2, 3, 4, 5, 6, 7] rfl
        refine va_callv (va_runV (As := []) (rest := []) ⟨hx, hb, hml, hown, hts⟩ (k_refuse l D _ oq cI w2 w3 w4 w5 w6 w7 w8 w9 w10 w11 w12 w13 w14 w15 w16 w17 w18 tx zl ta be ki nu wo hx19_1 hx19_2 hx19_3) (cwV 0 hts g_k_aSumEnd_k_refuse_112 rfl rfl rfl (by decide +kernel) ⟨(Nat.le_of_ble_eq_true rfl), (Nat.le_of_ble_eq_true rfl)⟩) (PcWC_V (q0 := 0) hPc hKc hDc hN rfl rfl) rfl rfl hl.1 rfl (lv_room (Nat.le_of_ble_eq_true rfl)) dX6_acceptSumEnd_112 ⟨(Nat.le_of_ble_eq_true rfl), (Nat.le_of_ble_eq_true rfl)⟩) hS (fun q _ h => hFc q h) hFc (fun uu tt H locs htt hvm hw hB hz1 hk1 hS => ?_)
        obtain ⟨w24, w25, w26, w27, w28, w29, w30, w31, w32, w33, w34, w35, w36, w37, w38, w39, w40⟩ := uu
        obtain ⟨hP1, hK1, hD1⟩ := hB
        rw [htt] at hP1
        have hK1 := va_K.moved hvm.symm hK1
        have hP1 : va_P D vwCl [(oq 0, .inr (6, gPs oq w24 w25 w26 w27 w28 w29 w30 w31 w32 (nI w33) (nI w34))), (oq 6, .inl (cI, 5, .inl w35)), (oq 7, .inl (cI, 600, .inl w36)), (oq 1, .inr (7, [.int (nI w37), .ref (oq 2), .ref (oq 3), .ref (oq 4)])), (oq 2, .inl (cI, 600, .inl w38)), (oq 3, .inl (cI, 600, .inl w39)), (oq 4, .inl (cI, 600, .inl w40)), (oq 5, .inr (8, [tx, .int zl, .int ta, .int be, .int ki, .int nu, .int wo]))] H := hP1
        obtain ⟨hP, hD⟩ := va_join (wr := []) (w1 := [(oq 0, .inr (6, gPs oq w24 w25 w26 w27 w28 w29 w30 w31 w32 (nI w33) (nI w34))), (oq 6, .inl (cI, 5, .inl w35)), (oq 7, .inl (cI, 600, .inl w36)), (oq 1, .inr (7, [.int (nI w37), .ref (oq 2), .ref (oq 3), .ref (oq 4)])), (oq 2, .inl (cI, 600, .inl w38)), (oq 3, .inl (cI, 600, .inl w39)), (oq 4, .inl (cI, 600, .inl w40)), (oq 5, .inr (8, [tx, .int zl, .int ta, .int be, .int ki, .int nu, .int wo]))]) hP hD [0, 1, 2, 3, 4, 5, 6, 7] [] rfl rfl (by decide) (by decide) hk1 hFc hP1 hD1
        have hP : va_P D vwCl [(oq 0, .inr (6, gPs oq w24 w25 w26 w27 w28 w29 w30 w31 w32 (nI w33) (nI w34))), (oq 6, .inl (cI, 5, .inl w35)), (oq 7, .inl (cI, 600, .inl w36)), (oq 1, .inr (7, [.int (nI w37), .ref (oq 2), .ref (oq 3), .ref (oq 4)])), (oq 2, .inl (cI, 600, .inl w38)), (oq 3, .inl (cI, 600, .inl w39)), (oq 4, .inl (cI, 600, .inl w40)), (oq 5, .inr (8, [tx, .int zl, .int ta, .int be, .int ki, .int nu, .int wo]))] H := hP
        have hD : va_D A [(oq 0, .inr (6, gPs oq w24 w25 w26 w27 w28 w29 w30 w31 w32 (nI w33) (nI w34))), (oq 6, .inl (cI, 5, .inl w35)), (oq 7, .inl (cI, 600, .inl w36)), (oq 1, .inr (7, [.int (nI w37), .ref (oq 2), .ref (oq 3), .ref (oq 4)])), (oq 2, .inl (cI, 600, .inl w38)), (oq 3, .inl (cI, 600, .inl w39)), (oq 4, .inl (cI, 600, .inl w40)), (oq 5, .inr (8, [tx, .int zl, .int ta, .int be, .int ki, .int nu, .int wo]))] := hD
        try dsimp only at hw
        clear hz1 hk1 hFc hPc hKc hDc
        obtain ⟨hx41_1, hx41_2, hx41_3⟩ := hw
        exact W.vret hx hb hr (fun t ht hW => ⟨⟨(w24, w25, w26, w27, w28, w29, w30, w31, w32, w33, w34, w35, w36, w37, w38, w39, w40), rfl, (by (try dsimp only); first | done | exact ⟨by omega, by omega, by omega⟩), by rw [ht]; exact hP.sub [0, 1, 2, 3, 4, 5, 6, 7] rfl, va_K.moved hW.alike (hK.sub [0] rfl), hD.sub [0, 1, 2, 3, 4, 5, 6, 7] (by decide) rfl⟩, hS.F ht⟩) hS.2.2 dX6_acceptSumEnd_115
      ·
        refine lv_aload_n hx hb dX6_acceptSumEnd_64 rfl (lv_at hl 0 rfl) ?_
        refine va_get (D := D) (ci := 6) (v := .int w6) (C := RX6) (T := TX6) (N := 15) hx hb hts hin_X6 hown hK hP 0 rfl rfl 6 (by decide) (hts (.fieldLink RX6 103 "ClashFree$Parser" "statement" "I") (List.mem_of_getElem? (i := 5) rfl)) (fun _ h9 => h9) rfl dX6_acceptSumEnd_65 ?_
        refine lv_bipush (v := 9) hx hb dX6_acceptSumEnd_68 (by decide) ?_
        refine lv_icmp_eq (tgt := 111) hx hb dX6_acceptSumEnd_70 (by decide) (fun hc42 => ?_) (fun hc42 => ?_)
        ·
          refine lv_aload_n hx hb dX6_acceptSumEnd_111 rfl (lv_at hl 0 rfl) ?_
          have hPc := hP.sub (ws' := [(oq 0, .inr (6, gPs oq w2 w3 w4 w5 w6 w7 w8 w9 w10 (nI w11) (nI w12))), (oq 6, .inl (cI, 5, .inl w13)), (oq 7, .inl (cI, 600, .inl w14)), (oq 1, .inr (7, [.int (nI w15), .ref (oq 2), .ref (oq 3), .ref (oq 4)])), (oq 2, .inl (cI, 600, .inl w16)), (oq 3, .inl (cI, 600, .inl w17)), (oq 4, .inl (cI, 600, .inl w18)), (oq 5, .inr (8, [tx, .int zl, .int ta, .int be, .int ki, .int nu, .int wo]))]) [0, 1, 2, 3, 4, 5, 6, 7] rfl
          have hKc := hK.sub (tys' := [(cI, .int)]) [0] rfl
          have hDc := hD.sub (ws' := [(oq 0, .inr (6, gPs oq w2 w3 w4 w5 w6 w7 w8 w9 w10 (nI w11) (nI w12))), (oq 6, .inl (cI, 5, .inl w13)), (oq 7, .inl (cI, 600, .inl w14)), (oq 1, .inr (7, [.int (nI w15), .ref (oq 2), .ref (oq 3), .ref (oq 4)])), (oq 2, .inl (cI, 600, .inl w16)), (oq 3, .inl (cI, 600, .inl w17)), (oq 4, .inl (cI, 600, .inl w18)), (oq 5, .inr (8, [tx, .int zl, .int ta, .int be, .int ki, .int nu, .int wo]))]) [0, 1, 2, 3, 4, 5, 6, 7] (by decide) rfl
          have hFc := va_free (wc := [(oq 0, .inr (6, gPs oq w2 w3 w4 w5 w6 w7 w8 w9 w10 (nI w11) (nI w12))), (oq 6, .inl (cI, 5, .inl w13)), (oq 7, .inl (cI, 600, .inl w14)), (oq 1, .inr (7, [.int (nI w15), .ref (oq 2), .ref (oq 3), .ref (oq 4)])), (oq 2, .inl (cI, 600, .inl w16)), (oq 3, .inl (cI, 600, .inl w17)), (oq 4, .inl (cI, 600, .inl w18)), (oq 5, .inr (8, [tx, .int zl, .int ta, .int be, .int ki, .int nu, .int wo]))]) hD hS hA [0, 1, 2, 3, 4, 5, 6, 7] rfl
          refine va_callv (va_runV (As := []) (rest := []) ⟨hx, hb, hml, hown, hts⟩ (k_refuse l D _ oq cI w2 w3 w4 w5 w6 w7 w8 w9 w10 w11 w12 w13 w14 w15 w16 w17 w18 tx zl ta be ki nu wo hx19_1 hx19_2 hx19_3) (cwV 0 hts g_k_aSumEnd_k_refuse_112 rfl rfl rfl (by decide +kernel) ⟨(Nat.le_of_ble_eq_true rfl), (Nat.le_of_ble_eq_true rfl)⟩) (PcWC_V (q0 := 0) hPc hKc hDc hN rfl rfl) rfl rfl hl.1 rfl (lv_room (Nat.le_of_ble_eq_true rfl)) dX6_acceptSumEnd_112 ⟨(Nat.le_of_ble_eq_true rfl), (Nat.le_of_ble_eq_true rfl)⟩) hS (fun q _ h => hFc q h) hFc (fun uu tt H locs htt hvm hw hB hz1 hk1 hS => ?_)
          obtain ⟨w44, w45, w46, w47, w48, w49, w50, w51, w52, w53, w54, w55, w56, w57, w58, w59, w60⟩ := uu
          obtain ⟨hP1, hK1, hD1⟩ := hB
          rw [htt] at hP1
          have hK1 := va_K.moved hvm.symm hK1
          have hP1 : va_P D vwCl [(oq 0, .inr (6, gPs oq w44 w45 w46 w47 w48 w49 w50 w51 w52 (nI w53) (nI w54))), (oq 6, .inl (cI, 5, .inl w55)), (oq 7, .inl (cI, 600, .inl w56)), (oq 1, .inr (7, [.int (nI w57), .ref (oq 2), .ref (oq 3), .ref (oq 4)])), (oq 2, .inl (cI, 600, .inl w58)), (oq 3, .inl (cI, 600, .inl w59)), (oq 4, .inl (cI, 600, .inl w60)), (oq 5, .inr (8, [tx, .int zl, .int ta, .int be, .int ki, .int nu, .int wo]))] H := hP1
          obtain ⟨hP, hD⟩ := va_join (wr := []) (w1 := [(oq 0, .inr (6, gPs oq w44 w45 w46 w47 w48 w49 w50 w51 w52 (nI w53) (nI w54))), (oq 6, .inl (cI, 5, .inl w55)), (oq 7, .inl (cI, 600, .inl w56)), (oq 1, .inr (7, [.int (nI w57), .ref (oq 2), .ref (oq 3), .ref (oq 4)])), (oq 2, .inl (cI, 600, .inl w58)), (oq 3, .inl (cI, 600, .inl w59)), (oq 4, .inl (cI, 600, .inl w60)), (oq 5, .inr (8, [tx, .int zl, .int ta, .int be, .int ki, .int nu, .int wo]))]) hP hD [0, 1, 2, 3, 4, 5, 6, 7] [] rfl rfl (by decide) (by decide) hk1 hFc hP1 hD1
          have hP : va_P D vwCl [(oq 0, .inr (6, gPs oq w44 w45 w46 w47 w48 w49 w50 w51 w52 (nI w53) (nI w54))), (oq 6, .inl (cI, 5, .inl w55)), (oq 7, .inl (cI, 600, .inl w56)), (oq 1, .inr (7, [.int (nI w57), .ref (oq 2), .ref (oq 3), .ref (oq 4)])), (oq 2, .inl (cI, 600, .inl w58)), (oq 3, .inl (cI, 600, .inl w59)), (oq 4, .inl (cI, 600, .inl w60)), (oq 5, .inr (8, [tx, .int zl, .int ta, .int be, .int ki, .int nu, .int wo]))] H := hP
          have hD : va_D A [(oq 0, .inr (6, gPs oq w44 w45 w46 w47 w48 w49 w50 w51 w52 (nI w53) (nI w54))), (oq 6, .inl (cI, 5, .inl w55)), (oq 7, .inl (cI, 600, .inl w56)), (oq 1, .inr (7, [.int (nI w57), .ref (oq 2), .ref (oq 3), .ref (oq 4)])), (oq 2, .inl (cI, 600, .inl w58)), (oq 3, .inl (cI, 600, .inl w59)), (oq 4, .inl (cI, 600, .inl w60)), (oq 5, .inr (8, [tx, .int zl, .int ta, .int be, .int ki, .int nu, .int wo]))] := hD
          try dsimp only at hw
          clear hz1 hk1 hFc hPc hKc hDc
          obtain ⟨hx61_1, hx61_2, hx61_3⟩ := hw
          exact W.vret hx hb hr (fun t ht hW => ⟨⟨(w44, w45, w46, w47, w48, w49, w50, w51, w52, w53, w54, w55, w56, w57, w58, w59, w60), rfl, (by (try dsimp only); first | done | exact ⟨by omega, by omega, by omega⟩), by rw [ht]; exact hP.sub [0, 1, 2, 3, 4, 5, 6, 7] rfl, va_K.moved hW.alike (hK.sub [0] rfl), hD.sub [0, 1, 2, 3, 4, 5, 6, 7] (by decide) rfl⟩, hS.F ht⟩) hS.2.2 dX6_acceptSumEnd_115
        ·
          refine lv_iload_n hx hb dX6_acceptSumEnd_73 rfl (lv_at hl 1 rfl) ?_
          refine lv_bipush (v := 59) hx hb dX6_acceptSumEnd_74 (by decide) ?_
          refine lv_icmp_ne (tgt := 111) hx hb dX6_acceptSumEnd_76 (by decide) (fun hc62 => ?_) (fun hc62 => ?_)
          ·
            refine lv_aload_n hx hb dX6_acceptSumEnd_111 rfl (lv_at hl 0 rfl) ?_
            have hPc := hP.sub (ws' := [(oq 0, .inr (6, gPs oq w2 w3 w4 w5 w6 w7 w8 w9 w10 (nI w11) (nI w12))), (oq 6, .inl (cI, 5, .inl w13)), (oq 7, .inl (cI, 600, .inl w14)), (oq 1, .inr (7, [.int (nI w15), .ref (oq 2), .ref (oq 3), .ref (oq 4)])), (oq 2, .inl (cI, 600, .inl w16)), (oq 3, .inl (cI, 600, .inl w17)), (oq 4, .inl (cI, 600, .inl w18)), (oq 5, .inr (8, [tx, .int zl, .int ta, .int be, .int ki, .int nu, .int wo]))]) [0, 1, 2, 3, 4, 5, 6, 7] rfl
            have hKc := hK.sub (tys' := [(cI, .int)]) [0] rfl
            have hDc := hD.sub (ws' := [(oq 0, .inr (6, gPs oq w2 w3 w4 w5 w6 w7 w8 w9 w10 (nI w11) (nI w12))), (oq 6, .inl (cI, 5, .inl w13)), (oq 7, .inl (cI, 600, .inl w14)), (oq 1, .inr (7, [.int (nI w15), .ref (oq 2), .ref (oq 3), .ref (oq 4)])), (oq 2, .inl (cI, 600, .inl w16)), (oq 3, .inl (cI, 600, .inl w17)), (oq 4, .inl (cI, 600, .inl w18)), (oq 5, .inr (8, [tx, .int zl, .int ta, .int be, .int ki, .int nu, .int wo]))]) [0, 1, 2, 3, 4, 5, 6, 7] (by decide) rfl
            have hFc := va_free (wc := [(oq 0, .inr (6, gPs oq w2 w3 w4 w5 w6 w7 w8 w9 w10 (nI w11) (nI w12))), (oq 6, .inl (cI, 5, .inl w13)), (oq 7, .inl (cI, 600, .inl w14)), (oq 1, .inr (7, [.int (nI w15), .ref (oq 2), .ref (oq 3), .ref (oq 4)])), (oq 2, .inl (cI, 600, .inl w16)), (oq 3, .inl (cI, 600, .inl w17)), (oq 4, .inl (cI, 600, .inl w18)), (oq 5, .inr (8, [tx, .int zl, .int ta, .int be, .int ki, .int nu, .int wo]))]) hD hS hA [0, 1, 2, 3, 4, 5, 6, 7] rfl
            refine va_callv (va_runV (As := []) (rest := []) ⟨hx, hb, hml, hown, hts⟩ (k_refuse l D _ oq cI w2 w3 w4 w5 w6 w7 w8 w9 w10 w11 w12 w13 w14 w15 w16 w17 w18 tx zl ta be ki nu wo hx19_1 hx19_2 hx19_3) (cwV 0 hts g_k_aSumEnd_k_refuse_112 rfl rfl rfl (by decide +kernel) ⟨(Nat.le_of_ble_eq_true rfl), (Nat.le_of_ble_eq_true rfl)⟩) (PcWC_V (q0 := 0) hPc hKc hDc hN rfl rfl) rfl rfl hl.1 rfl (lv_room (Nat.le_of_ble_eq_true rfl)) dX6_acceptSumEnd_112 ⟨(Nat.le_of_ble_eq_true rfl), (Nat.le_of_ble_eq_true rfl)⟩) hS (fun q _ h => hFc q h) hFc (fun uu tt H locs htt hvm hw hB hz1 hk1 hS => ?_)
            obtain ⟨w64, w65, w66, w67, w68, w69, w70, w71, w72, w73, w74, w75, w76, w77, w78, w79, w80⟩ := uu
            obtain ⟨hP1, hK1, hD1⟩ := hB
            rw [htt] at hP1
            have hK1 := va_K.moved hvm.symm hK1
            have hP1 : va_P D vwCl [(oq 0, .inr (6, gPs oq w64 w65 w66 w67 w68 w69 w70 w71 w72 (nI w73) (nI w74))), (oq 6, .inl (cI, 5, .inl w75)), (oq 7, .inl (cI, 600, .inl w76)), (oq 1, .inr (7, [.int (nI w77), .ref (oq 2), .ref (oq 3), .ref (oq 4)])), (oq 2, .inl (cI, 600, .inl w78)), (oq 3, .inl (cI, 600, .inl w79)), (oq 4, .inl (cI, 600, .inl w80)), (oq 5, .inr (8, [tx, .int zl, .int ta, .int be, .int ki, .int nu, .int wo]))] H := hP1
            obtain ⟨hP, hD⟩ := va_join (wr := []) (w1 := [(oq 0, .inr (6, gPs oq w64 w65 w66 w67 w68 w69 w70 w71 w72 (nI w73) (nI w74))), (oq 6, .inl (cI, 5, .inl w75)), (oq 7, .inl (cI, 600, .inl w76)), (oq 1, .inr (7, [.int (nI w77), .ref (oq 2), .ref (oq 3), .ref (oq 4)])), (oq 2, .inl (cI, 600, .inl w78)), (oq 3, .inl (cI, 600, .inl w79)), (oq 4, .inl (cI, 600, .inl w80)), (oq 5, .inr (8, [tx, .int zl, .int ta, .int be, .int ki, .int nu, .int wo]))]) hP hD [0, 1, 2, 3, 4, 5, 6, 7] [] rfl rfl (by decide) (by decide) hk1 hFc hP1 hD1
            have hP : va_P D vwCl [(oq 0, .inr (6, gPs oq w64 w65 w66 w67 w68 w69 w70 w71 w72 (nI w73) (nI w74))), (oq 6, .inl (cI, 5, .inl w75)), (oq 7, .inl (cI, 600, .inl w76)), (oq 1, .inr (7, [.int (nI w77), .ref (oq 2), .ref (oq 3), .ref (oq 4)])), (oq 2, .inl (cI, 600, .inl w78)), (oq 3, .inl (cI, 600, .inl w79)), (oq 4, .inl (cI, 600, .inl w80)), (oq 5, .inr (8, [tx, .int zl, .int ta, .int be, .int ki, .int nu, .int wo]))] H := hP
            have hD : va_D A [(oq 0, .inr (6, gPs oq w64 w65 w66 w67 w68 w69 w70 w71 w72 (nI w73) (nI w74))), (oq 6, .inl (cI, 5, .inl w75)), (oq 7, .inl (cI, 600, .inl w76)), (oq 1, .inr (7, [.int (nI w77), .ref (oq 2), .ref (oq 3), .ref (oq 4)])), (oq 2, .inl (cI, 600, .inl w78)), (oq 3, .inl (cI, 600, .inl w79)), (oq 4, .inl (cI, 600, .inl w80)), (oq 5, .inr (8, [tx, .int zl, .int ta, .int be, .int ki, .int nu, .int wo]))] := hD
            try dsimp only at hw
            clear hz1 hk1 hFc hPc hKc hDc
            obtain ⟨hx81_1, hx81_2, hx81_3⟩ := hw
            exact W.vret hx hb hr (fun t ht hW => ⟨⟨(w64, w65, w66, w67, w68, w69, w70, w71, w72, w73, w74, w75, w76, w77, w78, w79, w80), rfl, (by (try dsimp only); first | done | exact ⟨by omega, by omega, by omega⟩), by rw [ht]; exact hP.sub [0, 1, 2, 3, 4, 5, 6, 7] rfl, va_K.moved hW.alike (hK.sub [0] rfl), hD.sub [0, 1, 2, 3, 4, 5, 6, 7] (by decide) rfl⟩, hS.F ht⟩) hS.2.2 dX6_acceptSumEnd_115
          ·
            refine lv_aload_n hx hb dX6_acceptSumEnd_79 rfl (lv_at hl 0 rfl) ?_
            refine va_get (D := D) (ci := 6) (v := .ref (oq 1)) (C := RX6) (T := TX6) (N := 15) hx hb hts hin_X6 hown hK hP 0 rfl rfl 3 (by decide) (hts (.fieldLink RX6 12 "ClashFree$Parser" "program" "LClashFree$Program;") (List.mem_of_getElem? (i := 9) rfl)) (fun _ h9 => h9) rfl dX6_acceptSumEnd_80 ?_
            refine lv_aload_n hx hb dX6_acceptSumEnd_83 rfl (lv_at hl 0 rfl) ?_
            refine va_get (D := D) (ci := 6) (v := .int w6) (C := RX6) (T := TX6) (N := 15) hx hb hts hin_X6 hown hK hP 0 rfl rfl 6 (by decide) (hts (.fieldLink RX6 103 "ClashFree$Parser" "statement" "I") (List.mem_of_getElem? (i := 5) rfl)) (fun _ h9 => h9) rfl dX6_acceptSumEnd_84 ?_
            refine lv_iconst (v := 4) hx hb dX6_acceptSumEnd_87 (by decide) ?_
            refine lv_icmp_ne (tgt := 95) hx hb dX6_acceptSumEnd_88 (by decide) (fun hc82 => ?_) (fun hc82 => ?_)
            ·
              refine lv_aload_n hx hb dX6_acceptSumEnd_95 rfl (lv_at hl 0 rfl) ?_
              refine va_get (D := D) (ci := 6) (v := .int w6) (C := RX6) (T := TX6) (N := 15) hx hb hts hin_X6 hown hK hP 0 rfl rfl 6 (by decide) (hts (.fieldLink RX6 103 "ClashFree$Parser" "statement" "I") (List.mem_of_getElem? (i := 5) rfl)) (fun _ h9 => h9) rfl dX6_acceptSumEnd_96 ?_
              refine lv_iconst (v := 0) hx hb dX6_acceptSumEnd_99 (by decide) ?_
              have hPc := hP.sub (ws' := [(oq 1, .inr (7, [.int (nI w15), .ref (oq 2), .ref (oq 3), .ref (oq 4)])), (oq 2, .inl (cI, 600, .inl w16)), (oq 3, .inl (cI, 600, .inl w17)), (oq 4, .inl (cI, 600, .inl w18))]) [3, 4, 5, 6] rfl
              have hKc := hK.sub (tys' := [(cI, .int)]) [0] rfl
              have hDc := hD.sub (ws' := [(oq 1, .inr (7, [.int (nI w15), .ref (oq 2), .ref (oq 3), .ref (oq 4)])), (oq 2, .inl (cI, 600, .inl w16)), (oq 3, .inl (cI, 600, .inl w17)), (oq 4, .inl (cI, 600, .inl w18))]) [3, 4, 5, 6] (by decide) rfl
              have hFc := va_free (wc := [(oq 1, .inr (7, [.int (nI w15), .ref (oq 2), .ref (oq 3), .ref (oq 4)])), (oq 2, .inl (cI, 600, .inl w16)), (oq 3, .inl (cI, 600, .inl w17)), (oq 4, .inl (cI, 600, .inl w18))]) hD hS hA [3, 4, 5, 6] rfl
              refine va_callv (va_runV (As := [.int w6, .int 0]) (rest := []) ⟨hx, hb, hml, hown, hts⟩ (k_padd l D _ oq cI w15 w16 w17 w18 w6 0 hx19_3) (cwV 2 hts g_k_aSumEnd_k_padd_118 rfl rfl rfl (by decide +kernel) ⟨(Nat.le_of_ble_eq_true rfl), (Nat.le_of_ble_eq_true rfl)⟩) (PcWC_V (q0 := 0) hPc hKc hDc hN rfl rfl) rfl rfl hl.1 rfl (lv_room (Nat.le_of_ble_eq_true rfl)) dX6_acceptSumEnd_100 ⟨(Nat.le_of_ble_eq_true rfl), (Nat.le_of_ble_eq_true rfl)⟩) hS (fun q _ h => hFc q h) hFc (fun uu tt H locs htt hvm hw hB hz1 hk1 hS => ?_)
              obtain ⟨w84, w85, w86, w87⟩ := uu
              obtain ⟨hP1, hK1, hD1⟩ := hB
              rw [htt] at hP1
              have hK1 := va_K.moved hvm.symm hK1
              have hP1 : va_P D vwCl [(oq 1, .inr (7, [.int (nI w84), .ref (oq 2), .ref (oq 3), .ref (oq 4)])), (oq 2, .inl (cI, 600, .inl w85)), (oq 3, .inl (cI, 600, .inl w86)), (oq 4, .inl (cI, 600, .inl w87))] H := hP1
              obtain ⟨hP, hD⟩ := va_join (wr := [(oq 0, .inr (6, gPs oq w2 w3 w4 w5 w6 w7 w8 w9 w10 (nI w11) (nI w12))), (oq 6, .inl (cI, 5, .inl w13)), (oq 7, .inl (cI, 600, .inl w14)), (oq 5, .inr (8, [tx, .int zl, .int ta, .int be, .int ki, .int nu, .int wo]))]) (w1 := [(oq 1, .inr (7, [.int (nI w84), .ref (oq 2), .ref (oq 3), .ref (oq 4)])), (oq 2, .inl (cI, 600, .inl w85)), (oq 3, .inl (cI, 600, .inl w86)), (oq 4, .inl (cI, 600, .inl w87))]) hP hD [3, 4, 5, 6] [0, 1, 2, 7] rfl rfl (by decide) (by decide) hk1 hFc hP1 hD1
              have hP : va_P D vwCl [(oq 0, .inr (6, gPs oq w2 w3 w4 w5 w6 w7 w8 w9 w10 (nI w11) (nI w12))), (oq 6, .inl (cI, 5, .inl w13)), (oq 7, .inl (cI, 600, .inl w14)), (oq 5, .inr (8, [tx, .int zl, .int ta, .int be, .int ki, .int nu, .int wo])), (oq 1, .inr (7, [.int (nI w84), .ref (oq 2), .ref (oq 3), .ref (oq 4)])), (oq 2, .inl (cI, 600, .inl w85)), (oq 3, .inl (cI, 600, .inl w86)), (oq 4, .inl (cI, 600, .inl w87))] H := hP
              have hD : va_D A [(oq 0, .inr (6, gPs oq w2 w3 w4 w5 w6 w7 w8 w9 w10 (nI w11) (nI w12))), (oq 6, .inl (cI, 5, .inl w13)), (oq 7, .inl (cI, 600, .inl w14)), (oq 5, .inr (8, [tx, .int zl, .int ta, .int be, .int ki, .int nu, .int wo])), (oq 1, .inr (7, [.int (nI w84), .ref (oq 2), .ref (oq 3), .ref (oq 4)])), (oq 2, .inl (cI, 600, .inl w85)), (oq 3, .inl (cI, 600, .inl w86)), (oq 4, .inl (cI, 600, .inl w87))] := hD
              try dsimp only at hw
              clear hz1 hk1 hFc hPc hKc hDc
              have hpz88 := hw
              refine lv_aload_n hx hb dX6_acceptSumEnd_103 rfl (lv_at hl 0 rfl) ?_
              refine lv_iconst (v := 0) hx hb dX6_acceptSumEnd_104 (by decide) ?_
              refine va_put (D := D) (ci := 6) (v := .int 0) (ty := .int) (C := RX6) (T := TX6) (N := 15) hx hb hts hin_X6 tyX6 tyX6_ok nmX6 hown hK hP hD hS 0 rfl rfl 5 (by decide) (hts (.fieldLink RX6 39 "ClashFree$Parser" "state" "I") (List.mem_of_getElem? (i := 14) rfl)) (fun _ h9 => h9) rfl (by decide +kernel) rfl rfl (Nat.le_of_ble_eq_true rfl) dX6_acceptSumEnd_105 (fun H locs hP hD hS => ?_)
              have hP : va_P D vwCl [(oq 0, .inr (6, gPs oq w2 w3 w4 0 w6 w7 w8 w9 w10 (nI w11) (nI w12))), (oq 6, .inl (cI, 5, .inl w13)), (oq 7, .inl (cI, 600, .inl w14)), (oq 5, .inr (8, [tx, .int zl, .int ta, .int be, .int ki, .int nu, .int wo])), (oq 1, .inr (7, [.int (nI w84), .ref (oq 2), .ref (oq 3), .ref (oq 4)])), (oq 2, .inl (cI, 600, .inl w85)), (oq 3, .inl (cI, 600, .inl w86)), (oq 4, .inl (cI, 600, .inl w87))] H := hP
              have hD : va_D A [(oq 0, .inr (6, gPs oq w2 w3 w4 0 w6 w7 w8 w9 w10 (nI w11) (nI w12))), (oq 6, .inl (cI, 5, .inl w13)), (oq 7, .inl (cI, 600, .inl w14)), (oq 5, .inr (8, [tx, .int zl, .int ta, .int be, .int ki, .int nu, .int wo])), (oq 1, .inr (7, [.int (nI w84), .ref (oq 2), .ref (oq 3), .ref (oq 4)])), (oq 2, .inl (cI, 600, .inl w85)), (oq 3, .inl (cI, 600, .inl w86)), (oq 4, .inl (cI, 600, .inl w87))] := hD
              refine lv_goto (tgt := 115) hx hb dX6_acceptSumEnd_108 (by decide) ?_
              exact W.vret hx hb hr (fun t ht hW => ⟨⟨(w2, w3, w4, 0, w6, w7, w8, w9, w10, w11, w12, w13, w14, w84, w85, w86, w87), rfl, (by (try dsimp only); first | done | exact ⟨by omega, by omega, by omega⟩), by rw [ht]; exact hP.sub [0, 1, 2, 4, 5, 6, 7, 3] rfl, va_K.moved hW.alike (hK.sub [0] rfl), hD.sub [0, 1, 2, 4, 5, 6, 7, 3] (by decide) rfl⟩, hS.F ht⟩) hS.2.2 dX6_acceptSumEnd_115
            ·
              refine lv_iconst (v := 3) hx hb dX6_acceptSumEnd_91 (by decide) ?_
              refine lv_goto (tgt := 99) hx hb dX6_acceptSumEnd_92 (by decide) ?_
              refine lv_iconst (v := 0) hx hb dX6_acceptSumEnd_99 (by decide) ?_
              have hPc := hP.sub (ws' := [(oq 1, .inr (7, [.int (nI w15), .ref (oq 2), .ref (oq 3), .ref (oq 4)])), (oq 2, .inl (cI, 600, .inl w16)), (oq 3, .inl (cI, 600, .inl w17)), (oq 4, .inl (cI, 600, .inl w18))]) [3, 4, 5, 6] rfl
              have hKc := hK.sub (tys' := [(cI, .int)]) [0] rfl
              have hDc := hD.sub (ws' := [(oq 1, .inr (7, [.int (nI w15), .ref (oq 2), .ref (oq 3), .ref (oq 4)])), (oq 2, .inl (cI, 600, .inl w16)), (oq 3, .inl (cI, 600, .inl w17)), (oq 4, .inl (cI, 600, .inl w18))]) [3, 4, 5, 6] (by decide) rfl
              have hFc := va_free (wc := [(oq 1, .inr (7, [.int (nI w15), .ref (oq 2), .ref (oq 3), .ref (oq 4)])), (oq 2, .inl (cI, 600, .inl w16)), (oq 3, .inl (cI, 600, .inl w17)), (oq 4, .inl (cI, 600, .inl w18))]) hD hS hA [3, 4, 5, 6] rfl
              refine va_callv (va_runV (As := [.int 3, .int 0]) (rest := []) ⟨hx, hb, hml, hown, hts⟩ (k_padd l D _ oq cI w15 w16 w17 w18 3 0 hx19_3) (cwV 2 hts g_k_aSumEnd_k_padd_118 rfl rfl rfl (by decide +kernel) ⟨(Nat.le_of_ble_eq_true rfl), (Nat.le_of_ble_eq_true rfl)⟩) (PcWC_V (q0 := 0) hPc hKc hDc hN rfl rfl) rfl rfl hl.1 rfl (lv_room (Nat.le_of_ble_eq_true rfl)) dX6_acceptSumEnd_100 ⟨(Nat.le_of_ble_eq_true rfl), (Nat.le_of_ble_eq_true rfl)⟩) hS (fun q _ h => hFc q h) hFc (fun uu tt H locs htt hvm hw hB hz1 hk1 hS => ?_)
              obtain ⟨w90, w91, w92, w93⟩ := uu
              obtain ⟨hP1, hK1, hD1⟩ := hB
              rw [htt] at hP1
              have hK1 := va_K.moved hvm.symm hK1
              have hP1 : va_P D vwCl [(oq 1, .inr (7, [.int (nI w90), .ref (oq 2), .ref (oq 3), .ref (oq 4)])), (oq 2, .inl (cI, 600, .inl w91)), (oq 3, .inl (cI, 600, .inl w92)), (oq 4, .inl (cI, 600, .inl w93))] H := hP1
              obtain ⟨hP, hD⟩ := va_join (wr := [(oq 0, .inr (6, gPs oq w2 w3 w4 w5 w6 w7 w8 w9 w10 (nI w11) (nI w12))), (oq 6, .inl (cI, 5, .inl w13)), (oq 7, .inl (cI, 600, .inl w14)), (oq 5, .inr (8, [tx, .int zl, .int ta, .int be, .int ki, .int nu, .int wo]))]) (w1 := [(oq 1, .inr (7, [.int (nI w90), .ref (oq 2), .ref (oq 3), .ref (oq 4)])), (oq 2, .inl (cI, 600, .inl w91)), (oq 3, .inl (cI, 600, .inl w92)), (oq 4, .inl (cI, 600, .inl w93))]) hP hD [3, 4, 5, 6] [0, 1, 2, 7] rfl rfl (by decide) (by decide) hk1 hFc hP1 hD1
              have hP : va_P D vwCl [(oq 0, .inr (6, gPs oq w2 w3 w4 w5 w6 w7 w8 w9 w10 (nI w11) (nI w12))), (oq 6, .inl (cI, 5, .inl w13)), (oq 7, .inl (cI, 600, .inl w14)), (oq 5, .inr (8, [tx, .int zl, .int ta, .int be, .int ki, .int nu, .int wo])), (oq 1, .inr (7, [.int (nI w90), .ref (oq 2), .ref (oq 3), .ref (oq 4)])), (oq 2, .inl (cI, 600, .inl w91)), (oq 3, .inl (cI, 600, .inl w92)), (oq 4, .inl (cI, 600, .inl w93))] H := hP
              have hD : va_D A [(oq 0, .inr (6, gPs oq w2 w3 w4 w5 w6 w7 w8 w9 w10 (nI w11) (nI w12))), (oq 6, .inl (cI, 5, .inl w13)), (oq 7, .inl (cI, 600, .inl w14)), (oq 5, .inr (8, [tx, .int zl, .int ta, .int be, .int ki, .int nu, .int wo])), (oq 1, .inr (7, [.int (nI w90), .ref (oq 2), .ref (oq 3), .ref (oq 4)])), (oq 2, .inl (cI, 600, .inl w91)), (oq 3, .inl (cI, 600, .inl w92)), (oq 4, .inl (cI, 600, .inl w93))] := hD
              try dsimp only at hw
              clear hz1 hk1 hFc hPc hKc hDc
              have hpz94 := hw
              refine lv_aload_n hx hb dX6_acceptSumEnd_103 rfl (lv_at hl 0 rfl) ?_
              refine lv_iconst (v := 0) hx hb dX6_acceptSumEnd_104 (by decide) ?_
              refine va_put (D := D) (ci := 6) (v := .int 0) (ty := .int) (C := RX6) (T := TX6) (N := 15) hx hb hts hin_X6 tyX6 tyX6_ok nmX6 hown hK hP hD hS 0 rfl rfl 5 (by decide) (hts (.fieldLink RX6 39 "ClashFree$Parser" "state" "I") (List.mem_of_getElem? (i := 14) rfl)) (fun _ h9 => h9) rfl (by decide +kernel) rfl rfl (Nat.le_of_ble_eq_true rfl) dX6_acceptSumEnd_105 (fun H locs hP hD hS => ?_)
              have hP : va_P D vwCl [(oq 0, .inr (6, gPs oq w2 w3 w4 0 w6 w7 w8 w9 w10 (nI w11) (nI w12))), (oq 6, .inl (cI, 5, .inl w13)), (oq 7, .inl (cI, 600, .inl w14)), (oq 5, .inr (8, [tx, .int zl, .int ta, .int be, .int ki, .int nu, .int wo])), (oq 1, .inr (7, [.int (nI w90), .ref (oq 2), .ref (oq 3), .ref (oq 4)])), (oq 2, .inl (cI, 600, .inl w91)), (oq 3, .inl (cI, 600, .inl w92)), (oq 4, .inl (cI, 600, .inl w93))] H := hP
              have hD : va_D A [(oq 0, .inr (6, gPs oq w2 w3 w4 0 w6 w7 w8 w9 w10 (nI w11) (nI w12))), (oq 6, .inl (cI, 5, .inl w13)), (oq 7, .inl (cI, 600, .inl w14)), (oq 5, .inr (8, [tx, .int zl, .int ta, .int be, .int ki, .int nu, .int wo])), (oq 1, .inr (7, [.int (nI w90), .ref (oq 2), .ref (oq 3), .ref (oq 4)])), (oq 2, .inl (cI, 600, .inl w91)), (oq 3, .inl (cI, 600, .inl w92)), (oq 4, .inl (cI, 600, .inl w93))] := hD
              refine lv_goto (tgt := 115) hx hb dX6_acceptSumEnd_108 (by decide) ?_
              exact W.vret hx hb hr (fun t ht hW => ⟨⟨(w2, w3, w4, 0, w6, w7, w8, w9, w10, w11, w12, w13, w14, w90, w91, w92, w93), rfl, (by (try dsimp only); first | done | exact ⟨by omega, by omega, by omega⟩), by rw [ht]; exact hP.sub [0, 1, 2, 4, 5, 6, 7, 3] rfl, va_K.moved hW.alike (hK.sub [0] rfl), hD.sub [0, 1, 2, 4, 5, 6, 7, 3] (by decide) rfl⟩, hS.F ht⟩) hS.2.2 dX6_acceptSumEnd_115
    ·
      refine lv_iload_n hx hb dX6_acceptSumEnd_40 rfl (lv_at hl 1 rfl) ?_
      refine lv_bipush (v := 91) hx hb dX6_acceptSumEnd_41 (by decide) ?_
      refine lv_icmp_ne (tgt := 56) hx hb dX6_acceptSumEnd_43 (by decide) (fun hc95 => ?_) (fun hc95 => ?_)
      ·
        refine lv_aload_n hx hb dX6_acceptSumEnd_56 rfl (lv_at hl 0 rfl) ?_
        refine va_get (D := D) (ci := 6) (v := .int w6) (C := RX6) (T := TX6) (N := 15) hx hb hts hin_X6 hown hK hP 0 rfl rfl 6 (by decide) (hts (.fieldLink RX6 103 "ClashFree$Parser" "statement" "I") (List.mem_of_getElem? (i := 5) rfl)) (fun _ h9 => h9) rfl dX6_acceptSumEnd_57 ?_
        refine lv_iconst (v := 3) hx hb dX6_acceptSumEnd_60 (by decide) ?_
        refine lv_icmp_eq (tgt := 111) hx hb dX6_acceptSumEnd_61 (by decide) (fun hc96 => ?_) (fun hc96 => ?_)
        ·
          refine lv_aload_n hx hb dX6_acceptSumEnd_111 rfl (lv_at hl 0 rfl) ?_
          have hPc := hP.sub (ws' := [(oq 0, .inr (6, gPs oq w2 w3 w4 w5 w6 w7 w8 w9 w10 (nI w11) (nI w12))), (oq 6, .inl (cI, 5, .inl w13)), (oq 7, .inl (cI, 600, .inl w14)), (oq 1, .inr (7, [.int (nI w15), .ref (oq 2), .ref (oq 3), .ref (oq 4)])), (oq 2, .inl (cI, 600, .inl w16)), (oq 3, .inl (cI, 600, .inl w17)), (oq 4, .inl (cI, 600, .inl w18)), (oq 5, .inr (8, [tx, .int zl, .int ta, .int be, .int ki, .int nu, .int wo]))]) [0, 1, 2, 3, 4, 5, 6, 7] rfl
          have hKc := hK.sub (tys' := [(cI, .int)]) [0] rfl
          have hDc := hD.sub (ws' := [(oq 0, .inr (6, gPs oq w2 w3 w4 w5 w6 w7 w8 w9 w10 (nI w11) (nI w12))), (oq 6, .inl (cI, 5, .inl w13)), (oq 7, .inl (cI, 600, .inl w14)), (oq 1, .inr (7, [.int (nI w15), .ref (oq 2), .ref (oq 3), .ref (oq 4)])), (oq 2, .inl (cI, 600, .inl w16)), (oq 3, .inl (cI, 600, .inl w17)), (oq 4, .inl (cI, 600, .inl w18)), (oq 5, .inr (8, [tx, .int zl, .int ta, .int be, .int ki, .int nu, .int wo]))]) [0, 1, 2, 3, 4, 5, 6, 7] (by decide) rfl
          have hFc := va_free (wc := [(oq 0, .inr (6, gPs oq w2 w3 w4 w5 w6 w7 w8 w9 w10 (nI w11) (nI w12))), (oq 6, .inl (cI, 5, .inl w13)), (oq 7, .inl (cI, 600, .inl w14)), (oq 1, .inr (7, [.int (nI w15), .ref (oq 2), .ref (oq 3), .ref (oq 4)])), (oq 2, .inl (cI, 600, .inl w16)), (oq 3, .inl (cI, 600, .inl w17)), (oq 4, .inl (cI, 600, .inl w18)), (oq 5, .inr (8, [tx, .int zl, .int ta, .int be, .int ki, .int nu, .int wo]))]) hD hS hA [0, 1, 2, 3, 4, 5, 6, 7] rfl
          refine va_callv (va_runV (As := []) (rest := []) ⟨hx, hb, hml, hown, hts⟩ (k_refuse l D _ oq cI w2 w3 w4 w5 w6 w7 w8 w9 w10 w11 w12 w13 w14 w15 w16 w17 w18 tx zl ta be ki nu wo hx19_1 hx19_2 hx19_3) (cwV 0 hts g_k_aSumEnd_k_refuse_112 rfl rfl rfl (by decide +kernel) ⟨(Nat.le_of_ble_eq_true rfl), (Nat.le_of_ble_eq_true rfl)⟩) (PcWC_V (q0 := 0) hPc hKc hDc hN rfl rfl) rfl rfl hl.1 rfl (lv_room (Nat.le_of_ble_eq_true rfl)) dX6_acceptSumEnd_112 ⟨(Nat.le_of_ble_eq_true rfl), (Nat.le_of_ble_eq_true rfl)⟩) hS (fun q _ h => hFc q h) hFc (fun uu tt H locs htt hvm hw hB hz1 hk1 hS => ?_)
          obtain ⟨w98, w99, w100, w101, w102, w103, w104, w105, w106, w107, w108, w109, w110, w111, w112, w113, w114⟩ := uu
          obtain ⟨hP1, hK1, hD1⟩ := hB
          rw [htt] at hP1
          have hK1 := va_K.moved hvm.symm hK1
          have hP1 : va_P D vwCl [(oq 0, .inr (6, gPs oq w98 w99 w100 w101 w102 w103 w104 w105 w106 (nI w107) (nI w108))), (oq 6, .inl (cI, 5, .inl w109)), (oq 7, .inl (cI, 600, .inl w110)), (oq 1, .inr (7, [.int (nI w111), .ref (oq 2), .ref (oq 3), .ref (oq 4)])), (oq 2, .inl (cI, 600, .inl w112)), (oq 3, .inl (cI, 600, .inl w113)), (oq 4, .inl (cI, 600, .inl w114)), (oq 5, .inr (8, [tx, .int zl, .int ta, .int be, .int ki, .int nu, .int wo]))] H := hP1
          obtain ⟨hP, hD⟩ := va_join (wr := []) (w1 := [(oq 0, .inr (6, gPs oq w98 w99 w100 w101 w102 w103 w104 w105 w106 (nI w107) (nI w108))), (oq 6, .inl (cI, 5, .inl w109)), (oq 7, .inl (cI, 600, .inl w110)), (oq 1, .inr (7, [.int (nI w111), .ref (oq 2), .ref (oq 3), .ref (oq 4)])), (oq 2, .inl (cI, 600, .inl w112)), (oq 3, .inl (cI, 600, .inl w113)), (oq 4, .inl (cI, 600, .inl w114)), (oq 5, .inr (8, [tx, .int zl, .int ta, .int be, .int ki, .int nu, .int wo]))]) hP hD [0, 1, 2, 3, 4, 5, 6, 7] [] rfl rfl (by decide) (by decide) hk1 hFc hP1 hD1
          have hP : va_P D vwCl [(oq 0, .inr (6, gPs oq w98 w99 w100 w101 w102 w103 w104 w105 w106 (nI w107) (nI w108))), (oq 6, .inl (cI, 5, .inl w109)), (oq 7, .inl (cI, 600, .inl w110)), (oq 1, .inr (7, [.int (nI w111), .ref (oq 2), .ref (oq 3), .ref (oq 4)])), (oq 2, .inl (cI, 600, .inl w112)), (oq 3, .inl (cI, 600, .inl w113)), (oq 4, .inl (cI, 600, .inl w114)), (oq 5, .inr (8, [tx, .int zl, .int ta, .int be, .int ki, .int nu, .int wo]))] H := hP
          have hD : va_D A [(oq 0, .inr (6, gPs oq w98 w99 w100 w101 w102 w103 w104 w105 w106 (nI w107) (nI w108))), (oq 6, .inl (cI, 5, .inl w109)), (oq 7, .inl (cI, 600, .inl w110)), (oq 1, .inr (7, [.int (nI w111), .ref (oq 2), .ref (oq 3), .ref (oq 4)])), (oq 2, .inl (cI, 600, .inl w112)), (oq 3, .inl (cI, 600, .inl w113)), (oq 4, .inl (cI, 600, .inl w114)), (oq 5, .inr (8, [tx, .int zl, .int ta, .int be, .int ki, .int nu, .int wo]))] := hD
          try dsimp only at hw
          clear hz1 hk1 hFc hPc hKc hDc
          obtain ⟨hx115_1, hx115_2, hx115_3⟩ := hw
          exact W.vret hx hb hr (fun t ht hW => ⟨⟨(w98, w99, w100, w101, w102, w103, w104, w105, w106, w107, w108, w109, w110, w111, w112, w113, w114), rfl, (by (try dsimp only); first | done | exact ⟨by omega, by omega, by omega⟩), by rw [ht]; exact hP.sub [0, 1, 2, 3, 4, 5, 6, 7] rfl, va_K.moved hW.alike (hK.sub [0] rfl), hD.sub [0, 1, 2, 3, 4, 5, 6, 7] (by decide) rfl⟩, hS.F ht⟩) hS.2.2 dX6_acceptSumEnd_115
        ·
          refine lv_aload_n hx hb dX6_acceptSumEnd_64 rfl (lv_at hl 0 rfl) ?_
          refine va_get (D := D) (ci := 6) (v := .int w6) (C := RX6) (T := TX6) (N := 15) hx hb hts hin_X6 hown hK hP 0 rfl rfl 6 (by decide) (hts (.fieldLink RX6 103 "ClashFree$Parser" "statement" "I") (List.mem_of_getElem? (i := 5) rfl)) (fun _ h9 => h9) rfl dX6_acceptSumEnd_65 ?_
          refine lv_bipush (v := 9) hx hb dX6_acceptSumEnd_68 (by decide) ?_
          refine lv_icmp_eq (tgt := 111) hx hb dX6_acceptSumEnd_70 (by decide) (fun hc116 => ?_) (fun hc116 => ?_)
          ·
            refine lv_aload_n hx hb dX6_acceptSumEnd_111 rfl (lv_at hl 0 rfl) ?_
            have hPc := hP.sub (ws' := [(oq 0, .inr (6, gPs oq w2 w3 w4 w5 w6 w7 w8 w9 w10 (nI w11) (nI w12))), (oq 6, .inl (cI, 5, .inl w13)), (oq 7, .inl (cI, 600, .inl w14)), (oq 1, .inr (7, [.int (nI w15), .ref (oq 2), .ref (oq 3), .ref (oq 4)])), (oq 2, .inl (cI, 600, .inl w16)), (oq 3, .inl (cI, 600, .inl w17)), (oq 4, .inl (cI, 600, .inl w18)), (oq 5, .inr (8, [tx, .int zl, .int ta, .int be, .int ki, .int nu, .int wo]))]) [0, 1, 2, 3, 4, 5, 6, 7] rfl
            have hKc := hK.sub (tys' := [(cI, .int)]) [0] rfl
            have hDc := hD.sub (ws' := [(oq 0, .inr (6, gPs oq w2 w3 w4 w5 w6 w7 w8 w9 w10 (nI w11) (nI w12))), (oq 6, .inl (cI, 5, .inl w13)), (oq 7, .inl (cI, 600, .inl w14)), (oq 1, .inr (7, [.int (nI w15), .ref (oq 2), .ref (oq 3), .ref (oq 4)])), (oq 2, .inl (cI, 600, .inl w16)), (oq 3, .inl (cI, 600, .inl w17)), (oq 4, .inl (cI, 600, .inl w18)), (oq 5, .inr (8, [tx, .int zl, .int ta, .int be, .int ki, .int nu, .int wo]))]) [0, 1, 2, 3, 4, 5, 6, 7] (by decide) rfl
            have hFc := va_free (wc := [(oq 0, .inr (6, gPs oq w2 w3 w4 w5 w6 w7 w8 w9 w10 (nI w11) (nI w12))), (oq 6, .inl (cI, 5, .inl w13)), (oq 7, .inl (cI, 600, .inl w14)), (oq 1, .inr (7, [.int (nI w15), .ref (oq 2), .ref (oq 3), .ref (oq 4)])), (oq 2, .inl (cI, 600, .inl w16)), (oq 3, .inl (cI, 600, .inl w17)), (oq 4, .inl (cI, 600, .inl w18)), (oq 5, .inr (8, [tx, .int zl, .int ta, .int be, .int ki, .int nu, .int wo]))]) hD hS hA [0, 1, 2, 3, 4, 5, 6, 7] rfl
            refine va_callv (va_runV (As := []) (rest := []) ⟨hx, hb, hml, hown, hts⟩ (k_refuse l D _ oq cI w2 w3 w4 w5 w6 w7 w8 w9 w10 w11 w12 w13 w14 w15 w16 w17 w18 tx zl ta be ki nu wo hx19_1 hx19_2 hx19_3) (cwV 0 hts g_k_aSumEnd_k_refuse_112 rfl rfl rfl (by decide +kernel) ⟨(Nat.le_of_ble_eq_true rfl), (Nat.le_of_ble_eq_true rfl)⟩) (PcWC_V (q0 := 0) hPc hKc hDc hN rfl rfl) rfl rfl hl.1 rfl (lv_room (Nat.le_of_ble_eq_true rfl)) dX6_acceptSumEnd_112 ⟨(Nat.le_of_ble_eq_true rfl), (Nat.le_of_ble_eq_true rfl)⟩) hS (fun q _ h => hFc q h) hFc (fun uu tt H locs htt hvm hw hB hz1 hk1 hS => ?_)
            obtain ⟨w118, w119, w120, w121, w122, w123, w124, w125, w126, w127, w128, w129, w130, w131, w132, w133, w134⟩ := uu
            obtain ⟨hP1, hK1, hD1⟩ := hB
            rw [htt] at hP1
            have hK1 := va_K.moved hvm.symm hK1
            have hP1 : va_P D vwCl [(oq 0, .inr (6, gPs oq w118 w119 w120 w121 w122 w123 w124 w125 w126 (nI w127) (nI w128))), (oq 6, .inl (cI, 5, .inl w129)), (oq 7, .inl (cI, 600, .inl w130)), (oq 1, .inr (7, [.int (nI w131), .ref (oq 2), .ref (oq 3), .ref (oq 4)])), (oq 2, .inl (cI, 600, .inl w132)), (oq 3, .inl (cI, 600, .inl w133)), (oq 4, .inl (cI, 600, .inl w134)), (oq 5, .inr (8, [tx, .int zl, .int ta, .int be, .int ki, .int nu, .int wo]))] H := hP1
            obtain ⟨hP, hD⟩ := va_join (wr := []) (w1 := [(oq 0, .inr (6, gPs oq w118 w119 w120 w121 w122 w123 w124 w125 w126 (nI w127) (nI w128))), (oq 6, .inl (cI, 5, .inl w129)), (oq 7, .inl (cI, 600, .inl w130)), (oq 1, .inr (7, [.int (nI w131), .ref (oq 2), .ref (oq 3), .ref (oq 4)])), (oq 2, .inl (cI, 600, .inl w132)), (oq 3, .inl (cI, 600, .inl w133)), (oq 4, .inl (cI, 600, .inl w134)), (oq 5, .inr (8, [tx, .int zl, .int ta, .int be, .int ki, .int nu, .int wo]))]) hP hD [0, 1, 2, 3, 4, 5, 6, 7] [] rfl rfl (by decide) (by decide) hk1 hFc hP1 hD1
            have hP : va_P D vwCl [(oq 0, .inr (6, gPs oq w118 w119 w120 w121 w122 w123 w124 w125 w126 (nI w127) (nI w128))), (oq 6, .inl (cI, 5, .inl w129)), (oq 7, .inl (cI, 600, .inl w130)), (oq 1, .inr (7, [.int (nI w131), .ref (oq 2), .ref (oq 3), .ref (oq 4)])), (oq 2, .inl (cI, 600, .inl w132)), (oq 3, .inl (cI, 600, .inl w133)), (oq 4, .inl (cI, 600, .inl w134)), (oq 5, .inr (8, [tx, .int zl, .int ta, .int be, .int ki, .int nu, .int wo]))] H := hP
            have hD : va_D A [(oq 0, .inr (6, gPs oq w118 w119 w120 w121 w122 w123 w124 w125 w126 (nI w127) (nI w128))), (oq 6, .inl (cI, 5, .inl w129)), (oq 7, .inl (cI, 600, .inl w130)), (oq 1, .inr (7, [.int (nI w131), .ref (oq 2), .ref (oq 3), .ref (oq 4)])), (oq 2, .inl (cI, 600, .inl w132)), (oq 3, .inl (cI, 600, .inl w133)), (oq 4, .inl (cI, 600, .inl w134)), (oq 5, .inr (8, [tx, .int zl, .int ta, .int be, .int ki, .int nu, .int wo]))] := hD
            try dsimp only at hw
            clear hz1 hk1 hFc hPc hKc hDc
            obtain ⟨hx135_1, hx135_2, hx135_3⟩ := hw
            exact W.vret hx hb hr (fun t ht hW => ⟨⟨(w118, w119, w120, w121, w122, w123, w124, w125, w126, w127, w128, w129, w130, w131, w132, w133, w134), rfl, (by (try dsimp only); first | done | exact ⟨by omega, by omega, by omega⟩), by rw [ht]; exact hP.sub [0, 1, 2, 3, 4, 5, 6, 7] rfl, va_K.moved hW.alike (hK.sub [0] rfl), hD.sub [0, 1, 2, 3, 4, 5, 6, 7] (by decide) rfl⟩, hS.F ht⟩) hS.2.2 dX6_acceptSumEnd_115
          ·
            refine lv_iload_n hx hb dX6_acceptSumEnd_73 rfl (lv_at hl 1 rfl) ?_
            refine lv_bipush (v := 59) hx hb dX6_acceptSumEnd_74 (by decide) ?_
            refine lv_icmp_ne (tgt := 111) hx hb dX6_acceptSumEnd_76 (by decide) (fun hc136 => ?_) (fun hc136 => ?_)
            ·
              refine lv_aload_n hx hb dX6_acceptSumEnd_111 rfl (lv_at hl 0 rfl) ?_
              have hPc := hP.sub (ws' := [(oq 0, .inr (6, gPs oq w2 w3 w4 w5 w6 w7 w8 w9 w10 (nI w11) (nI w12))), (oq 6, .inl (cI, 5, .inl w13)), (oq 7, .inl (cI, 600, .inl w14)), (oq 1, .inr (7, [.int (nI w15), .ref (oq 2), .ref (oq 3), .ref (oq 4)])), (oq 2, .inl (cI, 600, .inl w16)), (oq 3, .inl (cI, 600, .inl w17)), (oq 4, .inl (cI, 600, .inl w18)), (oq 5, .inr (8, [tx, .int zl, .int ta, .int be, .int ki, .int nu, .int wo]))]) [0, 1, 2, 3, 4, 5, 6, 7] rfl
              have hKc := hK.sub (tys' := [(cI, .int)]) [0] rfl
              have hDc := hD.sub (ws' := [(oq 0, .inr (6, gPs oq w2 w3 w4 w5 w6 w7 w8 w9 w10 (nI w11) (nI w12))), (oq 6, .inl (cI, 5, .inl w13)), (oq 7, .inl (cI, 600, .inl w14)), (oq 1, .inr (7, [.int (nI w15), .ref (oq 2), .ref (oq 3), .ref (oq 4)])), (oq 2, .inl (cI, 600, .inl w16)), (oq 3, .inl (cI, 600, .inl w17)), (oq 4, .inl (cI, 600, .inl w18)), (oq 5, .inr (8, [tx, .int zl, .int ta, .int be, .int ki, .int nu, .int wo]))]) [0, 1, 2, 3, 4, 5, 6, 7] (by decide) rfl
              have hFc := va_free (wc := [(oq 0, .inr (6, gPs oq w2 w3 w4 w5 w6 w7 w8 w9 w10 (nI w11) (nI w12))), (oq 6, .inl (cI, 5, .inl w13)), (oq 7, .inl (cI, 600, .inl w14)), (oq 1, .inr (7, [.int (nI w15), .ref (oq 2), .ref (oq 3), .ref (oq 4)])), (oq 2, .inl (cI, 600, .inl w16)), (oq 3, .inl (cI, 600, .inl w17)), (oq 4, .inl (cI, 600, .inl w18)), (oq 5, .inr (8, [tx, .int zl, .int ta, .int be, .int ki, .int nu, .int wo]))]) hD hS hA [0, 1, 2, 3, 4, 5, 6, 7] rfl
              refine va_callv (va_runV (As := []) (rest := []) ⟨hx, hb, hml, hown, hts⟩ (k_refuse l D _ oq cI w2 w3 w4 w5 w6 w7 w8 w9 w10 w11 w12 w13 w14 w15 w16 w17 w18 tx zl ta be ki nu wo hx19_1 hx19_2 hx19_3) (cwV 0 hts g_k_aSumEnd_k_refuse_112 rfl rfl rfl (by decide +kernel) ⟨(Nat.le_of_ble_eq_true rfl), (Nat.le_of_ble_eq_true rfl)⟩) (PcWC_V (q0 := 0) hPc hKc hDc hN rfl rfl) rfl rfl hl.1 rfl (lv_room (Nat.le_of_ble_eq_true rfl)) dX6_acceptSumEnd_112 ⟨(Nat.le_of_ble_eq_true rfl), (Nat.le_of_ble_eq_true rfl)⟩) hS (fun q _ h => hFc q h) hFc (fun uu tt H locs htt hvm hw hB hz1 hk1 hS => ?_)
              obtain ⟨w138, w139, w140, w141, w142, w143, w144, w145, w146, w147, w148, w149, w150, w151, w152, w153, w154⟩ := uu
              obtain ⟨hP1, hK1, hD1⟩ := hB
              rw [htt] at hP1
              have hK1 := va_K.moved hvm.symm hK1
              have hP1 : va_P D vwCl [(oq 0, .inr (6, gPs oq w138 w139 w140 w141 w142 w143 w144 w145 w146 (nI w147) (nI w148))), (oq 6, .inl (cI, 5, .inl w149)), (oq 7, .inl (cI, 600, .inl w150)), (oq 1, .inr (7, [.int (nI w151), .ref (oq 2), .ref (oq 3), .ref (oq 4)])), (oq 2, .inl (cI, 600, .inl w152)), (oq 3, .inl (cI, 600, .inl w153)), (oq 4, .inl (cI, 600, .inl w154)), (oq 5, .inr (8, [tx, .int zl, .int ta, .int be, .int ki, .int nu, .int wo]))] H := hP1
              obtain ⟨hP, hD⟩ := va_join (wr := []) (w1 := [(oq 0, .inr (6, gPs oq w138 w139 w140 w141 w142 w143 w144 w145 w146 (nI w147) (nI w148))), (oq 6, .inl (cI, 5, .inl w149)), (oq 7, .inl (cI, 600, .inl w150)), (oq 1, .inr (7, [.int (nI w151), .ref (oq 2), .ref (oq 3), .ref (oq 4)])), (oq 2, .inl (cI, 600, .inl w152)), (oq 3, .inl (cI, 600, .inl w153)), (oq 4, .inl (cI, 600, .inl w154)), (oq 5, .inr (8, [tx, .int zl, .int ta, .int be, .int ki, .int nu, .int wo]))]) hP hD [0, 1, 2, 3, 4, 5, 6, 7] [] rfl rfl (by decide) (by decide) hk1 hFc hP1 hD1
              have hP : va_P D vwCl [(oq 0, .inr (6, gPs oq w138 w139 w140 w141 w142 w143 w144 w145 w146 (nI w147) (nI w148))), (oq 6, .inl (cI, 5, .inl w149)), (oq 7, .inl (cI, 600, .inl w150)), (oq 1, .inr (7, [.int (nI w151), .ref (oq 2), .ref (oq 3), .ref (oq 4)])), (oq 2, .inl (cI, 600, .inl w152)), (oq 3, .inl (cI, 600, .inl w153)), (oq 4, .inl (cI, 600, .inl w154)), (oq 5, .inr (8, [tx, .int zl, .int ta, .int be, .int ki, .int nu, .int wo]))] H := hP
              have hD : va_D A [(oq 0, .inr (6, gPs oq w138 w139 w140 w141 w142 w143 w144 w145 w146 (nI w147) (nI w148))), (oq 6, .inl (cI, 5, .inl w149)), (oq 7, .inl (cI, 600, .inl w150)), (oq 1, .inr (7, [.int (nI w151), .ref (oq 2), .ref (oq 3), .ref (oq 4)])), (oq 2, .inl (cI, 600, .inl w152)), (oq 3, .inl (cI, 600, .inl w153)), (oq 4, .inl (cI, 600, .inl w154)), (oq 5, .inr (8, [tx, .int zl, .int ta, .int be, .int ki, .int nu, .int wo]))] := hD
              try dsimp only at hw
              clear hz1 hk1 hFc hPc hKc hDc
              obtain ⟨hx155_1, hx155_2, hx155_3⟩ := hw
              exact W.vret hx hb hr (fun t ht hW => ⟨⟨(w138, w139, w140, w141, w142, w143, w144, w145, w146, w147, w148, w149, w150, w151, w152, w153, w154), rfl, (by (try dsimp only); first | done | exact ⟨by omega, by omega, by omega⟩), by rw [ht]; exact hP.sub [0, 1, 2, 3, 4, 5, 6, 7] rfl, va_K.moved hW.alike (hK.sub [0] rfl), hD.sub [0, 1, 2, 3, 4, 5, 6, 7] (by decide) rfl⟩, hS.F ht⟩) hS.2.2 dX6_acceptSumEnd_115
            ·
              refine lv_aload_n hx hb dX6_acceptSumEnd_79 rfl (lv_at hl 0 rfl) ?_
              refine va_get (D := D) (ci := 6) (v := .ref (oq 1)) (C := RX6) (T := TX6) (N := 15) hx hb hts hin_X6 hown hK hP 0 rfl rfl 3 (by decide) (hts (.fieldLink RX6 12 "ClashFree$Parser" "program" "LClashFree$Program;") (List.mem_of_getElem? (i := 9) rfl)) (fun _ h9 => h9) rfl dX6_acceptSumEnd_80 ?_
              refine lv_aload_n hx hb dX6_acceptSumEnd_83 rfl (lv_at hl 0 rfl) ?_
              refine va_get (D := D) (ci := 6) (v := .int w6) (C := RX6) (T := TX6) (N := 15) hx hb hts hin_X6 hown hK hP 0 rfl rfl 6 (by decide) (hts (.fieldLink RX6 103 "ClashFree$Parser" "statement" "I") (List.mem_of_getElem? (i := 5) rfl)) (fun _ h9 => h9) rfl dX6_acceptSumEnd_84 ?_
              refine lv_iconst (v := 4) hx hb dX6_acceptSumEnd_87 (by decide) ?_
              refine lv_icmp_ne (tgt := 95) hx hb dX6_acceptSumEnd_88 (by decide) (fun hc156 => ?_) (fun hc156 => ?_)
              ·
                refine lv_aload_n hx hb dX6_acceptSumEnd_95 rfl (lv_at hl 0 rfl) ?_
                refine va_get (D := D) (ci := 6) (v := .int w6) (C := RX6) (T := TX6) (N := 15) hx hb hts hin_X6 hown hK hP 0 rfl rfl 6 (by decide) (hts (.fieldLink RX6 103 "ClashFree$Parser" "statement" "I") (List.mem_of_getElem? (i := 5) rfl)) (fun _ h9 => h9) rfl dX6_acceptSumEnd_96 ?_
                refine lv_iconst (v := 0) hx hb dX6_acceptSumEnd_99 (by decide) ?_
                have hPc := hP.sub (ws' := [(oq 1, .inr (7, [.int (nI w15), .ref (oq 2), .ref (oq 3), .ref (oq 4)])), (oq 2, .inl (cI, 600, .inl w16)), (oq 3, .inl (cI, 600, .inl w17)), (oq 4, .inl (cI, 600, .inl w18))]) [3, 4, 5, 6] rfl
                have hKc := hK.sub (tys' := [(cI, .int)]) [0] rfl
                have hDc := hD.sub (ws' := [(oq 1, .inr (7, [.int (nI w15), .ref (oq 2), .ref (oq 3), .ref (oq 4)])), (oq 2, .inl (cI, 600, .inl w16)), (oq 3, .inl (cI, 600, .inl w17)), (oq 4, .inl (cI, 600, .inl w18))]) [3, 4, 5, 6] (by decide) rfl
                have hFc := va_free (wc := [(oq 1, .inr (7, [.int (nI w15), .ref (oq 2), .ref (oq 3), .ref (oq 4)])), (oq 2, .inl (cI, 600, .inl w16)), (oq 3, .inl (cI, 600, .inl w17)), (oq 4, .inl (cI, 600, .inl w18))]) hD hS hA [3, 4, 5, 6] rfl
                refine va_callv (va_runV (As := [.int w6, .int 0]) (rest := []) ⟨hx, hb, hml, hown, hts⟩ (k_padd l D _ oq cI w15 w16 w17 w18 w6 0 hx19_3) (cwV 2 hts g_k_aSumEnd_k_padd_118 rfl rfl rfl (by decide +kernel) ⟨(Nat.le_of_ble_eq_true rfl), (Nat.le_of_ble_eq_true rfl)⟩) (PcWC_V (q0 := 0) hPc hKc hDc hN rfl rfl) rfl rfl hl.1 rfl (lv_room (Nat.le_of_ble_eq_true rfl)) dX6_acceptSumEnd_100 ⟨(Nat.le_of_ble_eq_true rfl), (Nat.le_of_ble_eq_true rfl)⟩) hS (fun q _ h => hFc q h) hFc (fun uu tt H locs htt hvm hw hB hz1 hk1 hS => ?_)
                obtain ⟨w158, w159, w160, w161⟩ := uu
                obtain ⟨hP1, hK1, hD1⟩ := hB
                rw [htt] at hP1
                have hK1 := va_K.moved hvm.symm hK1
                have hP1 : va_P D vwCl [(oq 1, .inr (7, [.int (nI w158), .ref (oq 2), .ref (oq 3), .ref (oq 4)])), (oq 2, .inl (cI, 600, .inl w159)), (oq 3, .inl (cI, 600, .inl w160)), (oq 4, .inl (cI, 600, .inl w161))] H := hP1
                obtain ⟨hP, hD⟩ := va_join (wr := [(oq 0, .inr (6, gPs oq w2 w3 w4 w5 w6 w7 w8 w9 w10 (nI w11) (nI w12))), (oq 6, .inl (cI, 5, .inl w13)), (oq 7, .inl (cI, 600, .inl w14)), (oq 5, .inr (8, [tx, .int zl, .int ta, .int be, .int ki, .int nu, .int wo]))]) (w1 := [(oq 1, .inr (7, [.int (nI w158), .ref (oq 2), .ref (oq 3), .ref (oq 4)])), (oq 2, .inl (cI, 600, .inl w159)), (oq 3, .inl (cI, 600, .inl w160)), (oq 4, .inl (cI, 600, .inl w161))]) hP hD [3, 4, 5, 6] [0, 1, 2, 7] rfl rfl (by decide) (by decide) hk1 hFc hP1 hD1
                have hP : va_P D vwCl [(oq 0, .inr (6, gPs oq w2 w3 w4 w5 w6 w7 w8 w9 w10 (nI w11) (nI w12))), (oq 6, .inl (cI, 5, .inl w13)), (oq 7, .inl (cI, 600, .inl w14)), (oq 5, .inr (8, [tx, .int zl, .int ta, .int be, .int ki, .int nu, .int wo])), (oq 1, .inr (7, [.int (nI w158), .ref (oq 2), .ref (oq 3), .ref (oq 4)])), (oq 2, .inl (cI, 600, .inl w159)), (oq 3, .inl (cI, 600, .inl w160)), (oq 4, .inl (cI, 600, .inl w161))] H := hP
                have hD : va_D A [(oq 0, .inr (6, gPs oq w2 w3 w4 w5 w6 w7 w8 w9 w10 (nI w11) (nI w12))), (oq 6, .inl (cI, 5, .inl w13)), (oq 7, .inl (cI, 600, .inl w14)), (oq 5, .inr (8, [tx, .int zl, .int ta, .int be, .int ki, .int nu, .int wo])), (oq 1, .inr (7, [.int (nI w158), .ref (oq 2), .ref (oq 3), .ref (oq 4)])), (oq 2, .inl (cI, 600, .inl w159)), (oq 3, .inl (cI, 600, .inl w160)), (oq 4, .inl (cI, 600, .inl w161))] := hD
                try dsimp only at hw
                clear hz1 hk1 hFc hPc hKc hDc
                have hpz162 := hw
                refine lv_aload_n hx hb dX6_acceptSumEnd_103 rfl (lv_at hl 0 rfl) ?_
                refine lv_iconst (v := 0) hx hb dX6_acceptSumEnd_104 (by decide) ?_
                refine va_put (D := D) (ci := 6) (v := .int 0) (ty := .int) (C := RX6) (T := TX6) (N := 15) hx hb hts hin_X6 tyX6 tyX6_ok nmX6 hown hK hP hD hS 0 rfl rfl 5 (by decide) (hts (.fieldLink RX6 39 "ClashFree$Parser" "state" "I") (List.mem_of_getElem? (i := 14) rfl)) (fun _ h9 => h9) rfl (by decide +kernel) rfl rfl (Nat.le_of_ble_eq_true rfl) dX6_acceptSumEnd_105 (fun H locs hP hD hS => ?_)
                have hP : va_P D vwCl [(oq 0, .inr (6, gPs oq w2 w3 w4 0 w6 w7 w8 w9 w10 (nI w11) (nI w12))), (oq 6, .inl (cI, 5, .inl w13)), (oq 7, .inl (cI, 600, .inl w14)), (oq 5, .inr (8, [tx, .int zl, .int ta, .int be, .int ki, .int nu, .int wo])), (oq 1, .inr (7, [.int (nI w158), .ref (oq 2), .ref (oq 3), .ref (oq 4)])), (oq 2, .inl (cI, 600, .inl w159)), (oq 3, .inl (cI, 600, .inl w160)), (oq 4, .inl (cI, 600, .inl w161))] H := hP
                have hD : va_D A [(oq 0, .inr (6, gPs oq w2 w3 w4 0 w6 w7 w8 w9 w10 (nI w11) (nI w12))), (oq 6, .inl (cI, 5, .inl w13)), (oq 7, .inl (cI, 600, .inl w14)), (oq 5, .inr (8, [tx, .int zl, .int ta, .int be, .int ki, .int nu, .int wo])), (oq 1, .inr (7, [.int (nI w158), .ref (oq 2), .ref (oq 3), .ref (oq 4)])), (oq 2, .inl (cI, 600, .inl w159)), (oq 3, .inl (cI, 600, .inl w160)), (oq 4, .inl (cI, 600, .inl w161))] := hD
                refine lv_goto (tgt := 115) hx hb dX6_acceptSumEnd_108 (by decide) ?_
                exact W.vret hx hb hr (fun t ht hW => ⟨⟨(w2, w3, w4, 0, w6, w7, w8, w9, w10, w11, w12, w13, w14, w158, w159, w160, w161), rfl, (by (try dsimp only); first | done | exact ⟨by omega, by omega, by omega⟩), by rw [ht]; exact hP.sub [0, 1, 2, 4, 5, 6, 7, 3] rfl, va_K.moved hW.alike (hK.sub [0] rfl), hD.sub [0, 1, 2, 4, 5, 6, 7, 3] (by decide) rfl⟩, hS.F ht⟩) hS.2.2 dX6_acceptSumEnd_115
              ·
                refine lv_iconst (v := 3) hx hb dX6_acceptSumEnd_91 (by decide) ?_
                refine lv_goto (tgt := 99) hx hb dX6_acceptSumEnd_92 (by decide) ?_
                refine lv_iconst (v := 0) hx hb dX6_acceptSumEnd_99 (by decide) ?_
                have hPc := hP.sub (ws' := [(oq 1, .inr (7, [.int (nI w15), .ref (oq 2), .ref (oq 3), .ref (oq 4)])), (oq 2, .inl (cI, 600, .inl w16)), (oq 3, .inl (cI, 600, .inl w17)), (oq 4, .inl (cI, 600, .inl w18))]) [3, 4, 5, 6] rfl
                have hKc := hK.sub (tys' := [(cI, .int)]) [0] rfl
                have hDc := hD.sub (ws' := [(oq 1, .inr (7, [.int (nI w15), .ref (oq 2), .ref (oq 3), .ref (oq 4)])), (oq 2, .inl (cI, 600, .inl w16)), (oq 3, .inl (cI, 600, .inl w17)), (oq 4, .inl (cI, 600, .inl w18))]) [3, 4, 5, 6] (by decide) rfl
                have hFc := va_free (wc := [(oq 1, .inr (7, [.int (nI w15), .ref (oq 2), .ref (oq 3), .ref (oq 4)])), (oq 2, .inl (cI, 600, .inl w16)), (oq 3, .inl (cI, 600, .inl w17)), (oq 4, .inl (cI, 600, .inl w18))]) hD hS hA [3, 4, 5, 6] rfl
                refine va_callv (va_runV (As := [.int 3, .int 0]) (rest := []) ⟨hx, hb, hml, hown, hts⟩ (k_padd l D _ oq cI w15 w16 w17 w18 3 0 hx19_3) (cwV 2 hts g_k_aSumEnd_k_padd_118 rfl rfl rfl (by decide +kernel) ⟨(Nat.le_of_ble_eq_true rfl), (Nat.le_of_ble_eq_true rfl)⟩) (PcWC_V (q0 := 0) hPc hKc hDc hN rfl rfl) rfl rfl hl.1 rfl (lv_room (Nat.le_of_ble_eq_true rfl)) dX6_acceptSumEnd_100 ⟨(Nat.le_of_ble_eq_true rfl), (Nat.le_of_ble_eq_true rfl)⟩) hS (fun q _ h => hFc q h) hFc (fun uu tt H locs htt hvm hw hB hz1 hk1 hS => ?_)
                obtain ⟨w164, w165, w166, w167⟩ := uu
                obtain ⟨hP1, hK1, hD1⟩ := hB
                rw [htt] at hP1
                have hK1 := va_K.moved hvm.symm hK1
                have hP1 : va_P D vwCl [(oq 1, .inr (7, [.int (nI w164), .ref (oq 2), .ref (oq 3), .ref (oq 4)])), (oq 2, .inl (cI, 600, .inl w165)), (oq 3, .inl (cI, 600, .inl w166)), (oq 4, .inl (cI, 600, .inl w167))] H := hP1
                obtain ⟨hP, hD⟩ := va_join (wr := [(oq 0, .inr (6, gPs oq w2 w3 w4 w5 w6 w7 w8 w9 w10 (nI w11) (nI w12))), (oq 6, .inl (cI, 5, .inl w13)), (oq 7, .inl (cI, 600, .inl w14)), (oq 5, .inr (8, [tx, .int zl, .int ta, .int be, .int ki, .int nu, .int wo]))]) (w1 := [(oq 1, .inr (7, [.int (nI w164), .ref (oq 2), .ref (oq 3), .ref (oq 4)])), (oq 2, .inl (cI, 600, .inl w165)), (oq 3, .inl (cI, 600, .inl w166)), (oq 4, .inl (cI, 600, .inl w167))]) hP hD [3, 4, 5, 6] [0, 1, 2, 7] rfl rfl (by decide) (by decide) hk1 hFc hP1 hD1
                have hP : va_P D vwCl [(oq 0, .inr (6, gPs oq w2 w3 w4 w5 w6 w7 w8 w9 w10 (nI w11) (nI w12))), (oq 6, .inl (cI, 5, .inl w13)), (oq 7, .inl (cI, 600, .inl w14)), (oq 5, .inr (8, [tx, .int zl, .int ta, .int be, .int ki, .int nu, .int wo])), (oq 1, .inr (7, [.int (nI w164), .ref (oq 2), .ref (oq 3), .ref (oq 4)])), (oq 2, .inl (cI, 600, .inl w165)), (oq 3, .inl (cI, 600, .inl w166)), (oq 4, .inl (cI, 600, .inl w167))] H := hP
                have hD : va_D A [(oq 0, .inr (6, gPs oq w2 w3 w4 w5 w6 w7 w8 w9 w10 (nI w11) (nI w12))), (oq 6, .inl (cI, 5, .inl w13)), (oq 7, .inl (cI, 600, .inl w14)), (oq 5, .inr (8, [tx, .int zl, .int ta, .int be, .int ki, .int nu, .int wo])), (oq 1, .inr (7, [.int (nI w164), .ref (oq 2), .ref (oq 3), .ref (oq 4)])), (oq 2, .inl (cI, 600, .inl w165)), (oq 3, .inl (cI, 600, .inl w166)), (oq 4, .inl (cI, 600, .inl w167))] := hD
                try dsimp only at hw
                clear hz1 hk1 hFc hPc hKc hDc
                have hpz168 := hw
                refine lv_aload_n hx hb dX6_acceptSumEnd_103 rfl (lv_at hl 0 rfl) ?_
                refine lv_iconst (v := 0) hx hb dX6_acceptSumEnd_104 (by decide) ?_
                refine va_put (D := D) (ci := 6) (v := .int 0) (ty := .int) (C := RX6) (T := TX6) (N := 15) hx hb hts hin_X6 tyX6 tyX6_ok nmX6 hown hK hP hD hS 0 rfl rfl 5 (by decide) (hts (.fieldLink RX6 39 "ClashFree$Parser" "state" "I") (List.mem_of_getElem? (i := 14) rfl)) (fun _ h9 => h9) rfl (by decide +kernel) rfl rfl (Nat.le_of_ble_eq_true rfl) dX6_acceptSumEnd_105 (fun H locs hP hD hS => ?_)
                have hP : va_P D vwCl [(oq 0, .inr (6, gPs oq w2 w3 w4 0 w6 w7 w8 w9 w10 (nI w11) (nI w12))), (oq 6, .inl (cI, 5, .inl w13)), (oq 7, .inl (cI, 600, .inl w14)), (oq 5, .inr (8, [tx, .int zl, .int ta, .int be, .int ki, .int nu, .int wo])), (oq 1, .inr (7, [.int (nI w164), .ref (oq 2), .ref (oq 3), .ref (oq 4)])), (oq 2, .inl (cI, 600, .inl w165)), (oq 3, .inl (cI, 600, .inl w166)), (oq 4, .inl (cI, 600, .inl w167))] H := hP
                have hD : va_D A [(oq 0, .inr (6, gPs oq w2 w3 w4 0 w6 w7 w8 w9 w10 (nI w11) (nI w12))), (oq 6, .inl (cI, 5, .inl w13)), (oq 7, .inl (cI, 600, .inl w14)), (oq 5, .inr (8, [tx, .int zl, .int ta, .int be, .int ki, .int nu, .int wo])), (oq 1, .inr (7, [.int (nI w164), .ref (oq 2), .ref (oq 3), .ref (oq 4)])), (oq 2, .inl (cI, 600, .inl w165)), (oq 3, .inl (cI, 600, .inl w166)), (oq 4, .inl (cI, 600, .inl w167))] := hD
                refine lv_goto (tgt := 115) hx hb dX6_acceptSumEnd_108 (by decide) ?_
                exact W.vret hx hb hr (fun t ht hW => ⟨⟨(w2, w3, w4, 0, w6, w7, w8, w9, w10, w11, w12, w13, w14, w164, w165, w166, w167), rfl, (by (try dsimp only); first | done | exact ⟨by omega, by omega, by omega⟩), by rw [ht]; exact hP.sub [0, 1, 2, 4, 5, 6, 7, 3] rfl, va_K.moved hW.alike (hK.sub [0] rfl), hD.sub [0, 1, 2, 4, 5, 6, 7, 3] (by decide) rfl⟩, hS.F ht⟩) hS.2.2 dX6_acceptSumEnd_115
      ·
        refine lv_aload_n hx hb dX6_acceptSumEnd_46 rfl (lv_at hl 0 rfl) ?_
        refine lv_bipush (v := 9) hx hb dX6_acceptSumEnd_47 (by decide) ?_
        refine lv_iconst (v := 0) hx hb dX6_acceptSumEnd_49 (by decide) ?_
        have hPc := hP.sub (ws' := [(oq 0, .inr (6, gPs oq w2 w3 w4 w5 w6 w7 w8 w9 w10 (nI w11) (nI w12))), (oq 6, .inl (cI, 5, .inl w13)), (oq 7, .inl (cI, 600, .inl w14)), (oq 1, .inr (7, [.int (nI w15), .ref (oq 2), .ref (oq 3), .ref (oq 4)])), (oq 2, .inl (cI, 600, .inl w16)), (oq 3, .inl (cI, 600, .inl w17)), (oq 4, .inl (cI, 600, .inl w18)), (oq 5, .inr (8, [tx, .int zl, .int ta, .int be, .int ki, .int nu, .int wo]))]) [0, 1, 2, 3, 4, 5, 6, 7] rfl
        have hKc := hK.sub (tys' := [(cI, .int)]) [0] rfl
        have hDc := hD.sub (ws' := [(oq 0, .inr (6, gPs oq w2 w3 w4 w5 w6 w7 w8 w9 w10 (nI w11) (nI w12))), (oq 6, .inl (cI, 5, .inl w13)), (oq 7, .inl (cI, 600, .inl w14)), (oq 1, .inr (7, [.int (nI w15), .ref (oq 2), .ref (oq 3), .ref (oq 4)])), (oq 2, .inl (cI, 600, .inl w16)), (oq 3, .inl (cI, 600, .inl w17)), (oq 4, .inl (cI, 600, .inl w18)), (oq 5, .inr (8, [tx, .int zl, .int ta, .int be, .int ki, .int nu, .int wo]))]) [0, 1, 2, 3, 4, 5, 6, 7] (by decide) rfl
        have hFc := va_free (wc := [(oq 0, .inr (6, gPs oq w2 w3 w4 w5 w6 w7 w8 w9 w10 (nI w11) (nI w12))), (oq 6, .inl (cI, 5, .inl w13)), (oq 7, .inl (cI, 600, .inl w14)), (oq 1, .inr (7, [.int (nI w15), .ref (oq 2), .ref (oq 3), .ref (oq 4)])), (oq 2, .inl (cI, 600, .inl w16)), (oq 3, .inl (cI, 600, .inl w17)), (oq 4, .inl (cI, 600, .inl w18)), (oq 5, .inr (8, [tx, .int zl, .int ta, .int be, .int ki, .int nu, .int wo]))]) hD hS hA [0, 1, 2, 3, 4, 5, 6, 7] rfl
        refine va_callv (va_runV (As := [.int 9, .int 0]) (rest := []) ⟨hx, hb, hml, hown, hts⟩ (k_open l D _ oq cI w2 w3 w4 w5 w6 w7 w8 w9 w10 w11 w12 w13 w14 w15 w16 w17 w18 tx zl ta be ki nu wo 9 0 hx19_1 hx19_2 hx19_3) (cwV 2 hts g_k_aSumEnd_k_open_137 rfl rfl rfl (by decide +kernel) ⟨(Nat.le_of_ble_eq_true rfl), (Nat.le_of_ble_eq_true rfl)⟩) (PcWC_V (q0 := 0) hPc hKc hDc hN rfl rfl) rfl rfl hl.1 rfl (lv_room (Nat.le_of_ble_eq_true rfl)) dX6_acceptSumEnd_50 ⟨(Nat.le_of_ble_eq_true rfl), (Nat.le_of_ble_eq_true rfl)⟩) hS (fun q _ h => hFc q h) hFc (fun uu tt H locs htt hvm hw hB hz1 hk1 hS => ?_)
        obtain ⟨w170, w171, w172, w173, w174, w175, w176, w177, w178, w179, w180, w181, w182, w183, w184, w185, w186⟩ := uu
        obtain ⟨hP1, hK1, hD1⟩ := hB
        rw [htt] at hP1
        have hK1 := va_K.moved hvm.symm hK1
        have hP1 : va_P D vwCl [(oq 0, .inr (6, gPs oq w170 w171 w172 w173 w174 w175 w176 w177 w178 (nI w179) (nI w180))), (oq 6, .inl (cI, 5, .inl w181)), (oq 7, .inl (cI, 600, .inl w182)), (oq 1, .inr (7, [.int (nI w183), .ref (oq 2), .ref (oq 3), .ref (oq 4)])), (oq 2, .inl (cI, 600, .inl w184)), (oq 3, .inl (cI, 600, .inl w185)), (oq 4, .inl (cI, 600, .inl w186)), (oq 5, .inr (8, [tx, .int zl, .int ta, .int be, .int ki, .int nu, .int wo]))] H := hP1
        obtain ⟨hP, hD⟩ := va_join (wr := []) (w1 := [(oq 0, .inr (6, gPs oq w170 w171 w172 w173 w174 w175 w176 w177 w178 (nI w179) (nI w180))), (oq 6, .inl (cI, 5, .inl w181)), (oq 7, .inl (cI, 600, .inl w182)), (oq 1, .inr (7, [.int (nI w183), .ref (oq 2), .ref (oq 3), .ref (oq 4)])), (oq 2, .inl (cI, 600, .inl w184)), (oq 3, .inl (cI, 600, .inl w185)), (oq 4, .inl (cI, 600, .inl w186)), (oq 5, .inr (8, [tx, .int zl, .int ta, .int be, .int ki, .int nu, .int wo]))]) hP hD [0, 1, 2, 3, 4, 5, 6, 7] [] rfl rfl (by decide) (by decide) hk1 hFc hP1 hD1
        have hP : va_P D vwCl [(oq 0, .inr (6, gPs oq w170 w171 w172 w173 w174 w175 w176 w177 w178 (nI w179) (nI w180))), (oq 6, .inl (cI, 5, .inl w181)), (oq 7, .inl (cI, 600, .inl w182)), (oq 1, .inr (7, [.int (nI w183), .ref (oq 2), .ref (oq 3), .ref (oq 4)])), (oq 2, .inl (cI, 600, .inl w184)), (oq 3, .inl (cI, 600, .inl w185)), (oq 4, .inl (cI, 600, .inl w186)), (oq 5, .inr (8, [tx, .int zl, .int ta, .int be, .int ki, .int nu, .int wo]))] H := hP
        have hD : va_D A [(oq 0, .inr (6, gPs oq w170 w171 w172 w173 w174 w175 w176 w177 w178 (nI w179) (nI w180))), (oq 6, .inl (cI, 5, .inl w181)), (oq 7, .inl (cI, 600, .inl w182)), (oq 1, .inr (7, [.int (nI w183), .ref (oq 2), .ref (oq 3), .ref (oq 4)])), (oq 2, .inl (cI, 600, .inl w184)), (oq 3, .inl (cI, 600, .inl w185)), (oq 4, .inl (cI, 600, .inl w186)), (oq 5, .inr (8, [tx, .int zl, .int ta, .int be, .int ki, .int nu, .int wo]))] := hD
        try dsimp only at hw
        clear hz1 hk1 hFc hPc hKc hDc
        obtain ⟨hx187_1, hx187_2, hx187_3⟩ := hw
        refine lv_goto (tgt := 115) hx hb dX6_acceptSumEnd_53 (by decide) ?_
        exact W.vret hx hb hr (fun t ht hW => ⟨⟨(w170, w171, w172, w173, w174, w175, w176, w177, w178, w179, w180, w181, w182, w183, w184, w185, w186), rfl, (by (try dsimp only); first | done | exact ⟨by omega, by omega, by omega⟩), by rw [ht]; exact hP.sub [0, 1, 2, 3, 4, 5, 6, 7] rfl, va_K.moved hW.alike (hK.sub [0] rfl), hD.sub [0, 1, 2, 3, 4, 5, 6, 7] (by decide) rfl⟩, hS.F ht⟩) hS.2.2 dX6_acceptSumEnd_115
  ·
    refine lv_iload_n hx hb dX6_acceptSumEnd_13 rfl (lv_at hl 1 rfl) ?_
    refine lv_iconst (v := 4) hx hb dX6_acceptSumEnd_14 (by decide) ?_
    refine lv_icmp_ne (tgt := 31) hx hb dX6_acceptSumEnd_15 (by decide) (fun hc188 => ?_) (fun hc188 => ?_)
    ·
      refine lv_aload_n hx hb dX6_acceptSumEnd_31 rfl (lv_at hl 0 rfl) ?_
      refine va_get (D := D) (ci := 6) (v := .int w6) (C := RX6) (T := TX6) (N := 15) hx hb hts hin_X6 hown hK hP 0 rfl rfl 6 (by decide) (hts (.fieldLink RX6 103 "ClashFree$Parser" "statement" "I") (List.mem_of_getElem? (i := 5) rfl)) (fun _ h9 => h9) rfl dX6_acceptSumEnd_32 ?_
      refine lv_bipush (v := 9) hx hb dX6_acceptSumEnd_35 (by decide) ?_
      refine lv_icmp_ne (tgt := 56) hx hb dX6_acceptSumEnd_37 (by decide) (fun hc189 => ?_) (fun hc189 => ?_)
      ·
        refine lv_aload_n hx hb dX6_acceptSumEnd_56 rfl (lv_at hl 0 rfl) ?_
        refine va_get (D := D) (ci := 6) (v := .int w6) (C := RX6) (T := TX6) (N := 15) hx hb hts hin_X6 hown hK hP 0 rfl rfl 6 (by decide) (hts (.fieldLink RX6 103 "ClashFree$Parser" "statement" "I") (List.mem_of_getElem? (i := 5) rfl)) (fun _ h9 => h9) rfl dX6_acceptSumEnd_57 ?_
        refine lv_iconst (v := 3) hx hb dX6_acceptSumEnd_60 (by decide) ?_
        refine lv_icmp_eq (tgt := 111) hx hb dX6_acceptSumEnd_61 (by decide) (fun hc190 => ?_) (fun hc190 => ?_)
        ·
          refine lv_aload_n hx hb dX6_acceptSumEnd_111 rfl (lv_at hl 0 rfl) ?_
          have hPc := hP.sub (ws' := [(oq 0, .inr (6, gPs oq w2 w3 w4 w5 w6 w7 w8 w9 w10 (nI w11) (nI w12))), (oq 6, .inl (cI, 5, .inl w13)), (oq 7, .inl (cI, 600, .inl w14)), (oq 1, .inr (7, [.int (nI w15), .ref (oq 2), .ref (oq 3), .ref (oq 4)])), (oq 2, .inl (cI, 600, .inl w16)), (oq 3, .inl (cI, 600, .inl w17)), (oq 4, .inl (cI, 600, .inl w18)), (oq 5, .inr (8, [tx, .int zl, .int ta, .int be, .int ki, .int nu, .int wo]))]) [0, 1, 2, 3, 4, 5, 6, 7] rfl
          have hKc := hK.sub (tys' := [(cI, .int)]) [0] rfl
          have hDc := hD.sub (ws' := [(oq 0, .inr (6, gPs oq w2 w3 w4 w5 w6 w7 w8 w9 w10 (nI w11) (nI w12))), (oq 6, .inl (cI, 5, .inl w13)), (oq 7, .inl (cI, 600, .inl w14)), (oq 1, .inr (7, [.int (nI w15), .ref (oq 2), .ref (oq 3), .ref (oq 4)])), (oq 2, .inl (cI, 600, .inl w16)), (oq 3, .inl (cI, 600, .inl w17)), (oq 4, .inl (cI, 600, .inl w18)), (oq 5, .inr (8, [tx, .int zl, .int ta, .int be, .int ki, .int nu, .int wo]))]) [0, 1, 2, 3, 4, 5, 6, 7] (by decide) rfl
          have hFc := va_free (wc := [(oq 0, .inr (6, gPs oq w2 w3 w4 w5 w6 w7 w8 w9 w10 (nI w11) (nI w12))), (oq 6, .inl (cI, 5, .inl w13)), (oq 7, .inl (cI, 600, .inl w14)), (oq 1, .inr (7, [.int (nI w15), .ref (oq 2), .ref (oq 3), .ref (oq 4)])), (oq 2, .inl (cI, 600, .inl w16)), (oq 3, .inl (cI, 600, .inl w17)), (oq 4, .inl (cI, 600, .inl w18)), (oq 5, .inr (8, [tx, .int zl, .int ta, .int be, .int ki, .int nu, .int wo]))]) hD hS hA [0, 1, 2, 3, 4, 5, 6, 7] rfl
          refine va_callv (va_runV (As := []) (rest := []) ⟨hx, hb, hml, hown, hts⟩ (k_refuse l D _ oq cI w2 w3 w4 w5 w6 w7 w8 w9 w10 w11 w12 w13 w14 w15 w16 w17 w18 tx zl ta be ki nu wo hx19_1 hx19_2 hx19_3) (cwV 0 hts g_k_aSumEnd_k_refuse_112 rfl rfl rfl (by decide +kernel) ⟨(Nat.le_of_ble_eq_true rfl), (Nat.le_of_ble_eq_true rfl)⟩) (PcWC_V (q0 := 0) hPc hKc hDc hN rfl rfl) rfl rfl hl.1 rfl (lv_room (Nat.le_of_ble_eq_true rfl)) dX6_acceptSumEnd_112 ⟨(Nat.le_of_ble_eq_true rfl), (Nat.le_of_ble_eq_true rfl)⟩) hS (fun q _ h => hFc q h) hFc (fun uu tt H locs htt hvm hw hB hz1 hk1 hS => ?_)
          obtain ⟨w192, w193, w194, w195, w196, w197, w198, w199, w200, w201, w202, w203, w204, w205, w206, w207, w208⟩ := uu
          obtain ⟨hP1, hK1, hD1⟩ := hB
          rw [htt] at hP1
          have hK1 := va_K.moved hvm.symm hK1
          have hP1 : va_P D vwCl [(oq 0, .inr (6, gPs oq w192 w193 w194 w195 w196 w197 w198 w199 w200 (nI w201) (nI w202))), (oq 6, .inl (cI, 5, .inl w203)), (oq 7, .inl (cI, 600, .inl w204)), (oq 1, .inr (7, [.int (nI w205), .ref (oq 2), .ref (oq 3), .ref (oq 4)])), (oq 2, .inl (cI, 600, .inl w206)), (oq 3, .inl (cI, 600, .inl w207)), (oq 4, .inl (cI, 600, .inl w208)), (oq 5, .inr (8, [tx, .int zl, .int ta, .int be, .int ki, .int nu, .int wo]))] H := hP1
          obtain ⟨hP, hD⟩ := va_join (wr := []) (w1 := [(oq 0, .inr (6, gPs oq w192 w193 w194 w195 w196 w197 w198 w199 w200 (nI w201) (nI w202))), (oq 6, .inl (cI, 5, .inl w203)), (oq 7, .inl (cI, 600, .inl w204)), (oq 1, .inr (7, [.int (nI w205), .ref (oq 2), .ref (oq 3), .ref (oq 4)])), (oq 2, .inl (cI, 600, .inl w206)), (oq 3, .inl (cI, 600, .inl w207)), (oq 4, .inl (cI, 600, .inl w208)), (oq 5, .inr (8, [tx, .int zl, .int ta, .int be, .int ki, .int nu, .int wo]))]) hP hD [0, 1, 2, 3, 4, 5, 6, 7] [] rfl rfl (by decide) (by decide) hk1 hFc hP1 hD1
          have hP : va_P D vwCl [(oq 0, .inr (6, gPs oq w192 w193 w194 w195 w196 w197 w198 w199 w200 (nI w201) (nI w202))), (oq 6, .inl (cI, 5, .inl w203)), (oq 7, .inl (cI, 600, .inl w204)), (oq 1, .inr (7, [.int (nI w205), .ref (oq 2), .ref (oq 3), .ref (oq 4)])), (oq 2, .inl (cI, 600, .inl w206)), (oq 3, .inl (cI, 600, .inl w207)), (oq 4, .inl (cI, 600, .inl w208)), (oq 5, .inr (8, [tx, .int zl, .int ta, .int be, .int ki, .int nu, .int wo]))] H := hP
          have hD : va_D A [(oq 0, .inr (6, gPs oq w192 w193 w194 w195 w196 w197 w198 w199 w200 (nI w201) (nI w202))), (oq 6, .inl (cI, 5, .inl w203)), (oq 7, .inl (cI, 600, .inl w204)), (oq 1, .inr (7, [.int (nI w205), .ref (oq 2), .ref (oq 3), .ref (oq 4)])), (oq 2, .inl (cI, 600, .inl w206)), (oq 3, .inl (cI, 600, .inl w207)), (oq 4, .inl (cI, 600, .inl w208)), (oq 5, .inr (8, [tx, .int zl, .int ta, .int be, .int ki, .int nu, .int wo]))] := hD
          try dsimp only at hw
          clear hz1 hk1 hFc hPc hKc hDc
          obtain ⟨hx209_1, hx209_2, hx209_3⟩ := hw
          exact W.vret hx hb hr (fun t ht hW => ⟨⟨(w192, w193, w194, w195, w196, w197, w198, w199, w200, w201, w202, w203, w204, w205, w206, w207, w208), rfl, (by (try dsimp only); first | done | exact ⟨by omega, by omega, by omega⟩), by rw [ht]; exact hP.sub [0, 1, 2, 3, 4, 5, 6, 7] rfl, va_K.moved hW.alike (hK.sub [0] rfl), hD.sub [0, 1, 2, 3, 4, 5, 6, 7] (by decide) rfl⟩, hS.F ht⟩) hS.2.2 dX6_acceptSumEnd_115
        ·
          refine lv_aload_n hx hb dX6_acceptSumEnd_64 rfl (lv_at hl 0 rfl) ?_
          refine va_get (D := D) (ci := 6) (v := .int w6) (C := RX6) (T := TX6) (N := 15) hx hb hts hin_X6 hown hK hP 0 rfl rfl 6 (by decide) (hts (.fieldLink RX6 103 "ClashFree$Parser" "statement" "I") (List.mem_of_getElem? (i := 5) rfl)) (fun _ h9 => h9) rfl dX6_acceptSumEnd_65 ?_
          refine lv_bipush (v := 9) hx hb dX6_acceptSumEnd_68 (by decide) ?_
          refine lv_icmp_eq (tgt := 111) hx hb dX6_acceptSumEnd_70 (by decide) (fun hc210 => ?_) (fun hc210 => ?_)
          ·
            refine lv_aload_n hx hb dX6_acceptSumEnd_111 rfl (lv_at hl 0 rfl) ?_
            have hPc := hP.sub (ws' := [(oq 0, .inr (6, gPs oq w2 w3 w4 w5 w6 w7 w8 w9 w10 (nI w11) (nI w12))), (oq 6, .inl (cI, 5, .inl w13)), (oq 7, .inl (cI, 600, .inl w14)), (oq 1, .inr (7, [.int (nI w15), .ref (oq 2), .ref (oq 3), .ref (oq 4)])), (oq 2, .inl (cI, 600, .inl w16)), (oq 3, .inl (cI, 600, .inl w17)), (oq 4, .inl (cI, 600, .inl w18)), (oq 5, .inr (8, [tx, .int zl, .int ta, .int be, .int ki, .int nu, .int wo]))]) [0, 1, 2, 3, 4, 5, 6, 7] rfl
            have hKc := hK.sub (tys' := [(cI, .int)]) [0] rfl
            have hDc := hD.sub (ws' := [(oq 0, .inr (6, gPs oq w2 w3 w4 w5 w6 w7 w8 w9 w10 (nI w11) (nI w12))), (oq 6, .inl (cI, 5, .inl w13)), (oq 7, .inl (cI, 600, .inl w14)), (oq 1, .inr (7, [.int (nI w15), .ref (oq 2), .ref (oq 3), .ref (oq 4)])), (oq 2, .inl (cI, 600, .inl w16)), (oq 3, .inl (cI, 600, .inl w17)), (oq 4, .inl (cI, 600, .inl w18)), (oq 5, .inr (8, [tx, .int zl, .int ta, .int be, .int ki, .int nu, .int wo]))]) [0, 1, 2, 3, 4, 5, 6, 7] (by decide) rfl
            have hFc := va_free (wc := [(oq 0, .inr (6, gPs oq w2 w3 w4 w5 w6 w7 w8 w9 w10 (nI w11) (nI w12))), (oq 6, .inl (cI, 5, .inl w13)), (oq 7, .inl (cI, 600, .inl w14)), (oq 1, .inr (7, [.int (nI w15), .ref (oq 2), .ref (oq 3), .ref (oq 4)])), (oq 2, .inl (cI, 600, .inl w16)), (oq 3, .inl (cI, 600, .inl w17)), (oq 4, .inl (cI, 600, .inl w18)), (oq 5, .inr (8, [tx, .int zl, .int ta, .int be, .int ki, .int nu, .int wo]))]) hD hS hA [0, 1, 2, 3, 4, 5, 6, 7] rfl
            refine va_callv (va_runV (As := []) (rest := []) ⟨hx, hb, hml, hown, hts⟩ (k_refuse l D _ oq cI w2 w3 w4 w5 w6 w7 w8 w9 w10 w11 w12 w13 w14 w15 w16 w17 w18 tx zl ta be ki nu wo hx19_1 hx19_2 hx19_3) (cwV 0 hts g_k_aSumEnd_k_refuse_112 rfl rfl rfl (by decide +kernel) ⟨(Nat.le_of_ble_eq_true rfl), (Nat.le_of_ble_eq_true rfl)⟩) (PcWC_V (q0 := 0) hPc hKc hDc hN rfl rfl) rfl rfl hl.1 rfl (lv_room (Nat.le_of_ble_eq_true rfl)) dX6_acceptSumEnd_112 ⟨(Nat.le_of_ble_eq_true rfl), (Nat.le_of_ble_eq_true rfl)⟩) hS (fun q _ h => hFc q h) hFc (fun uu tt H locs htt hvm hw hB hz1 hk1 hS => ?_)
            obtain ⟨w212, w213, w214, w215, w216, w217, w218, w219, w220, w221, w222, w223, w224, w225, w226, w227, w228⟩ := uu
            obtain ⟨hP1, hK1, hD1⟩ := hB
            rw [htt] at hP1
            have hK1 := va_K.moved hvm.symm hK1
            have hP1 : va_P D vwCl [(oq 0, .inr (6, gPs oq w212 w213 w214 w215 w216 w217 w218 w219 w220 (nI w221) (nI w222))), (oq 6, .inl (cI, 5, .inl w223)), (oq 7, .inl (cI, 600, .inl w224)), (oq 1, .inr (7, [.int (nI w225), .ref (oq 2), .ref (oq 3), .ref (oq 4)])), (oq 2, .inl (cI, 600, .inl w226)), (oq 3, .inl (cI, 600, .inl w227)), (oq 4, .inl (cI, 600, .inl w228)), (oq 5, .inr (8, [tx, .int zl, .int ta, .int be, .int ki, .int nu, .int wo]))] H := hP1
            obtain ⟨hP, hD⟩ := va_join (wr := []) (w1 := [(oq 0, .inr (6, gPs oq w212 w213 w214 w215 w216 w217 w218 w219 w220 (nI w221) (nI w222))), (oq 6, .inl (cI, 5, .inl w223)), (oq 7, .inl (cI, 600, .inl w224)), (oq 1, .inr (7, [.int (nI w225), .ref (oq 2), .ref (oq 3), .ref (oq 4)])), (oq 2, .inl (cI, 600, .inl w226)), (oq 3, .inl (cI, 600, .inl w227)), (oq 4, .inl (cI, 600, .inl w228)), (oq 5, .inr (8, [tx, .int zl, .int ta, .int be, .int ki, .int nu, .int wo]))]) hP hD [0, 1, 2, 3, 4, 5, 6, 7] [] rfl rfl (by decide) (by decide) hk1 hFc hP1 hD1
            have hP : va_P D vwCl [(oq 0, .inr (6, gPs oq w212 w213 w214 w215 w216 w217 w218 w219 w220 (nI w221) (nI w222))), (oq 6, .inl (cI, 5, .inl w223)), (oq 7, .inl (cI, 600, .inl w224)), (oq 1, .inr (7, [.int (nI w225), .ref (oq 2), .ref (oq 3), .ref (oq 4)])), (oq 2, .inl (cI, 600, .inl w226)), (oq 3, .inl (cI, 600, .inl w227)), (oq 4, .inl (cI, 600, .inl w228)), (oq 5, .inr (8, [tx, .int zl, .int ta, .int be, .int ki, .int nu, .int wo]))] H := hP
            have hD : va_D A [(oq 0, .inr (6, gPs oq w212 w213 w214 w215 w216 w217 w218 w219 w220 (nI w221) (nI w222))), (oq 6, .inl (cI, 5, .inl w223)), (oq 7, .inl (cI, 600, .inl w224)), (oq 1, .inr (7, [.int (nI w225), .ref (oq 2), .ref (oq 3), .ref (oq 4)])), (oq 2, .inl (cI, 600, .inl w226)), (oq 3, .inl (cI, 600, .inl w227)), (oq 4, .inl (cI, 600, .inl w228)), (oq 5, .inr (8, [tx, .int zl, .int ta, .int be, .int ki, .int nu, .int wo]))] := hD
            try dsimp only at hw
            clear hz1 hk1 hFc hPc hKc hDc
            obtain ⟨hx229_1, hx229_2, hx229_3⟩ := hw
            exact W.vret hx hb hr (fun t ht hW => ⟨⟨(w212, w213, w214, w215, w216, w217, w218, w219, w220, w221, w222, w223, w224, w225, w226, w227, w228), rfl, (by (try dsimp only); first | done | exact ⟨by omega, by omega, by omega⟩), by rw [ht]; exact hP.sub [0, 1, 2, 3, 4, 5, 6, 7] rfl, va_K.moved hW.alike (hK.sub [0] rfl), hD.sub [0, 1, 2, 3, 4, 5, 6, 7] (by decide) rfl⟩, hS.F ht⟩) hS.2.2 dX6_acceptSumEnd_115
          ·
            refine lv_iload_n hx hb dX6_acceptSumEnd_73 rfl (lv_at hl 1 rfl) ?_
            refine lv_bipush (v := 59) hx hb dX6_acceptSumEnd_74 (by decide) ?_
            refine lv_icmp_ne (tgt := 111) hx hb dX6_acceptSumEnd_76 (by decide) (fun hc230 => ?_) (fun hc230 => ?_)
            ·
              refine lv_aload_n hx hb dX6_acceptSumEnd_111 rfl (lv_at hl 0 rfl) ?_
              have hPc := hP.sub (ws' := [(oq 0, .inr (6, gPs oq w2 w3 w4 w5 w6 w7 w8 w9 w10 (nI w11) (nI w12))), (oq 6, .inl (cI, 5, .inl w13)), (oq 7, .inl (cI, 600, .inl w14)), (oq 1, .inr (7, [.int (nI w15), .ref (oq 2), .ref (oq 3), .ref (oq 4)])), (oq 2, .inl (cI, 600, .inl w16)), (oq 3, .inl (cI, 600, .inl w17)), (oq 4, .inl (cI, 600, .inl w18)), (oq 5, .inr (8, [tx, .int zl, .int ta, .int be, .int ki, .int nu, .int wo]))]) [0, 1, 2, 3, 4, 5, 6, 7] rfl
              have hKc := hK.sub (tys' := [(cI, .int)]) [0] rfl
              have hDc := hD.sub (ws' := [(oq 0, .inr (6, gPs oq w2 w3 w4 w5 w6 w7 w8 w9 w10 (nI w11) (nI w12))), (oq 6, .inl (cI, 5, .inl w13)), (oq 7, .inl (cI, 600, .inl w14)), (oq 1, .inr (7, [.int (nI w15), .ref (oq 2), .ref (oq 3), .ref (oq 4)])), (oq 2, .inl (cI, 600, .inl w16)), (oq 3, .inl (cI, 600, .inl w17)), (oq 4, .inl (cI, 600, .inl w18)), (oq 5, .inr (8, [tx, .int zl, .int ta, .int be, .int ki, .int nu, .int wo]))]) [0, 1, 2, 3, 4, 5, 6, 7] (by decide) rfl
              have hFc := va_free (wc := [(oq 0, .inr (6, gPs oq w2 w3 w4 w5 w6 w7 w8 w9 w10 (nI w11) (nI w12))), (oq 6, .inl (cI, 5, .inl w13)), (oq 7, .inl (cI, 600, .inl w14)), (oq 1, .inr (7, [.int (nI w15), .ref (oq 2), .ref (oq 3), .ref (oq 4)])), (oq 2, .inl (cI, 600, .inl w16)), (oq 3, .inl (cI, 600, .inl w17)), (oq 4, .inl (cI, 600, .inl w18)), (oq 5, .inr (8, [tx, .int zl, .int ta, .int be, .int ki, .int nu, .int wo]))]) hD hS hA [0, 1, 2, 3, 4, 5, 6, 7] rfl
              refine va_callv (va_runV (As := []) (rest := []) ⟨hx, hb, hml, hown, hts⟩ (k_refuse l D _ oq cI w2 w3 w4 w5 w6 w7 w8 w9 w10 w11 w12 w13 w14 w15 w16 w17 w18 tx zl ta be ki nu wo hx19_1 hx19_2 hx19_3) (cwV 0 hts g_k_aSumEnd_k_refuse_112 rfl rfl rfl (by decide +kernel) ⟨(Nat.le_of_ble_eq_true rfl), (Nat.le_of_ble_eq_true rfl)⟩) (PcWC_V (q0 := 0) hPc hKc hDc hN rfl rfl) rfl rfl hl.1 rfl (lv_room (Nat.le_of_ble_eq_true rfl)) dX6_acceptSumEnd_112 ⟨(Nat.le_of_ble_eq_true rfl), (Nat.le_of_ble_eq_true rfl)⟩) hS (fun q _ h => hFc q h) hFc (fun uu tt H locs htt hvm hw hB hz1 hk1 hS => ?_)
              obtain ⟨w232, w233, w234, w235, w236, w237, w238, w239, w240, w241, w242, w243, w244, w245, w246, w247, w248⟩ := uu
              obtain ⟨hP1, hK1, hD1⟩ := hB
              rw [htt] at hP1
              have hK1 := va_K.moved hvm.symm hK1
              have hP1 : va_P D vwCl [(oq 0, .inr (6, gPs oq w232 w233 w234 w235 w236 w237 w238 w239 w240 (nI w241) (nI w242))), (oq 6, .inl (cI, 5, .inl w243)), (oq 7, .inl (cI, 600, .inl w244)), (oq 1, .inr (7, [.int (nI w245), .ref (oq 2), .ref (oq 3), .ref (oq 4)])), (oq 2, .inl (cI, 600, .inl w246)), (oq 3, .inl (cI, 600, .inl w247)), (oq 4, .inl (cI, 600, .inl w248)), (oq 5, .inr (8, [tx, .int zl, .int ta, .int be, .int ki, .int nu, .int wo]))] H := hP1
              obtain ⟨hP, hD⟩ := va_join (wr := []) (w1 := [(oq 0, .inr (6, gPs oq w232 w233 w234 w235 w236 w237 w238 w239 w240 (nI w241) (nI w242))), (oq 6, .inl (cI, 5, .inl w243)), (oq 7, .inl (cI, 600, .inl w244)), (oq 1, .inr (7, [.int (nI w245), .ref (oq 2), .ref (oq 3), .ref (oq 4)])), (oq 2, .inl (cI, 600, .inl w246)), (oq 3, .inl (cI, 600, .inl w247)), (oq 4, .inl (cI, 600, .inl w248)), (oq 5, .inr (8, [tx, .int zl, .int ta, .int be, .int ki, .int nu, .int wo]))]) hP hD [0, 1, 2, 3, 4, 5, 6, 7] [] rfl rfl (by decide) (by decide) hk1 hFc hP1 hD1
              have hP : va_P D vwCl [(oq 0, .inr (6, gPs oq w232 w233 w234 w235 w236 w237 w238 w239 w240 (nI w241) (nI w242))), (oq 6, .inl (cI, 5, .inl w243)), (oq 7, .inl (cI, 600, .inl w244)), (oq 1, .inr (7, [.int (nI w245), .ref (oq 2), .ref (oq 3), .ref (oq 4)])), (oq 2, .inl (cI, 600, .inl w246)), (oq 3, .inl (cI, 600, .inl w247)), (oq 4, .inl (cI, 600, .inl w248)), (oq 5, .inr (8, [tx, .int zl, .int ta, .int be, .int ki, .int nu, .int wo]))] H := hP
              have hD : va_D A [(oq 0, .inr (6, gPs oq w232 w233 w234 w235 w236 w237 w238 w239 w240 (nI w241) (nI w242))), (oq 6, .inl (cI, 5, .inl w243)), (oq 7, .inl (cI, 600, .inl w244)), (oq 1, .inr (7, [.int (nI w245), .ref (oq 2), .ref (oq 3), .ref (oq 4)])), (oq 2, .inl (cI, 600, .inl w246)), (oq 3, .inl (cI, 600, .inl w247)), (oq 4, .inl (cI, 600, .inl w248)), (oq 5, .inr (8, [tx, .int zl, .int ta, .int be, .int ki, .int nu, .int wo]))] := hD
              try dsimp only at hw
              clear hz1 hk1 hFc hPc hKc hDc
              obtain ⟨hx249_1, hx249_2, hx249_3⟩ := hw
              exact W.vret hx hb hr (fun t ht hW => ⟨⟨(w232, w233, w234, w235, w236, w237, w238, w239, w240, w241, w242, w243, w244, w245, w246, w247, w248), rfl, (by (try dsimp only); first | done | exact ⟨by omega, by omega, by omega⟩), by rw [ht]; exact hP.sub [0, 1, 2, 3, 4, 5, 6, 7] rfl, va_K.moved hW.alike (hK.sub [0] rfl), hD.sub [0, 1, 2, 3, 4, 5, 6, 7] (by decide) rfl⟩, hS.F ht⟩) hS.2.2 dX6_acceptSumEnd_115
            ·
              refine lv_aload_n hx hb dX6_acceptSumEnd_79 rfl (lv_at hl 0 rfl) ?_
              refine va_get (D := D) (ci := 6) (v := .ref (oq 1)) (C := RX6) (T := TX6) (N := 15) hx hb hts hin_X6 hown hK hP 0 rfl rfl 3 (by decide) (hts (.fieldLink RX6 12 "ClashFree$Parser" "program" "LClashFree$Program;") (List.mem_of_getElem? (i := 9) rfl)) (fun _ h9 => h9) rfl dX6_acceptSumEnd_80 ?_
              refine lv_aload_n hx hb dX6_acceptSumEnd_83 rfl (lv_at hl 0 rfl) ?_
              refine va_get (D := D) (ci := 6) (v := .int w6) (C := RX6) (T := TX6) (N := 15) hx hb hts hin_X6 hown hK hP 0 rfl rfl 6 (by decide) (hts (.fieldLink RX6 103 "ClashFree$Parser" "statement" "I") (List.mem_of_getElem? (i := 5) rfl)) (fun _ h9 => h9) rfl dX6_acceptSumEnd_84 ?_
              refine lv_iconst (v := 4) hx hb dX6_acceptSumEnd_87 (by decide) ?_
              refine lv_icmp_ne (tgt := 95) hx hb dX6_acceptSumEnd_88 (by decide) (fun hc250 => ?_) (fun hc250 => ?_)
              ·
                refine lv_aload_n hx hb dX6_acceptSumEnd_95 rfl (lv_at hl 0 rfl) ?_
                refine va_get (D := D) (ci := 6) (v := .int w6) (C := RX6) (T := TX6) (N := 15) hx hb hts hin_X6 hown hK hP 0 rfl rfl 6 (by decide) (hts (.fieldLink RX6 103 "ClashFree$Parser" "statement" "I") (List.mem_of_getElem? (i := 5) rfl)) (fun _ h9 => h9) rfl dX6_acceptSumEnd_96 ?_
                refine lv_iconst (v := 0) hx hb dX6_acceptSumEnd_99 (by decide) ?_
                have hPc := hP.sub (ws' := [(oq 1, .inr (7, [.int (nI w15), .ref (oq 2), .ref (oq 3), .ref (oq 4)])), (oq 2, .inl (cI, 600, .inl w16)), (oq 3, .inl (cI, 600, .inl w17)), (oq 4, .inl (cI, 600, .inl w18))]) [3, 4, 5, 6] rfl
                have hKc := hK.sub (tys' := [(cI, .int)]) [0] rfl
                have hDc := hD.sub (ws' := [(oq 1, .inr (7, [.int (nI w15), .ref (oq 2), .ref (oq 3), .ref (oq 4)])), (oq 2, .inl (cI, 600, .inl w16)), (oq 3, .inl (cI, 600, .inl w17)), (oq 4, .inl (cI, 600, .inl w18))]) [3, 4, 5, 6] (by decide) rfl
                have hFc := va_free (wc := [(oq 1, .inr (7, [.int (nI w15), .ref (oq 2), .ref (oq 3), .ref (oq 4)])), (oq 2, .inl (cI, 600, .inl w16)), (oq 3, .inl (cI, 600, .inl w17)), (oq 4, .inl (cI, 600, .inl w18))]) hD hS hA [3, 4, 5, 6] rfl
                refine va_callv (va_runV (As := [.int w6, .int 0]) (rest := []) ⟨hx, hb, hml, hown, hts⟩ (k_padd l D _ oq cI w15 w16 w17 w18 w6 0 hx19_3) (cwV 2 hts g_k_aSumEnd_k_padd_118 rfl rfl rfl (by decide +kernel) ⟨(Nat.le_of_ble_eq_true rfl), (Nat.le_of_ble_eq_true rfl)⟩) (PcWC_V (q0 := 0) hPc hKc hDc hN rfl rfl) rfl rfl hl.1 rfl (lv_room (Nat.le_of_ble_eq_true rfl)) dX6_acceptSumEnd_100 ⟨(Nat.le_of_ble_eq_true rfl), (Nat.le_of_ble_eq_true rfl)⟩) hS (fun q _ h => hFc q h) hFc (fun uu tt H locs htt hvm hw hB hz1 hk1 hS => ?_)
                obtain ⟨w252, w253, w254, w255⟩ := uu
                obtain ⟨hP1, hK1, hD1⟩ := hB
                rw [htt] at hP1
                have hK1 := va_K.moved hvm.symm hK1
                have hP1 : va_P D vwCl [(oq 1, .inr (7, [.int (nI w252), .ref (oq 2), .ref (oq 3), .ref (oq 4)])), (oq 2, .inl (cI, 600, .inl w253)), (oq 3, .inl (cI, 600, .inl w254)), (oq 4, .inl (cI, 600, .inl w255))] H := hP1
                obtain ⟨hP, hD⟩ := va_join (wr := [(oq 0, .inr (6, gPs oq w2 w3 w4 w5 w6 w7 w8 w9 w10 (nI w11) (nI w12))), (oq 6, .inl (cI, 5, .inl w13)), (oq 7, .inl (cI, 600, .inl w14)), (oq 5, .inr (8, [tx, .int zl, .int ta, .int be, .int ki, .int nu, .int wo]))]) (w1 := [(oq 1, .inr (7, [.int (nI w252), .ref (oq 2), .ref (oq 3), .ref (oq 4)])), (oq 2, .inl (cI, 600, .inl w253)), (oq 3, .inl (cI, 600, .inl w254)), (oq 4, .inl (cI, 600, .inl w255))]) hP hD [3, 4, 5, 6] [0, 1, 2, 7] rfl rfl (by decide) (by decide) hk1 hFc hP1 hD1
                have hP : va_P D vwCl [(oq 0, .inr (6, gPs oq w2 w3 w4 w5 w6 w7 w8 w9 w10 (nI w11) (nI w12))), (oq 6, .inl (cI, 5, .inl w13)), (oq 7, .inl (cI, 600, .inl w14)), (oq 5, .inr (8, [tx, .int zl, .int ta, .int be, .int ki, .int nu, .int wo])), (oq 1, .inr (7, [.int (nI w252), .ref (oq 2), .ref (oq 3), .ref (oq 4)])), (oq 2, .inl (cI, 600, .inl w253)), (oq 3, .inl (cI, 600, .inl w254)), (oq 4, .inl (cI, 600, .inl w255))] H := hP
                have hD : va_D A [(oq 0, .inr (6, gPs oq w2 w3 w4 w5 w6 w7 w8 w9 w10 (nI w11) (nI w12))), (oq 6, .inl (cI, 5, .inl w13)), (oq 7, .inl (cI, 600, .inl w14)), (oq 5, .inr (8, [tx, .int zl, .int ta, .int be, .int ki, .int nu, .int wo])), (oq 1, .inr (7, [.int (nI w252), .ref (oq 2), .ref (oq 3), .ref (oq 4)])), (oq 2, .inl (cI, 600, .inl w253)), (oq 3, .inl (cI, 600, .inl w254)), (oq 4, .inl (cI, 600, .inl w255))] := hD
                try dsimp only at hw
                clear hz1 hk1 hFc hPc hKc hDc
                have hpz256 := hw
                refine lv_aload_n hx hb dX6_acceptSumEnd_103 rfl (lv_at hl 0 rfl) ?_
                refine lv_iconst (v := 0) hx hb dX6_acceptSumEnd_104 (by decide) ?_
                refine va_put (D := D) (ci := 6) (v := .int 0) (ty := .int) (C := RX6) (T := TX6) (N := 15) hx hb hts hin_X6 tyX6 tyX6_ok nmX6 hown hK hP hD hS 0 rfl rfl 5 (by decide) (hts (.fieldLink RX6 39 "ClashFree$Parser" "state" "I") (List.mem_of_getElem? (i := 14) rfl)) (fun _ h9 => h9) rfl (by decide +kernel) rfl rfl (Nat.le_of_ble_eq_true rfl) dX6_acceptSumEnd_105 (fun H locs hP hD hS => ?_)
                have hP : va_P D vwCl [(oq 0, .inr (6, gPs oq w2 w3 w4 0 w6 w7 w8 w9 w10 (nI w11) (nI w12))), (oq 6, .inl (cI, 5, .inl w13)), (oq 7, .inl (cI, 600, .inl w14)), (oq 5, .inr (8, [tx, .int zl, .int ta, .int be, .int ki, .int nu, .int wo])), (oq 1, .inr (7, [.int (nI w252), .ref (oq 2), .ref (oq 3), .ref (oq 4)])), (oq 2, .inl (cI, 600, .inl w253)), (oq 3, .inl (cI, 600, .inl w254)), (oq 4, .inl (cI, 600, .inl w255))] H := hP
                have hD : va_D A [(oq 0, .inr (6, gPs oq w2 w3 w4 0 w6 w7 w8 w9 w10 (nI w11) (nI w12))), (oq 6, .inl (cI, 5, .inl w13)), (oq 7, .inl (cI, 600, .inl w14)), (oq 5, .inr (8, [tx, .int zl, .int ta, .int be, .int ki, .int nu, .int wo])), (oq 1, .inr (7, [.int (nI w252), .ref (oq 2), .ref (oq 3), .ref (oq 4)])), (oq 2, .inl (cI, 600, .inl w253)), (oq 3, .inl (cI, 600, .inl w254)), (oq 4, .inl (cI, 600, .inl w255))] := hD
                refine lv_goto (tgt := 115) hx hb dX6_acceptSumEnd_108 (by decide) ?_
                exact W.vret hx hb hr (fun t ht hW => ⟨⟨(w2, w3, w4, 0, w6, w7, w8, w9, w10, w11, w12, w13, w14, w252, w253, w254, w255), rfl, (by (try dsimp only); first | done | exact ⟨by omega, by omega, by omega⟩), by rw [ht]; exact hP.sub [0, 1, 2, 4, 5, 6, 7, 3] rfl, va_K.moved hW.alike (hK.sub [0] rfl), hD.sub [0, 1, 2, 4, 5, 6, 7, 3] (by decide) rfl⟩, hS.F ht⟩) hS.2.2 dX6_acceptSumEnd_115
              ·
                refine lv_iconst (v := 3) hx hb dX6_acceptSumEnd_91 (by decide) ?_
                refine lv_goto (tgt := 99) hx hb dX6_acceptSumEnd_92 (by decide) ?_
                refine lv_iconst (v := 0) hx hb dX6_acceptSumEnd_99 (by decide) ?_
                have hPc := hP.sub (ws' := [(oq 1, .inr (7, [.int (nI w15), .ref (oq 2), .ref (oq 3), .ref (oq 4)])), (oq 2, .inl (cI, 600, .inl w16)), (oq 3, .inl (cI, 600, .inl w17)), (oq 4, .inl (cI, 600, .inl w18))]) [3, 4, 5, 6] rfl
                have hKc := hK.sub (tys' := [(cI, .int)]) [0] rfl
                have hDc := hD.sub (ws' := [(oq 1, .inr (7, [.int (nI w15), .ref (oq 2), .ref (oq 3), .ref (oq 4)])), (oq 2, .inl (cI, 600, .inl w16)), (oq 3, .inl (cI, 600, .inl w17)), (oq 4, .inl (cI, 600, .inl w18))]) [3, 4, 5, 6] (by decide) rfl
                have hFc := va_free (wc := [(oq 1, .inr (7, [.int (nI w15), .ref (oq 2), .ref (oq 3), .ref (oq 4)])), (oq 2, .inl (cI, 600, .inl w16)), (oq 3, .inl (cI, 600, .inl w17)), (oq 4, .inl (cI, 600, .inl w18))]) hD hS hA [3, 4, 5, 6] rfl
                refine va_callv (va_runV (As := [.int 3, .int 0]) (rest := []) ⟨hx, hb, hml, hown, hts⟩ (k_padd l D _ oq cI w15 w16 w17 w18 3 0 hx19_3) (cwV 2 hts g_k_aSumEnd_k_padd_118 rfl rfl rfl (by decide +kernel) ⟨(Nat.le_of_ble_eq_true rfl), (Nat.le_of_ble_eq_true rfl)⟩) (PcWC_V (q0 := 0) hPc hKc hDc hN rfl rfl) rfl rfl hl.1 rfl (lv_room (Nat.le_of_ble_eq_true rfl)) dX6_acceptSumEnd_100 ⟨(Nat.le_of_ble_eq_true rfl), (Nat.le_of_ble_eq_true rfl)⟩) hS (fun q _ h => hFc q h) hFc (fun uu tt H locs htt hvm hw hB hz1 hk1 hS => ?_)
                obtain ⟨w258, w259, w260, w261⟩ := uu
                obtain ⟨hP1, hK1, hD1⟩ := hB
                rw [htt] at hP1
                have hK1 := va_K.moved hvm.symm hK1
                have hP1 : va_P D vwCl [(oq 1, .inr (7, [.int (nI w258), .ref (oq 2), .ref (oq 3), .ref (oq 4)])), (oq 2, .inl (cI, 600, .inl w259)), (oq 3, .inl (cI, 600, .inl w260)), (oq 4, .inl (cI, 600, .inl w261))] H := hP1
                obtain ⟨hP, hD⟩ := va_join (wr := [(oq 0, .inr (6, gPs oq w2 w3 w4 w5 w6 w7 w8 w9 w10 (nI w11) (nI w12))), (oq 6, .inl (cI, 5, .inl w13)), (oq 7, .inl (cI, 600, .inl w14)), (oq 5, .inr (8, [tx, .int zl, .int ta, .int be, .int ki, .int nu, .int wo]))]) (w1 := [(oq 1, .inr (7, [.int (nI w258), .ref (oq 2), .ref (oq 3), .ref (oq 4)])), (oq 2, .inl (cI, 600, .inl w259)), (oq 3, .inl (cI, 600, .inl w260)), (oq 4, .inl (cI, 600, .inl w261))]) hP hD [3, 4, 5, 6] [0, 1, 2, 7] rfl rfl (by decide) (by decide) hk1 hFc hP1 hD1
                have hP : va_P D vwCl [(oq 0, .inr (6, gPs oq w2 w3 w4 w5 w6 w7 w8 w9 w10 (nI w11) (nI w12))), (oq 6, .inl (cI, 5, .inl w13)), (oq 7, .inl (cI, 600, .inl w14)), (oq 5, .inr (8, [tx, .int zl, .int ta, .int be, .int ki, .int nu, .int wo])), (oq 1, .inr (7, [.int (nI w258), .ref (oq 2), .ref (oq 3), .ref (oq 4)])), (oq 2, .inl (cI, 600, .inl w259)), (oq 3, .inl (cI, 600, .inl w260)), (oq 4, .inl (cI, 600, .inl w261))] H := hP
                have hD : va_D A [(oq 0, .inr (6, gPs oq w2 w3 w4 w5 w6 w7 w8 w9 w10 (nI w11) (nI w12))), (oq 6, .inl (cI, 5, .inl w13)), (oq 7, .inl (cI, 600, .inl w14)), (oq 5, .inr (8, [tx, .int zl, .int ta, .int be, .int ki, .int nu, .int wo])), (oq 1, .inr (7, [.int (nI w258), .ref (oq 2), .ref (oq 3), .ref (oq 4)])), (oq 2, .inl (cI, 600, .inl w259)), (oq 3, .inl (cI, 600, .inl w260)), (oq 4, .inl (cI, 600, .inl w261))] := hD
                try dsimp only at hw
                clear hz1 hk1 hFc hPc hKc hDc
                have hpz262 := hw
                refine lv_aload_n hx hb dX6_acceptSumEnd_103 rfl (lv_at hl 0 rfl) ?_
                refine lv_iconst (v := 0) hx hb dX6_acceptSumEnd_104 (by decide) ?_
                refine va_put (D := D) (ci := 6) (v := .int 0) (ty := .int) (C := RX6) (T := TX6) (N := 15) hx hb hts hin_X6 tyX6 tyX6_ok nmX6 hown hK hP hD hS 0 rfl rfl 5 (by decide) (hts (.fieldLink RX6 39 "ClashFree$Parser" "state" "I") (List.mem_of_getElem? (i := 14) rfl)) (fun _ h9 => h9) rfl (by decide +kernel) rfl rfl (Nat.le_of_ble_eq_true rfl) dX6_acceptSumEnd_105 (fun H locs hP hD hS => ?_)
                have hP : va_P D vwCl [(oq 0, .inr (6, gPs oq w2 w3 w4 0 w6 w7 w8 w9 w10 (nI w11) (nI w12))), (oq 6, .inl (cI, 5, .inl w13)), (oq 7, .inl (cI, 600, .inl w14)), (oq 5, .inr (8, [tx, .int zl, .int ta, .int be, .int ki, .int nu, .int wo])), (oq 1, .inr (7, [.int (nI w258), .ref (oq 2), .ref (oq 3), .ref (oq 4)])), (oq 2, .inl (cI, 600, .inl w259)), (oq 3, .inl (cI, 600, .inl w260)), (oq 4, .inl (cI, 600, .inl w261))] H := hP
                have hD : va_D A [(oq 0, .inr (6, gPs oq w2 w3 w4 0 w6 w7 w8 w9 w10 (nI w11) (nI w12))), (oq 6, .inl (cI, 5, .inl w13)), (oq 7, .inl (cI, 600, .inl w14)), (oq 5, .inr (8, [tx, .int zl, .int ta, .int be, .int ki, .int nu, .int wo])), (oq 1, .inr (7, [.int (nI w258), .ref (oq 2), .ref (oq 3), .ref (oq 4)])), (oq 2, .inl (cI, 600, .inl w259)), (oq 3, .inl (cI, 600, .inl w260)), (oq 4, .inl (cI, 600, .inl w261))] := hD
                refine lv_goto (tgt := 115) hx hb dX6_acceptSumEnd_108 (by decide) ?_
                exact W.vret hx hb hr (fun t ht hW => ⟨⟨(w2, w3, w4, 0, w6, w7, w8, w9, w10, w11, w12, w13, w14, w258, w259, w260, w261), rfl, (by (try dsimp only); first | done | exact ⟨by omega, by omega, by omega⟩), by rw [ht]; exact hP.sub [0, 1, 2, 4, 5, 6, 7, 3] rfl, va_K.moved hW.alike (hK.sub [0] rfl), hD.sub [0, 1, 2, 4, 5, 6, 7, 3] (by decide) rfl⟩, hS.F ht⟩) hS.2.2 dX6_acceptSumEnd_115
      ·
        refine lv_iload_n hx hb dX6_acceptSumEnd_40 rfl (lv_at hl 1 rfl) ?_
        refine lv_bipush (v := 91) hx hb dX6_acceptSumEnd_41 (by decide) ?_
        refine lv_icmp_ne (tgt := 56) hx hb dX6_acceptSumEnd_43 (by decide) (fun hc263 => ?_) (fun hc263 => ?_)
        ·
          refine lv_aload_n hx hb dX6_acceptSumEnd_56 rfl (lv_at hl 0 rfl) ?_
          refine va_get (D := D) (ci := 6) (v := .int w6) (C := RX6) (T := TX6) (N := 15) hx hb hts hin_X6 hown hK hP 0 rfl rfl 6 (by decide) (hts (.fieldLink RX6 103 "ClashFree$Parser" "statement" "I") (List.mem_of_getElem? (i := 5) rfl)) (fun _ h9 => h9) rfl dX6_acceptSumEnd_57 ?_
          refine lv_iconst (v := 3) hx hb dX6_acceptSumEnd_60 (by decide) ?_
          refine lv_icmp_eq (tgt := 111) hx hb dX6_acceptSumEnd_61 (by decide) (fun hc264 => ?_) (fun hc264 => ?_)
          ·
            refine lv_aload_n hx hb dX6_acceptSumEnd_111 rfl (lv_at hl 0 rfl) ?_
            have hPc := hP.sub (ws' := [(oq 0, .inr (6, gPs oq w2 w3 w4 w5 w6 w7 w8 w9 w10 (nI w11) (nI w12))), (oq 6, .inl (cI, 5, .inl w13)), (oq 7, .inl (cI, 600, .inl w14)), (oq 1, .inr (7, [.int (nI w15), .ref (oq 2), .ref (oq 3), .ref (oq 4)])), (oq 2, .inl (cI, 600, .inl w16)), (oq 3, .inl (cI, 600, .inl w17)), (oq 4, .inl (cI, 600, .inl w18)), (oq 5, .inr (8, [tx, .int zl, .int ta, .int be, .int ki, .int nu, .int wo]))]) [0, 1, 2, 3, 4, 5, 6, 7] rfl
            have hKc := hK.sub (tys' := [(cI, .int)]) [0] rfl
            have hDc := hD.sub (ws' := [(oq 0, .inr (6, gPs oq w2 w3 w4 w5 w6 w7 w8 w9 w10 (nI w11) (nI w12))), (oq 6, .inl (cI, 5, .inl w13)), (oq 7, .inl (cI, 600, .inl w14)), (oq 1, .inr (7, [.int (nI w15), .ref (oq 2), .ref (oq 3), .ref (oq 4)])), (oq 2, .inl (cI, 600, .inl w16)), (oq 3, .inl (cI, 600, .inl w17)), (oq 4, .inl (cI, 600, .inl w18)), (oq 5, .inr (8, [tx, .int zl, .int ta, .int be, .int ki, .int nu, .int wo]))]) [0, 1, 2, 3, 4, 5, 6, 7] (by decide) rfl
            have hFc := va_free (wc := [(oq 0, .inr (6, gPs oq w2 w3 w4 w5 w6 w7 w8 w9 w10 (nI w11) (nI w12))), (oq 6, .inl (cI, 5, .inl w13)), (oq 7, .inl (cI, 600, .inl w14)), (oq 1, .inr (7, [.int (nI w15), .ref (oq 2), .ref (oq 3), .ref (oq 4)])), (oq 2, .inl (cI, 600, .inl w16)), (oq 3, .inl (cI, 600, .inl w17)), (oq 4, .inl (cI, 600, .inl w18)), (oq 5, .inr (8, [tx, .int zl, .int ta, .int be, .int ki, .int nu, .int wo]))]) hD hS hA [0, 1, 2, 3, 4, 5, 6, 7] rfl
            refine va_callv (va_runV (As := []) (rest := []) ⟨hx, hb, hml, hown, hts⟩ (k_refuse l D _ oq cI w2 w3 w4 w5 w6 w7 w8 w9 w10 w11 w12 w13 w14 w15 w16 w17 w18 tx zl ta be ki nu wo hx19_1 hx19_2 hx19_3) (cwV 0 hts g_k_aSumEnd_k_refuse_112 rfl rfl rfl (by decide +kernel) ⟨(Nat.le_of_ble_eq_true rfl), (Nat.le_of_ble_eq_true rfl)⟩) (PcWC_V (q0 := 0) hPc hKc hDc hN rfl rfl) rfl rfl hl.1 rfl (lv_room (Nat.le_of_ble_eq_true rfl)) dX6_acceptSumEnd_112 ⟨(Nat.le_of_ble_eq_true rfl), (Nat.le_of_ble_eq_true rfl)⟩) hS (fun q _ h => hFc q h) hFc (fun uu tt H locs htt hvm hw hB hz1 hk1 hS => ?_)
            obtain ⟨w266, w267, w268, w269, w270, w271, w272, w273, w274, w275, w276, w277, w278, w279, w280, w281, w282⟩ := uu
            obtain ⟨hP1, hK1, hD1⟩ := hB
            rw [htt] at hP1
            have hK1 := va_K.moved hvm.symm hK1
            have hP1 : va_P D vwCl [(oq 0, .inr (6, gPs oq w266 w267 w268 w269 w270 w271 w272 w273 w274 (nI w275) (nI w276))), (oq 6, .inl (cI, 5, .inl w277)), (oq 7, .inl (cI, 600, .inl w278)), (oq 1, .inr (7, [.int (nI w279), .ref (oq 2), .ref (oq 3), .ref (oq 4)])), (oq 2, .inl (cI, 600, .inl w280)), (oq 3, .inl (cI, 600, .inl w281)), (oq 4, .inl (cI, 600, .inl w282)), (oq 5, .inr (8, [tx, .int zl, .int ta, .int be, .int ki, .int nu, .int wo]))] H := hP1
            obtain ⟨hP, hD⟩ := va_join (wr := []) (w1 := [(oq 0, .inr (6, gPs oq w266 w267 w268 w269 w270 w271 w272 w273 w274 (nI w275) (nI w276))), (oq 6, .inl (cI, 5, .inl w277)), (oq 7, .inl (cI, 600, .inl w278)), (oq 1, .inr (7, [.int (nI w279), .ref (oq 2), .ref (oq 3), .ref (oq 4)])), (oq 2, .inl (cI, 600, .inl w280)), (oq 3, .inl (cI, 600, .inl w281)), (oq 4, .inl (cI, 600, .inl w282)), (oq 5, .inr (8, [tx, .int zl, .int ta, .int be, .int ki, .int nu, .int wo]))]) hP hD [0, 1, 2, 3, 4, 5, 6, 7] [] rfl rfl (by decide) (by decide) hk1 hFc hP1 hD1
            have hP : va_P D vwCl [(oq 0, .inr (6, gPs oq w266 w267 w268 w269 w270 w271 w272 w273 w274 (nI w275) (nI w276))), (oq 6, .inl (cI, 5, .inl w277)), (oq 7, .inl (cI, 600, .inl w278)), (oq 1, .inr (7, [.int (nI w279), .ref (oq 2), .ref (oq 3), .ref (oq 4)])), (oq 2, .inl (cI, 600, .inl w280)), (oq 3, .inl (cI, 600, .inl w281)), (oq 4, .inl (cI, 600, .inl w282)), (oq 5, .inr (8, [tx, .int zl, .int ta, .int be, .int ki, .int nu, .int wo]))] H := hP
            have hD : va_D A [(oq 0, .inr (6, gPs oq w266 w267 w268 w269 w270 w271 w272 w273 w274 (nI w275) (nI w276))), (oq 6, .inl (cI, 5, .inl w277)), (oq 7, .inl (cI, 600, .inl w278)), (oq 1, .inr (7, [.int (nI w279), .ref (oq 2), .ref (oq 3), .ref (oq 4)])), (oq 2, .inl (cI, 600, .inl w280)), (oq 3, .inl (cI, 600, .inl w281)), (oq 4, .inl (cI, 600, .inl w282)), (oq 5, .inr (8, [tx, .int zl, .int ta, .int be, .int ki, .int nu, .int wo]))] := hD
            try dsimp only at hw
            clear hz1 hk1 hFc hPc hKc hDc
            obtain ⟨hx283_1, hx283_2, hx283_3⟩ := hw
            exact W.vret hx hb hr (fun t ht hW => ⟨⟨(w266, w267, w268, w269, w270, w271, w272, w273, w274, w275, w276, w277, w278, w279, w280, w281, w282), rfl, (by (try dsimp only); first | done | exact ⟨by omega, by omega, by omega⟩), by rw [ht]; exact hP.sub [0, 1, 2, 3, 4, 5, 6, 7] rfl, va_K.moved hW.alike (hK.sub [0] rfl), hD.sub [0, 1, 2, 3, 4, 5, 6, 7] (by decide) rfl⟩, hS.F ht⟩) hS.2.2 dX6_acceptSumEnd_115
          ·
            refine lv_aload_n hx hb dX6_acceptSumEnd_64 rfl (lv_at hl 0 rfl) ?_
            refine va_get (D := D) (ci := 6) (v := .int w6) (C := RX6) (T := TX6) (N := 15) hx hb hts hin_X6 hown hK hP 0 rfl rfl 6 (by decide) (hts (.fieldLink RX6 103 "ClashFree$Parser" "statement" "I") (List.mem_of_getElem? (i := 5) rfl)) (fun _ h9 => h9) rfl dX6_acceptSumEnd_65 ?_
            refine lv_bipush (v := 9) hx hb dX6_acceptSumEnd_68 (by decide) ?_
            refine lv_icmp_eq (tgt := 111) hx hb dX6_acceptSumEnd_70 (by decide) (fun hc284 => ?_) (fun hc284 => ?_)
            ·
              refine lv_aload_n hx hb dX6_acceptSumEnd_111 rfl (lv_at hl 0 rfl) ?_
              have hPc := hP.sub (ws' := [(oq 0, .inr (6, gPs oq w2 w3 w4 w5 w6 w7 w8 w9 w10 (nI w11) (nI w12))), (oq 6, .inl (cI, 5, .inl w13)), (oq 7, .inl (cI, 600, .inl w14)), (oq 1, .inr (7, [.int (nI w15), .ref (oq 2), .ref (oq 3), .ref (oq 4)])), (oq 2, .inl (cI, 600, .inl w16)), (oq 3, .inl (cI, 600, .inl w17)), (oq 4, .inl (cI, 600, .inl w18)), (oq 5, .inr (8, [tx, .int zl, .int ta, .int be, .int ki, .int nu, .int wo]))]) [0, 1, 2, 3, 4, 5, 6, 7] rfl
              have hKc := hK.sub (tys' := [(cI, .int)]) [0] rfl
              have hDc := hD.sub (ws' := [(oq 0, .inr (6, gPs oq w2 w3 w4 w5 w6 w7 w8 w9 w10 (nI w11) (nI w12))), (oq 6, .inl (cI, 5, .inl w13)), (oq 7, .inl (cI, 600, .inl w14)), (oq 1, .inr (7, [.int (nI w15), .ref (oq 2), .ref (oq 3), .ref (oq 4)])), (oq 2, .inl (cI, 600, .inl w16)), (oq 3, .inl (cI, 600, .inl w17)), (oq 4, .inl (cI, 600, .inl w18)), (oq 5, .inr (8, [tx, .int zl, .int ta, .int be, .int ki, .int nu, .int wo]))]) [0, 1, 2, 3, 4, 5, 6, 7] (by decide) rfl
              have hFc := va_free (wc := [(oq 0, .inr (6, gPs oq w2 w3 w4 w5 w6 w7 w8 w9 w10 (nI w11) (nI w12))), (oq 6, .inl (cI, 5, .inl w13)), (oq 7, .inl (cI, 600, .inl w14)), (oq 1, .inr (7, [.int (nI w15), .ref (oq 2), .ref (oq 3), .ref (oq 4)])), (oq 2, .inl (cI, 600, .inl w16)), (oq 3, .inl (cI, 600, .inl w17)), (oq 4, .inl (cI, 600, .inl w18)), (oq 5, .inr (8, [tx, .int zl, .int ta, .int be, .int ki, .int nu, .int wo]))]) hD hS hA [0, 1, 2, 3, 4, 5, 6, 7] rfl
              refine va_callv (va_runV (As := []) (rest := []) ⟨hx, hb, hml, hown, hts⟩ (k_refuse l D _ oq cI w2 w3 w4 w5 w6 w7 w8 w9 w10 w11 w12 w13 w14 w15 w16 w17 w18 tx zl ta be ki nu wo hx19_1 hx19_2 hx19_3) (cwV 0 hts g_k_aSumEnd_k_refuse_112 rfl rfl rfl (by decide +kernel) ⟨(Nat.le_of_ble_eq_true rfl), (Nat.le_of_ble_eq_true rfl)⟩) (PcWC_V (q0 := 0) hPc hKc hDc hN rfl rfl) rfl rfl hl.1 rfl (lv_room (Nat.le_of_ble_eq_true rfl)) dX6_acceptSumEnd_112 ⟨(Nat.le_of_ble_eq_true rfl), (Nat.le_of_ble_eq_true rfl)⟩) hS (fun q _ h => hFc q h) hFc (fun uu tt H locs htt hvm hw hB hz1 hk1 hS => ?_)
              obtain ⟨w286, w287, w288, w289, w290, w291, w292, w293, w294, w295, w296, w297, w298, w299, w300, w301, w302⟩ := uu
              obtain ⟨hP1, hK1, hD1⟩ := hB
              rw [htt] at hP1
              have hK1 := va_K.moved hvm.symm hK1
              have hP1 : va_P D vwCl [(oq 0, .inr (6, gPs oq w286 w287 w288 w289 w290 w291 w292 w293 w294 (nI w295) (nI w296))), (oq 6, .inl (cI, 5, .inl w297)), (oq 7, .inl (cI, 600, .inl w298)), (oq 1, .inr (7, [.int (nI w299), .ref (oq 2), .ref (oq 3), .ref (oq 4)])), (oq 2, .inl (cI, 600, .inl w300)), (oq 3, .inl (cI, 600, .inl w301)), (oq 4, .inl (cI, 600, .inl w302)), (oq 5, .inr (8, [tx, .int zl, .int ta, .int be, .int ki, .int nu, .int wo]))] H := hP1
              obtain ⟨hP, hD⟩ := va_join (wr := []) (w1 := [(oq 0, .inr (6, gPs oq w286 w287 w288 w289 w290 w291 w292 w293 w294 (nI w295) (nI w296))), (oq 6, .inl (cI, 5, .inl w297)), (oq 7, .inl (cI, 600, .inl w298)), (oq 1, .inr (7, [.int (nI w299), .ref (oq 2), .ref (oq 3), .ref (oq 4)])), (oq 2, .inl (cI, 600, .inl w300)), (oq 3, .inl (cI, 600, .inl w301)), (oq 4, .inl (cI, 600, .inl w302)), (oq 5, .inr (8, [tx, .int zl, .int ta, .int be, .int ki, .int nu, .int wo]))]) hP hD [0, 1, 2, 3, 4, 5, 6, 7] [] rfl rfl (by decide) (by decide) hk1 hFc hP1 hD1
              have hP : va_P D vwCl [(oq 0, .inr (6, gPs oq w286 w287 w288 w289 w290 w291 w292 w293 w294 (nI w295) (nI w296))), (oq 6, .inl (cI, 5, .inl w297)), (oq 7, .inl (cI, 600, .inl w298)), (oq 1, .inr (7, [.int (nI w299), .ref (oq 2), .ref (oq 3), .ref (oq 4)])), (oq 2, .inl (cI, 600, .inl w300)), (oq 3, .inl (cI, 600, .inl w301)), (oq 4, .inl (cI, 600, .inl w302)), (oq 5, .inr (8, [tx, .int zl, .int ta, .int be, .int ki, .int nu, .int wo]))] H := hP
              have hD : va_D A [(oq 0, .inr (6, gPs oq w286 w287 w288 w289 w290 w291 w292 w293 w294 (nI w295) (nI w296))), (oq 6, .inl (cI, 5, .inl w297)), (oq 7, .inl (cI, 600, .inl w298)), (oq 1, .inr (7, [.int (nI w299), .ref (oq 2), .ref (oq 3), .ref (oq 4)])), (oq 2, .inl (cI, 600, .inl w300)), (oq 3, .inl (cI, 600, .inl w301)), (oq 4, .inl (cI, 600, .inl w302)), (oq 5, .inr (8, [tx, .int zl, .int ta, .int be, .int ki, .int nu, .int wo]))] := hD
              try dsimp only at hw
              clear hz1 hk1 hFc hPc hKc hDc
              obtain ⟨hx303_1, hx303_2, hx303_3⟩ := hw
              exact W.vret hx hb hr (fun t ht hW => ⟨⟨(w286, w287, w288, w289, w290, w291, w292, w293, w294, w295, w296, w297, w298, w299, w300, w301, w302), rfl, (by (try dsimp only); first | done | exact ⟨by omega, by omega, by omega⟩), by rw [ht]; exact hP.sub [0, 1, 2, 3, 4, 5, 6, 7] rfl, va_K.moved hW.alike (hK.sub [0] rfl), hD.sub [0, 1, 2, 3, 4, 5, 6, 7] (by decide) rfl⟩, hS.F ht⟩) hS.2.2 dX6_acceptSumEnd_115
            ·
              refine lv_iload_n hx hb dX6_acceptSumEnd_73 rfl (lv_at hl 1 rfl) ?_
              refine lv_bipush (v := 59) hx hb dX6_acceptSumEnd_74 (by decide) ?_
              refine lv_icmp_ne (tgt := 111) hx hb dX6_acceptSumEnd_76 (by decide) (fun hc304 => ?_) (fun hc304 => ?_)
              ·
                refine lv_aload_n hx hb dX6_acceptSumEnd_111 rfl (lv_at hl 0 rfl) ?_
                have hPc := hP.sub (ws' := [(oq 0, .inr (6, gPs oq w2 w3 w4 w5 w6 w7 w8 w9 w10 (nI w11) (nI w12))), (oq 6, .inl (cI, 5, .inl w13)), (oq 7, .inl (cI, 600, .inl w14)), (oq 1, .inr (7, [.int (nI w15), .ref (oq 2), .ref (oq 3), .ref (oq 4)])), (oq 2, .inl (cI, 600, .inl w16)), (oq 3, .inl (cI, 600, .inl w17)), (oq 4, .inl (cI, 600, .inl w18)), (oq 5, .inr (8, [tx, .int zl, .int ta, .int be, .int ki, .int nu, .int wo]))]) [0, 1, 2, 3, 4, 5, 6, 7] rfl
                have hKc := hK.sub (tys' := [(cI, .int)]) [0] rfl
                have hDc := hD.sub (ws' := [(oq 0, .inr (6, gPs oq w2 w3 w4 w5 w6 w7 w8 w9 w10 (nI w11) (nI w12))), (oq 6, .inl (cI, 5, .inl w13)), (oq 7, .inl (cI, 600, .inl w14)), (oq 1, .inr (7, [.int (nI w15), .ref (oq 2), .ref (oq 3), .ref (oq 4)])), (oq 2, .inl (cI, 600, .inl w16)), (oq 3, .inl (cI, 600, .inl w17)), (oq 4, .inl (cI, 600, .inl w18)), (oq 5, .inr (8, [tx, .int zl, .int ta, .int be, .int ki, .int nu, .int wo]))]) [0, 1, 2, 3, 4, 5, 6, 7] (by decide) rfl
                have hFc := va_free (wc := [(oq 0, .inr (6, gPs oq w2 w3 w4 w5 w6 w7 w8 w9 w10 (nI w11) (nI w12))), (oq 6, .inl (cI, 5, .inl w13)), (oq 7, .inl (cI, 600, .inl w14)), (oq 1, .inr (7, [.int (nI w15), .ref (oq 2), .ref (oq 3), .ref (oq 4)])), (oq 2, .inl (cI, 600, .inl w16)), (oq 3, .inl (cI, 600, .inl w17)), (oq 4, .inl (cI, 600, .inl w18)), (oq 5, .inr (8, [tx, .int zl, .int ta, .int be, .int ki, .int nu, .int wo]))]) hD hS hA [0, 1, 2, 3, 4, 5, 6, 7] rfl
                refine va_callv (va_runV (As := []) (rest := []) ⟨hx, hb, hml, hown, hts⟩ (k_refuse l D _ oq cI w2 w3 w4 w5 w6 w7 w8 w9 w10 w11 w12 w13 w14 w15 w16 w17 w18 tx zl ta be ki nu wo hx19_1 hx19_2 hx19_3) (cwV 0 hts g_k_aSumEnd_k_refuse_112 rfl rfl rfl (by decide +kernel) ⟨(Nat.le_of_ble_eq_true rfl), (Nat.le_of_ble_eq_true rfl)⟩) (PcWC_V (q0 := 0) hPc hKc hDc hN rfl rfl) rfl rfl hl.1 rfl (lv_room (Nat.le_of_ble_eq_true rfl)) dX6_acceptSumEnd_112 ⟨(Nat.le_of_ble_eq_true rfl), (Nat.le_of_ble_eq_true rfl)⟩) hS (fun q _ h => hFc q h) hFc (fun uu tt H locs htt hvm hw hB hz1 hk1 hS => ?_)
                obtain ⟨w306, w307, w308, w309, w310, w311, w312, w313, w314, w315, w316, w317, w318, w319, w320, w321, w322⟩ := uu
                obtain ⟨hP1, hK1, hD1⟩ := hB
                rw [htt] at hP1
                have hK1 := va_K.moved hvm.symm hK1
                have hP1 : va_P D vwCl [(oq 0, .inr (6, gPs oq w306 w307 w308 w309 w310 w311 w312 w313 w314 (nI w315) (nI w316))), (oq 6, .inl (cI, 5, .inl w317)), (oq 7, .inl (cI, 600, .inl w318)), (oq 1, .inr (7, [.int (nI w319), .ref (oq 2), .ref (oq 3), .ref (oq 4)])), (oq 2, .inl (cI, 600, .inl w320)), (oq 3, .inl (cI, 600, .inl w321)), (oq 4, .inl (cI, 600, .inl w322)), (oq 5, .inr (8, [tx, .int zl, .int ta, .int be, .int ki, .int nu, .int wo]))] H := hP1
                obtain ⟨hP, hD⟩ := va_join (wr := []) (w1 := [(oq 0, .inr (6, gPs oq w306 w307 w308 w309 w310 w311 w312 w313 w314 (nI w315) (nI w316))), (oq 6, .inl (cI, 5, .inl w317)), (oq 7, .inl (cI, 600, .inl w318)), (oq 1, .inr (7, [.int (nI w319), .ref (oq 2), .ref (oq 3), .ref (oq 4)])), (oq 2, .inl (cI, 600, .inl w320)), (oq 3, .inl (cI, 600, .inl w321)), (oq 4, .inl (cI, 600, .inl w322)), (oq 5, .inr (8, [tx, .int zl, .int ta, .int be, .int ki, .int nu, .int wo]))]) hP hD [0, 1, 2, 3, 4, 5, 6, 7] [] rfl rfl (by decide) (by decide) hk1 hFc hP1 hD1
                have hP : va_P D vwCl [(oq 0, .inr (6, gPs oq w306 w307 w308 w309 w310 w311 w312 w313 w314 (nI w315) (nI w316))), (oq 6, .inl (cI, 5, .inl w317)), (oq 7, .inl (cI, 600, .inl w318)), (oq 1, .inr (7, [.int (nI w319), .ref (oq 2), .ref (oq 3), .ref (oq 4)])), (oq 2, .inl (cI, 600, .inl w320)), (oq 3, .inl (cI, 600, .inl w321)), (oq 4, .inl (cI, 600, .inl w322)), (oq 5, .inr (8, [tx, .int zl, .int ta, .int be, .int ki, .int nu, .int wo]))] H := hP
                have hD : va_D A [(oq 0, .inr (6, gPs oq w306 w307 w308 w309 w310 w311 w312 w313 w314 (nI w315) (nI w316))), (oq 6, .inl (cI, 5, .inl w317)), (oq 7, .inl (cI, 600, .inl w318)), (oq 1, .inr (7, [.int (nI w319), .ref (oq 2), .ref (oq 3), .ref (oq 4)])), (oq 2, .inl (cI, 600, .inl w320)), (oq 3, .inl (cI, 600, .inl w321)), (oq 4, .inl (cI, 600, .inl w322)), (oq 5, .inr (8, [tx, .int zl, .int ta, .int be, .int ki, .int nu, .int wo]))] := hD
                try dsimp only at hw
                clear hz1 hk1 hFc hPc hKc hDc
                obtain ⟨hx323_1, hx323_2, hx323_3⟩ := hw
                exact W.vret hx hb hr (fun t ht hW => ⟨⟨(w306, w307, w308, w309, w310, w311, w312, w313, w314, w315, w316, w317, w318, w319, w320, w321, w322), rfl, (by (try dsimp only); first | done | exact ⟨by omega, by omega, by omega⟩), by rw [ht]; exact hP.sub [0, 1, 2, 3, 4, 5, 6, 7] rfl, va_K.moved hW.alike (hK.sub [0] rfl), hD.sub [0, 1, 2, 3, 4, 5, 6, 7] (by decide) rfl⟩, hS.F ht⟩) hS.2.2 dX6_acceptSumEnd_115
              ·
                refine lv_aload_n hx hb dX6_acceptSumEnd_79 rfl (lv_at hl 0 rfl) ?_
                refine va_get (D := D) (ci := 6) (v := .ref (oq 1)) (C := RX6) (T := TX6) (N := 15) hx hb hts hin_X6 hown hK hP 0 rfl rfl 3 (by decide) (hts (.fieldLink RX6 12 "ClashFree$Parser" "program" "LClashFree$Program;") (List.mem_of_getElem? (i := 9) rfl)) (fun _ h9 => h9) rfl dX6_acceptSumEnd_80 ?_
                refine lv_aload_n hx hb dX6_acceptSumEnd_83 rfl (lv_at hl 0 rfl) ?_
                refine va_get (D := D) (ci := 6) (v := .int w6) (C := RX6) (T := TX6) (N := 15) hx hb hts hin_X6 hown hK hP 0 rfl rfl 6 (by decide) (hts (.fieldLink RX6 103 "ClashFree$Parser" "statement" "I") (List.mem_of_getElem? (i := 5) rfl)) (fun _ h9 => h9) rfl dX6_acceptSumEnd_84 ?_
                refine lv_iconst (v := 4) hx hb dX6_acceptSumEnd_87 (by decide) ?_
                refine lv_icmp_ne (tgt := 95) hx hb dX6_acceptSumEnd_88 (by decide) (fun hc324 => ?_) (fun hc324 => ?_)
                ·
                  refine lv_aload_n hx hb dX6_acceptSumEnd_95 rfl (lv_at hl 0 rfl) ?_
                  refine va_get (D := D) (ci := 6) (v := .int w6) (C := RX6) (T := TX6) (N := 15) hx hb hts hin_X6 hown hK hP 0 rfl rfl 6 (by decide) (hts (.fieldLink RX6 103 "ClashFree$Parser" "statement" "I") (List.mem_of_getElem? (i := 5) rfl)) (fun _ h9 => h9) rfl dX6_acceptSumEnd_96 ?_
                  refine lv_iconst (v := 0) hx hb dX6_acceptSumEnd_99 (by decide) ?_
                  have hPc := hP.sub (ws' := [(oq 1, .inr (7, [.int (nI w15), .ref (oq 2), .ref (oq 3), .ref (oq 4)])), (oq 2, .inl (cI, 600, .inl w16)), (oq 3, .inl (cI, 600, .inl w17)), (oq 4, .inl (cI, 600, .inl w18))]) [3, 4, 5, 6] rfl
                  have hKc := hK.sub (tys' := [(cI, .int)]) [0] rfl
                  have hDc := hD.sub (ws' := [(oq 1, .inr (7, [.int (nI w15), .ref (oq 2), .ref (oq 3), .ref (oq 4)])), (oq 2, .inl (cI, 600, .inl w16)), (oq 3, .inl (cI, 600, .inl w17)), (oq 4, .inl (cI, 600, .inl w18))]) [3, 4, 5, 6] (by decide) rfl
                  have hFc := va_free (wc := [(oq 1, .inr (7, [.int (nI w15), .ref (oq 2), .ref (oq 3), .ref (oq 4)])), (oq 2, .inl (cI, 600, .inl w16)), (oq 3, .inl (cI, 600, .inl w17)), (oq 4, .inl (cI, 600, .inl w18))]) hD hS hA [3, 4, 5, 6] rfl
                  refine va_callv (va_runV (As := [.int w6, .int 0]) (rest := []) ⟨hx, hb, hml, hown, hts⟩ (k_padd l D _ oq cI w15 w16 w17 w18 w6 0 hx19_3) (cwV 2 hts g_k_aSumEnd_k_padd_118 rfl rfl rfl (by decide +kernel) ⟨(Nat.le_of_ble_eq_true rfl), (Nat.le_of_ble_eq_true rfl)⟩) (PcWC_V (q0 := 0) hPc hKc hDc hN rfl rfl) rfl rfl hl.1 rfl (lv_room (Nat.le_of_ble_eq_true rfl)) dX6_acceptSumEnd_100 ⟨(Nat.le_of_ble_eq_true rfl), (Nat.le_of_ble_eq_true rfl)⟩) hS (fun q _ h => hFc q h) hFc (fun uu tt H locs htt hvm hw hB hz1 hk1 hS => ?_)
                  obtain ⟨w326, w327, w328, w329⟩ := uu
                  obtain ⟨hP1, hK1, hD1⟩ := hB
                  rw [htt] at hP1
                  have hK1 := va_K.moved hvm.symm hK1
                  have hP1 : va_P D vwCl [(oq 1, .inr (7, [.int (nI w326), .ref (oq 2), .ref (oq 3), .ref (oq 4)])), (oq 2, .inl (cI, 600, .inl w327)), (oq 3, .inl (cI, 600, .inl w328)), (oq 4, .inl (cI, 600, .inl w329))] H := hP1
                  obtain ⟨hP, hD⟩ := va_join (wr := [(oq 0, .inr (6, gPs oq w2 w3 w4 w5 w6 w7 w8 w9 w10 (nI w11) (nI w12))), (oq 6, .inl (cI, 5, .inl w13)), (oq 7, .inl (cI, 600, .inl w14)), (oq 5, .inr (8, [tx, .int zl, .int ta, .int be, .int ki, .int nu, .int wo]))]) (w1 := [(oq 1, .inr (7, [.int (nI w326), .ref (oq 2), .ref (oq 3), .ref (oq 4)])), (oq 2, .inl (cI, 600, .inl w327)), (oq 3, .inl (cI, 600, .inl w328)), (oq 4, .inl (cI, 600, .inl w329))]) hP hD [3, 4, 5, 6] [0, 1, 2, 7] rfl rfl (by decide) (by decide) hk1 hFc hP1 hD1
                  have hP : va_P D vwCl [(oq 0, .inr (6, gPs oq w2 w3 w4 w5 w6 w7 w8 w9 w10 (nI w11) (nI w12))), (oq 6, .inl (cI, 5, .inl w13)), (oq 7, .inl (cI, 600, .inl w14)), (oq 5, .inr (8, [tx, .int zl, .int ta, .int be, .int ki, .int nu, .int wo])), (oq 1, .inr (7, [.int (nI w326), .ref (oq 2), .ref (oq 3), .ref (oq 4)])), (oq 2, .inl (cI, 600, .inl w327)), (oq 3, .inl (cI, 600, .inl w328)), (oq 4, .inl (cI, 600, .inl w329))] H := hP
                  have hD : va_D A [(oq 0, .inr (6, gPs oq w2 w3 w4 w5 w6 w7 w8 w9 w10 (nI w11) (nI w12))), (oq 6, .inl (cI, 5, .inl w13)), (oq 7, .inl (cI, 600, .inl w14)), (oq 5, .inr (8, [tx, .int zl, .int ta, .int be, .int ki, .int nu, .int wo])), (oq 1, .inr (7, [.int (nI w326), .ref (oq 2), .ref (oq 3), .ref (oq 4)])), (oq 2, .inl (cI, 600, .inl w327)), (oq 3, .inl (cI, 600, .inl w328)), (oq 4, .inl (cI, 600, .inl w329))] := hD
                  try dsimp only at hw
                  clear hz1 hk1 hFc hPc hKc hDc
                  have hpz330 := hw
                  refine lv_aload_n hx hb dX6_acceptSumEnd_103 rfl (lv_at hl 0 rfl) ?_
                  refine lv_iconst (v := 0) hx hb dX6_acceptSumEnd_104 (by decide) ?_
                  refine va_put (D := D) (ci := 6) (v := .int 0) (ty := .int) (C := RX6) (T := TX6) (N := 15) hx hb hts hin_X6 tyX6 tyX6_ok nmX6 hown hK hP hD hS 0 rfl rfl 5 (by decide) (hts (.fieldLink RX6 39 "ClashFree$Parser" "state" "I") (List.mem_of_getElem? (i := 14) rfl)) (fun _ h9 => h9) rfl (by decide +kernel) rfl rfl (Nat.le_of_ble_eq_true rfl) dX6_acceptSumEnd_105 (fun H locs hP hD hS => ?_)
                  have hP : va_P D vwCl [(oq 0, .inr (6, gPs oq w2 w3 w4 0 w6 w7 w8 w9 w10 (nI w11) (nI w12))), (oq 6, .inl (cI, 5, .inl w13)), (oq 7, .inl (cI, 600, .inl w14)), (oq 5, .inr (8, [tx, .int zl, .int ta, .int be, .int ki, .int nu, .int wo])), (oq 1, .inr (7, [.int (nI w326), .ref (oq 2), .ref (oq 3), .ref (oq 4)])), (oq 2, .inl (cI, 600, .inl w327)), (oq 3, .inl (cI, 600, .inl w328)), (oq 4, .inl (cI, 600, .inl w329))] H := hP
                  have hD : va_D A [(oq 0, .inr (6, gPs oq w2 w3 w4 0 w6 w7 w8 w9 w10 (nI w11) (nI w12))), (oq 6, .inl (cI, 5, .inl w13)), (oq 7, .inl (cI, 600, .inl w14)), (oq 5, .inr (8, [tx, .int zl, .int ta, .int be, .int ki, .int nu, .int wo])), (oq 1, .inr (7, [.int (nI w326), .ref (oq 2), .ref (oq 3), .ref (oq 4)])), (oq 2, .inl (cI, 600, .inl w327)), (oq 3, .inl (cI, 600, .inl w328)), (oq 4, .inl (cI, 600, .inl w329))] := hD
                  refine lv_goto (tgt := 115) hx hb dX6_acceptSumEnd_108 (by decide) ?_
                  exact W.vret hx hb hr (fun t ht hW => ⟨⟨(w2, w3, w4, 0, w6, w7, w8, w9, w10, w11, w12, w13, w14, w326, w327, w328, w329), rfl, (by (try dsimp only); first | done | exact ⟨by omega, by omega, by omega⟩), by rw [ht]; exact hP.sub [0, 1, 2, 4, 5, 6, 7, 3] rfl, va_K.moved hW.alike (hK.sub [0] rfl), hD.sub [0, 1, 2, 4, 5, 6, 7, 3] (by decide) rfl⟩, hS.F ht⟩) hS.2.2 dX6_acceptSumEnd_115
                ·
                  refine lv_iconst (v := 3) hx hb dX6_acceptSumEnd_91 (by decide) ?_
                  refine lv_goto (tgt := 99) hx hb dX6_acceptSumEnd_92 (by decide) ?_
                  refine lv_iconst (v := 0) hx hb dX6_acceptSumEnd_99 (by decide) ?_
                  have hPc := hP.sub (ws' := [(oq 1, .inr (7, [.int (nI w15), .ref (oq 2), .ref (oq 3), .ref (oq 4)])), (oq 2, .inl (cI, 600, .inl w16)), (oq 3, .inl (cI, 600, .inl w17)), (oq 4, .inl (cI, 600, .inl w18))]) [3, 4, 5, 6] rfl
                  have hKc := hK.sub (tys' := [(cI, .int)]) [0] rfl
                  have hDc := hD.sub (ws' := [(oq 1, .inr (7, [.int (nI w15), .ref (oq 2), .ref (oq 3), .ref (oq 4)])), (oq 2, .inl (cI, 600, .inl w16)), (oq 3, .inl (cI, 600, .inl w17)), (oq 4, .inl (cI, 600, .inl w18))]) [3, 4, 5, 6] (by decide) rfl
                  have hFc := va_free (wc := [(oq 1, .inr (7, [.int (nI w15), .ref (oq 2), .ref (oq 3), .ref (oq 4)])), (oq 2, .inl (cI, 600, .inl w16)), (oq 3, .inl (cI, 600, .inl w17)), (oq 4, .inl (cI, 600, .inl w18))]) hD hS hA [3, 4, 5, 6] rfl
                  refine va_callv (va_runV (As := [.int 3, .int 0]) (rest := []) ⟨hx, hb, hml, hown, hts⟩ (k_padd l D _ oq cI w15 w16 w17 w18 3 0 hx19_3) (cwV 2 hts g_k_aSumEnd_k_padd_118 rfl rfl rfl (by decide +kernel) ⟨(Nat.le_of_ble_eq_true rfl), (Nat.le_of_ble_eq_true rfl)⟩) (PcWC_V (q0 := 0) hPc hKc hDc hN rfl rfl) rfl rfl hl.1 rfl (lv_room (Nat.le_of_ble_eq_true rfl)) dX6_acceptSumEnd_100 ⟨(Nat.le_of_ble_eq_true rfl), (Nat.le_of_ble_eq_true rfl)⟩) hS (fun q _ h => hFc q h) hFc (fun uu tt H locs htt hvm hw hB hz1 hk1 hS => ?_)
                  obtain ⟨w332, w333, w334, w335⟩ := uu
                  obtain ⟨hP1, hK1, hD1⟩ := hB
                  rw [htt] at hP1
                  have hK1 := va_K.moved hvm.symm hK1
                  have hP1 : va_P D vwCl [(oq 1, .inr (7, [.int (nI w332), .ref (oq 2), .ref (oq 3), .ref (oq 4)])), (oq 2, .inl (cI, 600, .inl w333)), (oq 3, .inl (cI, 600, .inl w334)), (oq 4, .inl (cI, 600, .inl w335))] H := hP1
                  obtain ⟨hP, hD⟩ := va_join (wr := [(oq 0, .inr (6, gPs oq w2 w3 w4 w5 w6 w7 w8 w9 w10 (nI w11) (nI w12))), (oq 6, .inl (cI, 5, .inl w13)), (oq 7, .inl (cI, 600, .inl w14)), (oq 5, .inr (8, [tx, .int zl, .int ta, .int be, .int ki, .int nu, .int wo]))]) (w1 := [(oq 1, .inr (7, [.int (nI w332), .ref (oq 2), .ref (oq 3), .ref (oq 4)])), (oq 2, .inl (cI, 600, .inl w333)), (oq 3, .inl (cI, 600, .inl w334)), (oq 4, .inl (cI, 600, .inl w335))]) hP hD [3, 4, 5, 6] [0, 1, 2, 7] rfl rfl (by decide) (by decide) hk1 hFc hP1 hD1
                  have hP : va_P D vwCl [(oq 0, .inr (6, gPs oq w2 w3 w4 w5 w6 w7 w8 w9 w10 (nI w11) (nI w12))), (oq 6, .inl (cI, 5, .inl w13)), (oq 7, .inl (cI, 600, .inl w14)), (oq 5, .inr (8, [tx, .int zl, .int ta, .int be, .int ki, .int nu, .int wo])), (oq 1, .inr (7, [.int (nI w332), .ref (oq 2), .ref (oq 3), .ref (oq 4)])), (oq 2, .inl (cI, 600, .inl w333)), (oq 3, .inl (cI, 600, .inl w334)), (oq 4, .inl (cI, 600, .inl w335))] H := hP
                  have hD : va_D A [(oq 0, .inr (6, gPs oq w2 w3 w4 w5 w6 w7 w8 w9 w10 (nI w11) (nI w12))), (oq 6, .inl (cI, 5, .inl w13)), (oq 7, .inl (cI, 600, .inl w14)), (oq 5, .inr (8, [tx, .int zl, .int ta, .int be, .int ki, .int nu, .int wo])), (oq 1, .inr (7, [.int (nI w332), .ref (oq 2), .ref (oq 3), .ref (oq 4)])), (oq 2, .inl (cI, 600, .inl w333)), (oq 3, .inl (cI, 600, .inl w334)), (oq 4, .inl (cI, 600, .inl w335))] := hD
                  try dsimp only at hw
                  clear hz1 hk1 hFc hPc hKc hDc
                  have hpz336 := hw
                  refine lv_aload_n hx hb dX6_acceptSumEnd_103 rfl (lv_at hl 0 rfl) ?_
                  refine lv_iconst (v := 0) hx hb dX6_acceptSumEnd_104 (by decide) ?_
                  refine va_put (D := D) (ci := 6) (v := .int 0) (ty := .int) (C := RX6) (T := TX6) (N := 15) hx hb hts hin_X6 tyX6 tyX6_ok nmX6 hown hK hP hD hS 0 rfl rfl 5 (by decide) (hts (.fieldLink RX6 39 "ClashFree$Parser" "state" "I") (List.mem_of_getElem? (i := 14) rfl)) (fun _ h9 => h9) rfl (by decide +kernel) rfl rfl (Nat.le_of_ble_eq_true rfl) dX6_acceptSumEnd_105 (fun H locs hP hD hS => ?_)
                  have hP : va_P D vwCl [(oq 0, .inr (6, gPs oq w2 w3 w4 0 w6 w7 w8 w9 w10 (nI w11) (nI w12))), (oq 6, .inl (cI, 5, .inl w13)), (oq 7, .inl (cI, 600, .inl w14)), (oq 5, .inr (8, [tx, .int zl, .int ta, .int be, .int ki, .int nu, .int wo])), (oq 1, .inr (7, [.int (nI w332), .ref (oq 2), .ref (oq 3), .ref (oq 4)])), (oq 2, .inl (cI, 600, .inl w333)), (oq 3, .inl (cI, 600, .inl w334)), (oq 4, .inl (cI, 600, .inl w335))] H := hP
                  have hD : va_D A [(oq 0, .inr (6, gPs oq w2 w3 w4 0 w6 w7 w8 w9 w10 (nI w11) (nI w12))), (oq 6, .inl (cI, 5, .inl w13)), (oq 7, .inl (cI, 600, .inl w14)), (oq 5, .inr (8, [tx, .int zl, .int ta, .int be, .int ki, .int nu, .int wo])), (oq 1, .inr (7, [.int (nI w332), .ref (oq 2), .ref (oq 3), .ref (oq 4)])), (oq 2, .inl (cI, 600, .inl w333)), (oq 3, .inl (cI, 600, .inl w334)), (oq 4, .inl (cI, 600, .inl w335))] := hD
                  refine lv_goto (tgt := 115) hx hb dX6_acceptSumEnd_108 (by decide) ?_
                  exact W.vret hx hb hr (fun t ht hW => ⟨⟨(w2, w3, w4, 0, w6, w7, w8, w9, w10, w11, w12, w13, w14, w332, w333, w334, w335), rfl, (by (try dsimp only); first | done | exact ⟨by omega, by omega, by omega⟩), by rw [ht]; exact hP.sub [0, 1, 2, 4, 5, 6, 7, 3] rfl, va_K.moved hW.alike (hK.sub [0] rfl), hD.sub [0, 1, 2, 4, 5, 6, 7, 3] (by decide) rfl⟩, hS.F ht⟩) hS.2.2 dX6_acceptSumEnd_115
        ·
          refine lv_aload_n hx hb dX6_acceptSumEnd_46 rfl (lv_at hl 0 rfl) ?_
          refine lv_bipush (v := 9) hx hb dX6_acceptSumEnd_47 (by decide) ?_
          refine lv_iconst (v := 0) hx hb dX6_acceptSumEnd_49 (by decide) ?_
          have hPc := hP.sub (ws' := [(oq 0, .inr (6, gPs oq w2 w3 w4 w5 w6 w7 w8 w9 w10 (nI w11) (nI w12))), (oq 6, .inl (cI, 5, .inl w13)), (oq 7, .inl (cI, 600, .inl w14)), (oq 1, .inr (7, [.int (nI w15), .ref (oq 2), .ref (oq 3), .ref (oq 4)])), (oq 2, .inl (cI, 600, .inl w16)), (oq 3, .inl (cI, 600, .inl w17)), (oq 4, .inl (cI, 600, .inl w18)), (oq 5, .inr (8, [tx, .int zl, .int ta, .int be, .int ki, .int nu, .int wo]))]) [0, 1, 2, 3, 4, 5, 6, 7] rfl
          have hKc := hK.sub (tys' := [(cI, .int)]) [0] rfl
          have hDc := hD.sub (ws' := [(oq 0, .inr (6, gPs oq w2 w3 w4 w5 w6 w7 w8 w9 w10 (nI w11) (nI w12))), (oq 6, .inl (cI, 5, .inl w13)), (oq 7, .inl (cI, 600, .inl w14)), (oq 1, .inr (7, [.int (nI w15), .ref (oq 2), .ref (oq 3), .ref (oq 4)])), (oq 2, .inl (cI, 600, .inl w16)), (oq 3, .inl (cI, 600, .inl w17)), (oq 4, .inl (cI, 600, .inl w18)), (oq 5, .inr (8, [tx, .int zl, .int ta, .int be, .int ki, .int nu, .int wo]))]) [0, 1, 2, 3, 4, 5, 6, 7] (by decide) rfl
          have hFc := va_free (wc := [(oq 0, .inr (6, gPs oq w2 w3 w4 w5 w6 w7 w8 w9 w10 (nI w11) (nI w12))), (oq 6, .inl (cI, 5, .inl w13)), (oq 7, .inl (cI, 600, .inl w14)), (oq 1, .inr (7, [.int (nI w15), .ref (oq 2), .ref (oq 3), .ref (oq 4)])), (oq 2, .inl (cI, 600, .inl w16)), (oq 3, .inl (cI, 600, .inl w17)), (oq 4, .inl (cI, 600, .inl w18)), (oq 5, .inr (8, [tx, .int zl, .int ta, .int be, .int ki, .int nu, .int wo]))]) hD hS hA [0, 1, 2, 3, 4, 5, 6, 7] rfl
          refine va_callv (va_runV (As := [.int 9, .int 0]) (rest := []) ⟨hx, hb, hml, hown, hts⟩ (k_open l D _ oq cI w2 w3 w4 w5 w6 w7 w8 w9 w10 w11 w12 w13 w14 w15 w16 w17 w18 tx zl ta be ki nu wo 9 0 hx19_1 hx19_2 hx19_3) (cwV 2 hts g_k_aSumEnd_k_open_137 rfl rfl rfl (by decide +kernel) ⟨(Nat.le_of_ble_eq_true rfl), (Nat.le_of_ble_eq_true rfl)⟩) (PcWC_V (q0 := 0) hPc hKc hDc hN rfl rfl) rfl rfl hl.1 rfl (lv_room (Nat.le_of_ble_eq_true rfl)) dX6_acceptSumEnd_50 ⟨(Nat.le_of_ble_eq_true rfl), (Nat.le_of_ble_eq_true rfl)⟩) hS (fun q _ h => hFc q h) hFc (fun uu tt H locs htt hvm hw hB hz1 hk1 hS => ?_)
          obtain ⟨w338, w339, w340, w341, w342, w343, w344, w345, w346, w347, w348, w349, w350, w351, w352, w353, w354⟩ := uu
          obtain ⟨hP1, hK1, hD1⟩ := hB
          rw [htt] at hP1
          have hK1 := va_K.moved hvm.symm hK1
          have hP1 : va_P D vwCl [(oq 0, .inr (6, gPs oq w338 w339 w340 w341 w342 w343 w344 w345 w346 (nI w347) (nI w348))), (oq 6, .inl (cI, 5, .inl w349)), (oq 7, .inl (cI, 600, .inl w350)), (oq 1, .inr (7, [.int (nI w351), .ref (oq 2), .ref (oq 3), .ref (oq 4)])), (oq 2, .inl (cI, 600, .inl w352)), (oq 3, .inl (cI, 600, .inl w353)), (oq 4, .inl (cI, 600, .inl w354)), (oq 5, .inr (8, [tx, .int zl, .int ta, .int be, .int ki, .int nu, .int wo]))] H := hP1
          obtain ⟨hP, hD⟩ := va_join (wr := []) (w1 := [(oq 0, .inr (6, gPs oq w338 w339 w340 w341 w342 w343 w344 w345 w346 (nI w347) (nI w348))), (oq 6, .inl (cI, 5, .inl w349)), (oq 7, .inl (cI, 600, .inl w350)), (oq 1, .inr (7, [.int (nI w351), .ref (oq 2), .ref (oq 3), .ref (oq 4)])), (oq 2, .inl (cI, 600, .inl w352)), (oq 3, .inl (cI, 600, .inl w353)), (oq 4, .inl (cI, 600, .inl w354)), (oq 5, .inr (8, [tx, .int zl, .int ta, .int be, .int ki, .int nu, .int wo]))]) hP hD [0, 1, 2, 3, 4, 5, 6, 7] [] rfl rfl (by decide) (by decide) hk1 hFc hP1 hD1
          have hP : va_P D vwCl [(oq 0, .inr (6, gPs oq w338 w339 w340 w341 w342 w343 w344 w345 w346 (nI w347) (nI w348))), (oq 6, .inl (cI, 5, .inl w349)), (oq 7, .inl (cI, 600, .inl w350)), (oq 1, .inr (7, [.int (nI w351), .ref (oq 2), .ref (oq 3), .ref (oq 4)])), (oq 2, .inl (cI, 600, .inl w352)), (oq 3, .inl (cI, 600, .inl w353)), (oq 4, .inl (cI, 600, .inl w354)), (oq 5, .inr (8, [tx, .int zl, .int ta, .int be, .int ki, .int nu, .int wo]))] H := hP
          have hD : va_D A [(oq 0, .inr (6, gPs oq w338 w339 w340 w341 w342 w343 w344 w345 w346 (nI w347) (nI w348))), (oq 6, .inl (cI, 5, .inl w349)), (oq 7, .inl (cI, 600, .inl w350)), (oq 1, .inr (7, [.int (nI w351), .ref (oq 2), .ref (oq 3), .ref (oq 4)])), (oq 2, .inl (cI, 600, .inl w352)), (oq 3, .inl (cI, 600, .inl w353)), (oq 4, .inl (cI, 600, .inl w354)), (oq 5, .inr (8, [tx, .int zl, .int ta, .int be, .int ki, .int nu, .int wo]))] := hD
          try dsimp only at hw
          clear hz1 hk1 hFc hPc hKc hDc
          obtain ⟨hx355_1, hx355_2, hx355_3⟩ := hw
          refine lv_goto (tgt := 115) hx hb dX6_acceptSumEnd_53 (by decide) ?_
          exact W.vret hx hb hr (fun t ht hW => ⟨⟨(w338, w339, w340, w341, w342, w343, w344, w345, w346, w347, w348, w349, w350, w351, w352, w353, w354), rfl, (by (try dsimp only); first | done | exact ⟨by omega, by omega, by omega⟩), by rw [ht]; exact hP.sub [0, 1, 2, 3, 4, 5, 6, 7] rfl, va_K.moved hW.alike (hK.sub [0] rfl), hD.sub [0, 1, 2, 3, 4, 5, 6, 7] (by decide) rfl⟩, hS.F ht⟩) hS.2.2 dX6_acceptSumEnd_115
    ·
      refine lv_aload_n hx hb dX6_acceptSumEnd_18 rfl (lv_at hl 0 rfl) ?_
      refine lv_iconst (v := 4) hx hb dX6_acceptSumEnd_19 (by decide) ?_
      refine va_put (D := D) (ci := 6) (v := .int 4) (ty := .int) (C := RX6) (T := TX6) (N := 15) hx hb hts hin_X6 tyX6 tyX6_ok nmX6 hown hK hP hD hS 0 rfl rfl 6 (by decide) (hts (.fieldLink RX6 103 "ClashFree$Parser" "statement" "I") (List.mem_of_getElem? (i := 5) rfl)) (fun _ h9 => h9) rfl (by decide +kernel) rfl rfl (Nat.le_of_ble_eq_true rfl) dX6_acceptSumEnd_20 (fun H locs hP hD hS => ?_)
      have hP : va_P D vwCl [(oq 0, .inr (6, gPs oq w2 w3 w4 w5 4 w7 w8 w9 w10 (nI w11) (nI w12))), (oq 6, .inl (cI, 5, .inl w13)), (oq 7, .inl (cI, 600, .inl w14)), (oq 1, .inr (7, [.int (nI w15), .ref (oq 2), .ref (oq 3), .ref (oq 4)])), (oq 2, .inl (cI, 600, .inl w16)), (oq 3, .inl (cI, 600, .inl w17)), (oq 4, .inl (cI, 600, .inl w18)), (oq 5, .inr (8, [tx, .int zl, .int ta, .int be, .int ki, .int nu, .int wo]))] H := hP
      have hD : va_D A [(oq 0, .inr (6, gPs oq w2 w3 w4 w5 4 w7 w8 w9 w10 (nI w11) (nI w12))), (oq 6, .inl (cI, 5, .inl w13)), (oq 7, .inl (cI, 600, .inl w14)), (oq 1, .inr (7, [.int (nI w15), .ref (oq 2), .ref (oq 3), .ref (oq 4)])), (oq 2, .inl (cI, 600, .inl w16)), (oq 3, .inl (cI, 600, .inl w17)), (oq 4, .inl (cI, 600, .inl w18)), (oq 5, .inr (8, [tx, .int zl, .int ta, .int be, .int ki, .int nu, .int wo]))] := hD
      refine lv_aload_n hx hb dX6_acceptSumEnd_23 rfl (lv_at hl 0 rfl) ?_
      refine lv_iconst (v := 1) hx hb dX6_acceptSumEnd_24 (by decide) ?_
      refine va_put (D := D) (ci := 6) (v := .int 1) (ty := .int) (C := RX6) (T := TX6) (N := 15) hx hb hts hin_X6 tyX6 tyX6_ok nmX6 hown hK hP hD hS 0 rfl rfl 5 (by decide) (hts (.fieldLink RX6 39 "ClashFree$Parser" "state" "I") (List.mem_of_getElem? (i := 14) rfl)) (fun _ h9 => h9) rfl (by decide +kernel) rfl rfl (Nat.le_of_ble_eq_true rfl) dX6_acceptSumEnd_25 (fun H locs hP hD hS => ?_)
      have hP : va_P D vwCl [(oq 0, .inr (6, gPs oq w2 w3 w4 1 4 w7 w8 w9 w10 (nI w11) (nI w12))), (oq 6, .inl (cI, 5, .inl w13)), (oq 7, .inl (cI, 600, .inl w14)), (oq 1, .inr (7, [.int (nI w15), .ref (oq 2), .ref (oq 3), .ref (oq 4)])), (oq 2, .inl (cI, 600, .inl w16)), (oq 3, .inl (cI, 600, .inl w17)), (oq 4, .inl (cI, 600, .inl w18)), (oq 5, .inr (8, [tx, .int zl, .int ta, .int be, .int ki, .int nu, .int wo]))] H := hP
      have hD : va_D A [(oq 0, .inr (6, gPs oq w2 w3 w4 1 4 w7 w8 w9 w10 (nI w11) (nI w12))), (oq 6, .inl (cI, 5, .inl w13)), (oq 7, .inl (cI, 600, .inl w14)), (oq 1, .inr (7, [.int (nI w15), .ref (oq 2), .ref (oq 3), .ref (oq 4)])), (oq 2, .inl (cI, 600, .inl w16)), (oq 3, .inl (cI, 600, .inl w17)), (oq 4, .inl (cI, 600, .inl w18)), (oq 5, .inr (8, [tx, .int zl, .int ta, .int be, .int ki, .int nu, .int wo]))] := hD
      refine lv_goto (tgt := 115) hx hb dX6_acceptSumEnd_28 (by decide) ?_
      exact W.vret hx hb hr (fun t ht hW => ⟨⟨(w2, w3, w4, 1, 4, w7, w8, w9, w10, w11, w12, w13, w14, w15, w16, w17, w18), rfl, (by (try dsimp only); first | done | exact ⟨by omega, by omega, by omega⟩), by rw [ht]; exact hP.sub [0, 1, 2, 3, 4, 5, 6, 7] rfl, va_K.moved hW.alike (hK.sub [0] rfl), hD.sub [0, 1, 2, 3, 4, 5, 6, 7] (by decide) rfl⟩, hS.F ht⟩) hS.2.2 dX6_acceptSumEnd_115

def own_k_aBehindUnit : List Cond := [.methodLink RX6 124 yX6_strength, .static yX6_strength, .initialized RX6, .fieldLink RX6 46 "ClashFree$Parser" "parens" "I", .methodLink RX6 134 yX6_acceptSumEnd, .instanceMethod yX6_acceptSumEnd, .selects RX6 yX6_acceptSumEnd yX6_acceptSumEnd, .methodLink RX6 131 yX6_acceptClosing, .instanceMethod yX6_acceptClosing, .selects RX6 yX6_acceptClosing yX6_acceptClosing, .methodLink RX6 128 yX6_release, .instanceMethod yX6_release, .selects RX6 yX6_release yX6_release, .methodLink RX6 121 yX6_await, .instanceMethod yX6_await, .selects RX6 yX6_await yX6_await, .fieldLink RX6 39 "ClashFree$Parser" "state" "I"]
def wp_k_aBehindUnit : List Cond := .code yX6_acceptBehindUnit cX6_acceptBehindUnit 2 none :: (own_k_aBehindUnit ++ (wp_k_strength ++ (wp_k_aSumEnd ++ (wp_k_aClosing ++ (wp_k_release ++ (wp_k_await ++ (wsX60 ++ ([] : List Cond))))))))
set_option maxRecDepth 20000 in
theorem inown_k_aBehindUnit : ∀ w ∈ own_k_aBehindUnit, w ∈ lw_tbl := mem_places [1059, 1060, 111, 341, 1070, 1072, 21, 1066, 1068, 20, 1062, 1064, 19, 1051, 1053, 17, 336] (by decide +kernel)
set_option maxRecDepth 20000 in
theorem in_k_aBehindUnit : ∀ w ∈ wp_k_aBehindUnit, w ∈ lw_tbl := List.forall_mem_cons.mpr ⟨List.mem_of_getElem? (i := 1058) (by decide +kernel), List.forall_mem_append.mpr ⟨inown_k_aBehindUnit, List.forall_mem_append.mpr ⟨in_k_strength, List.forall_mem_append.mpr ⟨in_k_aSumEnd, List.forall_mem_append.mpr ⟨in_k_aClosing, List.forall_mem_append.mpr ⟨in_k_release, List.forall_mem_append.mpr ⟨in_k_await, List.forall_mem_append.mpr ⟨lwb_X6, fun _ h => absurd h List.not_mem_nil⟩⟩⟩⟩⟩⟩⟩⟩
set_option maxRecDepth 20000 in
theorem good_k_aBehindUnit : wp_k_aBehindUnit.all goodWord = true := by decide +kernel
set_option maxRecDepth 20000 in
theorem g_k_aBehindUnit_k_strength_124 : GoodIn wp_k_aBehindUnit (va_wsS RX6 124 yX6_strength wp_k_strength) := goodIn_sub (List.forall_mem_append.mpr ⟨List.forall_mem_cons.mpr ⟨(List.mem_of_getElem? (i := 1) rfl), List.forall_mem_cons.mpr ⟨(List.mem_of_getElem? (i := 2) rfl), List.forall_mem_cons.mpr ⟨(List.mem_of_getElem? (i := 3) rfl), fun _ h => absurd h List.not_mem_nil⟩⟩⟩, (fun _ h => (List.mem_cons_of_mem _ (List.mem_append_right _ (List.mem_append_left _ h))))⟩) (by decide +kernel)
set_option maxRecDepth 20000 in
theorem g_k_aBehindUnit_k_aSumEnd_134 : GoodIn wp_k_aBehindUnit (wsV RX6 134 RX6 yX6_acceptSumEnd wp_k_aSumEnd) := goodIn_sub (List.forall_mem_append.mpr ⟨List.forall_mem_cons.mpr ⟨(List.mem_of_getElem? (i := 5) rfl), List.forall_mem_cons.mpr ⟨(List.mem_of_getElem? (i := 6) rfl), List.forall_mem_cons.mpr ⟨(List.mem_of_getElem? (i := 7) rfl), List.forall_mem_cons.mpr ⟨(List.mem_of_getElem? (i := 3) rfl), fun _ h => absurd h List.not_mem_nil⟩⟩⟩⟩, (fun _ h => (List.mem_cons_of_mem _ (List.mem_append_right _ (List.mem_append_right _ (List.mem_append_left _ h)))))⟩) (by decide +kernel)
set_option maxRecDepth 20000 in
theorem g_k_aBehindUnit_k_aClosing_131 : GoodIn wp_k_aBehindUnit (wsV RX6 131 RX6 yX6_acceptClosing wp_k_aClosing) := goodIn_sub (List.forall_mem_append.mpr ⟨List.forall_mem_cons.mpr ⟨(List.mem_of_getElem? (i := 8) rfl), List.forall_mem_cons.mpr ⟨(List.mem_of_getElem? (i := 9) rfl), List.forall_mem_cons.mpr ⟨(List.mem_of_getElem? (i := 10) rfl), List.forall_mem_cons.mpr ⟨(List.mem_of_getElem? (i := 3) rfl), fun _ h => absurd h List.not_mem_nil⟩⟩⟩⟩, (fun _ h => (List.mem_cons_of_mem _ (List.mem_append_right _ (List.mem_append_right _ (List.mem_append_right _ (List.mem_append_left _ h))))))⟩) (by decide +kernel)
set_option maxRecDepth 20000 in
theorem g_k_aBehindUnit_k_release_128 : GoodIn wp_k_aBehindUnit (wsV RX6 128 RX6 yX6_release wp_k_release) := goodIn_sub (List.forall_mem_append.mpr ⟨List.forall_mem_cons.mpr ⟨(List.mem_of_getElem? (i := 11) rfl), List.forall_mem_cons.mpr ⟨(List.mem_of_getElem? (i := 12) rfl), List.forall_mem_cons.mpr ⟨(List.mem_of_getElem? (i := 13) rfl), List.forall_mem_cons.mpr ⟨(List.mem_of_getElem? (i := 3) rfl), fun _ h => absurd h List.not_mem_nil⟩⟩⟩⟩, (fun _ h => (List.mem_cons_of_mem _ (List.mem_append_right _ (List.mem_append_right _ (List.mem_append_right _ (List.mem_append_right _ (List.mem_append_left _ h)))))))⟩) (by decide +kernel)
set_option maxRecDepth 20000 in
theorem g_k_aBehindUnit_k_await_121 : GoodIn wp_k_aBehindUnit (wsV RX6 121 RX6 yX6_await wp_k_await) := goodIn_sub (List.forall_mem_append.mpr ⟨List.forall_mem_cons.mpr ⟨(List.mem_of_getElem? (i := 14) rfl), List.forall_mem_cons.mpr ⟨(List.mem_of_getElem? (i := 15) rfl), List.forall_mem_cons.mpr ⟨(List.mem_of_getElem? (i := 16) rfl), List.forall_mem_cons.mpr ⟨(List.mem_of_getElem? (i := 3) rfl), fun _ h => absurd h List.not_mem_nil⟩⟩⟩⟩, (fun _ h => (List.mem_cons_of_mem _ (List.mem_append_right _ (List.mem_append_right _ (List.mem_append_right _ (List.mem_append_right _ (List.mem_append_right _ (List.mem_append_left _ h))))))))⟩) (by decide +kernel)
set_option maxHeartbeats 4000000 in
set_option maxRecDepth 100000 in
theorem k_aBehindUnit (l : Launch) (D : va_G) (sz : Nat) (oq : Nat → Nat) (cI : ClassId) (qf : Int32) (qp : Int32) (qd : Int32) (qs : Int32) (qt : Int32) (qb : Int32) (qh : Int32) (qr : Int32) (qn : Int32) (bk : Nat) (wz : Nat) (fO : Nat → Int32) (fW : Nat → Int32) (pz : Nat) (fK : Nat → Int32) (fN : Nat → Int32) (fL : Nat → Int32) (tx : Value) (zl : Int32) (ta : Int32) (be : Int32) (ki : Int32) (nu : Int32) (wo : Int32) (z1 : Int32) (hbk : bk ≤ 5) (hwz : wz ≤ 600) (hpz : pz ≤ 600) : Met l yX6_acceptBehindUnit wp_k_aBehindUnit ({ frames := 3, cells := 0, slots := 0, locals := 82 }) (PcWC D [.ref (oq 0), .int z1] sz [(oq 0, .inr (6, gPs oq qf qp qd qs qt qb qh qr qn (nI bk) (nI wz))), (oq 6, .inl (cI, 5, .inl fO)), (oq 7, .inl (cI, 600, .inl fW)), (oq 1, .inr (7, [.int (nI pz), .ref (oq 2), .ref (oq 3), .ref (oq 4)])), (oq 2, .inl (cI, 600, .inl fK)), (oq 3, .inl (cI, 600, .inl fN)), (oq 4, .inl (cI, 600, .inl fL)), (oq 5, .inr (8, [tx, .int zl, .int ta, .int be, .int ki, .int nu, .int wo]))] [(cI, .int)]) (va_Qv (fun (u : (Int32) × (Int32) × (Int32) × (Int32) × (Int32) × (Int32) × (Int32) × (Int32) × (Int32) × (Nat) × (Nat) × (Nat → Int32) × (Nat → Int32) × (Nat) × (Nat → Int32) × (Nat → Int32) × (Nat → Int32)) => u.2.2.2.2.2.2.2.2.2.1 ≤ 5 ∧ u.2.2.2.2.2.2.2.2.2.2.1 ≤ 600 ∧ u.2.2.2.2.2.2.2.2.2.2.2.2.2.1 ≤ 600) (fun (u : (Int32) × (Int32) × (Int32) × (Int32) × (Int32) × (Int32) × (Int32) × (Int32) × (Int32) × (Nat) × (Nat) × (Nat → Int32) × (Nat → Int32) × (Nat) × (Nat → Int32) × (Nat → Int32) × (Nat → Int32)) t => va_P D vwCl [(oq 0, .inr (6, gPs oq u.1 u.2.1 u.2.2.1 u.2.2.2.1 u.2.2.2.2.1 u.2.2.2.2.2.1 u.2.2.2.2.2.2.1 u.2.2.2.2.2.2.2.1 u.2.2.2.2.2.2.2.2.1 (nI u.2.2.2.2.2.2.2.2.2.1) (nI u.2.2.2.2.2.2.2.2.2.2.1))), (oq 6, .inl (cI, 5, .inl u.2.2.2.2.2.2.2.2.2.2.2.1)), (oq 7, .inl (cI, 600, .inl u.2.2.2.2.2.2.2.2.2.2.2.2.1)), (oq 1, .inr (7, [.int (nI u.2.2.2.2.2.2.2.2.2.2.2.2.2.1), .ref (oq 2), .ref (oq 3), .ref (oq 4)])), (oq 2, .inl (cI, 600, .inl u.2.2.2.2.2.2.2.2.2.2.2.2.2.2.1)), (oq 3, .inl (cI, 600, .inl u.2.2.2.2.2.2.2.2.2.2.2.2.2.2.2.1)), (oq 4, .inl (cI, 600, .inl u.2.2.2.2.2.2.2.2.2.2.2.2.2.2.2.2)), (oq 5, .inr (8, [tx, .int zl, .int ta, .int be, .int ki, .int nu, .int wo]))] t.heap ∧ va_K D vwCl [(cI, .int)] t ∧ va_D (va_A [(oq 0, .inr (6, gPs oq qf qp qd qs qt qb qh qr qn (nI bk) (nI wz))), (oq 6, .inl (cI, 5, .inl fO)), (oq 7, .inl (cI, 600, .inl fW)), (oq 1, .inr (7, [.int (nI pz), .ref (oq 2), .ref (oq 3), .ref (oq 4)])), (oq 2, .inl (cI, 600, .inl fK)), (oq 3, .inl (cI, 600, .inl fN)), (oq 4, .inl (cI, 600, .inl fL)), (oq 5, .inr (8, [tx, .int zl, .int ta, .int be, .int ki, .int nu, .int wo]))] sz) [(oq 0, .inr (6, gPs oq u.1 u.2.1 u.2.2.1 u.2.2.2.1 u.2.2.2.2.1 u.2.2.2.2.2.1 u.2.2.2.2.2.2.1 u.2.2.2.2.2.2.2.1 u.2.2.2.2.2.2.2.2.1 (nI u.2.2.2.2.2.2.2.2.2.1) (nI u.2.2.2.2.2.2.2.2.2.2.1))), (oq 6, .inl (cI, 5, .inl u.2.2.2.2.2.2.2.2.2.2.2.1)), (oq 7, .inl (cI, 600, .inl u.2.2.2.2.2.2.2.2.2.2.2.2.1)), (oq 1, .inr (7, [.int (nI u.2.2.2.2.2.2.2.2.2.2.2.2.2.1), .ref (oq 2), .ref (oq 3), .ref (oq 4)])), (oq 2, .inl (cI, 600, .inl u.2.2.2.2.2.2.2.2.2.2.2.2.2.2.1)), (oq 3, .inl (cI, 600, .inl u.2.2.2.2.2.2.2.2.2.2.2.2.2.2.2.1)), (oq 4, .inl (cI, 600, .inl u.2.2.2.2.2.2.2.2.2.2.2.2.2.2.2.2)), (oq 5, .inr (8, [tx, .int zl, .int ta, .int be, .int ki, .int nu, .int wo]))]) (va_A [(oq 0, .inr (6, gPs oq qf qp qd qs qt qb qh qr qn (nI bk) (nI wz))), (oq 6, .inl (cI, 5, .inl fO)), (oq 7, .inl (cI, 600, .inl fW)), (oq 1, .inr (7, [.int (nI pz), .ref (oq 2), .ref (oq 3), .ref (oq 4)])), (oq 2, .inl (cI, 600, .inl fK)), (oq 3, .inl (cI, 600, .inl fN)), (oq 4, .inl (cI, 600, .inl fL)), (oq 5, .inr (8, [tx, .int zl, .int ta, .int be, .int ki, .int nu, .int wo]))] sz)) 0 0 (va_A [(oq 0, .inr (6, gPs oq qf qp qd qs qt qb qh qr qn (nI bk) (nI wz))), (oq 6, .inl (cI, 5, .inl fO)), (oq 7, .inl (cI, 600, .inl fW)), (oq 1, .inr (7, [.int (nI pz), .ref (oq 2), .ref (oq 3), .ref (oq 4)])), (oq 2, .inl (cI, 600, .inl fK)), (oq 3, .inl (cI, 600, .inl fN)), (oq 4, .inl (cI, 600, .inl fL)), (oq 5, .inr (8, [tx, .int zl, .int ta, .int be, .int ki, .int nu, .int wo]))] sz) := by
  refine Met.ofW (cc := cX6_acceptBehindUnit) (maxL := 2) (ret := none) (by decide) rfl ?_
  intro p e s m args below meth c s₁ B hml hv
  obtain ⟨rfl, hsz, hP, hK, hD0, hN⟩ := hv
  have hx := B.exec
  have hb := B.bytes
  have hr := B.returns
  have hts := atoms_spec (ws := wp_k_aBehindUnit) B.pre
  have hin_X6 : ∀ w ∈ wsX60, w ∈ wp_k_aBehindUnit := fun _ h => (List.mem_cons_of_mem _ (List.mem_append_right _ (List.mem_append_right _ (List.mem_append_right _ (List.mem_append_right _ (List.mem_append_right _ (List.mem_append_right _ (List.mem_append_left _ h))))))))
  have hown : s.vm.findClass RX6 = some m.cls := findClass_of_methodNamed B.named
  have hlocks := B.notSynchronized
  subst hsz
  have hD := hD0.self (sz := s.heap.size)
  generalize hAe : va_A [(oq 0, .inr (6, gPs oq qf qp qd qs qt qb qh qr qn (nI bk) (nI wz))), (oq 6, .inl (cI, 5, .inl fO)), (oq 7, .inl (cI, 600, .inl fW)), (oq 1, .inr (7, [.int (nI pz), .ref (oq 2), .ref (oq 3), .ref (oq 4)])), (oq 2, .inl (cI, 600, .inl fK)), (oq 3, .inl (cI, 600, .inl fN)), (oq 4, .inl (cI, 600, .inl fL)), (oq 5, .inr (8, [tx, .int zl, .int ta, .int be, .int ki, .int nu, .int wo]))] s.heap.size = A at hD ⊢
  have hA : ∀ q : Nat, s.heap.size ≤ q → A q := fun q h => by rw [← hAe]; exact Or.inr h
  have hS : va_S A s.heap s.heap [] := va_S.rf
  have hP : va_P D vwCl [(oq 0, .inr (6, gPs oq qf qp qd qs qt qb qh qr qn (nI bk) (nI wz))), (oq 6, .inl (cI, 5, .inl fO)), (oq 7, .inl (cI, 600, .inl fW)), (oq 1, .inr (7, [.int (nI pz), .ref (oq 2), .ref (oq 3), .ref (oq 4)])), (oq 2, .inl (cI, 600, .inl fK)), (oq 3, .inl (cI, 600, .inl fN)), (oq 4, .inl (cI, 600, .inl fL)), (oq 5, .inr (8, [tx, .int zl, .int ta, .int be, .int ki, .int nu, .int wo]))] s.heap := hP
  have hl := lv_entry ([.ref (oq 0), .int z1]) (n := 2) (Nat.le_of_ble_eq_true rfl)
  rw [lg_entry_eq]
  generalize (lg_sl ([.ref (oq 0), .int z1]) ++ List.replicate (2 - (lg_sl ([.ref (oq 0), .int z1])).length) Slot.unset).toArray = ls at hl ⊢
  have hl : lv_has ls 2 [(0, .ref (oq 0)), (1, .int z1)] := hl
  refine lv_iload_n hx hb dX6_acceptBehindUnit_0 rfl (lv_at hl 1 rfl) ?_
  have hPc := hP.sub (ws' := []) [] rfl
  have hKc := hK.sub (tys' := []) [] rfl
  have hFc := va_free0 hS hA
  refine va_calli (va_runS (As := [.int z1]) (rest := []) ⟨hx, hb, hml, hown, hts⟩ (k_strength l D _ cI z1) (va_cwS 1 hts g_k_aBehindUnit_k_strength_124 rfl rfl rfl (by decide +kernel) ⟨(Nat.le_of_ble_eq_true rfl), (Nat.le_of_ble_eq_true rfl)⟩) (PcRC_S hPc hKc hN) rfl rfl hl.1 rfl (lv_room (Nat.le_of_ble_eq_true rfl)) dX6_acceptBehindUnit_1 ⟨(Nat.le_of_ble_eq_true rfl), (Nat.le_of_ble_eq_true rfl)⟩) hS (fun q _ h => hFc q h) hFc (fun r1 uu tt H locs htt hvm hw hB hz1 hk1 hS => ?_)
  have hP := va_keep hP hk1
  try dsimp only at hw
  clear hB hz1 hk1 hFc hPc hKc
  refine lv_if_le (tgt := 28) hx hb dX6_acceptBehindUnit_4 (by decide) (fun hc2 => ?_) (fun hc2 => ?_)
  ·
    refine lv_aload_n hx hb dX6_acceptBehindUnit_28 rfl (lv_at hl 0 rfl) ?_
    refine va_get (D := D) (ci := 6) (v := .int qn) (C := RX6) (T := TX6) (N := 15) hx hb hts hin_X6 hown hK hP 0 rfl rfl 10 (by decide) (hts (.fieldLink RX6 46 "ClashFree$Parser" "parens" "I") (List.mem_of_getElem? (i := 4) rfl)) (fun _ h9 => h9) rfl dX6_acceptBehindUnit_29 ?_
    refine lv_if_le (tgt := 43) hx hb dX6_acceptBehindUnit_32 (by decide) (fun hc3 => ?_) (fun hc3 => ?_)
    ·
      refine lv_aload_n hx hb dX6_acceptBehindUnit_43 rfl (lv_at hl 0 rfl) ?_
      refine lv_iload_n hx hb dX6_acceptBehindUnit_44 rfl (lv_at hl 1 rfl) ?_
      have hPc := hP.sub (ws' := [(oq 0, .inr (6, gPs oq qf qp qd qs qt qb qh qr qn (nI bk) (nI wz))), (oq 6, .inl (cI, 5, .inl fO)), (oq 7, .inl (cI, 600, .inl fW)), (oq 1, .inr (7, [.int (nI pz), .ref (oq 2), .ref (oq 3), .ref (oq 4)])), (oq 2, .inl (cI, 600, .inl fK)), (oq 3, .inl (cI, 600, .inl fN)), (oq 4, .inl (cI, 600, .inl fL)), (oq 5, .inr (8, [tx, .int zl, .int ta, .int be, .int ki, .int nu, .int wo]))]) [0, 1, 2, 3, 4, 5, 6, 7] rfl
      have hKc := hK.sub (tys' := [(cI, .int)]) [0] rfl
      have hDc := hD.sub (ws' := [(oq 0, .inr (6, gPs oq qf qp qd qs qt qb qh qr qn (nI bk) (nI wz))), (oq 6, .inl (cI, 5, .inl fO)), (oq 7, .inl (cI, 600, .inl fW)), (oq 1, .inr (7, [.int (nI pz), .ref (oq 2), .ref (oq 3), .ref (oq 4)])), (oq 2, .inl (cI, 600, .inl fK)), (oq 3, .inl (cI, 600, .inl fN)), (oq 4, .inl (cI, 600, .inl fL)), (oq 5, .inr (8, [tx, .int zl, .int ta, .int be, .int ki, .int nu, .int wo]))]) [0, 1, 2, 3, 4, 5, 6, 7] (by decide) rfl
      have hFc := va_free (wc := [(oq 0, .inr (6, gPs oq qf qp qd qs qt qb qh qr qn (nI bk) (nI wz))), (oq 6, .inl (cI, 5, .inl fO)), (oq 7, .inl (cI, 600, .inl fW)), (oq 1, .inr (7, [.int (nI pz), .ref (oq 2), .ref (oq 3), .ref (oq 4)])), (oq 2, .inl (cI, 600, .inl fK)), (oq 3, .inl (cI, 600, .inl fN)), (oq 4, .inl (cI, 600, .inl fL)), (oq 5, .inr (8, [tx, .int zl, .int ta, .int be, .int ki, .int nu, .int wo]))]) hD hS hA [0, 1, 2, 3, 4, 5, 6, 7] rfl
      refine va_callv (va_runV (As := [.int z1]) (rest := []) ⟨hx, hb, hml, hown, hts⟩ (k_aSumEnd l D _ oq cI qf qp qd qs qt qb qh qr qn bk wz fO fW pz fK fN fL tx zl ta be ki nu wo z1 hbk hwz hpz) (cwV 1 hts g_k_aBehindUnit_k_aSumEnd_134 rfl rfl rfl (by decide +kernel) ⟨(Nat.le_of_ble_eq_true rfl), (Nat.le_of_ble_eq_true rfl)⟩) (PcWC_V (q0 := 0) hPc hKc hDc hN rfl rfl) rfl rfl hl.1 rfl (lv_room (Nat.le_of_ble_eq_true rfl)) dX6_acceptBehindUnit_45 ⟨(Nat.le_of_ble_eq_true rfl), (Nat.le_of_ble_eq_true rfl)⟩) hS (fun q _ h => hFc q h) hFc (fun uu tt H locs htt hvm hw hB hz1 hk1 hS => ?_)
      obtain ⟨w5, w6, w7, w8, w9, w10, w11, w12, w13, w14, w15, w16, w17, w18, w19, w20, w21⟩ := uu
      obtain ⟨hP1, hK1, hD1⟩ := hB
      rw [htt] at hP1
      have hK1 := va_K.moved hvm.symm hK1
      have hP1 : va_P D vwCl [(oq 0, .inr (6, gPs oq w5 w6 w7 w8 w9 w10 w11 w12 w13 (nI w14) (nI w15))), (oq 6, .inl (cI, 5, .inl w16)), (oq 7, .inl (cI, 600, .inl w17)), (oq 1, .inr (7, [.int (nI w18), .ref (oq 2), .ref (oq 3), .ref (oq 4)])), (oq 2, .inl (cI, 600, .inl w19)), (oq 3, .inl (cI, 600, .inl w20)), (oq 4, .inl (cI, 600, .inl w21)), (oq 5, .inr (8, [tx, .int zl, .int ta, .int be, .int ki, .int nu, .int wo]))] H := hP1
      obtain ⟨hP, hD⟩ := va_join (wr := []) (w1 := [(oq 0, .inr (6, gPs oq w5 w6 w7 w8 w9 w10 w11 w12 w13 (nI w14) (nI w15))), (oq 6, .inl (cI, 5, .inl w16)), (oq 7, .inl (cI, 600, .inl w17)), (oq 1, .inr (7, [.int (nI w18), .ref (oq 2), .ref (oq 3), .ref (oq 4)])), (oq 2, .inl (cI, 600, .inl w19)), (oq 3, .inl (cI, 600, .inl w20)), (oq 4, .inl (cI, 600, .inl w21)), (oq 5, .inr (8, [tx, .int zl, .int ta, .int be, .int ki, .int nu, .int wo]))]) hP hD [0, 1, 2, 3, 4, 5, 6, 7] [] rfl rfl (by decide) (by decide) hk1 hFc hP1 hD1
      have hP : va_P D vwCl [(oq 0, .inr (6, gPs oq w5 w6 w7 w8 w9 w10 w11 w12 w13 (nI w14) (nI w15))), (oq 6, .inl (cI, 5, .inl w16)), (oq 7, .inl (cI, 600, .inl w17)), (oq 1, .inr (7, [.int (nI w18), .ref (oq 2), .ref (oq 3), .ref (oq 4)])), (oq 2, .inl (cI, 600, .inl w19)), (oq 3, .inl (cI, 600, .inl w20)), (oq 4, .inl (cI, 600, .inl w21)), (oq 5, .inr (8, [tx, .int zl, .int ta, .int be, .int ki, .int nu, .int wo]))] H := hP
      have hD : va_D A [(oq 0, .inr (6, gPs oq w5 w6 w7 w8 w9 w10 w11 w12 w13 (nI w14) (nI w15))), (oq 6, .inl (cI, 5, .inl w16)), (oq 7, .inl (cI, 600, .inl w17)), (oq 1, .inr (7, [.int (nI w18), .ref (oq 2), .ref (oq 3), .ref (oq 4)])), (oq 2, .inl (cI, 600, .inl w19)), (oq 3, .inl (cI, 600, .inl w20)), (oq 4, .inl (cI, 600, .inl w21)), (oq 5, .inr (8, [tx, .int zl, .int ta, .int be, .int ki, .int nu, .int wo]))] := hD
      try dsimp only at hw
      clear hz1 hk1 hFc hPc hKc hDc
      obtain ⟨hx22_1, hx22_2, hx22_3⟩ := hw
      exact W.vret hx hb hr (fun t ht hW => ⟨⟨(w5, w6, w7, w8, w9, w10, w11, w12, w13, w14, w15, w16, w17, w18, w19, w20, w21), rfl, (by (try dsimp only); first | done | exact ⟨by omega, by omega, by omega⟩), by rw [ht]; exact hP.sub [0, 1, 2, 3, 4, 5, 6, 7] rfl, va_K.moved hW.alike (hK.sub [0] rfl), hD.sub [0, 1, 2, 3, 4, 5, 6, 7] (by decide) rfl⟩, hS.F ht⟩) hS.2.2 dX6_acceptBehindUnit_48
    ·
      refine lv_aload_n hx hb dX6_acceptBehindUnit_35 rfl (lv_at hl 0 rfl) ?_
      refine lv_iload_n hx hb dX6_acceptBehindUnit_36 rfl (lv_at hl 1 rfl) ?_
      have hPc := hP.sub (ws' := [(oq 0, .inr (6, gPs oq qf qp qd qs qt qb qh qr qn (nI bk) (nI wz))), (oq 6, .inl (cI, 5, .inl fO)), (oq 7, .inl (cI, 600, .inl fW)), (oq 1, .inr (7, [.int (nI pz), .ref (oq 2), .ref (oq 3), .ref (oq 4)])), (oq 2, .inl (cI, 600, .inl fK)), (oq 3, .inl (cI, 600, .inl fN)), (oq 4, .inl (cI, 600, .inl fL)), (oq 5, .inr (8, [tx, .int zl, .int ta, .int be, .int ki, .int nu, .int wo]))]) [0, 1, 2, 3, 4, 5, 6, 7] rfl
      have hKc := hK.sub (tys' := [(cI, .int)]) [0] rfl
      have hDc := hD.sub (ws' := [(oq 0, .inr (6, gPs oq qf qp qd qs qt qb qh qr qn (nI bk) (nI wz))), (oq 6, .inl (cI, 5, .inl fO)), (oq 7, .inl (cI, 600, .inl fW)), (oq 1, .inr (7, [.int (nI pz), .ref (oq 2), .ref (oq 3), .ref (oq 4)])), (oq 2, .inl (cI, 600, .inl fK)), (oq 3, .inl (cI, 600, .inl fN)), (oq 4, .inl (cI, 600, .inl fL)), (oq 5, .inr (8, [tx, .int zl, .int ta, .int be, .int ki, .int nu, .int wo]))]) [0, 1, 2, 3, 4, 5, 6, 7] (by decide) rfl
      have hFc := va_free (wc := [(oq 0, .inr (6, gPs oq qf qp qd qs qt qb qh qr qn (nI bk) (nI wz))), (oq 6, .inl (cI, 5, .inl fO)), (oq 7, .inl (cI, 600, .inl fW)), (oq 1, .inr (7, [.int (nI pz), .ref (oq 2), .ref (oq 3), .ref (oq 4)])), (oq 2, .inl (cI, 600, .inl fK)), (oq 3, .inl (cI, 600, .inl fN)), (oq 4, .inl (cI, 600, .inl fL)), (oq 5, .inr (8, [tx, .int zl, .int ta, .int be, .int ki, .int nu, .int wo]))]) hD hS hA [0, 1, 2, 3, 4, 5, 6, 7] rfl
      refine va_callv (va_runV (As := [.int z1]) (rest := []) ⟨hx, hb, hml, hown, hts⟩ (k_aClosing l D _ oq cI qf qp qd qs qt qb qh qr qn bk wz fO fW pz fK fN fL tx zl ta be ki nu wo z1 hbk hwz hpz) (cwV 1 hts g_k_aBehindUnit_k_aClosing_131 rfl rfl rfl (by decide +kernel) ⟨(Nat.le_of_ble_eq_true rfl), (Nat.le_of_ble_eq_true rfl)⟩) (PcWC_V (q0 := 0) hPc hKc hDc hN rfl rfl) rfl rfl hl.1 rfl (lv_room (Nat.le_of_ble_eq_true rfl)) dX6_acceptBehindUnit_37 ⟨(Nat.le_of_ble_eq_true rfl), (Nat.le_of_ble_eq_true rfl)⟩) hS (fun q _ h => hFc q h) hFc (fun uu tt H locs htt hvm hw hB hz1 hk1 hS => ?_)
      obtain ⟨w24, w25, w26, w27, w28, w29, w30, w31, w32, w33, w34, w35, w36, w37, w38, w39, w40⟩ := uu
      obtain ⟨hP1, hK1, hD1⟩ := hB
      rw [htt] at hP1
      have hK1 := va_K.moved hvm.symm hK1
      have hP1 : va_P D vwCl [(oq 0, .inr (6, gPs oq w24 w25 w26 w27 w28 w29 w30 w31 w32 (nI w33) (nI w34))), (oq 6, .inl (cI, 5, .inl w35)), (oq 7, .inl (cI, 600, .inl w36)), (oq 1, .inr (7, [.int (nI w37), .ref (oq 2), .ref (oq 3), .ref (oq 4)])), (oq 2, .inl (cI, 600, .inl w38)), (oq 3, .inl (cI, 600, .inl w39)), (oq 4, .inl (cI, 600, .inl w40)), (oq 5, .inr (8, [tx, .int zl, .int ta, .int be, .int ki, .int nu, .int wo]))] H := hP1
      obtain ⟨hP, hD⟩ := va_join (wr := []) (w1 := [(oq 0, .inr (6, gPs oq w24 w25 w26 w27 w28 w29 w30 w31 w32 (nI w33) (nI w34))), (oq 6, .inl (cI, 5, .inl w35)), (oq 7, .inl (cI, 600, .inl w36)), (oq 1, .inr (7, [.int (nI w37), .ref (oq 2), .ref (oq 3), .ref (oq 4)])), (oq 2, .inl (cI, 600, .inl w38)), (oq 3, .inl (cI, 600, .inl w39)), (oq 4, .inl (cI, 600, .inl w40)), (oq 5, .inr (8, [tx, .int zl, .int ta, .int be, .int ki, .int nu, .int wo]))]) hP hD [0, 1, 2, 3, 4, 5, 6, 7] [] rfl rfl (by decide) (by decide) hk1 hFc hP1 hD1
      have hP : va_P D vwCl [(oq 0, .inr (6, gPs oq w24 w25 w26 w27 w28 w29 w30 w31 w32 (nI w33) (nI w34))), (oq 6, .inl (cI, 5, .inl w35)), (oq 7, .inl (cI, 600, .inl w36)), (oq 1, .inr (7, [.int (nI w37), .ref (oq 2), .ref (oq 3), .ref (oq 4)])), (oq 2, .inl (cI, 600, .inl w38)), (oq 3, .inl (cI, 600, .inl w39)), (oq 4, .inl (cI, 600, .inl w40)), (oq 5, .inr (8, [tx, .int zl, .int ta, .int be, .int ki, .int nu, .int wo]))] H := hP
      have hD : va_D A [(oq 0, .inr (6, gPs oq w24 w25 w26 w27 w28 w29 w30 w31 w32 (nI w33) (nI w34))), (oq 6, .inl (cI, 5, .inl w35)), (oq 7, .inl (cI, 600, .inl w36)), (oq 1, .inr (7, [.int (nI w37), .ref (oq 2), .ref (oq 3), .ref (oq 4)])), (oq 2, .inl (cI, 600, .inl w38)), (oq 3, .inl (cI, 600, .inl w39)), (oq 4, .inl (cI, 600, .inl w40)), (oq 5, .inr (8, [tx, .int zl, .int ta, .int be, .int ki, .int nu, .int wo]))] := hD
      try dsimp only at hw
      clear hz1 hk1 hFc hPc hKc hDc
      obtain ⟨hx41_1, hx41_2, hx41_3⟩ := hw
      refine lv_goto (tgt := 48) hx hb dX6_acceptBehindUnit_40 (by decide) ?_
      exact W.vret hx hb hr (fun t ht hW => ⟨⟨(w24, w25, w26, w27, w28, w29, w30, w31, w32, w33, w34, w35, w36, w37, w38, w39, w40), rfl, (by (try dsimp only); first | done | exact ⟨by omega, by omega, by omega⟩), by rw [ht]; exact hP.sub [0, 1, 2, 3, 4, 5, 6, 7] rfl, va_K.moved hW.alike (hK.sub [0] rfl), hD.sub [0, 1, 2, 3, 4, 5, 6, 7] (by decide) rfl⟩, hS.F ht⟩) hS.2.2 dX6_acceptBehindUnit_48
  ·
    refine lv_aload_n hx hb dX6_acceptBehindUnit_7 rfl (lv_at hl 0 rfl) ?_
    refine lv_iload_n hx hb dX6_acceptBehindUnit_8 rfl (lv_at hl 1 rfl) ?_
    have hPc := hP.sub (ws' := []) [] rfl
    have hKc := hK.sub (tys' := []) [] rfl
    have hFc := va_free0 hS hA
    refine va_calli (va_runS (As := [.int z1]) (rest := [.ref (oq 0)]) ⟨hx, hb, hml, hown, hts⟩ (k_strength l D _ cI z1) (va_cwS 1 hts g_k_aBehindUnit_k_strength_124 rfl rfl rfl (by decide +kernel) ⟨(Nat.le_of_ble_eq_true rfl), (Nat.le_of_ble_eq_true rfl)⟩) (PcRC_S hPc hKc hN) rfl rfl hl.1 rfl (lv_room (Nat.le_of_ble_eq_true rfl)) dX6_acceptBehindUnit_9 ⟨(Nat.le_of_ble_eq_true rfl), (Nat.le_of_ble_eq_true rfl)⟩) hS (fun q _ h => hFc q h) hFc (fun r42 uu tt H locs htt hvm hw hB hz1 hk1 hS => ?_)
    have hP := va_keep hP hk1
    try dsimp only at hw
    clear hB hz1 hk1 hFc hPc hKc
    have hPc := hP.sub (ws' := [(oq 0, .inr (6, gPs oq qf qp qd qs qt qb qh qr qn (nI bk) (nI wz))), (oq 6, .inl (cI, 5, .inl fO)), (oq 7, .inl (cI, 600, .inl fW)), (oq 1, .inr (7, [.int (nI pz), .ref (oq 2), .ref (oq 3), .ref (oq 4)])), (oq 2, .inl (cI, 600, .inl fK)), (oq 3, .inl (cI, 600, .inl fN)), (oq 4, .inl (cI, 600, .inl fL)), (oq 5, .inr (8, [tx, .int zl, .int ta, .int be, .int ki, .int nu, .int wo]))]) [0, 1, 2, 3, 4, 5, 6, 7] rfl
    have hKc := hK.sub (tys' := [(cI, .int)]) [0] rfl
    have hDc := hD.sub (ws' := [(oq 0, .inr (6, gPs oq qf qp qd qs qt qb qh qr qn (nI bk) (nI wz))), (oq 6, .inl (cI, 5, .inl fO)), (oq 7, .inl (cI, 600, .inl fW)), (oq 1, .inr (7, [.int (nI pz), .ref (oq 2), .ref (oq 3), .ref (oq 4)])), (oq 2, .inl (cI, 600, .inl fK)), (oq 3, .inl (cI, 600, .inl fN)), (oq 4, .inl (cI, 600, .inl fL)), (oq 5, .inr (8, [tx, .int zl, .int ta, .int be, .int ki, .int nu, .int wo]))]) [0, 1, 2, 3, 4, 5, 6, 7] (by decide) rfl
    have hFc := va_free (wc := [(oq 0, .inr (6, gPs oq qf qp qd qs qt qb qh qr qn (nI bk) (nI wz))), (oq 6, .inl (cI, 5, .inl fO)), (oq 7, .inl (cI, 600, .inl fW)), (oq 1, .inr (7, [.int (nI pz), .ref (oq 2), .ref (oq 3), .ref (oq 4)])), (oq 2, .inl (cI, 600, .inl fK)), (oq 3, .inl (cI, 600, .inl fN)), (oq 4, .inl (cI, 600, .inl fL)), (oq 5, .inr (8, [tx, .int zl, .int ta, .int be, .int ki, .int nu, .int wo]))]) hD hS hA [0, 1, 2, 3, 4, 5, 6, 7] rfl
    refine va_callv (va_runV (As := [.int r42]) (rest := []) ⟨hx, hb, hml, hown, hts⟩ (k_release l D _ oq cI qf qp qd qs qt qb qh qr qn bk wz fO fW pz fK fN fL tx zl ta be ki nu wo r42 hbk hwz hpz) (cwV 1 hts g_k_aBehindUnit_k_release_128 rfl rfl rfl (by decide +kernel) ⟨(Nat.le_of_ble_eq_true rfl), (Nat.le_of_ble_eq_true rfl)⟩) (PcWC_V (q0 := 0) hPc hKc hDc hN rfl rfl) rfl rfl hl.1 rfl (lv_room (Nat.le_of_ble_eq_true rfl)) dX6_acceptBehindUnit_12 ⟨(Nat.le_of_ble_eq_true rfl), (Nat.le_of_ble_eq_true rfl)⟩) hS (fun q _ h => hFc q h) hFc (fun uu tt H locs htt hvm hw hB hz1 hk1 hS => ?_)
    obtain ⟨w44, w45, w46, w47, w48, w49, w50, w51, w52, w53, w54, w55, w56, w57, w58, w59, w60⟩ := uu
    obtain ⟨hP1, hK1, hD1⟩ := hB
    rw [htt] at hP1
    have hK1 := va_K.moved hvm.symm hK1
    have hP1 : va_P D vwCl [(oq 0, .inr (6, gPs oq w44 w45 w46 w47 w48 w49 w50 w51 w52 (nI w53) (nI w54))), (oq 6, .inl (cI, 5, .inl w55)), (oq 7, .inl (cI, 600, .inl w56)), (oq 1, .inr (7, [.int (nI w57), .ref (oq 2), .ref (oq 3), .ref (oq 4)])), (oq 2, .inl (cI, 600, .inl w58)), (oq 3, .inl (cI, 600, .inl w59)), (oq 4, .inl (cI, 600, .inl w60)), (oq 5, .inr (8, [tx, .int zl, .int ta, .int be, .int ki, .int nu, .int wo]))] H := hP1
    obtain ⟨hP, hD⟩ := va_join (wr := []) (w1 := [(oq 0, .inr (6, gPs oq w44 w45 w46 w47 w48 w49 w50 w51 w52 (nI w53) (nI w54))), (oq 6, .inl (cI, 5, .inl w55)), (oq 7, .inl (cI, 600, .inl w56)), (oq 1, .inr (7, [.int (nI w57), .ref (oq 2), .ref (oq 3), .ref (oq 4)])), (oq 2, .inl (cI, 600, .inl w58)), (oq 3, .inl (cI, 600, .inl w59)), (oq 4, .inl (cI, 600, .inl w60)), (oq 5, .inr (8, [tx, .int zl, .int ta, .int be, .int ki, .int nu, .int wo]))]) hP hD [0, 1, 2, 3, 4, 5, 6, 7] [] rfl rfl (by decide) (by decide) hk1 hFc hP1 hD1
    have hP : va_P D vwCl [(oq 0, .inr (6, gPs oq w44 w45 w46 w47 w48 w49 w50 w51 w52 (nI w53) (nI w54))), (oq 6, .inl (cI, 5, .inl w55)), (oq 7, .inl (cI, 600, .inl w56)), (oq 1, .inr (7, [.int (nI w57), .ref (oq 2), .ref (oq 3), .ref (oq 4)])), (oq 2, .inl (cI, 600, .inl w58)), (oq 3, .inl (cI, 600, .inl w59)), (oq 4, .inl (cI, 600, .inl w60)), (oq 5, .inr (8, [tx, .int zl, .int ta, .int be, .int ki, .int nu, .int wo]))] H := hP
    have hD : va_D A [(oq 0, .inr (6, gPs oq w44 w45 w46 w47 w48 w49 w50 w51 w52 (nI w53) (nI w54))), (oq 6, .inl (cI, 5, .inl w55)), (oq 7, .inl (cI, 600, .inl w56)), (oq 1, .inr (7, [.int (nI w57), .ref (oq 2), .ref (oq 3), .ref (oq 4)])), (oq 2, .inl (cI, 600, .inl w58)), (oq 3, .inl (cI, 600, .inl w59)), (oq 4, .inl (cI, 600, .inl w60)), (oq 5, .inr (8, [tx, .int zl, .int ta, .int be, .int ki, .int nu, .int wo]))] := hD
    try dsimp only at hw
    clear hz1 hk1 hFc hPc hKc hDc
    obtain ⟨hx61_1, hx61_2, hx61_3⟩ := hw
    refine lv_aload_n hx hb dX6_acceptBehindUnit_15 rfl (lv_at hl 0 rfl) ?_
    refine lv_iload_n hx hb dX6_acceptBehindUnit_16 rfl (lv_at hl 1 rfl) ?_
    have hPc := hP.sub (ws' := [(oq 0, .inr (6, gPs oq w44 w45 w46 w47 w48 w49 w50 w51 w52 (nI w53) (nI w54))), (oq 6, .inl (cI, 5, .inl w55)), (oq 7, .inl (cI, 600, .inl w56)), (oq 1, .inr (7, [.int (nI w57), .ref (oq 2), .ref (oq 3), .ref (oq 4)])), (oq 2, .inl (cI, 600, .inl w58)), (oq 3, .inl (cI, 600, .inl w59)), (oq 4, .inl (cI, 600, .inl w60)), (oq 5, .inr (8, [tx, .int zl, .int ta, .int be, .int ki, .int nu, .int wo]))]) [0, 1, 2, 3, 4, 5, 6, 7] rfl
    have hKc := hK.sub (tys' := [(cI, .int)]) [0] rfl
    have hDc := hD.sub (ws' := [(oq 0, .inr (6, gPs oq w44 w45 w46 w47 w48 w49 w50 w51 w52 (nI w53) (nI w54))), (oq 6, .inl (cI, 5, .inl w55)), (oq 7, .inl (cI, 600, .inl w56)), (oq 1, .inr (7, [.int (nI w57), .ref (oq 2), .ref (oq 3), .ref (oq 4)])), (oq 2, .inl (cI, 600, .inl w58)), (oq 3, .inl (cI, 600, .inl w59)), (oq 4, .inl (cI, 600, .inl w60)), (oq 5, .inr (8, [tx, .int zl, .int ta, .int be, .int ki, .int nu, .int wo]))]) [0, 1, 2, 3, 4, 5, 6, 7] (by decide) rfl
    have hFc := va_free (wc := [(oq 0, .inr (6, gPs oq w44 w45 w46 w47 w48 w49 w50 w51 w52 (nI w53) (nI w54))), (oq 6, .inl (cI, 5, .inl w55)), (oq 7, .inl (cI, 600, .inl w56)), (oq 1, .inr (7, [.int (nI w57), .ref (oq 2), .ref (oq 3), .ref (oq 4)])), (oq 2, .inl (cI, 600, .inl w58)), (oq 3, .inl (cI, 600, .inl w59)), (oq 4, .inl (cI, 600, .inl w60)), (oq 5, .inr (8, [tx, .int zl, .int ta, .int be, .int ki, .int nu, .int wo]))]) hD hS hA [0, 1, 2, 3, 4, 5, 6, 7] rfl
    refine va_callv (va_runV (As := [.int z1]) (rest := []) ⟨hx, hb, hml, hown, hts⟩ (k_await l D _ oq cI w44 w45 w46 w47 w48 w49 w50 w51 w52 w53 w54 w55 w56 w57 w58 w59 w60 tx zl ta be ki nu wo z1 hx61_1 hx61_2 hx61_3) (cwV 1 hts g_k_aBehindUnit_k_await_121 rfl rfl rfl (by decide +kernel) ⟨(Nat.le_of_ble_eq_true rfl), (Nat.le_of_ble_eq_true rfl)⟩) (PcWC_V (q0 := 0) hPc hKc hDc hN rfl rfl) rfl rfl hl.1 rfl (lv_room (Nat.le_of_ble_eq_true rfl)) dX6_acceptBehindUnit_17 ⟨(Nat.le_of_ble_eq_true rfl), (Nat.le_of_ble_eq_true rfl)⟩) hS (fun q _ h => hFc q h) hFc (fun uu tt H locs htt hvm hw hB hz1 hk1 hS => ?_)
    obtain ⟨w63, w64, w65, w66, w67, w68, w69, w70, w71, w72, w73, w74, w75, w76, w77, w78, w79⟩ := uu
    obtain ⟨hP1, hK1, hD1⟩ := hB
    rw [htt] at hP1
    have hK1 := va_K.moved hvm.symm hK1
    have hP1 : va_P D vwCl [(oq 0, .inr (6, gPs oq w63 w64 w65 w66 w67 w68 w69 w70 w71 (nI w72) (nI w73))), (oq 6, .inl (cI, 5, .inl w74)), (oq 7, .inl (cI, 600, .inl w75)), (oq 1, .inr (7, [.int (nI w76), .ref (oq 2), .ref (oq 3), .ref (oq 4)])), (oq 2, .inl (cI, 600, .inl w77)), (oq 3, .inl (cI, 600, .inl w78)), (oq 4, .inl (cI, 600, .inl w79)), (oq 5, .inr (8, [tx, .int zl, .int ta, .int be, .int ki, .int nu, .int wo]))] H := hP1
    obtain ⟨hP, hD⟩ := va_join (wr := []) (w1 := [(oq 0, .inr (6, gPs oq w63 w64 w65 w66 w67 w68 w69 w70 w71 (nI w72) (nI w73))), (oq 6, .inl (cI, 5, .inl w74)), (oq 7, .inl (cI, 600, .inl w75)), (oq 1, .inr (7, [.int (nI w76), .ref (oq 2), .ref (oq 3), .ref (oq 4)])), (oq 2, .inl (cI, 600, .inl w77)), (oq 3, .inl (cI, 600, .inl w78)), (oq 4, .inl (cI, 600, .inl w79)), (oq 5, .inr (8, [tx, .int zl, .int ta, .int be, .int ki, .int nu, .int wo]))]) hP hD [0, 1, 2, 3, 4, 5, 6, 7] [] rfl rfl (by decide) (by decide) hk1 hFc hP1 hD1
    have hP : va_P D vwCl [(oq 0, .inr (6, gPs oq w63 w64 w65 w66 w67 w68 w69 w70 w71 (nI w72) (nI w73))), (oq 6, .inl (cI, 5, .inl w74)), (oq 7, .inl (cI, 600, .inl w75)), (oq 1, .inr (7, [.int (nI w76), .ref (oq 2), .ref (oq 3), .ref (oq 4)])), (oq 2, .inl (cI, 600, .inl w77)), (oq 3, .inl (cI, 600, .inl w78)), (oq 4, .inl (cI, 600, .inl w79)), (oq 5, .inr (8, [tx, .int zl, .int ta, .int be, .int ki, .int nu, .int wo]))] H := hP
    have hD : va_D A [(oq 0, .inr (6, gPs oq w63 w64 w65 w66 w67 w68 w69 w70 w71 (nI w72) (nI w73))), (oq 6, .inl (cI, 5, .inl w74)), (oq 7, .inl (cI, 600, .inl w75)), (oq 1, .inr (7, [.int (nI w76), .ref (oq 2), .ref (oq 3), .ref (oq 4)])), (oq 2, .inl (cI, 600, .inl w77)), (oq 3, .inl (cI, 600, .inl w78)), (oq 4, .inl (cI, 600, .inl w79)), (oq 5, .inr (8, [tx, .int zl, .int ta, .int be, .int ki, .int nu, .int wo]))] := hD
    try dsimp only at hw
    clear hz1 hk1 hFc hPc hKc hDc
    obtain ⟨hx80_1, hx80_2, hx80_3⟩ := hw
    refine lv_aload_n hx hb dX6_acceptBehindUnit_20 rfl (lv_at hl 0 rfl) ?_
    refine lv_iconst (v := 1) hx hb dX6_acceptBehindUnit_21 (by decide) ?_
    refine va_put (D := D) (ci := 6) (v := .int 1) (ty := .int) (C := RX6) (T := TX6) (N := 15) hx hb hts hin_X6 tyX6 tyX6_ok nmX6 hown hK hP hD hS 0 rfl rfl 5 (by decide) (hts (.fieldLink RX6 39 "ClashFree$Parser" "state" "I") (List.mem_of_getElem? (i := 17) rfl)) (fun _ h9 => h9) rfl (by decide +kernel) rfl rfl (Nat.le_of_ble_eq_true rfl) dX6_acceptBehindUnit_22 (fun H locs hP hD hS => ?_)
    have hP : va_P D vwCl [(oq 0, .inr (6, gPs oq w63 w64 w65 1 w67 w68 w69 w70 w71 (nI w72) (nI w73))), (oq 6, .inl (cI, 5, .inl w74)), (oq 7, .inl (cI, 600, .inl w75)), (oq 1, .inr (7, [.int (nI w76), .ref (oq 2), .ref (oq 3), .ref (oq 4)])), (oq 2, .inl (cI, 600, .inl w77)), (oq 3, .inl (cI, 600, .inl w78)), (oq 4, .inl (cI, 600, .inl w79)), (oq 5, .inr (8, [tx, .int zl, .int ta, .int be, .int ki, .int nu, .int wo]))] H := hP
    have hD : va_D A [(oq 0, .inr (6, gPs oq w63 w64 w65 1 w67 w68 w69 w70 w71 (nI w72) (nI w73))), (oq 6, .inl (cI, 5, .inl w74)), (oq 7, .inl (cI, 600, .inl w75)), (oq 1, .inr (7, [.int (nI w76), .ref (oq 2), .ref (oq 3), .ref (oq 4)])), (oq 2, .inl (cI, 600, .inl w77)), (oq 3, .inl (cI, 600, .inl w78)), (oq 4, .inl (cI, 600, .inl w79)), (oq 5, .inr (8, [tx, .int zl, .int ta, .int be, .int ki, .int nu, .int wo]))] := hD
    refine lv_goto (tgt := 48) hx hb dX6_acceptBehindUnit_25 (by decide) ?_
    exact W.vret hx hb hr (fun t ht hW => ⟨⟨(w63, w64, w65, 1, w67, w68, w69, w70, w71, w72, w73, w74, w75, w76, w77, w78, w79), rfl, (by (try dsimp only); first | done | exact ⟨by omega, by omega, by omega⟩), by rw [ht]; exact hP.sub [0, 1, 2, 3, 4, 5, 6, 7] rfl, va_K.moved hW.alike (hK.sub [0] rfl), hD.sub [0, 1, 2, 3, 4, 5, 6, 7] (by decide) rfl⟩, hS.F ht⟩) hS.2.2 dX6_acceptBehindUnit_48

def own_k_aRounds : List Cond := [.fieldLink RX6 21 "ClashFree$Parser" "scan" "LClashFree$Scanner;", .fieldLink RX6 115 "ClashFree$Scanner" "number" "I", .fieldLink RX6 140 "ClashFree$Parser" "rounds" "I", .fieldLink RX6 39 "ClashFree$Parser" "state" "I", .fieldLink RX6 79 "ClashFree$Scanner" "at" "I", .methodLink RX6 55 yX6_note, .instanceMethod yX6_note, .selects RX6 yX6_note yX6_note, .initialized RX6, .methodLink RX6 112 yX6_refuse, .instanceMethod yX6_refuse, .selects RX6 yX6_refuse yX6_refuse]
def wp_k_aRounds : List Cond := .code yX6_acceptRounds cX6_acceptRounds 2 none :: (own_k_aRounds ++ (wp_k_note ++ (wp_k_refuse ++ (wsX60 ++ (wsX80 ++ ([] : List Cond))))))
set_option maxRecDepth 20000 in
theorem inown_k_aRounds : ∀ w ∈ own_k_aRounds, w ∈ lw_tbl := mem_places [335, 310, 340, 336, 305, 915, 917, 4, 111, 1043, 1045, 15] (by decide +kernel)
set_option maxRecDepth 20000 in
theorem in_k_aRounds : ∀ w ∈ wp_k_aRounds, w ∈ lw_tbl := List.forall_mem_cons.mpr ⟨List.mem_of_getElem? (i := 1081) (by decide +kernel), List.forall_mem_append.mpr ⟨inown_k_aRounds, List.forall_mem_append.mpr ⟨in_k_note, List.forall_mem_append.mpr ⟨in_k_refuse, List.forall_mem_append.mpr ⟨lwb_X6, List.forall_mem_append.mpr ⟨lwb_X8, fun _ h => absurd h List.not_mem_nil⟩⟩⟩⟩⟩⟩
set_option maxRecDepth 20000 in
theorem good_k_aRounds : wp_k_aRounds.all goodWord = true := by decide +kernel
set_option maxRecDepth 20000 in
theorem g_k_aRounds_k_note_55 : GoodIn wp_k_aRounds (wsV RX6 55 RX6 yX6_note wp_k_note) := goodIn_sub (List.forall_mem_append.mpr ⟨List.forall_mem_cons.mpr ⟨(List.mem_of_getElem? (i := 6) rfl), List.forall_mem_cons.mpr ⟨(List.mem_of_getElem? (i := 7) rfl), List.forall_mem_cons.mpr ⟨(List.mem_of_getElem? (i := 8) rfl), List.forall_mem_cons.mpr ⟨(List.mem_of_getElem? (i := 9) rfl), fun _ h => absurd h List.not_mem_nil⟩⟩⟩⟩, (fun _ h => (List.mem_cons_of_mem _ (List.mem_append_right _ (List.mem_append_left _ h))))⟩) (by decide +kernel)
set_option maxRecDepth 20000 in
theorem g_k_aRounds_k_refuse_112 : GoodIn wp_k_aRounds (wsV RX6 112 RX6 yX6_refuse wp_k_refuse) := goodIn_sub (List.forall_mem_append.mpr ⟨List.forall_mem_cons.mpr ⟨(List.mem_of_getElem? (i := 10) rfl), List.forall_mem_cons.mpr ⟨(List.mem_of_getElem? (i := 11) rfl), List.forall_mem_cons.mpr ⟨(List.mem_of_getElem? (i := 12) rfl), List.forall_mem_cons.mpr ⟨(List.mem_of_getElem? (i := 9) rfl), fun _ h => absurd h List.not_mem_nil⟩⟩⟩⟩, (fun _ h => (List.mem_cons_of_mem _ (List.mem_append_right _ (List.mem_append_right _ (List.mem_append_left _ h)))))⟩) (by decide +kernel)
set_option maxHeartbeats 4000000 in
set_option maxRecDepth 100000 in
theorem k_aRounds (l : Launch) (D : va_G) (sz : Nat) (oq : Nat → Nat) (cI : ClassId) (qf : Int32) (qp : Int32) (qd : Int32) (qs : Int32) (qt : Int32) (qb : Int32) (qh : Int32) (qr : Int32) (qn : Int32) (bk : Nat) (wz : Nat) (fO : Nat → Int32) (fW : Nat → Int32) (pz : Nat) (fK : Nat → Int32) (fN : Nat → Int32) (fL : Nat → Int32) (tx : Value) (zl : Int32) (ta : Int32) (be : Int32) (ki : Int32) (nu : Int32) (wo : Int32) (z1 : Int32) (hbk : bk ≤ 5) (hwz : wz ≤ 600) (hpz : pz ≤ 600) : Met l yX6_acceptRounds wp_k_aRounds ({ frames := 2, cells := 0, slots := 0, locals := 42 }) (PcWC D [.ref (oq 0), .int z1] sz [(oq 0, .inr (6, gPs oq qf qp qd qs qt qb qh qr qn (nI bk) (nI wz))), (oq 6, .inl (cI, 5, .inl fO)), (oq 7, .inl (cI, 600, .inl fW)), (oq 1, .inr (7, [.int (nI pz), .ref (oq 2), .ref (oq 3), .ref (oq 4)])), (oq 2, .inl (cI, 600, .inl fK)), (oq 3, .inl (cI, 600, .inl fN)), (oq 4, .inl (cI, 600, .inl fL)), (oq 5, .inr (8, [tx, .int zl, .int ta, .int be, .int ki, .int nu, .int wo]))] [(cI, .int)]) (va_Qv (fun (u : (Int32) × (Int32) × (Int32) × (Int32) × (Int32) × (Int32) × (Int32) × (Int32) × (Int32) × (Nat) × (Nat) × (Nat → Int32) × (Nat → Int32) × (Nat) × (Nat → Int32) × (Nat → Int32) × (Nat → Int32)) => u.2.2.2.2.2.2.2.2.2.1 ≤ 5 ∧ u.2.2.2.2.2.2.2.2.2.2.1 ≤ 600 ∧ u.2.2.2.2.2.2.2.2.2.2.2.2.2.1 ≤ 600) (fun (u : (Int32) × (Int32) × (Int32) × (Int32) × (Int32) × (Int32) × (Int32) × (Int32) × (Int32) × (Nat) × (Nat) × (Nat → Int32) × (Nat → Int32) × (Nat) × (Nat → Int32) × (Nat → Int32) × (Nat → Int32)) t => va_P D vwCl [(oq 0, .inr (6, gPs oq u.1 u.2.1 u.2.2.1 u.2.2.2.1 u.2.2.2.2.1 u.2.2.2.2.2.1 u.2.2.2.2.2.2.1 u.2.2.2.2.2.2.2.1 u.2.2.2.2.2.2.2.2.1 (nI u.2.2.2.2.2.2.2.2.2.1) (nI u.2.2.2.2.2.2.2.2.2.2.1))), (oq 6, .inl (cI, 5, .inl u.2.2.2.2.2.2.2.2.2.2.2.1)), (oq 7, .inl (cI, 600, .inl u.2.2.2.2.2.2.2.2.2.2.2.2.1)), (oq 1, .inr (7, [.int (nI u.2.2.2.2.2.2.2.2.2.2.2.2.2.1), .ref (oq 2), .ref (oq 3), .ref (oq 4)])), (oq 2, .inl (cI, 600, .inl u.2.2.2.2.2.2.2.2.2.2.2.2.2.2.1)), (oq 3, .inl (cI, 600, .inl u.2.2.2.2.2.2.2.2.2.2.2.2.2.2.2.1)), (oq 4, .inl (cI, 600, .inl u.2.2.2.2.2.2.2.2.2.2.2.2.2.2.2.2)), (oq 5, .inr (8, [tx, .int zl, .int ta, .int be, .int ki, .int nu, .int wo]))] t.heap ∧ va_K D vwCl [(cI, .int)] t ∧ va_D (va_A [(oq 0, .inr (6, gPs oq qf qp qd qs qt qb qh qr qn (nI bk) (nI wz))), (oq 6, .inl (cI, 5, .inl fO)), (oq 7, .inl (cI, 600, .inl fW)), (oq 1, .inr (7, [.int (nI pz), .ref (oq 2), .ref (oq 3), .ref (oq 4)])), (oq 2, .inl (cI, 600, .inl fK)), (oq 3, .inl (cI, 600, .inl fN)), (oq 4, .inl (cI, 600, .inl fL)), (oq 5, .inr (8, [tx, .int zl, .int ta, .int be, .int ki, .int nu, .int wo]))] sz) [(oq 0, .inr (6, gPs oq u.1 u.2.1 u.2.2.1 u.2.2.2.1 u.2.2.2.2.1 u.2.2.2.2.2.1 u.2.2.2.2.2.2.1 u.2.2.2.2.2.2.2.1 u.2.2.2.2.2.2.2.2.1 (nI u.2.2.2.2.2.2.2.2.2.1) (nI u.2.2.2.2.2.2.2.2.2.2.1))), (oq 6, .inl (cI, 5, .inl u.2.2.2.2.2.2.2.2.2.2.2.1)), (oq 7, .inl (cI, 600, .inl u.2.2.2.2.2.2.2.2.2.2.2.2.1)), (oq 1, .inr (7, [.int (nI u.2.2.2.2.2.2.2.2.2.2.2.2.2.1), .ref (oq 2), .ref (oq 3), .ref (oq 4)])), (oq 2, .inl (cI, 600, .inl u.2.2.2.2.2.2.2.2.2.2.2.2.2.2.1)), (oq 3, .inl (cI, 600, .inl u.2.2.2.2.2.2.2.2.2.2.2.2.2.2.2.1)), (oq 4, .inl (cI, 600, .inl u.2.2.2.2.2.2.2.2.2.2.2.2.2.2.2.2)), (oq 5, .inr (8, [tx, .int zl, .int ta, .int be, .int ki, .int nu, .int wo]))]) (va_A [(oq 0, .inr (6, gPs oq qf qp qd qs qt qb qh qr qn (nI bk) (nI wz))), (oq 6, .inl (cI, 5, .inl fO)), (oq 7, .inl (cI, 600, .inl fW)), (oq 1, .inr (7, [.int (nI pz), .ref (oq 2), .ref (oq 3), .ref (oq 4)])), (oq 2, .inl (cI, 600, .inl fK)), (oq 3, .inl (cI, 600, .inl fN)), (oq 4, .inl (cI, 600, .inl fL)), (oq 5, .inr (8, [tx, .int zl, .int ta, .int be, .int ki, .int nu, .int wo]))] sz)) 0 0 (va_A [(oq 0, .inr (6, gPs oq qf qp qd qs qt qb qh qr qn (nI bk) (nI wz))), (oq 6, .inl (cI, 5, .inl fO)), (oq 7, .inl (cI, 600, .inl fW)), (oq 1, .inr (7, [.int (nI pz), .ref (oq 2), .ref (oq 3), .ref (oq 4)])), (oq 2, .inl (cI, 600, .inl fK)), (oq 3, .inl (cI, 600, .inl fN)), (oq 4, .inl (cI, 600, .inl fL)), (oq 5, .inr (8, [tx, .int zl, .int ta, .int be, .int ki, .int nu, .int wo]))] sz) := by
  refine Met.ofW (cc := cX6_acceptRounds) (maxL := 2) (ret := none) (by decide) rfl ?_
  intro p e s m args below meth c s₁ B hml hv
  obtain ⟨rfl, hsz, hP, hK, hD0, hN⟩ := hv
  have hx := B.exec
  have hb := B.bytes
  have hr := B.returns
  have hts := atoms_spec (ws := wp_k_aRounds) B.pre
  have hin_X6 : ∀ w ∈ wsX60, w ∈ wp_k_aRounds := fun _ h => (List.mem_cons_of_mem _ (List.mem_append_right _ (List.mem_append_right _ (List.mem_append_right _ (List.mem_append_left _ h)))))
  have hin_X8 : ∀ w ∈ wsX80, w ∈ wp_k_aRounds := fun _ h => (List.mem_cons_of_mem _ (List.mem_append_right _ (List.mem_append_right _ (List.mem_append_right _ (List.mem_append_right _ (List.mem_append_left _ h))))))
  have hown : s.vm.findClass RX6 = some m.cls := findClass_of_methodNamed B.named
  have hlocks := B.notSynchronized
  subst hsz
  have hD := hD0.self (sz := s.heap.size)
  generalize hAe : va_A [(oq 0, .inr (6, gPs oq qf qp qd qs qt qb qh qr qn (nI bk) (nI wz))), (oq 6, .inl (cI, 5, .inl fO)), (oq 7, .inl (cI, 600, .inl fW)), (oq 1, .inr (7, [.int (nI pz), .ref (oq 2), .ref (oq 3), .ref (oq 4)])), (oq 2, .inl (cI, 600, .inl fK)), (oq 3, .inl (cI, 600, .inl fN)), (oq 4, .inl (cI, 600, .inl fL)), (oq 5, .inr (8, [tx, .int zl, .int ta, .int be, .int ki, .int nu, .int wo]))] s.heap.size = A at hD ⊢
  have hA : ∀ q : Nat, s.heap.size ≤ q → A q := fun q h => by rw [← hAe]; exact Or.inr h
  have hS : va_S A s.heap s.heap [] := va_S.rf
  have hP : va_P D vwCl [(oq 0, .inr (6, gPs oq qf qp qd qs qt qb qh qr qn (nI bk) (nI wz))), (oq 6, .inl (cI, 5, .inl fO)), (oq 7, .inl (cI, 600, .inl fW)), (oq 1, .inr (7, [.int (nI pz), .ref (oq 2), .ref (oq 3), .ref (oq 4)])), (oq 2, .inl (cI, 600, .inl fK)), (oq 3, .inl (cI, 600, .inl fN)), (oq 4, .inl (cI, 600, .inl fL)), (oq 5, .inr (8, [tx, .int zl, .int ta, .int be, .int ki, .int nu, .int wo]))] s.heap := hP
  have hl := lv_entry ([.ref (oq 0), .int z1]) (n := 2) (Nat.le_of_ble_eq_true rfl)
  rw [lg_entry_eq]
  generalize (lg_sl ([.ref (oq 0), .int z1]) ++ List.replicate (2 - (lg_sl ([.ref (oq 0), .int z1])).length) Slot.unset).toArray = ls at hl ⊢
  have hl : lv_has ls 2 [(0, .ref (oq 0)), (1, .int z1)] := hl
  refine lv_iload_n hx hb dX6_acceptRounds_0 rfl (lv_at hl 1 rfl) ?_
  refine lv_iconst (v := 2) hx hb dX6_acceptRounds_1 (by decide) ?_
  refine lv_icmp_eq (tgt := 10) hx hb dX6_acceptRounds_2 (by decide) (fun hc1 => ?_) (fun hc1 => ?_)
  ·
    refine lv_aload_n hx hb dX6_acceptRounds_10 rfl (lv_at hl 0 rfl) ?_
    refine lv_aload_n hx hb dX6_acceptRounds_11 rfl (lv_at hl 0 rfl) ?_
    refine va_get (D := D) (ci := 6) (v := .ref (oq 5)) (C := RX6) (T := TX6) (N := 15) hx hb hts hin_X6 hown hK hP 0 rfl rfl 4 (by decide) (hts (.fieldLink RX6 21 "ClashFree$Parser" "scan" "LClashFree$Scanner;") (List.mem_of_getElem? (i := 1) rfl)) (fun _ h9 => h9) rfl dX6_acceptRounds_12 ?_
    refine va_get (D := D) (ci := 8) (v := .int nu) (C := RX8) (T := TX8) (N := 7) hx hb hts hin_X8 hown hK hP 7 rfl rfl 5 (by decide) (hts (.fieldLink RX6 115 "ClashFree$Scanner" "number" "I") (List.mem_of_getElem? (i := 2) rfl)) (fun _ h9 => h9) rfl dX6_acceptRounds_15 ?_
    refine va_put (D := D) (ci := 6) (v := .int nu) (ty := .int) (C := RX6) (T := TX6) (N := 15) hx hb hts hin_X6 tyX6 tyX6_ok nmX6 hown hK hP hD hS 0 rfl rfl 9 (by decide) (hts (.fieldLink RX6 140 "ClashFree$Parser" "rounds" "I") (List.mem_of_getElem? (i := 3) rfl)) (fun _ h9 => h9) rfl (by decide +kernel) rfl rfl (Nat.le_of_ble_eq_true rfl) dX6_acceptRounds_18 (fun H locs hP hD hS => ?_)
    have hP : va_P D vwCl [(oq 0, .inr (6, gPs oq qf qp qd qs qt qb qh nu qn (nI bk) (nI wz))), (oq 6, .inl (cI, 5, .inl fO)), (oq 7, .inl (cI, 600, .inl fW)), (oq 1, .inr (7, [.int (nI pz), .ref (oq 2), .ref (oq 3), .ref (oq 4)])), (oq 2, .inl (cI, 600, .inl fK)), (oq 3, .inl (cI, 600, .inl fN)), (oq 4, .inl (cI, 600, .inl fL)), (oq 5, .inr (8, [tx, .int zl, .int ta, .int be, .int ki, .int nu, .int wo]))] H := hP
    have hD : va_D A [(oq 0, .inr (6, gPs oq qf qp qd qs qt qb qh nu qn (nI bk) (nI wz))), (oq 6, .inl (cI, 5, .inl fO)), (oq 7, .inl (cI, 600, .inl fW)), (oq 1, .inr (7, [.int (nI pz), .ref (oq 2), .ref (oq 3), .ref (oq 4)])), (oq 2, .inl (cI, 600, .inl fK)), (oq 3, .inl (cI, 600, .inl fN)), (oq 4, .inl (cI, 600, .inl fL)), (oq 5, .inr (8, [tx, .int zl, .int ta, .int be, .int ki, .int nu, .int wo]))] := hD
    refine lv_aload_n hx hb dX6_acceptRounds_21 rfl (lv_at hl 0 rfl) ?_
    refine va_get (D := D) (ci := 6) (v := .int nu) (C := RX6) (T := TX6) (N := 15) hx hb hts hin_X6 hown hK hP 0 rfl rfl 9 (by decide) (hts (.fieldLink RX6 140 "ClashFree$Parser" "rounds" "I") (List.mem_of_getElem? (i := 3) rfl)) (fun _ h9 => h9) rfl dX6_acceptRounds_22 ?_
    refine lv_sipush (v := 200) hx hb dX6_acceptRounds_25 (by decide) ?_
    refine lv_icmp_le (tgt := 43) hx hb dX6_acceptRounds_28 (by decide) (fun hc2 => ?_) (fun hc2 => ?_)
    ·
      refine lv_aload_n hx hb dX6_acceptRounds_43 rfl (lv_at hl 0 rfl) ?_
      refine lv_iconst (v := 4) hx hb dX6_acceptRounds_44 (by decide) ?_
      refine va_put (D := D) (ci := 6) (v := .int 4) (ty := .int) (C := RX6) (T := TX6) (N := 15) hx hb hts hin_X6 tyX6 tyX6_ok nmX6 hown hK hP hD hS 0 rfl rfl 5 (by decide) (hts (.fieldLink RX6 39 "ClashFree$Parser" "state" "I") (List.mem_of_getElem? (i := 4) rfl)) (fun _ h9 => h9) rfl (by decide +kernel) rfl rfl (Nat.le_of_ble_eq_true rfl) dX6_acceptRounds_45 (fun H locs hP hD hS => ?_)
      have hP : va_P D vwCl [(oq 0, .inr (6, gPs oq qf qp qd 4 qt qb qh nu qn (nI bk) (nI wz))), (oq 6, .inl (cI, 5, .inl fO)), (oq 7, .inl (cI, 600, .inl fW)), (oq 1, .inr (7, [.int (nI pz), .ref (oq 2), .ref (oq 3), .ref (oq 4)])), (oq 2, .inl (cI, 600, .inl fK)), (oq 3, .inl (cI, 600, .inl fN)), (oq 4, .inl (cI, 600, .inl fL)), (oq 5, .inr (8, [tx, .int zl, .int ta, .int be, .int ki, .int nu, .int wo]))] H := hP
      have hD : va_D A [(oq 0, .inr (6, gPs oq qf qp qd 4 qt qb qh nu qn (nI bk) (nI wz))), (oq 6, .inl (cI, 5, .inl fO)), (oq 7, .inl (cI, 600, .inl fW)), (oq 1, .inr (7, [.int (nI pz), .ref (oq 2), .ref (oq 3), .ref (oq 4)])), (oq 2, .inl (cI, 600, .inl fK)), (oq 3, .inl (cI, 600, .inl fN)), (oq 4, .inl (cI, 600, .inl fL)), (oq 5, .inr (8, [tx, .int zl, .int ta, .int be, .int ki, .int nu, .int wo]))] := hD
      exact W.vret hx hb hr (fun t ht hW => ⟨⟨(qf, qp, qd, 4, qt, qb, qh, nu, qn, bk, wz, fO, fW, pz, fK, fN, fL), rfl, (by (try dsimp only); first | done | exact ⟨by omega, by omega, by omega⟩), by rw [ht]; exact hP.sub [0, 1, 2, 3, 4, 5, 6, 7] rfl, va_K.moved hW.alike (hK.sub [0] rfl), hD.sub [0, 1, 2, 3, 4, 5, 6, 7] (by decide) rfl⟩, hS.F ht⟩) hS.2.2 dX6_acceptRounds_48
    ·
      refine lv_aload_n hx hb dX6_acceptRounds_31 rfl (lv_at hl 0 rfl) ?_
      refine lv_iconst (v := 2) hx hb dX6_acceptRounds_32 (by decide) ?_
      refine lv_aload_n hx hb dX6_acceptRounds_33 rfl (lv_at hl 0 rfl) ?_
      refine va_get (D := D) (ci := 6) (v := .ref (oq 5)) (C := RX6) (T := TX6) (N := 15) hx hb hts hin_X6 hown hK hP 0 rfl rfl 4 (by decide) (hts (.fieldLink RX6 21 "ClashFree$Parser" "scan" "LClashFree$Scanner;") (List.mem_of_getElem? (i := 1) rfl)) (fun _ h9 => h9) rfl dX6_acceptRounds_34 ?_
      refine va_get (D := D) (ci := 8) (v := .int ta) (C := RX8) (T := TX8) (N := 7) hx hb hts hin_X8 hown hK hP 7 rfl rfl 2 (by decide) (hts (.fieldLink RX6 79 "ClashFree$Scanner" "at" "I") (List.mem_of_getElem? (i := 5) rfl)) (fun _ h9 => h9) rfl dX6_acceptRounds_37 ?_
      have hPc := hP.sub (ws' := [(oq 0, .inr (6, gPs oq qf qp qd qs qt qb qh nu qn (nI bk) (nI wz))), (oq 6, .inl (cI, 5, .inl fO)), (oq 7, .inl (cI, 600, .inl fW)), (oq 1, .inr (7, [.int (nI pz), .ref (oq 2), .ref (oq 3), .ref (oq 4)])), (oq 2, .inl (cI, 600, .inl fK)), (oq 3, .inl (cI, 600, .inl fN)), (oq 4, .inl (cI, 600, .inl fL)), (oq 5, .inr (8, [tx, .int zl, .int ta, .int be, .int ki, .int nu, .int wo]))]) [0, 1, 2, 3, 4, 5, 6, 7] rfl
      have hKc := hK.sub (tys' := [(cI, .int)]) [0] rfl
      have hDc := hD.sub (ws' := [(oq 0, .inr (6, gPs oq qf qp qd qs qt qb qh nu qn (nI bk) (nI wz))), (oq 6, .inl (cI, 5, .inl fO)), (oq 7, .inl (cI, 600, .inl fW)), (oq 1, .inr (7, [.int (nI pz), .ref (oq 2), .ref (oq 3), .ref (oq 4)])), (oq 2, .inl (cI, 600, .inl fK)), (oq 3, .inl (cI, 600, .inl fN)), (oq 4, .inl (cI, 600, .inl fL)), (oq 5, .inr (8, [tx, .int zl, .int ta, .int be, .int ki, .int nu, .int wo]))]) [0, 1, 2, 3, 4, 5, 6, 7] (by decide) rfl
      have hFc := va_free (wc := [(oq 0, .inr (6, gPs oq qf qp qd qs qt qb qh nu qn (nI bk) (nI wz))), (oq 6, .inl (cI, 5, .inl fO)), (oq 7, .inl (cI, 600, .inl fW)), (oq 1, .inr (7, [.int (nI pz), .ref (oq 2), .ref (oq 3), .ref (oq 4)])), (oq 2, .inl (cI, 600, .inl fK)), (oq 3, .inl (cI, 600, .inl fN)), (oq 4, .inl (cI, 600, .inl fL)), (oq 5, .inr (8, [tx, .int zl, .int ta, .int be, .int ki, .int nu, .int wo]))]) hD hS hA [0, 1, 2, 3, 4, 5, 6, 7] rfl
      refine va_callv (va_runV (As := [.int 2, .int ta]) (rest := []) ⟨hx, hb, hml, hown, hts⟩ (k_note l D _ oq cI qf qp qd qs qt qb qh nu qn bk wz fO fW pz fK fN fL tx zl ta be ki nu wo 2 ta hbk hwz hpz) (cwV 2 hts g_k_aRounds_k_note_55 rfl rfl rfl (by decide +kernel) ⟨(Nat.le_of_ble_eq_true rfl), (Nat.le_of_ble_eq_true rfl)⟩) (PcWC_V (q0 := 0) hPc hKc hDc hN rfl rfl) rfl rfl hl.1 rfl (lv_room (Nat.le_of_ble_eq_true rfl)) dX6_acceptRounds_40 ⟨(Nat.le_of_ble_eq_true rfl), (Nat.le_of_ble_eq_true rfl)⟩) hS (fun q _ h => hFc q h) hFc (fun uu tt H locs htt hvm hw hB hz1 hk1 hS => ?_)
      obtain ⟨w4, w5, w6, w7, w8, w9, w10, w11, w12, w13, w14, w15, w16, w17, w18, w19, w20⟩ := uu
      obtain ⟨hP1, hK1, hD1⟩ := hB
      rw [htt] at hP1
      have hK1 := va_K.moved hvm.symm hK1
      have hP1 : va_P D vwCl [(oq 0, .inr (6, gPs oq w4 w5 w6 w7 w8 w9 w10 w11 w12 (nI w13) (nI w14))), (oq 6, .inl (cI, 5, .inl w15)), (oq 7, .inl (cI, 600, .inl w16)), (oq 1, .inr (7, [.int (nI w17), .ref (oq 2), .ref (oq 3), .ref (oq 4)])), (oq 2, .inl (cI, 600, .inl w18)), (oq 3, .inl (cI, 600, .inl w19)), (oq 4, .inl (cI, 600, .inl w20)), (oq 5, .inr (8, [tx, .int zl, .int ta, .int be, .int ki, .int nu, .int wo]))] H := hP1
      obtain ⟨hP, hD⟩ := va_join (wr := []) (w1 := [(oq 0, .inr (6, gPs oq w4 w5 w6 w7 w8 w9 w10 w11 w12 (nI w13) (nI w14))), (oq 6, .inl (cI, 5, .inl w15)), (oq 7, .inl (cI, 600, .inl w16)), (oq 1, .inr (7, [.int (nI w17), .ref (oq 2), .ref (oq 3), .ref (oq 4)])), (oq 2, .inl (cI, 600, .inl w18)), (oq 3, .inl (cI, 600, .inl w19)), (oq 4, .inl (cI, 600, .inl w20)), (oq 5, .inr (8, [tx, .int zl, .int ta, .int be, .int ki, .int nu, .int wo]))]) hP hD [0, 1, 2, 3, 4, 5, 6, 7] [] rfl rfl (by decide) (by decide) hk1 hFc hP1 hD1
      have hP : va_P D vwCl [(oq 0, .inr (6, gPs oq w4 w5 w6 w7 w8 w9 w10 w11 w12 (nI w13) (nI w14))), (oq 6, .inl (cI, 5, .inl w15)), (oq 7, .inl (cI, 600, .inl w16)), (oq 1, .inr (7, [.int (nI w17), .ref (oq 2), .ref (oq 3), .ref (oq 4)])), (oq 2, .inl (cI, 600, .inl w18)), (oq 3, .inl (cI, 600, .inl w19)), (oq 4, .inl (cI, 600, .inl w20)), (oq 5, .inr (8, [tx, .int zl, .int ta, .int be, .int ki, .int nu, .int wo]))] H := hP
      have hD : va_D A [(oq 0, .inr (6, gPs oq w4 w5 w6 w7 w8 w9 w10 w11 w12 (nI w13) (nI w14))), (oq 6, .inl (cI, 5, .inl w15)), (oq 7, .inl (cI, 600, .inl w16)), (oq 1, .inr (7, [.int (nI w17), .ref (oq 2), .ref (oq 3), .ref (oq 4)])), (oq 2, .inl (cI, 600, .inl w18)), (oq 3, .inl (cI, 600, .inl w19)), (oq 4, .inl (cI, 600, .inl w20)), (oq 5, .inr (8, [tx, .int zl, .int ta, .int be, .int ki, .int nu, .int wo]))] := hD
      try dsimp only at hw
      clear hz1 hk1 hFc hPc hKc hDc
      obtain ⟨hx21_1, hx21_2, hx21_3⟩ := hw
      refine lv_aload_n hx hb dX6_acceptRounds_43 rfl (lv_at hl 0 rfl) ?_
      refine lv_iconst (v := 4) hx hb dX6_acceptRounds_44 (by decide) ?_
      refine va_put (D := D) (ci := 6) (v := .int 4) (ty := .int) (C := RX6) (T := TX6) (N := 15) hx hb hts hin_X6 tyX6 tyX6_ok nmX6 hown hK hP hD hS 0 rfl rfl 5 (by decide) (hts (.fieldLink RX6 39 "ClashFree$Parser" "state" "I") (List.mem_of_getElem? (i := 4) rfl)) (fun _ h9 => h9) rfl (by decide +kernel) rfl rfl (Nat.le_of_ble_eq_true rfl) dX6_acceptRounds_45 (fun H locs hP hD hS => ?_)
      have hP : va_P D vwCl [(oq 0, .inr (6, gPs oq w4 w5 w6 4 w8 w9 w10 w11 w12 (nI w13) (nI w14))), (oq 6, .inl (cI, 5, .inl w15)), (oq 7, .inl (cI, 600, .inl w16)), (oq 1, .inr (7, [.int (nI w17), .ref (oq 2), .ref (oq 3), .ref (oq 4)])), (oq 2, .inl (cI, 600, .inl w18)), (oq 3, .inl (cI, 600, .inl w19)), (oq 4, .inl (cI, 600, .inl w20)), (oq 5, .inr (8, [tx, .int zl, .int ta, .int be, .int ki, .int nu, .int wo]))] H := hP
      have hD : va_D A [(oq 0, .inr (6, gPs oq w4 w5 w6 4 w8 w9 w10 w11 w12 (nI w13) (nI w14))), (oq 6, .inl (cI, 5, .inl w15)), (oq 7, .inl (cI, 600, .inl w16)), (oq 1, .inr (7, [.int (nI w17), .ref (oq 2), .ref (oq 3), .ref (oq 4)])), (oq 2, .inl (cI, 600, .inl w18)), (oq 3, .inl (cI, 600, .inl w19)), (oq 4, .inl (cI, 600, .inl w20)), (oq 5, .inr (8, [tx, .int zl, .int ta, .int be, .int ki, .int nu, .int wo]))] := hD
      exact W.vret hx hb hr (fun t ht hW => ⟨⟨(w4, w5, w6, 4, w8, w9, w10, w11, w12, w13, w14, w15, w16, w17, w18, w19, w20), rfl, (by (try dsimp only); first | done | exact ⟨by omega, by omega, by omega⟩), by rw [ht]; exact hP.sub [0, 1, 2, 3, 4, 5, 6, 7] rfl, va_K.moved hW.alike (hK.sub [0] rfl), hD.sub [0, 1, 2, 3, 4, 5, 6, 7] (by decide) rfl⟩, hS.F ht⟩) hS.2.2 dX6_acceptRounds_48
  ·
    refine lv_aload_n hx hb dX6_acceptRounds_5 rfl (lv_at hl 0 rfl) ?_
    have hPc := hP.sub (ws' := [(oq 0, .inr (6, gPs oq qf qp qd qs qt qb qh qr qn (nI bk) (nI wz))), (oq 6, .inl (cI, 5, .inl fO)), (oq 7, .inl (cI, 600, .inl fW)), (oq 1, .inr (7, [.int (nI pz), .ref (oq 2), .ref (oq 3), .ref (oq 4)])), (oq 2, .inl (cI, 600, .inl fK)), (oq 3, .inl (cI, 600, .inl fN)), (oq 4, .inl (cI, 600, .inl fL)), (oq 5, .inr (8, [tx, .int zl, .int ta, .int be, .int ki, .int nu, .int wo]))]) [0, 1, 2, 3, 4, 5, 6, 7] rfl
    have hKc := hK.sub (tys' := [(cI, .int)]) [0] rfl
    have hDc := hD.sub (ws' := [(oq 0, .inr (6, gPs oq qf qp qd qs qt qb qh qr qn (nI bk) (nI wz))), (oq 6, .inl (cI, 5, .inl fO)), (oq 7, .inl (cI, 600, .inl fW)), (oq 1, .inr (7, [.int (nI pz), .ref (oq 2), .ref (oq 3), .ref (oq 4)])), (oq 2, .inl (cI, 600, .inl fK)), (oq 3, .inl (cI, 600, .inl fN)), (oq 4, .inl (cI, 600, .inl fL)), (oq 5, .inr (8, [tx, .int zl, .int ta, .int be, .int ki, .int nu, .int wo]))]) [0, 1, 2, 3, 4, 5, 6, 7] (by decide) rfl
    have hFc := va_free (wc := [(oq 0, .inr (6, gPs oq qf qp qd qs qt qb qh qr qn (nI bk) (nI wz))), (oq 6, .inl (cI, 5, .inl fO)), (oq 7, .inl (cI, 600, .inl fW)), (oq 1, .inr (7, [.int (nI pz), .ref (oq 2), .ref (oq 3), .ref (oq 4)])), (oq 2, .inl (cI, 600, .inl fK)), (oq 3, .inl (cI, 600, .inl fN)), (oq 4, .inl (cI, 600, .inl fL)), (oq 5, .inr (8, [tx, .int zl, .int ta, .int be, .int ki, .int nu, .int wo]))]) hD hS hA [0, 1, 2, 3, 4, 5, 6, 7] rfl
    refine va_callv (va_runV (As := []) (rest := []) ⟨hx, hb, hml, hown, hts⟩ (k_refuse l D _ oq cI qf qp qd qs qt qb qh qr qn bk wz fO fW pz fK fN fL tx zl ta be ki nu wo hbk hwz hpz) (cwV 0 hts g_k_aRounds_k_refuse_112 rfl rfl rfl (by decide +kernel) ⟨(Nat.le_of_ble_eq_true rfl), (Nat.le_of_ble_eq_true rfl)⟩) (PcWC_V (q0 := 0) hPc hKc hDc hN rfl rfl) rfl rfl hl.1 rfl (lv_room (Nat.le_of_ble_eq_true rfl)) dX6_acceptRounds_6 ⟨(Nat.le_of_ble_eq_true rfl), (Nat.le_of_ble_eq_true rfl)⟩) hS (fun q _ h => hFc q h) hFc (fun uu tt H locs htt hvm hw hB hz1 hk1 hS => ?_)
    obtain ⟨w23, w24, w25, w26, w27, w28, w29, w30, w31, w32, w33, w34, w35, w36, w37, w38, w39⟩ := uu
    obtain ⟨hP1, hK1, hD1⟩ := hB
    rw [htt] at hP1
    have hK1 := va_K.moved hvm.symm hK1
    have hP1 : va_P D vwCl [(oq 0, .inr (6, gPs oq w23 w24 w25 w26 w27 w28 w29 w30 w31 (nI w32) (nI w33))), (oq 6, .inl (cI, 5, .inl w34)), (oq 7, .inl (cI, 600, .inl w35)), (oq 1, .inr (7, [.int (nI w36), .ref (oq 2), .ref (oq 3), .ref (oq 4)])), (oq 2, .inl (cI, 600, .inl w37)), (oq 3, .inl (cI, 600, .inl w38)), (oq 4, .inl (cI, 600, .inl w39)), (oq 5, .inr (8, [tx, .int zl, .int ta, .int be, .int ki, .int nu, .int wo]))] H := hP1
    obtain ⟨hP, hD⟩ := va_join (wr := []) (w1 := [(oq 0, .inr (6, gPs oq w23 w24 w25 w26 w27 w28 w29 w30 w31 (nI w32) (nI w33))), (oq 6, .inl (cI, 5, .inl w34)), (oq 7, .inl (cI, 600, .inl w35)), (oq 1, .inr (7, [.int (nI w36), .ref (oq 2), .ref (oq 3), .ref (oq 4)])), (oq 2, .inl (cI, 600, .inl w37)), (oq 3, .inl (cI, 600, .inl w38)), (oq 4, .inl (cI, 600, .inl w39)), (oq 5, .inr (8, [tx, .int zl, .int ta, .int be, .int ki, .int nu, .int wo]))]) hP hD [0, 1, 2, 3, 4, 5, 6, 7] [] rfl rfl (by decide) (by decide) hk1 hFc hP1 hD1
    have hP : va_P D vwCl [(oq 0, .inr (6, gPs oq w23 w24 w25 w26 w27 w28 w29 w30 w31 (nI w32) (nI w33))), (oq 6, .inl (cI, 5, .inl w34)), (oq 7, .inl (cI, 600, .inl w35)), (oq 1, .inr (7, [.int (nI w36), .ref (oq 2), .ref (oq 3), .ref (oq 4)])), (oq 2, .inl (cI, 600, .inl w37)), (oq 3, .inl (cI, 600, .inl w38)), (oq 4, .inl (cI, 600, .inl w39)), (oq 5, .inr (8, [tx, .int zl, .int ta, .int be, .int ki, .int nu, .int wo]))] H := hP
    have hD : va_D A [(oq 0, .inr (6, gPs oq w23 w24 w25 w26 w27 w28 w29 w30 w31 (nI w32) (nI w33))), (oq 6, .inl (cI, 5, .inl w34)), (oq 7, .inl (cI, 600, .inl w35)), (oq 1, .inr (7, [.int (nI w36), .ref (oq 2), .ref (oq 3), .ref (oq 4)])), (oq 2, .inl (cI, 600, .inl w37)), (oq 3, .inl (cI, 600, .inl w38)), (oq 4, .inl (cI, 600, .inl w39)), (oq 5, .inr (8, [tx, .int zl, .int ta, .int be, .int ki, .int nu, .int wo]))] := hD
    try dsimp only at hw
    clear hz1 hk1 hFc hPc hKc hDc
    obtain ⟨hx40_1, hx40_2, hx40_3⟩ := hw
    exact W.vret hx hb hr (fun t ht hW => ⟨⟨(w23, w24, w25, w26, w27, w28, w29, w30, w31, w32, w33, w34, w35, w36, w37, w38, w39), rfl, (by (try dsimp only); first | done | exact ⟨by omega, by omega, by omega⟩), by rw [ht]; exact hP.sub [0, 1, 2, 3, 4, 5, 6, 7] rfl, va_K.moved hW.alike (hK.sub [0] rfl), hD.sub [0, 1, 2, 3, 4, 5, 6, 7] (by decide) rfl⟩, hS.F ht⟩) hS.2.2 dX6_acceptRounds_9

def own_k_aOpening : List Cond := [.methodLink RX6 112 yX6_refuse, .instanceMethod yX6_refuse, .selects RX6 yX6_refuse yX6_refuse, .initialized RX6, .fieldLink RX6 140 "ClashFree$Parser" "rounds" "I", .methodLink RX6 137 yX6_open, .instanceMethod yX6_open, .selects RX6 yX6_open yX6_open]
def wp_k_aOpening : List Cond := .code yX6_acceptOpening cX6_acceptOpening 2 none :: (own_k_aOpening ++ (wp_k_refuse ++ (wp_k_open ++ (wsX60 ++ ([] : List Cond)))))
set_option maxRecDepth 20000 in
theorem inown_k_aOpening : ∀ w ∈ own_k_aOpening, w ∈ lw_tbl := mem_places [1043, 1045, 15, 111, 340, 1074, 1076, 22] (by decide +kernel)
set_option maxRecDepth 20000 in
theorem in_k_aOpening : ∀ w ∈ wp_k_aOpening, w ∈ lw_tbl := List.forall_mem_cons.mpr ⟨List.mem_of_getElem? (i := 1085) (by decide +kernel), List.forall_mem_append.mpr ⟨inown_k_aOpening, List.forall_mem_append.mpr ⟨in_k_refuse, List.forall_mem_append.mpr ⟨in_k_open, List.forall_mem_append.mpr ⟨lwb_X6, fun _ h => absurd h List.not_mem_nil⟩⟩⟩⟩⟩
set_option maxRecDepth 20000 in
theorem good_k_aOpening : wp_k_aOpening.all goodWord = true := by decide +kernel
set_option maxRecDepth 20000 in
theorem g_k_aOpening_k_refuse_112 : GoodIn wp_k_aOpening (wsV RX6 112 RX6 yX6_refuse wp_k_refuse) := goodIn_sub (List.forall_mem_append.mpr ⟨List.forall_mem_cons.mpr ⟨(List.mem_of_getElem? (i := 1) rfl), List.forall_mem_cons.mpr ⟨(List.mem_of_getElem? (i := 2) rfl), List.forall_mem_cons.mpr ⟨(List.mem_of_getElem? (i := 3) rfl), List.forall_mem_cons.mpr ⟨(List.mem_of_getElem? (i := 4) rfl), fun _ h => absurd h List.not_mem_nil⟩⟩⟩⟩, (fun _ h => (List.mem_cons_of_mem _ (List.mem_append_right _ (List.mem_append_left _ h))))⟩) (by decide +kernel)
set_option maxRecDepth 20000 in
theorem g_k_aOpening_k_open_137 : GoodIn wp_k_aOpening (wsV RX6 137 RX6 yX6_open wp_k_open) := goodIn_sub (List.forall_mem_append.mpr ⟨List.forall_mem_cons.mpr ⟨(List.mem_of_getElem? (i := 6) rfl), List.forall_mem_cons.mpr ⟨(List.mem_of_getElem? (i := 7) rfl), List.forall_mem_cons.mpr ⟨(List.mem_of_getElem? (i := 8) rfl), List.forall_mem_cons.mpr ⟨(List.mem_of_getElem? (i := 4) rfl), fun _ h => absurd h List.not_mem_nil⟩⟩⟩⟩, (fun _ h => (List.mem_cons_of_mem _ (List.mem_append_right _ (List.mem_append_right _ (List.mem_append_left _ h)))))⟩) (by decide +kernel)
set_option maxHeartbeats 4000000 in
set_option maxRecDepth 100000 in
theorem k_aOpening (l : Launch) (D : va_G) (sz : Nat) (oq : Nat → Nat) (cI : ClassId) (qf : Int32) (qp : Int32) (qd : Int32) (qs : Int32) (qt : Int32) (qb : Int32) (qh : Int32) (qr : Int32) (qn : Int32) (bk : Nat) (wz : Nat) (fO : Nat → Int32) (fW : Nat → Int32) (pz : Nat) (fK : Nat → Int32) (fN : Nat → Int32) (fL : Nat → Int32) (tx : Value) (zl : Int32) (ta : Int32) (be : Int32) (ki : Int32) (nu : Int32) (wo : Int32) (z1 : Int32) (hbk : bk ≤ 5) (hwz : wz ≤ 600) (hpz : pz ≤ 600) : Met l yX6_acceptOpening wp_k_aOpening ({ frames := 2, cells := 0, slots := 0, locals := 44 }) (PcWC D [.ref (oq 0), .int z1] sz [(oq 0, .inr (6, gPs oq qf qp qd qs qt qb qh qr qn (nI bk) (nI wz))), (oq 6, .inl (cI, 5, .inl fO)), (oq 7, .inl (cI, 600, .inl fW)), (oq 1, .inr (7, [.int (nI pz), .ref (oq 2), .ref (oq 3), .ref (oq 4)])), (oq 2, .inl (cI, 600, .inl fK)), (oq 3, .inl (cI, 600, .inl fN)), (oq 4, .inl (cI, 600, .inl fL)), (oq 5, .inr (8, [tx, .int zl, .int ta, .int be, .int ki, .int nu, .int wo]))] [(cI, .int)]) (va_Qv (fun (u : (Int32) × (Int32) × (Int32) × (Int32) × (Int32) × (Int32) × (Int32) × (Int32) × (Int32) × (Nat) × (Nat) × (Nat → Int32) × (Nat → Int32) × (Nat) × (Nat → Int32) × (Nat → Int32) × (Nat → Int32)) => u.2.2.2.2.2.2.2.2.2.1 ≤ 5 ∧ u.2.2.2.2.2.2.2.2.2.2.1 ≤ 600 ∧ u.2.2.2.2.2.2.2.2.2.2.2.2.2.1 ≤ 600) (fun (u : (Int32) × (Int32) × (Int32) × (Int32) × (Int32) × (Int32) × (Int32) × (Int32) × (Int32) × (Nat) × (Nat) × (Nat → Int32) × (Nat → Int32) × (Nat) × (Nat → Int32) × (Nat → Int32) × (Nat → Int32)) t => va_P D vwCl [(oq 0, .inr (6, gPs oq u.1 u.2.1 u.2.2.1 u.2.2.2.1 u.2.2.2.2.1 u.2.2.2.2.2.1 u.2.2.2.2.2.2.1 u.2.2.2.2.2.2.2.1 u.2.2.2.2.2.2.2.2.1 (nI u.2.2.2.2.2.2.2.2.2.1) (nI u.2.2.2.2.2.2.2.2.2.2.1))), (oq 6, .inl (cI, 5, .inl u.2.2.2.2.2.2.2.2.2.2.2.1)), (oq 7, .inl (cI, 600, .inl u.2.2.2.2.2.2.2.2.2.2.2.2.1)), (oq 1, .inr (7, [.int (nI u.2.2.2.2.2.2.2.2.2.2.2.2.2.1), .ref (oq 2), .ref (oq 3), .ref (oq 4)])), (oq 2, .inl (cI, 600, .inl u.2.2.2.2.2.2.2.2.2.2.2.2.2.2.1)), (oq 3, .inl (cI, 600, .inl u.2.2.2.2.2.2.2.2.2.2.2.2.2.2.2.1)), (oq 4, .inl (cI, 600, .inl u.2.2.2.2.2.2.2.2.2.2.2.2.2.2.2.2)), (oq 5, .inr (8, [tx, .int zl, .int ta, .int be, .int ki, .int nu, .int wo]))] t.heap ∧ va_K D vwCl [(cI, .int)] t ∧ va_D (va_A [(oq 0, .inr (6, gPs oq qf qp qd qs qt qb qh qr qn (nI bk) (nI wz))), (oq 6, .inl (cI, 5, .inl fO)), (oq 7, .inl (cI, 600, .inl fW)), (oq 1, .inr (7, [.int (nI pz), .ref (oq 2), .ref (oq 3), .ref (oq 4)])), (oq 2, .inl (cI, 600, .inl fK)), (oq 3, .inl (cI, 600, .inl fN)), (oq 4, .inl (cI, 600, .inl fL)), (oq 5, .inr (8, [tx, .int zl, .int ta, .int be, .int ki, .int nu, .int wo]))] sz) [(oq 0, .inr (6, gPs oq u.1 u.2.1 u.2.2.1 u.2.2.2.1 u.2.2.2.2.1 u.2.2.2.2.2.1 u.2.2.2.2.2.2.1 u.2.2.2.2.2.2.2.1 u.2.2.2.2.2.2.2.2.1 (nI u.2.2.2.2.2.2.2.2.2.1) (nI u.2.2.2.2.2.2.2.2.2.2.1))), (oq 6, .inl (cI, 5, .inl u.2.2.2.2.2.2.2.2.2.2.2.1)), (oq 7, .inl (cI, 600, .inl u.2.2.2.2.2.2.2.2.2.2.2.2.1)), (oq 1, .inr (7, [.int (nI u.2.2.2.2.2.2.2.2.2.2.2.2.2.1), .ref (oq 2), .ref (oq 3), .ref (oq 4)])), (oq 2, .inl (cI, 600, .inl u.2.2.2.2.2.2.2.2.2.2.2.2.2.2.1)), (oq 3, .inl (cI, 600, .inl u.2.2.2.2.2.2.2.2.2.2.2.2.2.2.2.1)), (oq 4, .inl (cI, 600, .inl u.2.2.2.2.2.2.2.2.2.2.2.2.2.2.2.2)), (oq 5, .inr (8, [tx, .int zl, .int ta, .int be, .int ki, .int nu, .int wo]))]) (va_A [(oq 0, .inr (6, gPs oq qf qp qd qs qt qb qh qr qn (nI bk) (nI wz))), (oq 6, .inl (cI, 5, .inl fO)), (oq 7, .inl (cI, 600, .inl fW)), (oq 1, .inr (7, [.int (nI pz), .ref (oq 2), .ref (oq 3), .ref (oq 4)])), (oq 2, .inl (cI, 600, .inl fK)), (oq 3, .inl (cI, 600, .inl fN)), (oq 4, .inl (cI, 600, .inl fL)), (oq 5, .inr (8, [tx, .int zl, .int ta, .int be, .int ki, .int nu, .int wo]))] sz)) 0 0 (va_A [(oq 0, .inr (6, gPs oq qf qp qd qs qt qb qh qr qn (nI bk) (nI wz))), (oq 6, .inl (cI, 5, .inl fO)), (oq 7, .inl (cI, 600, .inl fW)), (oq 1, .inr (7, [.int (nI pz), .ref (oq 2), .ref (oq 3), .ref (oq 4)])), (oq 2, .inl (cI, 600, .inl fK)), (oq 3, .inl (cI, 600, .inl fN)), (oq 4, .inl (cI, 600, .inl fL)), (oq 5, .inr (8, [tx, .int zl, .int ta, .int be, .int ki, .int nu, .int wo]))] sz) := by
  refine Met.ofW (cc := cX6_acceptOpening) (maxL := 2) (ret := none) (by decide) rfl ?_
  intro p e s m args below meth c s₁ B hml hv
  obtain ⟨rfl, hsz, hP, hK, hD0, hN⟩ := hv
  have hx := B.exec
  have hb := B.bytes
  have hr := B.returns
  have hts := atoms_spec (ws := wp_k_aOpening) B.pre
  have hin_X6 : ∀ w ∈ wsX60, w ∈ wp_k_aOpening := fun _ h => (List.mem_cons_of_mem _ (List.mem_append_right _ (List.mem_append_right _ (List.mem_append_right _ (List.mem_append_left _ h)))))
  have hown : s.vm.findClass RX6 = some m.cls := findClass_of_methodNamed B.named
  have hlocks := B.notSynchronized
  subst hsz
  have hD := hD0.self (sz := s.heap.size)
  generalize hAe : va_A [(oq 0, .inr (6, gPs oq qf qp qd qs qt qb qh qr qn (nI bk) (nI wz))), (oq 6, .inl (cI, 5, .inl fO)), (oq 7, .inl (cI, 600, .inl fW)), (oq 1, .inr (7, [.int (nI pz), .ref (oq 2), .ref (oq 3), .ref (oq 4)])), (oq 2, .inl (cI, 600, .inl fK)), (oq 3, .inl (cI, 600, .inl fN)), (oq 4, .inl (cI, 600, .inl fL)), (oq 5, .inr (8, [tx, .int zl, .int ta, .int be, .int ki, .int nu, .int wo]))] s.heap.size = A at hD ⊢
  have hA : ∀ q : Nat, s.heap.size ≤ q → A q := fun q h => by rw [← hAe]; exact Or.inr h
  have hS : va_S A s.heap s.heap [] := va_S.rf
  have hP : va_P D vwCl [(oq 0, .inr (6, gPs oq qf qp qd qs qt qb qh qr qn (nI bk) (nI wz))), (oq 6, .inl (cI, 5, .inl fO)), (oq 7, .inl (cI, 600, .inl fW)), (oq 1, .inr (7, [.int (nI pz), .ref (oq 2), .ref (oq 3), .ref (oq 4)])), (oq 2, .inl (cI, 600, .inl fK)), (oq 3, .inl (cI, 600, .inl fN)), (oq 4, .inl (cI, 600, .inl fL)), (oq 5, .inr (8, [tx, .int zl, .int ta, .int be, .int ki, .int nu, .int wo]))] s.heap := hP
  have hl := lv_entry ([.ref (oq 0), .int z1]) (n := 2) (Nat.le_of_ble_eq_true rfl)
  rw [lg_entry_eq]
  generalize (lg_sl ([.ref (oq 0), .int z1]) ++ List.replicate (2 - (lg_sl ([.ref (oq 0), .int z1])).length) Slot.unset).toArray = ls at hl ⊢
  have hl : lv_has ls 2 [(0, .ref (oq 0)), (1, .int z1)] := hl
  refine lv_iload_n hx hb dX6_acceptOpening_0 rfl (lv_at hl 1 rfl) ?_
  refine lv_bipush (v := 91) hx hb dX6_acceptOpening_1 (by decide) ?_
  refine lv_icmp_ne (tgt := 19) hx hb dX6_acceptOpening_3 (by decide) (fun hc1 => ?_) (fun hc1 => ?_)
  ·
    refine lv_aload_n hx hb dX6_acceptOpening_19 rfl (lv_at hl 0 rfl) ?_
    have hPc := hP.sub (ws' := [(oq 0, .inr (6, gPs oq qf qp qd qs qt qb qh qr qn (nI bk) (nI wz))), (oq 6, .inl (cI, 5, .inl fO)), (oq 7, .inl (cI, 600, .inl fW)), (oq 1, .inr (7, [.int (nI pz), .ref (oq 2), .ref (oq 3), .ref (oq 4)])), (oq 2, .inl (cI, 600, .inl fK)), (oq 3, .inl (cI, 600, .inl fN)), (oq 4, .inl (cI, 600, .inl fL)), (oq 5, .inr (8, [tx, .int zl, .int ta, .int be, .int ki, .int nu, .int wo]))]) [0, 1, 2, 3, 4, 5, 6, 7] rfl
    have hKc := hK.sub (tys' := [(cI, .int)]) [0] rfl
    have hDc := hD.sub (ws' := [(oq 0, .inr (6, gPs oq qf qp qd qs qt qb qh qr qn (nI bk) (nI wz))), (oq 6, .inl (cI, 5, .inl fO)), (oq 7, .inl (cI, 600, .inl fW)), (oq 1, .inr (7, [.int (nI pz), .ref (oq 2), .ref (oq 3), .ref (oq 4)])), (oq 2, .inl (cI, 600, .inl fK)), (oq 3, .inl (cI, 600, .inl fN)), (oq 4, .inl (cI, 600, .inl fL)), (oq 5, .inr (8, [tx, .int zl, .int ta, .int be, .int ki, .int nu, .int wo]))]) [0, 1, 2, 3, 4, 5, 6, 7] (by decide) rfl
    have hFc := va_free (wc := [(oq 0, .inr (6, gPs oq qf qp qd qs qt qb qh qr qn (nI bk) (nI wz))), (oq 6, .inl (cI, 5, .inl fO)), (oq 7, .inl (cI, 600, .inl fW)), (oq 1, .inr (7, [.int (nI pz), .ref (oq 2), .ref (oq 3), .ref (oq 4)])), (oq 2, .inl (cI, 600, .inl fK)), (oq 3, .inl (cI, 600, .inl fN)), (oq 4, .inl (cI, 600, .inl fL)), (oq 5, .inr (8, [tx, .int zl, .int ta, .int be, .int ki, .int nu, .int wo]))]) hD hS hA [0, 1, 2, 3, 4, 5, 6, 7] rfl
    refine va_callv (va_runV (As := []) (rest := []) ⟨hx, hb, hml, hown, hts⟩ (k_refuse l D _ oq cI qf qp qd qs qt qb qh qr qn bk wz fO fW pz fK fN fL tx zl ta be ki nu wo hbk hwz hpz) (cwV 0 hts g_k_aOpening_k_refuse_112 rfl rfl rfl (by decide +kernel) ⟨(Nat.le_of_ble_eq_true rfl), (Nat.le_of_ble_eq_true rfl)⟩) (PcWC_V (q0 := 0) hPc hKc hDc hN rfl rfl) rfl rfl hl.1 rfl (lv_room (Nat.le_of_ble_eq_true rfl)) dX6_acceptOpening_20 ⟨(Nat.le_of_ble_eq_true rfl), (Nat.le_of_ble_eq_true rfl)⟩) hS (fun q _ h => hFc q h) hFc (fun uu tt H locs htt hvm hw hB hz1 hk1 hS => ?_)
    obtain ⟨w3, w4, w5, w6, w7, w8, w9, w10, w11, w12, w13, w14, w15, w16, w17, w18, w19⟩ := uu
    obtain ⟨hP1, hK1, hD1⟩ := hB
    rw [htt] at hP1
    have hK1 := va_K.moved hvm.symm hK1
    have hP1 : va_P D vwCl [(oq 0, .inr (6, gPs oq w3 w4 w5 w6 w7 w8 w9 w10 w11 (nI w12) (nI w13))), (oq 6, .inl (cI, 5, .inl w14)), (oq 7, .inl (cI, 600, .inl w15)), (oq 1, .inr (7, [.int (nI w16), .ref (oq 2), .ref (oq 3), .ref (oq 4)])), (oq 2, .inl (cI, 600, .inl w17)), (oq 3, .inl (cI, 600, .inl w18)), (oq 4, .inl (cI, 600, .inl w19)), (oq 5, .inr (8, [tx, .int zl, .int ta, .int be, .int ki, .int nu, .int wo]))] H := hP1
    obtain ⟨hP, hD⟩ := va_join (wr := []) (w1 := [(oq 0, .inr (6, gPs oq w3 w4 w5 w6 w7 w8 w9 w10 w11 (nI w12) (nI w13))), (oq 6, .inl (cI, 5, .inl w14)), (oq 7, .inl (cI, 600, .inl w15)), (oq 1, .inr (7, [.int (nI w16), .ref (oq 2), .ref (oq 3), .ref (oq 4)])), (oq 2, .inl (cI, 600, .inl w17)), (oq 3, .inl (cI, 600, .inl w18)), (oq 4, .inl (cI, 600, .inl w19)), (oq 5, .inr (8, [tx, .int zl, .int ta, .int be, .int ki, .int nu, .int wo]))]) hP hD [0, 1, 2, 3, 4, 5, 6, 7] [] rfl rfl (by decide) (by decide) hk1 hFc hP1 hD1
    have hP : va_P D vwCl [(oq 0, .inr (6, gPs oq w3 w4 w5 w6 w7 w8 w9 w10 w11 (nI w12) (nI w13))), (oq 6, .inl (cI, 5, .inl w14)), (oq 7, .inl (cI, 600, .inl w15)), (oq 1, .inr (7, [.int (nI w16), .ref (oq 2), .ref (oq 3), .ref (oq 4)])), (oq 2, .inl (cI, 600, .inl w17)), (oq 3, .inl (cI, 600, .inl w18)), (oq 4, .inl (cI, 600, .inl w19)), (oq 5, .inr (8, [tx, .int zl, .int ta, .int be, .int ki, .int nu, .int wo]))] H := hP
    have hD : va_D A [(oq 0, .inr (6, gPs oq w3 w4 w5 w6 w7 w8 w9 w10 w11 (nI w12) (nI w13))), (oq 6, .inl (cI, 5, .inl w14)), (oq 7, .inl (cI, 600, .inl w15)), (oq 1, .inr (7, [.int (nI w16), .ref (oq 2), .ref (oq 3), .ref (oq 4)])), (oq 2, .inl (cI, 600, .inl w17)), (oq 3, .inl (cI, 600, .inl w18)), (oq 4, .inl (cI, 600, .inl w19)), (oq 5, .inr (8, [tx, .int zl, .int ta, .int be, .int ki, .int nu, .int wo]))] := hD
    try dsimp only at hw
    clear hz1 hk1 hFc hPc hKc hDc
    obtain ⟨hx20_1, hx20_2, hx20_3⟩ := hw
    exact W.vret hx hb hr (fun t ht hW => ⟨⟨(w3, w4, w5, w6, w7, w8, w9, w10, w11, w12, w13, w14, w15, w16, w17, w18, w19), rfl, (by (try dsimp only); first | done | exact ⟨by omega, by omega, by omega⟩), by rw [ht]; exact hP.sub [0, 1, 2, 3, 4, 5, 6, 7] rfl, va_K.moved hW.alike (hK.sub [0] rfl), hD.sub [0, 1, 2, 3, 4, 5, 6, 7] (by decide) rfl⟩, hS.F ht⟩) hS.2.2 dX6_acceptOpening_23
  ·
    refine lv_aload_n hx hb dX6_acceptOpening_6 rfl (lv_at hl 0 rfl) ?_
    refine lv_bipush (v := 8) hx hb dX6_acceptOpening_7 (by decide) ?_
    refine lv_aload_n hx hb dX6_acceptOpening_9 rfl (lv_at hl 0 rfl) ?_
    refine va_get (D := D) (ci := 6) (v := .int qr) (C := RX6) (T := TX6) (N := 15) hx hb hts hin_X6 hown hK hP 0 rfl rfl 9 (by decide) (hts (.fieldLink RX6 140 "ClashFree$Parser" "rounds" "I") (List.mem_of_getElem? (i := 5) rfl)) (fun _ h9 => h9) rfl dX6_acceptOpening_10 ?_
    have hPc := hP.sub (ws' := [(oq 0, .inr (6, gPs oq qf qp qd qs qt qb qh qr qn (nI bk) (nI wz))), (oq 6, .inl (cI, 5, .inl fO)), (oq 7, .inl (cI, 600, .inl fW)), (oq 1, .inr (7, [.int (nI pz), .ref (oq 2), .ref (oq 3), .ref (oq 4)])), (oq 2, .inl (cI, 600, .inl fK)), (oq 3, .inl (cI, 600, .inl fN)), (oq 4, .inl (cI, 600, .inl fL)), (oq 5, .inr (8, [tx, .int zl, .int ta, .int be, .int ki, .int nu, .int wo]))]) [0, 1, 2, 3, 4, 5, 6, 7] rfl
    have hKc := hK.sub (tys' := [(cI, .int)]) [0] rfl
    have hDc := hD.sub (ws' := [(oq 0, .inr (6, gPs oq qf qp qd qs qt qb qh qr qn (nI bk) (nI wz))), (oq 6, .inl (cI, 5, .inl fO)), (oq 7, .inl (cI, 600, .inl fW)), (oq 1, .inr (7, [.int (nI pz), .ref (oq 2), .ref (oq 3), .ref (oq 4)])), (oq 2, .inl (cI, 600, .inl fK)), (oq 3, .inl (cI, 600, .inl fN)), (oq 4, .inl (cI, 600, .inl fL)), (oq 5, .inr (8, [tx, .int zl, .int ta, .int be, .int ki, .int nu, .int wo]))]) [0, 1, 2, 3, 4, 5, 6, 7] (by decide) rfl
    have hFc := va_free (wc := [(oq 0, .inr (6, gPs oq qf qp qd qs qt qb qh qr qn (nI bk) (nI wz))), (oq 6, .inl (cI, 5, .inl fO)), (oq 7, .inl (cI, 600, .inl fW)), (oq 1, .inr (7, [.int (nI pz), .ref (oq 2), .ref (oq 3), .ref (oq 4)])), (oq 2, .inl (cI, 600, .inl fK)), (oq 3, .inl (cI, 600, .inl fN)), (oq 4, .inl (cI, 600, .inl fL)), (oq 5, .inr (8, [tx, .int zl, .int ta, .int be, .int ki, .int nu, .int wo]))]) hD hS hA [0, 1, 2, 3, 4, 5, 6, 7] rfl
    refine va_callv (va_runV (As := [.int 8, .int qr]) (rest := []) ⟨hx, hb, hml, hown, hts⟩ (k_open l D _ oq cI qf qp qd qs qt qb qh qr qn bk wz fO fW pz fK fN fL tx zl ta be ki nu wo 8 qr hbk hwz hpz) (cwV 2 hts g_k_aOpening_k_open_137 rfl rfl rfl (by decide +kernel) ⟨(Nat.le_of_ble_eq_true rfl), (Nat.le_of_ble_eq_true rfl)⟩) (PcWC_V (q0 := 0) hPc hKc hDc hN rfl rfl) rfl rfl hl.1 rfl (lv_room (Nat.le_of_ble_eq_true rfl)) dX6_acceptOpening_13 ⟨(Nat.le_of_ble_eq_true rfl), (Nat.le_of_ble_eq_true rfl)⟩) hS (fun q _ h => hFc q h) hFc (fun uu tt H locs htt hvm hw hB hz1 hk1 hS => ?_)
    obtain ⟨w22, w23, w24, w25, w26, w27, w28, w29, w30, w31, w32, w33, w34, w35, w36, w37, w38⟩ := uu
    obtain ⟨hP1, hK1, hD1⟩ := hB
    rw [htt] at hP1
    have hK1 := va_K.moved hvm.symm hK1
    have hP1 : va_P D vwCl [(oq 0, .inr (6, gPs oq w22 w23 w24 w25 w26 w27 w28 w29 w30 (nI w31) (nI w32))), (oq 6, .inl (cI, 5, .inl w33)), (oq 7, .inl (cI, 600, .inl w34)), (oq 1, .inr (7, [.int (nI w35), .ref (oq 2), .ref (oq 3), .ref (oq 4)])), (oq 2, .inl (cI, 600, .inl w36)), (oq 3, .inl (cI, 600, .inl w37)), (oq 4, .inl (cI, 600, .inl w38)), (oq 5, .inr (8, [tx, .int zl, .int ta, .int be, .int ki, .int nu, .int wo]))] H := hP1
    obtain ⟨hP, hD⟩ := va_join (wr := []) (w1 := [(oq 0, .inr (6, gPs oq w22 w23 w24 w25 w26 w27 w28 w29 w30 (nI w31) (nI w32))), (oq 6, .inl (cI, 5, .inl w33)), (oq 7, .inl (cI, 600, .inl w34)), (oq 1, .inr (7, [.int (nI w35), .ref (oq 2), .ref (oq 3), .ref (oq 4)])), (oq 2, .inl (cI, 600, .inl w36)), (oq 3, .inl (cI, 600, .inl w37)), (oq 4, .inl (cI, 600, .inl w38)), (oq 5, .inr (8, [tx, .int zl, .int ta, .int be, .int ki, .int nu, .int wo]))]) hP hD [0, 1, 2, 3, 4, 5, 6, 7] [] rfl rfl (by decide) (by decide) hk1 hFc hP1 hD1
    have hP : va_P D vwCl [(oq 0, .inr (6, gPs oq w22 w23 w24 w25 w26 w27 w28 w29 w30 (nI w31) (nI w32))), (oq 6, .inl (cI, 5, .inl w33)), (oq 7, .inl (cI, 600, .inl w34)), (oq 1, .inr (7, [.int (nI w35), .ref (oq 2), .ref (oq 3), .ref (oq 4)])), (oq 2, .inl (cI, 600, .inl w36)), (oq 3, .inl (cI, 600, .inl w37)), (oq 4, .inl (cI, 600, .inl w38)), (oq 5, .inr (8, [tx, .int zl, .int ta, .int be, .int ki, .int nu, .int wo]))] H := hP
    have hD : va_D A [(oq 0, .inr (6, gPs oq w22 w23 w24 w25 w26 w27 w28 w29 w30 (nI w31) (nI w32))), (oq 6, .inl (cI, 5, .inl w33)), (oq 7, .inl (cI, 600, .inl w34)), (oq 1, .inr (7, [.int (nI w35), .ref (oq 2), .ref (oq 3), .ref (oq 4)])), (oq 2, .inl (cI, 600, .inl w36)), (oq 3, .inl (cI, 600, .inl w37)), (oq 4, .inl (cI, 600, .inl w38)), (oq 5, .inr (8, [tx, .int zl, .int ta, .int be, .int ki, .int nu, .int wo]))] := hD
    try dsimp only at hw
    clear hz1 hk1 hFc hPc hKc hDc
    obtain ⟨hx39_1, hx39_2, hx39_3⟩ := hw
    refine lv_goto (tgt := 23) hx hb dX6_acceptOpening_16 (by decide) ?_
    exact W.vret hx hb hr (fun t ht hW => ⟨⟨(w22, w23, w24, w25, w26, w27, w28, w29, w30, w31, w32, w33, w34, w35, w36, w37, w38), rfl, (by (try dsimp only); first | done | exact ⟨by omega, by omega, by omega⟩), by rw [ht]; exact hP.sub [0, 1, 2, 3, 4, 5, 6, 7] rfl, va_K.moved hW.alike (hK.sub [0] rfl), hD.sub [0, 1, 2, 3, 4, 5, 6, 7] (by decide) rfl⟩, hS.F ht⟩) hS.2.2 dX6_acceptOpening_23

def own_k_aBehindBlock : List Cond := [.methodLink RX6 112 yX6_refuse, .instanceMethod yX6_refuse, .selects RX6 yX6_refuse yX6_refuse, .initialized RX6, .fieldLink RX6 39 "ClashFree$Parser" "state" "I"]
def wp_k_aBehindBlock : List Cond := .code yX6_acceptBehindBlock cX6_acceptBehindBlock 2 none :: (own_k_aBehindBlock ++ (wp_k_refuse ++ (wsX60 ++ ([] : List Cond))))
set_option maxRecDepth 20000 in
theorem inown_k_aBehindBlock : ∀ w ∈ own_k_aBehindBlock, w ∈ lw_tbl := mem_places [1043, 1045, 15, 111, 336] (by decide +kernel)
set_option maxRecDepth 20000 in
theorem in_k_aBehindBlock : ∀ w ∈ wp_k_aBehindBlock, w ∈ lw_tbl := List.forall_mem_cons.mpr ⟨List.mem_of_getElem? (i := 1089) (by decide +kernel), List.forall_mem_append.mpr ⟨inown_k_aBehindBlock, List.forall_mem_append.mpr ⟨in_k_refuse, List.forall_mem_append.mpr ⟨lwb_X6, fun _ h => absurd h List.not_mem_nil⟩⟩⟩⟩
set_option maxRecDepth 20000 in
theorem good_k_aBehindBlock : wp_k_aBehindBlock.all goodWord = true := by decide +kernel
set_option maxRecDepth 20000 in
theorem g_k_aBehindBlock_k_refuse_112 : GoodIn wp_k_aBehindBlock (wsV RX6 112 RX6 yX6_refuse wp_k_refuse) := goodIn_sub (List.forall_mem_append.mpr ⟨List.forall_mem_cons.mpr ⟨(List.mem_of_getElem? (i := 1) rfl), List.forall_mem_cons.mpr ⟨(List.mem_of_getElem? (i := 2) rfl), List.forall_mem_cons.mpr ⟨(List.mem_of_getElem? (i := 3) rfl), List.forall_mem_cons.mpr ⟨(List.mem_of_getElem? (i := 4) rfl), fun _ h => absurd h List.not_mem_nil⟩⟩⟩⟩, (fun _ h => (List.mem_cons_of_mem _ (List.mem_append_right _ (List.mem_append_left _ h))))⟩) (by decide +kernel)
set_option maxHeartbeats 4000000 in
set_option maxRecDepth 100000 in
theorem k_aBehindBlock (l : Launch) (D : va_G) (sz : Nat) (oq : Nat → Nat) (cI : ClassId) (qf : Int32) (qp : Int32) (qd : Int32) (qs : Int32) (qt : Int32) (qb : Int32) (qh : Int32) (qr : Int32) (qn : Int32) (bk : Nat) (wz : Nat) (fO : Nat → Int32) (fW : Nat → Int32) (pz : Nat) (fK : Nat → Int32) (fN : Nat → Int32) (fL : Nat → Int32) (tx : Value) (zl : Int32) (ta : Int32) (be : Int32) (ki : Int32) (nu : Int32) (wo : Int32) (z1 : Int32) (hbk : bk ≤ 5) (hwz : wz ≤ 600) (hpz : pz ≤ 600) : Met l yX6_acceptBehindBlock wp_k_aBehindBlock ({ frames := 2, cells := 0, slots := 0, locals := 42 }) (PcWC D [.ref (oq 0), .int z1] sz [(oq 0, .inr (6, gPs oq qf qp qd qs qt qb qh qr qn (nI bk) (nI wz))), (oq 6, .inl (cI, 5, .inl fO)), (oq 7, .inl (cI, 600, .inl fW)), (oq 1, .inr (7, [.int (nI pz), .ref (oq 2), .ref (oq 3), .ref (oq 4)])), (oq 2, .inl (cI, 600, .inl fK)), (oq 3, .inl (cI, 600, .inl fN)), (oq 4, .inl (cI, 600, .inl fL)), (oq 5, .inr (8, [tx, .int zl, .int ta, .int be, .int ki, .int nu, .int wo]))] [(cI, .int)]) (va_Qv (fun (u : (Int32) × (Int32) × (Int32) × (Int32) × (Int32) × (Int32) × (Int32) × (Int32) × (Int32) × (Nat) × (Nat) × (Nat → Int32) × (Nat → Int32) × (Nat) × (Nat → Int32) × (Nat → Int32) × (Nat → Int32)) => u.2.2.2.2.2.2.2.2.2.1 ≤ 5 ∧ u.2.2.2.2.2.2.2.2.2.2.1 ≤ 600 ∧ u.2.2.2.2.2.2.2.2.2.2.2.2.2.1 ≤ 600) (fun (u : (Int32) × (Int32) × (Int32) × (Int32) × (Int32) × (Int32) × (Int32) × (Int32) × (Int32) × (Nat) × (Nat) × (Nat → Int32) × (Nat → Int32) × (Nat) × (Nat → Int32) × (Nat → Int32) × (Nat → Int32)) t => va_P D vwCl [(oq 0, .inr (6, gPs oq u.1 u.2.1 u.2.2.1 u.2.2.2.1 u.2.2.2.2.1 u.2.2.2.2.2.1 u.2.2.2.2.2.2.1 u.2.2.2.2.2.2.2.1 u.2.2.2.2.2.2.2.2.1 (nI u.2.2.2.2.2.2.2.2.2.1) (nI u.2.2.2.2.2.2.2.2.2.2.1))), (oq 6, .inl (cI, 5, .inl u.2.2.2.2.2.2.2.2.2.2.2.1)), (oq 7, .inl (cI, 600, .inl u.2.2.2.2.2.2.2.2.2.2.2.2.1)), (oq 1, .inr (7, [.int (nI u.2.2.2.2.2.2.2.2.2.2.2.2.2.1), .ref (oq 2), .ref (oq 3), .ref (oq 4)])), (oq 2, .inl (cI, 600, .inl u.2.2.2.2.2.2.2.2.2.2.2.2.2.2.1)), (oq 3, .inl (cI, 600, .inl u.2.2.2.2.2.2.2.2.2.2.2.2.2.2.2.1)), (oq 4, .inl (cI, 600, .inl u.2.2.2.2.2.2.2.2.2.2.2.2.2.2.2.2)), (oq 5, .inr (8, [tx, .int zl, .int ta, .int be, .int ki, .int nu, .int wo]))] t.heap ∧ va_K D vwCl [(cI, .int)] t ∧ va_D (va_A [(oq 0, .inr (6, gPs oq qf qp qd qs qt qb qh qr qn (nI bk) (nI wz))), (oq 6, .inl (cI, 5, .inl fO)), (oq 7, .inl (cI, 600, .inl fW)), (oq 1, .inr (7, [.int (nI pz), .ref (oq 2), .ref (oq 3), .ref (oq 4)])), (oq 2, .inl (cI, 600, .inl fK)), (oq 3, .inl (cI, 600, .inl fN)), (oq 4, .inl (cI, 600, .inl fL)), (oq 5, .inr (8, [tx, .int zl, .int ta, .int be, .int ki, .int nu, .int wo]))] sz) [(oq 0, .inr (6, gPs oq u.1 u.2.1 u.2.2.1 u.2.2.2.1 u.2.2.2.2.1 u.2.2.2.2.2.1 u.2.2.2.2.2.2.1 u.2.2.2.2.2.2.2.1 u.2.2.2.2.2.2.2.2.1 (nI u.2.2.2.2.2.2.2.2.2.1) (nI u.2.2.2.2.2.2.2.2.2.2.1))), (oq 6, .inl (cI, 5, .inl u.2.2.2.2.2.2.2.2.2.2.2.1)), (oq 7, .inl (cI, 600, .inl u.2.2.2.2.2.2.2.2.2.2.2.2.1)), (oq 1, .inr (7, [.int (nI u.2.2.2.2.2.2.2.2.2.2.2.2.2.1), .ref (oq 2), .ref (oq 3), .ref (oq 4)])), (oq 2, .inl (cI, 600, .inl u.2.2.2.2.2.2.2.2.2.2.2.2.2.2.1)), (oq 3, .inl (cI, 600, .inl u.2.2.2.2.2.2.2.2.2.2.2.2.2.2.2.1)), (oq 4, .inl (cI, 600, .inl u.2.2.2.2.2.2.2.2.2.2.2.2.2.2.2.2)), (oq 5, .inr (8, [tx, .int zl, .int ta, .int be, .int ki, .int nu, .int wo]))]) (va_A [(oq 0, .inr (6, gPs oq qf qp qd qs qt qb qh qr qn (nI bk) (nI wz))), (oq 6, .inl (cI, 5, .inl fO)), (oq 7, .inl (cI, 600, .inl fW)), (oq 1, .inr (7, [.int (nI pz), .ref (oq 2), .ref (oq 3), .ref (oq 4)])), (oq 2, .inl (cI, 600, .inl fK)), (oq 3, .inl (cI, 600, .inl fN)), (oq 4, .inl (cI, 600, .inl fL)), (oq 5, .inr (8, [tx, .int zl, .int ta, .int be, .int ki, .int nu, .int wo]))] sz)) 0 0 (va_A [(oq 0, .inr (6, gPs oq qf qp qd qs qt qb qh qr qn (nI bk) (nI wz))), (oq 6, .inl (cI, 5, .inl fO)), (oq 7, .inl (cI, 600, .inl fW)), (oq 1, .inr (7, [.int (nI pz), .ref (oq 2), .ref (oq 3), .ref (oq 4)])), (oq 2, .inl (cI, 600, .inl fK)), (oq 3, .inl (cI, 600, .inl fN)), (oq 4, .inl (cI, 600, .inl fL)), (oq 5, .inr (8, [tx, .int zl, .int ta, .int be, .int ki, .int nu, .int wo]))] sz) := by
  refine Met.ofW (cc := cX6_acceptBehindBlock) (maxL := 2) (ret := none) (by decide) rfl ?_
  intro p e s m args below meth c s₁ B hml hv
  obtain ⟨rfl, hsz, hP, hK, hD0, hN⟩ := hv
  have hx := B.exec
  have hb := B.bytes
  have hr := B.returns
  have hts := atoms_spec (ws := wp_k_aBehindBlock) B.pre
  have hin_X6 : ∀ w ∈ wsX60, w ∈ wp_k_aBehindBlock := fun _ h => (List.mem_cons_of_mem _ (List.mem_append_right _ (List.mem_append_right _ (List.mem_append_left _ h))))
  have hown : s.vm.findClass RX6 = some m.cls := findClass_of_methodNamed B.named
  have hlocks := B.notSynchronized
  subst hsz
  have hD := hD0.self (sz := s.heap.size)
  generalize hAe : va_A [(oq 0, .inr (6, gPs oq qf qp qd qs qt qb qh qr qn (nI bk) (nI wz))), (oq 6, .inl (cI, 5, .inl fO)), (oq 7, .inl (cI, 600, .inl fW)), (oq 1, .inr (7, [.int (nI pz), .ref (oq 2), .ref (oq 3), .ref (oq 4)])), (oq 2, .inl (cI, 600, .inl fK)), (oq 3, .inl (cI, 600, .inl fN)), (oq 4, .inl (cI, 600, .inl fL)), (oq 5, .inr (8, [tx, .int zl, .int ta, .int be, .int ki, .int nu, .int wo]))] s.heap.size = A at hD ⊢
  have hA : ∀ q : Nat, s.heap.size ≤ q → A q := fun q h => by rw [← hAe]; exact Or.inr h
  have hS : va_S A s.heap s.heap [] := va_S.rf
  have hP : va_P D vwCl [(oq 0, .inr (6, gPs oq qf qp qd qs qt qb qh qr qn (nI bk) (nI wz))), (oq 6, .inl (cI, 5, .inl fO)), (oq 7, .inl (cI, 600, .inl fW)), (oq 1, .inr (7, [.int (nI pz), .ref (oq 2), .ref (oq 3), .ref (oq 4)])), (oq 2, .inl (cI, 600, .inl fK)), (oq 3, .inl (cI, 600, .inl fN)), (oq 4, .inl (cI, 600, .inl fL)), (oq 5, .inr (8, [tx, .int zl, .int ta, .int be, .int ki, .int nu, .int wo]))] s.heap := hP
  have hl := lv_entry ([.ref (oq 0), .int z1]) (n := 2) (Nat.le_of_ble_eq_true rfl)
  rw [lg_entry_eq]
  generalize (lg_sl ([.ref (oq 0), .int z1]) ++ List.replicate (2 - (lg_sl ([.ref (oq 0), .int z1])).length) Slot.unset).toArray = ls at hl ⊢
  have hl : lv_has ls 2 [(0, .ref (oq 0)), (1, .int z1)] := hl
  refine lv_iload_n hx hb dX6_acceptBehindBlock_0 rfl (lv_at hl 1 rfl) ?_
  refine lv_bipush (v := 59) hx hb dX6_acceptBehindBlock_1 (by decide) ?_
  refine lv_icmp_ne (tgt := 14) hx hb dX6_acceptBehindBlock_3 (by decide) (fun hc1 => ?_) (fun hc1 => ?_)
  ·
    refine lv_aload_n hx hb dX6_acceptBehindBlock_14 rfl (lv_at hl 0 rfl) ?_
    have hPc := hP.sub (ws' := [(oq 0, .inr (6, gPs oq qf qp qd qs qt qb qh qr qn (nI bk) (nI wz))), (oq 6, .inl (cI, 5, .inl fO)), (oq 7, .inl (cI, 600, .inl fW)), (oq 1, .inr (7, [.int (nI pz), .ref (oq 2), .ref (oq 3), .ref (oq 4)])), (oq 2, .inl (cI, 600, .inl fK)), (oq 3, .inl (cI, 600, .inl fN)), (oq 4, .inl (cI, 600, .inl fL)), (oq 5, .inr (8, [tx, .int zl, .int ta, .int be, .int ki, .int nu, .int wo]))]) [0, 1, 2, 3, 4, 5, 6, 7] rfl
    have hKc := hK.sub (tys' := [(cI, .int)]) [0] rfl
    have hDc := hD.sub (ws' := [(oq 0, .inr (6, gPs oq qf qp qd qs qt qb qh qr qn (nI bk) (nI wz))), (oq 6, .inl (cI, 5, .inl fO)), (oq 7, .inl (cI, 600, .inl fW)), (oq 1, .inr (7, [.int (nI pz), .ref (oq 2), .ref (oq 3), .ref (oq 4)])), (oq 2, .inl (cI, 600, .inl fK)), (oq 3, .inl (cI, 600, .inl fN)), (oq 4, .inl (cI, 600, .inl fL)), (oq 5, .inr (8, [tx, .int zl, .int ta, .int be, .int ki, .int nu, .int wo]))]) [0, 1, 2, 3, 4, 5, 6, 7] (by decide) rfl
    have hFc := va_free (wc := [(oq 0, .inr (6, gPs oq qf qp qd qs qt qb qh qr qn (nI bk) (nI wz))), (oq 6, .inl (cI, 5, .inl fO)), (oq 7, .inl (cI, 600, .inl fW)), (oq 1, .inr (7, [.int (nI pz), .ref (oq 2), .ref (oq 3), .ref (oq 4)])), (oq 2, .inl (cI, 600, .inl fK)), (oq 3, .inl (cI, 600, .inl fN)), (oq 4, .inl (cI, 600, .inl fL)), (oq 5, .inr (8, [tx, .int zl, .int ta, .int be, .int ki, .int nu, .int wo]))]) hD hS hA [0, 1, 2, 3, 4, 5, 6, 7] rfl
    refine va_callv (va_runV (As := []) (rest := []) ⟨hx, hb, hml, hown, hts⟩ (k_refuse l D _ oq cI qf qp qd qs qt qb qh qr qn bk wz fO fW pz fK fN fL tx zl ta be ki nu wo hbk hwz hpz) (cwV 0 hts g_k_aBehindBlock_k_refuse_112 rfl rfl rfl (by decide +kernel) ⟨(Nat.le_of_ble_eq_true rfl), (Nat.le_of_ble_eq_true rfl)⟩) (PcWC_V (q0 := 0) hPc hKc hDc hN rfl rfl) rfl rfl hl.1 rfl (lv_room (Nat.le_of_ble_eq_true rfl)) dX6_acceptBehindBlock_15 ⟨(Nat.le_of_ble_eq_true rfl), (Nat.le_of_ble_eq_true rfl)⟩) hS (fun q _ h => hFc q h) hFc (fun uu tt H locs htt hvm hw hB hz1 hk1 hS => ?_)
    obtain ⟨w3, w4, w5, w6, w7, w8, w9, w10, w11, w12, w13, w14, w15, w16, w17, w18, w19⟩ := uu
    obtain ⟨hP1, hK1, hD1⟩ := hB
    rw [htt] at hP1
    have hK1 := va_K.moved hvm.symm hK1
    have hP1 : va_P D vwCl [(oq 0, .inr (6, gPs oq w3 w4 w5 w6 w7 w8 w9 w10 w11 (nI w12) (nI w13))), (oq 6, .inl (cI, 5, .inl w14)), (oq 7, .inl (cI, 600, .inl w15)), (oq 1, .inr (7, [.int (nI w16), .ref (oq 2), .ref (oq 3), .ref (oq 4)])), (oq 2, .inl (cI, 600, .inl w17)), (oq 3, .inl (cI, 600, .inl w18)), (oq 4, .inl (cI, 600, .inl w19)), (oq 5, .inr (8, [tx, .int zl, .int ta, .int be, .int ki, .int nu, .int wo]))] H := hP1
    obtain ⟨hP, hD⟩ := va_join (wr := []) (w1 := [(oq 0, .inr (6, gPs oq w3 w4 w5 w6 w7 w8 w9 w10 w11 (nI w12) (nI w13))), (oq 6, .inl (cI, 5, .inl w14)), (oq 7, .inl (cI, 600, .inl w15)), (oq 1, .inr (7, [.int (nI w16), .ref (oq 2), .ref (oq 3), .ref (oq 4)])), (oq 2, .inl (cI, 600, .inl w17)), (oq 3, .inl (cI, 600, .inl w18)), (oq 4, .inl (cI, 600, .inl w19)), (oq 5, .inr (8, [tx, .int zl, .int ta, .int be, .int ki, .int nu, .int wo]))]) hP hD [0, 1, 2, 3, 4, 5, 6, 7] [] rfl rfl (by decide) (by decide) hk1 hFc hP1 hD1
    have hP : va_P D vwCl [(oq 0, .inr (6, gPs oq w3 w4 w5 w6 w7 w8 w9 w10 w11 (nI w12) (nI w13))), (oq 6, .inl (cI, 5, .inl w14)), (oq 7, .inl (cI, 600, .inl w15)), (oq 1, .inr (7, [.int (nI w16), .ref (oq 2), .ref (oq 3), .ref (oq 4)])), (oq 2, .inl (cI, 600, .inl w17)), (oq 3, .inl (cI, 600, .inl w18)), (oq 4, .inl (cI, 600, .inl w19)), (oq 5, .inr (8, [tx, .int zl, .int ta, .int be, .int ki, .int nu, .int wo]))] H := hP
    have hD : va_D A [(oq 0, .inr (6, gPs oq w3 w4 w5 w6 w7 w8 w9 w10 w11 (nI w12) (nI w13))), (oq 6, .inl (cI, 5, .inl w14)), (oq 7, .inl (cI, 600, .inl w15)), (oq 1, .inr (7, [.int (nI w16), .ref (oq 2), .ref (oq 3), .ref (oq 4)])), (oq 2, .inl (cI, 600, .inl w17)), (oq 3, .inl (cI, 600, .inl w18)), (oq 4, .inl (cI, 600, .inl w19)), (oq 5, .inr (8, [tx, .int zl, .int ta, .int be, .int ki, .int nu, .int wo]))] := hD
    try dsimp only at hw
    clear hz1 hk1 hFc hPc hKc hDc
    obtain ⟨hx20_1, hx20_2, hx20_3⟩ := hw
    exact W.vret hx hb hr (fun t ht hW => ⟨⟨(w3, w4, w5, w6, w7, w8, w9, w10, w11, w12, w13, w14, w15, w16, w17, w18, w19), rfl, (by (try dsimp only); first | done | exact ⟨by omega, by omega, by omega⟩), by rw [ht]; exact hP.sub [0, 1, 2, 3, 4, 5, 6, 7] rfl, va_K.moved hW.alike (hK.sub [0] rfl), hD.sub [0, 1, 2, 3, 4, 5, 6, 7] (by decide) rfl⟩, hS.F ht⟩) hS.2.2 dX6_acceptBehindBlock_18
  ·
    refine lv_aload_n hx hb dX6_acceptBehindBlock_6 rfl (lv_at hl 0 rfl) ?_
    refine lv_iconst (v := 0) hx hb dX6_acceptBehindBlock_7 (by decide) ?_
    refine va_put (D := D) (ci := 6) (v := .int 0) (ty := .int) (C := RX6) (T := TX6) (N := 15) hx hb hts hin_X6 tyX6 tyX6_ok nmX6 hown hK hP hD hS 0 rfl rfl 5 (by decide) (hts (.fieldLink RX6 39 "ClashFree$Parser" "state" "I") (List.mem_of_getElem? (i := 5) rfl)) (fun _ h9 => h9) rfl (by decide +kernel) rfl rfl (Nat.le_of_ble_eq_true rfl) dX6_acceptBehindBlock_8 (fun H locs hP hD hS => ?_)
    have hP : va_P D vwCl [(oq 0, .inr (6, gPs oq qf qp qd 0 qt qb qh qr qn (nI bk) (nI wz))), (oq 6, .inl (cI, 5, .inl fO)), (oq 7, .inl (cI, 600, .inl fW)), (oq 1, .inr (7, [.int (nI pz), .ref (oq 2), .ref (oq 3), .ref (oq 4)])), (oq 2, .inl (cI, 600, .inl fK)), (oq 3, .inl (cI, 600, .inl fN)), (oq 4, .inl (cI, 600, .inl fL)), (oq 5, .inr (8, [tx, .int zl, .int ta, .int be, .int ki, .int nu, .int wo]))] H := hP
    have hD : va_D A [(oq 0, .inr (6, gPs oq qf qp qd 0 qt qb qh qr qn (nI bk) (nI wz))), (oq 6, .inl (cI, 5, .inl fO)), (oq 7, .inl (cI, 600, .inl fW)), (oq 1, .inr (7, [.int (nI pz), .ref (oq 2), .ref (oq 3), .ref (oq 4)])), (oq 2, .inl (cI, 600, .inl fK)), (oq 3, .inl (cI, 600, .inl fN)), (oq 4, .inl (cI, 600, .inl fL)), (oq 5, .inr (8, [tx, .int zl, .int ta, .int be, .int ki, .int nu, .int wo]))] := hD
    refine lv_goto (tgt := 18) hx hb dX6_acceptBehindBlock_11 (by decide) ?_
    exact W.vret hx hb hr (fun t ht hW => ⟨⟨(qf, qp, qd, 0, qt, qb, qh, qr, qn, bk, wz, fO, fW, pz, fK, fN, fL), rfl, (by (try dsimp only); first | done | exact ⟨by omega, by omega, by omega⟩), by rw [ht]; exact hP.sub [0, 1, 2, 3, 4, 5, 6, 7] rfl, va_K.moved hW.alike (hK.sub [0] rfl), hD.sub [0, 1, 2, 3, 4, 5, 6, 7] (by decide) rfl⟩, hS.F ht⟩) hS.2.2 dX6_acceptBehindBlock_18

def own_k_accept : List Cond := [.fieldLink RX6 39 "ClashFree$Parser" "state" "I", .methodLink RX6 82 yX6_acceptStatement, .instanceMethod yX6_acceptStatement, .selects RX6 yX6_acceptStatement yX6_acceptStatement, .initialized RX6, .methodLink RX6 85 yX6_acceptUnit, .instanceMethod yX6_acceptUnit, .selects RX6 yX6_acceptUnit yX6_acceptUnit, .methodLink RX6 88 yX6_acceptBehindUnit, .instanceMethod yX6_acceptBehindUnit, .selects RX6 yX6_acceptBehindUnit yX6_acceptBehindUnit, .methodLink RX6 91 yX6_acceptRounds, .instanceMethod yX6_acceptRounds, .selects RX6 yX6_acceptRounds yX6_acceptRounds, .methodLink RX6 94 yX6_acceptOpening, .instanceMethod yX6_acceptOpening, .selects RX6 yX6_acceptOpening yX6_acceptOpening, .methodLink RX6 97 yX6_acceptBehindBlock, .instanceMethod yX6_acceptBehindBlock, .selects RX6 yX6_acceptBehindBlock yX6_acceptBehindBlock]
def wp_k_accept : List Cond := .code yX6_accept cX6_accept 2 none :: (own_k_accept ++ (wp_k_aStat ++ (wp_k_aUnit ++ (wp_k_aBehindUnit ++ (wp_k_aRounds ++ (wp_k_aOpening ++ (wp_k_aBehindBlock ++ (wsX60 ++ ([] : List Cond)))))))))
set_option maxRecDepth 20000 in
theorem inown_k_accept : ∀ w ∈ own_k_accept, w ∈ lw_tbl := mem_places [336, 1019, 1021, 12, 111, 1047, 1049, 16, 1055, 1057, 18, 1078, 1080, 23, 1082, 1084, 24, 1086, 1088, 25] (by decide +kernel)
set_option maxRecDepth 20000 in
theorem in_k_accept : ∀ w ∈ wp_k_accept, w ∈ lw_tbl := List.forall_mem_cons.mpr ⟨List.mem_of_getElem? (i := 1018) (by decide +kernel), List.forall_mem_append.mpr ⟨inown_k_accept, List.forall_mem_append.mpr ⟨in_k_aStat, List.forall_mem_append.mpr ⟨in_k_aUnit, List.forall_mem_append.mpr ⟨in_k_aBehindUnit, List.forall_mem_append.mpr ⟨in_k_aRounds, List.forall_mem_append.mpr ⟨in_k_aOpening, List.forall_mem_append.mpr ⟨in_k_aBehindBlock, List.forall_mem_append.mpr ⟨lwb_X6, fun _ h => absurd h List.not_mem_nil⟩⟩⟩⟩⟩⟩⟩⟩⟩
set_option maxRecDepth 20000 in
theorem good_k_accept : wp_k_accept.all goodWord = true := by decide +kernel
set_option maxRecDepth 20000 in
theorem g_k_accept_k_aStat_82 : GoodIn wp_k_accept (wsV RX6 82 RX6 yX6_acceptStatement wp_k_aStat) := goodIn_sub (List.forall_mem_append.mpr ⟨List.forall_mem_cons.mpr ⟨(List.mem_of_getElem? (i := 2) rfl), List.forall_mem_cons.mpr ⟨(List.mem_of_getElem? (i := 3) rfl), List.forall_mem_cons.mpr ⟨(List.mem_of_getElem? (i := 4) rfl), List.forall_mem_cons.mpr ⟨(List.mem_of_getElem? (i := 5) rfl), fun _ h => absurd h List.not_mem_nil⟩⟩⟩⟩, (fun _ h => (List.mem_cons_of_mem _ (List.mem_append_right _ (List.mem_append_left _ h))))⟩) (by decide +kernel)
set_option maxRecDepth 20000 in
theorem g_k_accept_k_aUnit_85 : GoodIn wp_k_accept (wsV RX6 85 RX6 yX6_acceptUnit wp_k_aUnit) := goodIn_sub (List.forall_mem_append.mpr ⟨List.forall_mem_cons.mpr ⟨(List.mem_of_getElem? (i := 6) rfl), List.forall_mem_cons.mpr ⟨(List.mem_of_getElem? (i := 7) rfl), List.forall_mem_cons.mpr ⟨(List.mem_of_getElem? (i := 8) rfl), List.forall_mem_cons.mpr ⟨(List.mem_of_getElem? (i := 5) rfl), fun _ h => absurd h List.not_mem_nil⟩⟩⟩⟩, (fun _ h => (List.mem_cons_of_mem _ (List.mem_append_right _ (List.mem_append_right _ (List.mem_append_left _ h)))))⟩) (by decide +kernel)
set_option maxRecDepth 20000 in
theorem g_k_accept_k_aBehindUnit_88 : GoodIn wp_k_accept (wsV RX6 88 RX6 yX6_acceptBehindUnit wp_k_aBehindUnit) := goodIn_sub (List.forall_mem_append.mpr ⟨List.forall_mem_cons.mpr ⟨(List.mem_of_getElem? (i := 9) rfl), List.forall_mem_cons.mpr ⟨(List.mem_of_getElem? (i := 10) rfl), List.forall_mem_cons.mpr ⟨(List.mem_of_getElem? (i := 11) rfl), List.forall_mem_cons.mpr ⟨(List.mem_of_getElem? (i := 5) rfl), fun _ h => absurd h List.not_mem_nil⟩⟩⟩⟩, (fun _ h => (List.mem_cons_of_mem _ (List.mem_append_right _ (List.mem_append_right _ (List.mem_append_right _ (List.mem_append_left _ h))))))⟩) (by decide +kernel)
set_option maxRecDepth 20000 in
theorem g_k_accept_k_aRounds_91 : GoodIn wp_k_accept (wsV RX6 91 RX6 yX6_acceptRounds wp_k_aRounds) := goodIn_sub (List.forall_mem_append.mpr ⟨List.forall_mem_cons.mpr ⟨(List.mem_of_getElem? (i := 12) rfl), List.forall_mem_cons.mpr ⟨(List.mem_of_getElem? (i := 13) rfl), List.forall_mem_cons.mpr ⟨(List.mem_of_getElem? (i := 14) rfl), List.forall_mem_cons.mpr ⟨(List.mem_of_getElem? (i := 5) rfl), fun _ h => absurd h List.not_mem_nil⟩⟩⟩⟩, (fun _ h => (List.mem_cons_of_mem _ (List.mem_append_right _ (List.mem_append_right _ (List.mem_append_right _ (List.mem_append_right _ (List.mem_append_left _ h)))))))⟩) (by decide +kernel)
set_option maxRecDepth 20000 in
theorem g_k_accept_k_aOpening_94 : GoodIn wp_k_accept (wsV RX6 94 RX6 yX6_acceptOpening wp_k_aOpening) := goodIn_sub (List.forall_mem_append.mpr ⟨List.forall_mem_cons.mpr ⟨(List.mem_of_getElem? (i := 15) rfl), List.forall_mem_cons.mpr ⟨(List.mem_of_getElem? (i := 16) rfl), List.forall_mem_cons.mpr ⟨(List.mem_of_getElem? (i := 17) rfl), List.forall_mem_cons.mpr ⟨(List.mem_of_getElem? (i := 5) rfl), fun _ h => absurd h List.not_mem_nil⟩⟩⟩⟩, (fun _ h => (List.mem_cons_of_mem _ (List.mem_append_right _ (List.mem_append_right _ (List.mem_append_right _ (List.mem_append_right _ (List.mem_append_right _ (List.mem_append_left _ h))))))))⟩) (by decide +kernel)
set_option maxRecDepth 20000 in
theorem g_k_accept_k_aBehindBlock_97 : GoodIn wp_k_accept (wsV RX6 97 RX6 yX6_acceptBehindBlock wp_k_aBehindBlock) := goodIn_sub (List.forall_mem_append.mpr ⟨List.forall_mem_cons.mpr ⟨(List.mem_of_getElem? (i := 18) rfl), List.forall_mem_cons.mpr ⟨(List.mem_of_getElem? (i := 19) rfl), List.forall_mem_cons.mpr ⟨(List.mem_of_getElem? (i := 20) rfl), List.forall_mem_cons.mpr ⟨(List.mem_of_getElem? (i := 5) rfl), fun _ h => absurd h List.not_mem_nil⟩⟩⟩⟩, (fun _ h => (List.mem_cons_of_mem _ (List.mem_append_right _ (List.mem_append_right _ (List.mem_append_right _ (List.mem_append_right _ (List.mem_append_right _ (List.mem_append_right _ (List.mem_append_left _ h)))))))))⟩) (by decide +kernel)
set_option maxHeartbeats 4000000 in
set_option maxRecDepth 100000 in
theorem k_accept (l : Launch) (D : va_G) (sz : Nat) (oq : Nat → Nat) (cI : ClassId) (qf : Int32) (qp : Int32) (qd : Int32) (qs : Int32) (qt : Int32) (qb : Int32) (qh : Int32) (qr : Int32) (qn : Int32) (bk : Nat) (wz : Nat) (fO : Nat → Int32) (fW : Nat → Int32) (pz : Nat) (fK : Nat → Int32) (fN : Nat → Int32) (fL : Nat → Int32) (tx : Value) (zl : Int32) (ta : Int32) (be : Int32) (ki : Int32) (nu : Int32) (wo : Int32) (z1 : Int32) (hbk : bk ≤ 5) (hwz : wz ≤ 600) (hpz : pz ≤ 600) : Met l yX6_accept wp_k_accept ({ frames := 4, cells := 0, slots := 0, locals := 103 }) (PcWC D [.ref (oq 0), .int z1] sz [(oq 0, .inr (6, gPs oq qf qp qd qs qt qb qh qr qn (nI bk) (nI wz))), (oq 6, .inl (cI, 5, .inl fO)), (oq 7, .inl (cI, 600, .inl fW)), (oq 1, .inr (7, [.int (nI pz), .ref (oq 2), .ref (oq 3), .ref (oq 4)])), (oq 2, .inl (cI, 600, .inl fK)), (oq 3, .inl (cI, 600, .inl fN)), (oq 4, .inl (cI, 600, .inl fL)), (oq 5, .inr (8, [tx, .int zl, .int ta, .int be, .int ki, .int nu, .int wo]))] [(cI, .int)]) (va_Qv (fun (u : (Int32) × (Int32) × (Int32) × (Int32) × (Int32) × (Int32) × (Int32) × (Int32) × (Int32) × (Nat) × (Nat) × (Nat → Int32) × (Nat → Int32) × (Nat) × (Nat → Int32) × (Nat → Int32) × (Nat → Int32)) => u.2.2.2.2.2.2.2.2.2.1 ≤ 5 ∧ u.2.2.2.2.2.2.2.2.2.2.1 ≤ 600 ∧ u.2.2.2.2.2.2.2.2.2.2.2.2.2.1 ≤ 600) (fun (u : (Int32) × (Int32) × (Int32) × (Int32) × (Int32) × (Int32) × (Int32) × (Int32) × (Int32) × (Nat) × (Nat) × (Nat → Int32) × (Nat → Int32) × (Nat) × (Nat → Int32) × (Nat → Int32) × (Nat → Int32)) t => va_P D vwCl [(oq 0, .inr (6, gPs oq u.1 u.2.1 u.2.2.1 u.2.2.2.1 u.2.2.2.2.1 u.2.2.2.2.2.1 u.2.2.2.2.2.2.1 u.2.2.2.2.2.2.2.1 u.2.2.2.2.2.2.2.2.1 (nI u.2.2.2.2.2.2.2.2.2.1) (nI u.2.2.2.2.2.2.2.2.2.2.1))), (oq 6, .inl (cI, 5, .inl u.2.2.2.2.2.2.2.2.2.2.2.1)), (oq 7, .inl (cI, 600, .inl u.2.2.2.2.2.2.2.2.2.2.2.2.1)), (oq 1, .inr (7, [.int (nI u.2.2.2.2.2.2.2.2.2.2.2.2.2.1), .ref (oq 2), .ref (oq 3), .ref (oq 4)])), (oq 2, .inl (cI, 600, .inl u.2.2.2.2.2.2.2.2.2.2.2.2.2.2.1)), (oq 3, .inl (cI, 600, .inl u.2.2.2.2.2.2.2.2.2.2.2.2.2.2.2.1)), (oq 4, .inl (cI, 600, .inl u.2.2.2.2.2.2.2.2.2.2.2.2.2.2.2.2)), (oq 5, .inr (8, [tx, .int zl, .int ta, .int be, .int ki, .int nu, .int wo]))] t.heap ∧ va_K D vwCl [(cI, .int)] t ∧ va_D (va_A [(oq 0, .inr (6, gPs oq qf qp qd qs qt qb qh qr qn (nI bk) (nI wz))), (oq 6, .inl (cI, 5, .inl fO)), (oq 7, .inl (cI, 600, .inl fW)), (oq 1, .inr (7, [.int (nI pz), .ref (oq 2), .ref (oq 3), .ref (oq 4)])), (oq 2, .inl (cI, 600, .inl fK)), (oq 3, .inl (cI, 600, .inl fN)), (oq 4, .inl (cI, 600, .inl fL)), (oq 5, .inr (8, [tx, .int zl, .int ta, .int be, .int ki, .int nu, .int wo]))] sz) [(oq 0, .inr (6, gPs oq u.1 u.2.1 u.2.2.1 u.2.2.2.1 u.2.2.2.2.1 u.2.2.2.2.2.1 u.2.2.2.2.2.2.1 u.2.2.2.2.2.2.2.1 u.2.2.2.2.2.2.2.2.1 (nI u.2.2.2.2.2.2.2.2.2.1) (nI u.2.2.2.2.2.2.2.2.2.2.1))), (oq 6, .inl (cI, 5, .inl u.2.2.2.2.2.2.2.2.2.2.2.1)), (oq 7, .inl (cI, 600, .inl u.2.2.2.2.2.2.2.2.2.2.2.2.1)), (oq 1, .inr (7, [.int (nI u.2.2.2.2.2.2.2.2.2.2.2.2.2.1), .ref (oq 2), .ref (oq 3), .ref (oq 4)])), (oq 2, .inl (cI, 600, .inl u.2.2.2.2.2.2.2.2.2.2.2.2.2.2.1)), (oq 3, .inl (cI, 600, .inl u.2.2.2.2.2.2.2.2.2.2.2.2.2.2.2.1)), (oq 4, .inl (cI, 600, .inl u.2.2.2.2.2.2.2.2.2.2.2.2.2.2.2.2)), (oq 5, .inr (8, [tx, .int zl, .int ta, .int be, .int ki, .int nu, .int wo]))]) (va_A [(oq 0, .inr (6, gPs oq qf qp qd qs qt qb qh qr qn (nI bk) (nI wz))), (oq 6, .inl (cI, 5, .inl fO)), (oq 7, .inl (cI, 600, .inl fW)), (oq 1, .inr (7, [.int (nI pz), .ref (oq 2), .ref (oq 3), .ref (oq 4)])), (oq 2, .inl (cI, 600, .inl fK)), (oq 3, .inl (cI, 600, .inl fN)), (oq 4, .inl (cI, 600, .inl fL)), (oq 5, .inr (8, [tx, .int zl, .int ta, .int be, .int ki, .int nu, .int wo]))] sz)) 0 0 (va_A [(oq 0, .inr (6, gPs oq qf qp qd qs qt qb qh qr qn (nI bk) (nI wz))), (oq 6, .inl (cI, 5, .inl fO)), (oq 7, .inl (cI, 600, .inl fW)), (oq 1, .inr (7, [.int (nI pz), .ref (oq 2), .ref (oq 3), .ref (oq 4)])), (oq 2, .inl (cI, 600, .inl fK)), (oq 3, .inl (cI, 600, .inl fN)), (oq 4, .inl (cI, 600, .inl fL)), (oq 5, .inr (8, [tx, .int zl, .int ta, .int be, .int ki, .int nu, .int wo]))] sz) := by
  refine Met.ofW (cc := cX6_accept) (maxL := 2) (ret := none) (by decide) rfl ?_
  intro p e s m args below meth c s₁ B hml hv
  obtain ⟨rfl, hsz, hP, hK, hD0, hN⟩ := hv
  have hx := B.exec
  have hb := B.bytes
  have hr := B.returns
  have hts := atoms_spec (ws := wp_k_accept) B.pre
  have hin_X6 : ∀ w ∈ wsX60, w ∈ wp_k_accept := fun _ h => (List.mem_cons_of_mem _ (List.mem_append_right _ (List.mem_append_right _ (List.mem_append_right _ (List.mem_append_right _ (List.mem_append_right _ (List.mem_append_right _ (List.mem_append_right _ (List.mem_append_left _ h)))))))))
  have hown : s.vm.findClass RX6 = some m.cls := findClass_of_methodNamed B.named
  have hlocks := B.notSynchronized
  subst hsz
  have hD := hD0.self (sz := s.heap.size)
  generalize hAe : va_A [(oq 0, .inr (6, gPs oq qf qp qd qs qt qb qh qr qn (nI bk) (nI wz))), (oq 6, .inl (cI, 5, .inl fO)), (oq 7, .inl (cI, 600, .inl fW)), (oq 1, .inr (7, [.int (nI pz), .ref (oq 2), .ref (oq 3), .ref (oq 4)])), (oq 2, .inl (cI, 600, .inl fK)), (oq 3, .inl (cI, 600, .inl fN)), (oq 4, .inl (cI, 600, .inl fL)), (oq 5, .inr (8, [tx, .int zl, .int ta, .int be, .int ki, .int nu, .int wo]))] s.heap.size = A at hD ⊢
  have hA : ∀ q : Nat, s.heap.size ≤ q → A q := fun q h => by rw [← hAe]; exact Or.inr h
  have hS : va_S A s.heap s.heap [] := va_S.rf
  have hP : va_P D vwCl [(oq 0, .inr (6, gPs oq qf qp qd qs qt qb qh qr qn (nI bk) (nI wz))), (oq 6, .inl (cI, 5, .inl fO)), (oq 7, .inl (cI, 600, .inl fW)), (oq 1, .inr (7, [.int (nI pz), .ref (oq 2), .ref (oq 3), .ref (oq 4)])), (oq 2, .inl (cI, 600, .inl fK)), (oq 3, .inl (cI, 600, .inl fN)), (oq 4, .inl (cI, 600, .inl fL)), (oq 5, .inr (8, [tx, .int zl, .int ta, .int be, .int ki, .int nu, .int wo]))] s.heap := hP
  have hl := lv_entry ([.ref (oq 0), .int z1]) (n := 2) (Nat.le_of_ble_eq_true rfl)
  rw [lg_entry_eq]
  generalize (lg_sl ([.ref (oq 0), .int z1]) ++ List.replicate (2 - (lg_sl ([.ref (oq 0), .int z1])).length) Slot.unset).toArray = ls at hl ⊢
  have hl : lv_has ls 2 [(0, .ref (oq 0)), (1, .int z1)] := hl
  refine lv_aload_n hx hb dX6_accept_0 rfl (lv_at hl 0 rfl) ?_
  refine va_get (D := D) (ci := 6) (v := .int qs) (C := RX6) (T := TX6) (N := 15) hx hb hts hin_X6 hown hK hP 0 rfl rfl 5 (by decide) (hts (.fieldLink RX6 39 "ClashFree$Parser" "state" "I") (List.mem_of_getElem? (i := 1) rfl)) (fun _ h9 => h9) rfl dX6_accept_1 ?_
  by_cases hs1 : qs = 0
  ·
    subst hs1
    refine lv_tableIn (off := 36) (tgt := 40) hx hb dX6_accept_4 (by decide) (by decide) (by decide +kernel) (by decide) ?_
    refine lv_aload_n hx hb dX6_accept_40 rfl (lv_at hl 0 rfl) ?_
    refine lv_iload_n hx hb dX6_accept_41 rfl (lv_at hl 1 rfl) ?_
    have hPc := hP.sub (ws' := [(oq 0, .inr (6, gPs oq qf qp qd 0 qt qb qh qr qn (nI bk) (nI wz))), (oq 6, .inl (cI, 5, .inl fO)), (oq 7, .inl (cI, 600, .inl fW)), (oq 1, .inr (7, [.int (nI pz), .ref (oq 2), .ref (oq 3), .ref (oq 4)])), (oq 2, .inl (cI, 600, .inl fK)), (oq 3, .inl (cI, 600, .inl fN)), (oq 4, .inl (cI, 600, .inl fL)), (oq 5, .inr (8, [tx, .int zl, .int ta, .int be, .int ki, .int nu, .int wo]))]) [0, 1, 2, 3, 4, 5, 6, 7] rfl
    have hKc := hK.sub (tys' := [(cI, .int)]) [0] rfl
    have hDc := hD.sub (ws' := [(oq 0, .inr (6, gPs oq qf qp qd 0 qt qb qh qr qn (nI bk) (nI wz))), (oq 6, .inl (cI, 5, .inl fO)), (oq 7, .inl (cI, 600, .inl fW)), (oq 1, .inr (7, [.int (nI pz), .ref (oq 2), .ref (oq 3), .ref (oq 4)])), (oq 2, .inl (cI, 600, .inl fK)), (oq 3, .inl (cI, 600, .inl fN)), (oq 4, .inl (cI, 600, .inl fL)), (oq 5, .inr (8, [tx, .int zl, .int ta, .int be, .int ki, .int nu, .int wo]))]) [0, 1, 2, 3, 4, 5, 6, 7] (by decide) rfl
    have hFc := va_free (wc := [(oq 0, .inr (6, gPs oq qf qp qd 0 qt qb qh qr qn (nI bk) (nI wz))), (oq 6, .inl (cI, 5, .inl fO)), (oq 7, .inl (cI, 600, .inl fW)), (oq 1, .inr (7, [.int (nI pz), .ref (oq 2), .ref (oq 3), .ref (oq 4)])), (oq 2, .inl (cI, 600, .inl fK)), (oq 3, .inl (cI, 600, .inl fN)), (oq 4, .inl (cI, 600, .inl fL)), (oq 5, .inr (8, [tx, .int zl, .int ta, .int be, .int ki, .int nu, .int wo]))]) hD hS hA [0, 1, 2, 3, 4, 5, 6, 7] rfl
    refine va_callv (va_runV (As := [.int z1]) (rest := []) ⟨hx, hb, hml, hown, hts⟩ (k_aStat l D _ oq cI qf qp qd 0 qt qb qh qr qn bk wz fO fW pz fK fN fL tx zl ta be ki nu wo z1 hbk hwz hpz) (cwV 1 hts g_k_accept_k_aStat_82 rfl rfl rfl (by decide +kernel) ⟨(Nat.le_of_ble_eq_true rfl), (Nat.le_of_ble_eq_true rfl)⟩) (PcWC_V (q0 := 0) hPc hKc hDc hN rfl rfl) rfl rfl hl.1 rfl (lv_room (Nat.le_of_ble_eq_true rfl)) dX6_accept_42 ⟨(Nat.le_of_ble_eq_true rfl), (Nat.le_of_ble_eq_true rfl)⟩) hS (fun q _ h => hFc q h) hFc (fun uu tt H locs htt hvm hw hB hz1 hk1 hS => ?_)
    obtain ⟨w3, w4, w5, w6, w7, w8, w9, w10, w11, w12, w13, w14, w15, w16, w17, w18, w19⟩ := uu
    obtain ⟨hP1, hK1, hD1⟩ := hB
    rw [htt] at hP1
    have hK1 := va_K.moved hvm.symm hK1
    have hP1 : va_P D vwCl [(oq 0, .inr (6, gPs oq w3 w4 w5 w6 w7 w8 w9 w10 w11 (nI w12) (nI w13))), (oq 6, .inl (cI, 5, .inl w14)), (oq 7, .inl (cI, 600, .inl w15)), (oq 1, .inr (7, [.int (nI w16), .ref (oq 2), .ref (oq 3), .ref (oq 4)])), (oq 2, .inl (cI, 600, .inl w17)), (oq 3, .inl (cI, 600, .inl w18)), (oq 4, .inl (cI, 600, .inl w19)), (oq 5, .inr (8, [tx, .int zl, .int ta, .int be, .int ki, .int nu, .int wo]))] H := hP1
    obtain ⟨hP, hD⟩ := va_join (wr := []) (w1 := [(oq 0, .inr (6, gPs oq w3 w4 w5 w6 w7 w8 w9 w10 w11 (nI w12) (nI w13))), (oq 6, .inl (cI, 5, .inl w14)), (oq 7, .inl (cI, 600, .inl w15)), (oq 1, .inr (7, [.int (nI w16), .ref (oq 2), .ref (oq 3), .ref (oq 4)])), (oq 2, .inl (cI, 600, .inl w17)), (oq 3, .inl (cI, 600, .inl w18)), (oq 4, .inl (cI, 600, .inl w19)), (oq 5, .inr (8, [tx, .int zl, .int ta, .int be, .int ki, .int nu, .int wo]))]) hP hD [0, 1, 2, 3, 4, 5, 6, 7] [] rfl rfl (by decide) (by decide) hk1 hFc hP1 hD1
    have hP : va_P D vwCl [(oq 0, .inr (6, gPs oq w3 w4 w5 w6 w7 w8 w9 w10 w11 (nI w12) (nI w13))), (oq 6, .inl (cI, 5, .inl w14)), (oq 7, .inl (cI, 600, .inl w15)), (oq 1, .inr (7, [.int (nI w16), .ref (oq 2), .ref (oq 3), .ref (oq 4)])), (oq 2, .inl (cI, 600, .inl w17)), (oq 3, .inl (cI, 600, .inl w18)), (oq 4, .inl (cI, 600, .inl w19)), (oq 5, .inr (8, [tx, .int zl, .int ta, .int be, .int ki, .int nu, .int wo]))] H := hP
    have hD : va_D A [(oq 0, .inr (6, gPs oq w3 w4 w5 w6 w7 w8 w9 w10 w11 (nI w12) (nI w13))), (oq 6, .inl (cI, 5, .inl w14)), (oq 7, .inl (cI, 600, .inl w15)), (oq 1, .inr (7, [.int (nI w16), .ref (oq 2), .ref (oq 3), .ref (oq 4)])), (oq 2, .inl (cI, 600, .inl w17)), (oq 3, .inl (cI, 600, .inl w18)), (oq 4, .inl (cI, 600, .inl w19)), (oq 5, .inr (8, [tx, .int zl, .int ta, .int be, .int ki, .int nu, .int wo]))] := hD
    try dsimp only at hw
    clear hz1 hk1 hFc hPc hKc hDc
    obtain ⟨hx20_1, hx20_2, hx20_3⟩ := hw
    refine lv_goto (tgt := 85) hx hb dX6_accept_45 (by decide) ?_
    exact W.vret hx hb hr (fun t ht hW => ⟨⟨(w3, w4, w5, w6, w7, w8, w9, w10, w11, w12, w13, w14, w15, w16, w17, w18, w19), rfl, (by (try dsimp only); first | done | exact ⟨by omega, by omega, by omega⟩), by rw [ht]; exact hP.sub [0, 1, 2, 3, 4, 5, 6, 7] rfl, va_K.moved hW.alike (hK.sub [0] rfl), hD.sub [0, 1, 2, 3, 4, 5, 6, 7] (by decide) rfl⟩, hS.F ht⟩) hS.2.2 dX6_accept_85
  by_cases hs21 : qs = 1
  ·
    subst hs21
    refine lv_tableIn (off := 44) (tgt := 48) hx hb dX6_accept_4 (by decide) (by decide) (by decide +kernel) (by decide) ?_
    refine lv_aload_n hx hb dX6_accept_48 rfl (lv_at hl 0 rfl) ?_
    refine lv_iload_n hx hb dX6_accept_49 rfl (lv_at hl 1 rfl) ?_
    have hPc := hP.sub (ws' := [(oq 0, .inr (6, gPs oq qf qp qd 1 qt qb qh qr qn (nI bk) (nI wz))), (oq 6, .inl (cI, 5, .inl fO)), (oq 7, .inl (cI, 600, .inl fW)), (oq 1, .inr (7, [.int (nI pz), .ref (oq 2), .ref (oq 3), .ref (oq 4)])), (oq 2, .inl (cI, 600, .inl fK)), (oq 3, .inl (cI, 600, .inl fN)), (oq 4, .inl (cI, 600, .inl fL)), (oq 5, .inr (8, [tx, .int zl, .int ta, .int be, .int ki, .int nu, .int wo]))]) [0, 1, 2, 3, 4, 5, 6, 7] rfl
    have hKc := hK.sub (tys' := [(cI, .int)]) [0] rfl
    have hDc := hD.sub (ws' := [(oq 0, .inr (6, gPs oq qf qp qd 1 qt qb qh qr qn (nI bk) (nI wz))), (oq 6, .inl (cI, 5, .inl fO)), (oq 7, .inl (cI, 600, .inl fW)), (oq 1, .inr (7, [.int (nI pz), .ref (oq 2), .ref (oq 3), .ref (oq 4)])), (oq 2, .inl (cI, 600, .inl fK)), (oq 3, .inl (cI, 600, .inl fN)), (oq 4, .inl (cI, 600, .inl fL)), (oq 5, .inr (8, [tx, .int zl, .int ta, .int be, .int ki, .int nu, .int wo]))]) [0, 1, 2, 3, 4, 5, 6, 7] (by decide) rfl
    have hFc := va_free (wc := [(oq 0, .inr (6, gPs oq qf qp qd 1 qt qb qh qr qn (nI bk) (nI wz))), (oq 6, .inl (cI, 5, .inl fO)), (oq 7, .inl (cI, 600, .inl fW)), (oq 1, .inr (7, [.int (nI pz), .ref (oq 2), .ref (oq 3), .ref (oq 4)])), (oq 2, .inl (cI, 600, .inl fK)), (oq 3, .inl (cI, 600, .inl fN)), (oq 4, .inl (cI, 600, .inl fL)), (oq 5, .inr (8, [tx, .int zl, .int ta, .int be, .int ki, .int nu, .int wo]))]) hD hS hA [0, 1, 2, 3, 4, 5, 6, 7] rfl
    refine va_callv (va_runV (As := [.int z1]) (rest := []) ⟨hx, hb, hml, hown, hts⟩ (k_aUnit l D _ oq cI qf qp qd 1 qt qb qh qr qn bk wz fO fW pz fK fN fL tx zl ta be ki nu wo z1 hbk hwz hpz) (cwV 1 hts g_k_accept_k_aUnit_85 rfl rfl rfl (by decide +kernel) ⟨(Nat.le_of_ble_eq_true rfl), (Nat.le_of_ble_eq_true rfl)⟩) (PcWC_V (q0 := 0) hPc hKc hDc hN rfl rfl) rfl rfl hl.1 rfl (lv_room (Nat.le_of_ble_eq_true rfl)) dX6_accept_50 ⟨(Nat.le_of_ble_eq_true rfl), (Nat.le_of_ble_eq_true rfl)⟩) hS (fun q _ h => hFc q h) hFc (fun uu tt H locs htt hvm hw hB hz1 hk1 hS => ?_)
    obtain ⟨w23, w24, w25, w26, w27, w28, w29, w30, w31, w32, w33, w34, w35, w36, w37, w38, w39⟩ := uu
    obtain ⟨hP1, hK1, hD1⟩ := hB
    rw [htt] at hP1
    have hK1 := va_K.moved hvm.symm hK1
    have hP1 : va_P D vwCl [(oq 0, .inr (6, gPs oq w23 w24 w25 w26 w27 w28 w29 w30 w31 (nI w32) (nI w33))), (oq 6, .inl (cI, 5, .inl w34)), (oq 7, .inl (cI, 600, .inl w35)), (oq 1, .inr (7, [.int (nI w36), .ref (oq 2), .ref (oq 3), .ref (oq 4)])), (oq 2, .inl (cI, 600, .inl w37)), (oq 3, .inl (cI, 600, .inl w38)), (oq 4, .inl (cI, 600, .inl w39)), (oq 5, .inr (8, [tx, .int zl, .int ta, .int be, .int ki, .int nu, .int wo]))] H := hP1
    obtain ⟨hP, hD⟩ := va_join (wr := []) (w1 := [(oq 0, .inr (6, gPs oq w23 w24 w25 w26 w27 w28 w29 w30 w31 (nI w32) (nI w33))), (oq 6, .inl (cI, 5, .inl w34)), (oq 7, .inl (cI, 600, .inl w35)), (oq 1, .inr (7, [.int (nI w36), .ref (oq 2), .ref (oq 3), .ref (oq 4)])), (oq 2, .inl (cI, 600, .inl w37)), (oq 3, .inl (cI, 600, .inl w38)), (oq 4, .inl (cI, 600, .inl w39)), (oq 5, .inr (8, [tx, .int zl, .int ta, .int be, .int ki, .int nu, .int wo]))]) hP hD [0, 1, 2, 3, 4, 5, 6, 7] [] rfl rfl (by decide) (by decide) hk1 hFc hP1 hD1
    have hP : va_P D vwCl [(oq 0, .inr (6, gPs oq w23 w24 w25 w26 w27 w28 w29 w30 w31 (nI w32) (nI w33))), (oq 6, .inl (cI, 5, .inl w34)), (oq 7, .inl (cI, 600, .inl w35)), (oq 1, .inr (7, [.int (nI w36), .ref (oq 2), .ref (oq 3), .ref (oq 4)])), (oq 2, .inl (cI, 600, .inl w37)), (oq 3, .inl (cI, 600, .inl w38)), (oq 4, .inl (cI, 600, .inl w39)), (oq 5, .inr (8, [tx, .int zl, .int ta, .int be, .int ki, .int nu, .int wo]))] H := hP
    have hD : va_D A [(oq 0, .inr (6, gPs oq w23 w24 w25 w26 w27 w28 w29 w30 w31 (nI w32) (nI w33))), (oq 6, .inl (cI, 5, .inl w34)), (oq 7, .inl (cI, 600, .inl w35)), (oq 1, .inr (7, [.int (nI w36), .ref (oq 2), .ref (oq 3), .ref (oq 4)])), (oq 2, .inl (cI, 600, .inl w37)), (oq 3, .inl (cI, 600, .inl w38)), (oq 4, .inl (cI, 600, .inl w39)), (oq 5, .inr (8, [tx, .int zl, .int ta, .int be, .int ki, .int nu, .int wo]))] := hD
    try dsimp only at hw
    clear hz1 hk1 hFc hPc hKc hDc
    obtain ⟨hx40_1, hx40_2, hx40_3⟩ := hw
    refine lv_goto (tgt := 85) hx hb dX6_accept_53 (by decide) ?_
    exact W.vret hx hb hr (fun t ht hW => ⟨⟨(w23, w24, w25, w26, w27, w28, w29, w30, w31, w32, w33, w34, w35, w36, w37, w38, w39), rfl, (by (try dsimp only); first | done | exact ⟨by omega, by omega, by omega⟩), by rw [ht]; exact hP.sub [0, 1, 2, 3, 4, 5, 6, 7] rfl, va_K.moved hW.alike (hK.sub [0] rfl), hD.sub [0, 1, 2, 3, 4, 5, 6, 7] (by decide) rfl⟩, hS.F ht⟩) hS.2.2 dX6_accept_85
  by_cases hs41 : qs = 2
  ·
    subst hs41
    refine lv_tableIn (off := 52) (tgt := 56) hx hb dX6_accept_4 (by decide) (by decide) (by decide +kernel) (by decide) ?_
    refine lv_aload_n hx hb dX6_accept_56 rfl (lv_at hl 0 rfl) ?_
    refine lv_iload_n hx hb dX6_accept_57 rfl (lv_at hl 1 rfl) ?_
    have hPc := hP.sub (ws' := [(oq 0, .inr (6, gPs oq qf qp qd 2 qt qb qh qr qn (nI bk) (nI wz))), (oq 6, .inl (cI, 5, .inl fO)), (oq 7, .inl (cI, 600, .inl fW)), (oq 1, .inr (7, [.int (nI pz), .ref (oq 2), .ref (oq 3), .ref (oq 4)])), (oq 2, .inl (cI, 600, .inl fK)), (oq 3, .inl (cI, 600, .inl fN)), (oq 4, .inl (cI, 600, .inl fL)), (oq 5, .inr (8, [tx, .int zl, .int ta, .int be, .int ki, .int nu, .int wo]))]) [0, 1, 2, 3, 4, 5, 6, 7] rfl
    have hKc := hK.sub (tys' := [(cI, .int)]) [0] rfl
    have hDc := hD.sub (ws' := [(oq 0, .inr (6, gPs oq qf qp qd 2 qt qb qh qr qn (nI bk) (nI wz))), (oq 6, .inl (cI, 5, .inl fO)), (oq 7, .inl (cI, 600, .inl fW)), (oq 1, .inr (7, [.int (nI pz), .ref (oq 2), .ref (oq 3), .ref (oq 4)])), (oq 2, .inl (cI, 600, .inl fK)), (oq 3, .inl (cI, 600, .inl fN)), (oq 4, .inl (cI, 600, .inl fL)), (oq 5, .inr (8, [tx, .int zl, .int ta, .int be, .int ki, .int nu, .int wo]))]) [0, 1, 2, 3, 4, 5, 6, 7] (by decide) rfl
    have hFc := va_free (wc := [(oq 0, .inr (6, gPs oq qf qp qd 2 qt qb qh qr qn (nI bk) (nI wz))), (oq 6, .inl (cI, 5, .inl fO)), (oq 7, .inl (cI, 600, .inl fW)), (oq 1, .inr (7, [.int (nI pz), .ref (oq 2), .ref (oq 3), .ref (oq 4)])), (oq 2, .inl (cI, 600, .inl fK)), (oq 3, .inl (cI, 600, .inl fN)), (oq 4, .inl (cI, 600, .inl fL)), (oq 5, .inr (8, [tx, .int zl, .int ta, .int be, .int ki, .int nu, .int wo]))]) hD hS hA [0, 1, 2, 3, 4, 5, 6, 7] rfl
    refine va_callv (va_runV (As := [.int z1]) (rest := []) ⟨hx, hb, hml, hown, hts⟩ (k_aBehindUnit l D _ oq cI qf qp qd 2 qt qb qh qr qn bk wz fO fW pz fK fN fL tx zl ta be ki nu wo z1 hbk hwz hpz) (cwV 1 hts g_k_accept_k_aBehindUnit_88 rfl rfl rfl (by decide +kernel) ⟨(Nat.le_of_ble_eq_true rfl), (Nat.le_of_ble_eq_true rfl)⟩) (PcWC_V (q0 := 0) hPc hKc hDc hN rfl rfl) rfl rfl hl.1 rfl (lv_room (Nat.le_of_ble_eq_true rfl)) dX6_accept_58 ⟨(Nat.le_of_ble_eq_true rfl), (Nat.le_of_ble_eq_true rfl)⟩) hS (fun q _ h => hFc q h) hFc (fun uu tt H locs htt hvm hw hB hz1 hk1 hS => ?_)
    obtain ⟨w43, w44, w45, w46, w47, w48, w49, w50, w51, w52, w53, w54, w55, w56, w57, w58, w59⟩ := uu
    obtain ⟨hP1, hK1, hD1⟩ := hB
    rw [htt] at hP1
    have hK1 := va_K.moved hvm.symm hK1
    have hP1 : va_P D vwCl [(oq 0, .inr (6, gPs oq w43 w44 w45 w46 w47 w48 w49 w50 w51 (nI w52) (nI w53))), (oq 6, .inl (cI, 5, .inl w54)), (oq 7, .inl (cI, 600, .inl w55)), (oq 1, .inr (7, [.int (nI w56), .ref (oq 2), .ref (oq 3), .ref (oq 4)])), (oq 2, .inl (cI, 600, .inl w57)), (oq 3, .inl (cI, 600, .inl w58)), (oq 4, .inl (cI, 600, .inl w59)), (oq 5, .inr (8, [tx, .int zl, .int ta, .int be, .int ki, .int nu, .int wo]))] H := hP1
    obtain ⟨hP, hD⟩ := va_join (wr := []) (w1 := [(oq 0, .inr (6, gPs oq w43 w44 w45 w46 w47 w48 w49 w50 w51 (nI w52) (nI w53))), (oq 6, .inl (cI, 5, .inl w54)), (oq 7, .inl (cI, 600, .inl w55)), (oq 1, .inr (7, [.int (nI w56), .ref (oq 2), .ref (oq 3), .ref (oq 4)])), (oq 2, .inl (cI, 600, .inl w57)), (oq 3, .inl (cI, 600, .inl w58)), (oq 4, .inl (cI, 600, .inl w59)), (oq 5, .inr (8, [tx, .int zl, .int ta, .int be, .int ki, .int nu, .int wo]))]) hP hD [0, 1, 2, 3, 4, 5, 6, 7] [] rfl rfl (by decide) (by decide) hk1 hFc hP1 hD1
    have hP : va_P D vwCl [(oq 0, .inr (6, gPs oq w43 w44 w45 w46 w47 w48 w49 w50 w51 (nI w52) (nI w53))), (oq 6, .inl (cI, 5, .inl w54)), (oq 7, .inl (cI, 600, .inl w55)), (oq 1, .inr (7, [.int (nI w56), .ref (oq 2), .ref (oq 3), .ref (oq 4)])), (oq 2, .inl (cI, 600, .inl w57)), (oq 3, .inl (cI, 600, .inl w58)), (oq 4, .inl (cI, 600, .inl w59)), (oq 5, .inr (8, [tx, .int zl, .int ta, .int be, .int ki, .int nu, .int wo]))] H := hP
    have hD : va_D A [(oq 0, .inr (6, gPs oq w43 w44 w45 w46 w47 w48 w49 w50 w51 (nI w52) (nI w53))), (oq 6, .inl (cI, 5, .inl w54)), (oq 7, .inl (cI, 600, .inl w55)), (oq 1, .inr (7, [.int (nI w56), .ref (oq 2), .ref (oq 3), .ref (oq 4)])), (oq 2, .inl (cI, 600, .inl w57)), (oq 3, .inl (cI, 600, .inl w58)), (oq 4, .inl (cI, 600, .inl w59)), (oq 5, .inr (8, [tx, .int zl, .int ta, .int be, .int ki, .int nu, .int wo]))] := hD
    try dsimp only at hw
    clear hz1 hk1 hFc hPc hKc hDc
    obtain ⟨hx60_1, hx60_2, hx60_3⟩ := hw
    refine lv_goto (tgt := 85) hx hb dX6_accept_61 (by decide) ?_
    exact W.vret hx hb hr (fun t ht hW => ⟨⟨(w43, w44, w45, w46, w47, w48, w49, w50, w51, w52, w53, w54, w55, w56, w57, w58, w59), rfl, (by (try dsimp only); first | done | exact ⟨by omega, by omega, by omega⟩), by rw [ht]; exact hP.sub [0, 1, 2, 3, 4, 5, 6, 7] rfl, va_K.moved hW.alike (hK.sub [0] rfl), hD.sub [0, 1, 2, 3, 4, 5, 6, 7] (by decide) rfl⟩, hS.F ht⟩) hS.2.2 dX6_accept_85
  by_cases hs61 : qs = 3
  ·
    subst hs61
    refine lv_tableIn (off := 60) (tgt := 64) hx hb dX6_accept_4 (by decide) (by decide) (by decide +kernel) (by decide) ?_
    refine lv_aload_n hx hb dX6_accept_64 rfl (lv_at hl 0 rfl) ?_
    refine lv_iload_n hx hb dX6_accept_65 rfl (lv_at hl 1 rfl) ?_
    have hPc := hP.sub (ws' := [(oq 0, .inr (6, gPs oq qf qp qd 3 qt qb qh qr qn (nI bk) (nI wz))), (oq 6, .inl (cI, 5, .inl fO)), (oq 7, .inl (cI, 600, .inl fW)), (oq 1, .inr (7, [.int (nI pz), .ref (oq 2), .ref (oq 3), .ref (oq 4)])), (oq 2, .inl (cI, 600, .inl fK)), (oq 3, .inl (cI, 600, .inl fN)), (oq 4, .inl (cI, 600, .inl fL)), (oq 5, .inr (8, [tx, .int zl, .int ta, .int be, .int ki, .int nu, .int wo]))]) [0, 1, 2, 3, 4, 5, 6, 7] rfl
    have hKc := hK.sub (tys' := [(cI, .int)]) [0] rfl
    have hDc := hD.sub (ws' := [(oq 0, .inr (6, gPs oq qf qp qd 3 qt qb qh qr qn (nI bk) (nI wz))), (oq 6, .inl (cI, 5, .inl fO)), (oq 7, .inl (cI, 600, .inl fW)), (oq 1, .inr (7, [.int (nI pz), .ref (oq 2), .ref (oq 3), .ref (oq 4)])), (oq 2, .inl (cI, 600, .inl fK)), (oq 3, .inl (cI, 600, .inl fN)), (oq 4, .inl (cI, 600, .inl fL)), (oq 5, .inr (8, [tx, .int zl, .int ta, .int be, .int ki, .int nu, .int wo]))]) [0, 1, 2, 3, 4, 5, 6, 7] (by decide) rfl
    have hFc := va_free (wc := [(oq 0, .inr (6, gPs oq qf qp qd 3 qt qb qh qr qn (nI bk) (nI wz))), (oq 6, .inl (cI, 5, .inl fO)), (oq 7, .inl (cI, 600, .inl fW)), (oq 1, .inr (7, [.int (nI pz), .ref (oq 2), .ref (oq 3), .ref (oq 4)])), (oq 2, .inl (cI, 600, .inl fK)), (oq 3, .inl (cI, 600, .inl fN)), (oq 4, .inl (cI, 600, .inl fL)), (oq 5, .inr (8, [tx, .int zl, .int ta, .int be, .int ki, .int nu, .int wo]))]) hD hS hA [0, 1, 2, 3, 4, 5, 6, 7] rfl
    refine va_callv (va_runV (As := [.int z1]) (rest := []) ⟨hx, hb, hml, hown, hts⟩ (k_aRounds l D _ oq cI qf qp qd 3 qt qb qh qr qn bk wz fO fW pz fK fN fL tx zl ta be ki nu wo z1 hbk hwz hpz) (cwV 1 hts g_k_accept_k_aRounds_91 rfl rfl rfl (by decide +kernel) ⟨(Nat.le_of_ble_eq_true rfl), (Nat.le_of_ble_eq_true rfl)⟩) (PcWC_V (q0 := 0) hPc hKc hDc hN rfl rfl) rfl rfl hl.1 rfl (lv_room (Nat.le_of_ble_eq_true rfl)) dX6_accept_66 ⟨(Nat.le_of_ble_eq_true rfl), (Nat.le_of_ble_eq_true rfl)⟩) hS (fun q _ h => hFc q h) hFc (fun uu tt H locs htt hvm hw hB hz1 hk1 hS => ?_)
    obtain ⟨w63, w64, w65, w66, w67, w68, w69, w70, w71, w72, w73, w74, w75, w76, w77, w78, w79⟩ := uu
    obtain ⟨hP1, hK1, hD1⟩ := hB
    rw [htt] at hP1
    have hK1 := va_K.moved hvm.symm hK1
    have hP1 : va_P D vwCl [(oq 0, .inr (6, gPs oq w63 w64 w65 w66 w67 w68 w69 w70 w71 (nI w72) (nI w73))), (oq 6, .inl (cI, 5, .inl w74)), (oq 7, .inl (cI, 600, .inl w75)), (oq 1, .inr (7, [.int (nI w76), .ref (oq 2), .ref (oq 3), .ref (oq 4)])), (oq 2, .inl (cI, 600, .inl w77)), (oq 3, .inl (cI, 600, .inl w78)), (oq 4, .inl (cI, 600, .inl w79)), (oq 5, .inr (8, [tx, .int zl, .int ta, .int be, .int ki, .int nu, .int wo]))] H := hP1
    obtain ⟨hP, hD⟩ := va_join (wr := []) (w1 := [(oq 0, .inr (6, gPs oq w63 w64 w65 w66 w67 w68 w69 w70 w71 (nI w72) (nI w73))), (oq 6, .inl (cI, 5, .inl w74)), (oq 7, .inl (cI, 600, .inl w75)), (oq 1, .inr (7, [.int (nI w76), .ref (oq 2), .ref (oq 3), .ref (oq 4)])), (oq 2, .inl (cI, 600, .inl w77)), (oq 3, .inl (cI, 600, .inl w78)), (oq 4, .inl (cI, 600, .inl w79)), (oq 5, .inr (8, [tx, .int zl, .int ta, .int be, .int ki, .int nu, .int wo]))]) hP hD [0, 1, 2, 3, 4, 5, 6, 7] [] rfl rfl (by decide) (by decide) hk1 hFc hP1 hD1
    have hP : va_P D vwCl [(oq 0, .inr (6, gPs oq w63 w64 w65 w66 w67 w68 w69 w70 w71 (nI w72) (nI w73))), (oq 6, .inl (cI, 5, .inl w74)), (oq 7, .inl (cI, 600, .inl w75)), (oq 1, .inr (7, [.int (nI w76), .ref (oq 2), .ref (oq 3), .ref (oq 4)])), (oq 2, .inl (cI, 600, .inl w77)), (oq 3, .inl (cI, 600, .inl w78)), (oq 4, .inl (cI, 600, .inl w79)), (oq 5, .inr (8, [tx, .int zl, .int ta, .int be, .int ki, .int nu, .int wo]))] H := hP
    have hD : va_D A [(oq 0, .inr (6, gPs oq w63 w64 w65 w66 w67 w68 w69 w70 w71 (nI w72) (nI w73))), (oq 6, .inl (cI, 5, .inl w74)), (oq 7, .inl (cI, 600, .inl w75)), (oq 1, .inr (7, [.int (nI w76), .ref (oq 2), .ref (oq 3), .ref (oq 4)])), (oq 2, .inl (cI, 600, .inl w77)), (oq 3, .inl (cI, 600, .inl w78)), (oq 4, .inl (cI, 600, .inl w79)), (oq 5, .inr (8, [tx, .int zl, .int ta, .int be, .int ki, .int nu, .int wo]))] := hD
    try dsimp only at hw
    clear hz1 hk1 hFc hPc hKc hDc
    obtain ⟨hx80_1, hx80_2, hx80_3⟩ := hw
    refine lv_goto (tgt := 85) hx hb dX6_accept_69 (by decide) ?_
    exact W.vret hx hb hr (fun t ht hW => ⟨⟨(w63, w64, w65, w66, w67, w68, w69, w70, w71, w72, w73, w74, w75, w76, w77, w78, w79), rfl, (by (try dsimp only); first | done | exact ⟨by omega, by omega, by omega⟩), by rw [ht]; exact hP.sub [0, 1, 2, 3, 4, 5, 6, 7] rfl, va_K.moved hW.alike (hK.sub [0] rfl), hD.sub [0, 1, 2, 3, 4, 5, 6, 7] (by decide) rfl⟩, hS.F ht⟩) hS.2.2 dX6_accept_85
  by_cases hs81 : qs = 4
  ·
    subst hs81
    refine lv_tableIn (off := 68) (tgt := 72) hx hb dX6_accept_4 (by decide) (by decide) (by decide +kernel) (by decide) ?_
    refine lv_aload_n hx hb dX6_accept_72 rfl (lv_at hl 0 rfl) ?_
    refine lv_iload_n hx hb dX6_accept_73 rfl (lv_at hl 1 rfl) ?_
    have hPc := hP.sub (ws' := [(oq 0, .inr (6, gPs oq qf qp qd 4 qt qb qh qr qn (nI bk) (nI wz))), (oq 6, .inl (cI, 5, .inl fO)), (oq 7, .inl (cI, 600, .inl fW)), (oq 1, .inr (7, [.int (nI pz), .ref (oq 2), .ref (oq 3), .ref (oq 4)])), (oq 2, .inl (cI, 600, .inl fK)), (oq 3, .inl (cI, 600, .inl fN)), (oq 4, .inl (cI, 600, .inl fL)), (oq 5, .inr (8, [tx, .int zl, .int ta, .int be, .int ki, .int nu, .int wo]))]) [0, 1, 2, 3, 4, 5, 6, 7] rfl
    have hKc := hK.sub (tys' := [(cI, .int)]) [0] rfl
    have hDc := hD.sub (ws' := [(oq 0, .inr (6, gPs oq qf qp qd 4 qt qb qh qr qn (nI bk) (nI wz))), (oq 6, .inl (cI, 5, .inl fO)), (oq 7, .inl (cI, 600, .inl fW)), (oq 1, .inr (7, [.int (nI pz), .ref (oq 2), .ref (oq 3), .ref (oq 4)])), (oq 2, .inl (cI, 600, .inl fK)), (oq 3, .inl (cI, 600, .inl fN)), (oq 4, .inl (cI, 600, .inl fL)), (oq 5, .inr (8, [tx, .int zl, .int ta, .int be, .int ki, .int nu, .int wo]))]) [0, 1, 2, 3, 4, 5, 6, 7] (by decide) rfl
    have hFc := va_free (wc := [(oq 0, .inr (6, gPs oq qf qp qd 4 qt qb qh qr qn (nI bk) (nI wz))), (oq 6, .inl (cI, 5, .inl fO)), (oq 7, .inl (cI, 600, .inl fW)), (oq 1, .inr (7, [.int (nI pz), .ref (oq 2), .ref (oq 3), .ref (oq 4)])), (oq 2, .inl (cI, 600, .inl fK)), (oq 3, .inl (cI, 600, .inl fN)), (oq 4, .inl (cI, 600, .inl fL)), (oq 5, .inr (8, [tx, .int zl, .int ta, .int be, .int ki, .int nu, .int wo]))]) hD hS hA [0, 1, 2, 3, 4, 5, 6, 7] rfl
    refine va_callv (va_runV (As := [.int z1]) (rest := []) ⟨hx, hb, hml, hown, hts⟩ (k_aOpening l D _ oq cI qf qp qd 4 qt qb qh qr qn bk wz fO fW pz fK fN fL tx zl ta be ki nu wo z1 hbk hwz hpz) (cwV 1 hts g_k_accept_k_aOpening_94 rfl rfl rfl (by decide +kernel) ⟨(Nat.le_of_ble_eq_true rfl), (Nat.le_of_ble_eq_true rfl)⟩) (PcWC_V (q0 := 0) hPc hKc hDc hN rfl rfl) rfl rfl hl.1 rfl (lv_room (Nat.le_of_ble_eq_true rfl)) dX6_accept_74 ⟨(Nat.le_of_ble_eq_true rfl), (Nat.le_of_ble_eq_true rfl)⟩) hS (fun q _ h => hFc q h) hFc (fun uu tt H locs htt hvm hw hB hz1 hk1 hS => ?_)
    obtain ⟨w83, w84, w85, w86, w87, w88, w89, w90, w91, w92, w93, w94, w95, w96, w97, w98, w99⟩ := uu
    obtain ⟨hP1, hK1, hD1⟩ := hB
    rw [htt] at hP1
    have hK1 := va_K.moved hvm.symm hK1
    have hP1 : va_P D vwCl [(oq 0, .inr (6, gPs oq w83 w84 w85 w86 w87 w88 w89 w90 w91 (nI w92) (nI w93))), (oq 6, .inl (cI, 5, .inl w94)), (oq 7, .inl (cI, 600, .inl w95)), (oq 1, .inr (7, [.int (nI w96), .ref (oq 2), .ref (oq 3), .ref (oq 4)])), (oq 2, .inl (cI, 600, .inl w97)), (oq 3, .inl (cI, 600, .inl w98)), (oq 4, .inl (cI, 600, .inl w99)), (oq 5, .inr (8, [tx, .int zl, .int ta, .int be, .int ki, .int nu, .int wo]))] H := hP1
    obtain ⟨hP, hD⟩ := va_join (wr := []) (w1 := [(oq 0, .inr (6, gPs oq w83 w84 w85 w86 w87 w88 w89 w90 w91 (nI w92) (nI w93))), (oq 6, .inl (cI, 5, .inl w94)), (oq 7, .inl (cI, 600, .inl w95)), (oq 1, .inr (7, [.int (nI w96), .ref (oq 2), .ref (oq 3), .ref (oq 4)])), (oq 2, .inl (cI, 600, .inl w97)), (oq 3, .inl (cI, 600, .inl w98)), (oq 4, .inl (cI, 600, .inl w99)), (oq 5, .inr (8, [tx, .int zl, .int ta, .int be, .int ki, .int nu, .int wo]))]) hP hD [0, 1, 2, 3, 4, 5, 6, 7] [] rfl rfl (by decide) (by decide) hk1 hFc hP1 hD1
    have hP : va_P D vwCl [(oq 0, .inr (6, gPs oq w83 w84 w85 w86 w87 w88 w89 w90 w91 (nI w92) (nI w93))), (oq 6, .inl (cI, 5, .inl w94)), (oq 7, .inl (cI, 600, .inl w95)), (oq 1, .inr (7, [.int (nI w96), .ref (oq 2), .ref (oq 3), .ref (oq 4)])), (oq 2, .inl (cI, 600, .inl w97)), (oq 3, .inl (cI, 600, .inl w98)), (oq 4, .inl (cI, 600, .inl w99)), (oq 5, .inr (8, [tx, .int zl, .int ta, .int be, .int ki, .int nu, .int wo]))] H := hP
    have hD : va_D A [(oq 0, .inr (6, gPs oq w83 w84 w85 w86 w87 w88 w89 w90 w91 (nI w92) (nI w93))), (oq 6, .inl (cI, 5, .inl w94)), (oq 7, .inl (cI, 600, .inl w95)), (oq 1, .inr (7, [.int (nI w96), .ref (oq 2), .ref (oq 3), .ref (oq 4)])), (oq 2, .inl (cI, 600, .inl w97)), (oq 3, .inl (cI, 600, .inl w98)), (oq 4, .inl (cI, 600, .inl w99)), (oq 5, .inr (8, [tx, .int zl, .int ta, .int be, .int ki, .int nu, .int wo]))] := hD
    try dsimp only at hw
    clear hz1 hk1 hFc hPc hKc hDc
    obtain ⟨hx100_1, hx100_2, hx100_3⟩ := hw
    refine lv_goto (tgt := 85) hx hb dX6_accept_77 (by decide) ?_
    exact W.vret hx hb hr (fun t ht hW => ⟨⟨(w83, w84, w85, w86, w87, w88, w89, w90, w91, w92, w93, w94, w95, w96, w97, w98, w99), rfl, (by (try dsimp only); first | done | exact ⟨by omega, by omega, by omega⟩), by rw [ht]; exact hP.sub [0, 1, 2, 3, 4, 5, 6, 7] rfl, va_K.moved hW.alike (hK.sub [0] rfl), hD.sub [0, 1, 2, 3, 4, 5, 6, 7] (by decide) rfl⟩, hS.F ht⟩) hS.2.2 dX6_accept_85
  refine lv_tableOut (tgt := 80) hx hb dX6_accept_4 (by have a0 := sw_ne (n := 0) hs1 (by decide) (by decide); have a1 := sw_ne (n := 1) hs21 (by decide) (by decide); have a2 := sw_ne (n := 2) hs41 (by decide) (by decide); have a3 := sw_ne (n := 3) hs61 (by decide) (by decide); have a4 := sw_ne (n := 4) hs81 (by decide) (by decide); omega) (by decide) ?_
  refine lv_aload_n hx hb dX6_accept_80 rfl (lv_at hl 0 rfl) ?_
  refine lv_iload_n hx hb dX6_accept_81 rfl (lv_at hl 1 rfl) ?_
  have hPc := hP.sub (ws' := [(oq 0, .inr (6, gPs oq qf qp qd qs qt qb qh qr qn (nI bk) (nI wz))), (oq 6, .inl (cI, 5, .inl fO)), (oq 7, .inl (cI, 600, .inl fW)), (oq 1, .inr (7, [.int (nI pz), .ref (oq 2), .ref (oq 3), .ref (oq 4)])), (oq 2, .inl (cI, 600, .inl fK)), (oq 3, .inl (cI, 600, .inl fN)), (oq 4, .inl (cI, 600, .inl fL)), (oq 5, .inr (8, [tx, .int zl, .int ta, .int be, .int ki, .int nu, .int wo]))]) [0, 1, 2, 3, 4, 5, 6, 7] rfl
  have hKc := hK.sub (tys' := [(cI, .int)]) [0] rfl
  have hDc := hD.sub (ws' := [(oq 0, .inr (6, gPs oq qf qp qd qs qt qb qh qr qn (nI bk) (nI wz))), (oq 6, .inl (cI, 5, .inl fO)), (oq 7, .inl (cI, 600, .inl fW)), (oq 1, .inr (7, [.int (nI pz), .ref (oq 2), .ref (oq 3), .ref (oq 4)])), (oq 2, .inl (cI, 600, .inl fK)), (oq 3, .inl (cI, 600, .inl fN)), (oq 4, .inl (cI, 600, .inl fL)), (oq 5, .inr (8, [tx, .int zl, .int ta, .int be, .int ki, .int nu, .int wo]))]) [0, 1, 2, 3, 4, 5, 6, 7] (by decide) rfl
  have hFc := va_free (wc := [(oq 0, .inr (6, gPs oq qf qp qd qs qt qb qh qr qn (nI bk) (nI wz))), (oq 6, .inl (cI, 5, .inl fO)), (oq 7, .inl (cI, 600, .inl fW)), (oq 1, .inr (7, [.int (nI pz), .ref (oq 2), .ref (oq 3), .ref (oq 4)])), (oq 2, .inl (cI, 600, .inl fK)), (oq 3, .inl (cI, 600, .inl fN)), (oq 4, .inl (cI, 600, .inl fL)), (oq 5, .inr (8, [tx, .int zl, .int ta, .int be, .int ki, .int nu, .int wo]))]) hD hS hA [0, 1, 2, 3, 4, 5, 6, 7] rfl
  refine va_callv (va_runV (As := [.int z1]) (rest := []) ⟨hx, hb, hml, hown, hts⟩ (k_aBehindBlock l D _ oq cI qf qp qd qs qt qb qh qr qn bk wz fO fW pz fK fN fL tx zl ta be ki nu wo z1 hbk hwz hpz) (cwV 1 hts g_k_accept_k_aBehindBlock_97 rfl rfl rfl (by decide +kernel) ⟨(Nat.le_of_ble_eq_true rfl), (Nat.le_of_ble_eq_true rfl)⟩) (PcWC_V (q0 := 0) hPc hKc hDc hN rfl rfl) rfl rfl hl.1 rfl (lv_room (Nat.le_of_ble_eq_true rfl)) dX6_accept_82 ⟨(Nat.le_of_ble_eq_true rfl), (Nat.le_of_ble_eq_true rfl)⟩) hS (fun q _ h => hFc q h) hFc (fun uu tt H locs htt hvm hw hB hz1 hk1 hS => ?_)
  obtain ⟨w102, w103, w104, w105, w106, w107, w108, w109, w110, w111, w112, w113, w114, w115, w116, w117, w118⟩ := uu
  obtain ⟨hP1, hK1, hD1⟩ := hB
  rw [htt] at hP1
  have hK1 := va_K.moved hvm.symm hK1
  have hP1 : va_P D vwCl [(oq 0, .inr (6, gPs oq w102 w103 w104 w105 w106 w107 w108 w109 w110 (nI w111) (nI w112))), (oq 6, .inl (cI, 5, .inl w113)), (oq 7, .inl (cI, 600, .inl w114)), (oq 1, .inr (7, [.int (nI w115), .ref (oq 2), .ref (oq 3), .ref (oq 4)])), (oq 2, .inl (cI, 600, .inl w116)), (oq 3, .inl (cI, 600, .inl w117)), (oq 4, .inl (cI, 600, .inl w118)), (oq 5, .inr (8, [tx, .int zl, .int ta, .int be, .int ki, .int nu, .int wo]))] H := hP1
  obtain ⟨hP, hD⟩ := va_join (wr := []) (w1 := [(oq 0, .inr (6, gPs oq w102 w103 w104 w105 w106 w107 w108 w109 w110 (nI w111) (nI w112))), (oq 6, .inl (cI, 5, .inl w113)), (oq 7, .inl (cI, 600, .inl w114)), (oq 1, .inr (7, [.int (nI w115), .ref (oq 2), .ref (oq 3), .ref (oq 4)])), (oq 2, .inl (cI, 600, .inl w116)), (oq 3, .inl (cI, 600, .inl w117)), (oq 4, .inl (cI, 600, .inl w118)), (oq 5, .inr (8, [tx, .int zl, .int ta, .int be, .int ki, .int nu, .int wo]))]) hP hD [0, 1, 2, 3, 4, 5, 6, 7] [] rfl rfl (by decide) (by decide) hk1 hFc hP1 hD1
  have hP : va_P D vwCl [(oq 0, .inr (6, gPs oq w102 w103 w104 w105 w106 w107 w108 w109 w110 (nI w111) (nI w112))), (oq 6, .inl (cI, 5, .inl w113)), (oq 7, .inl (cI, 600, .inl w114)), (oq 1, .inr (7, [.int (nI w115), .ref (oq 2), .ref (oq 3), .ref (oq 4)])), (oq 2, .inl (cI, 600, .inl w116)), (oq 3, .inl (cI, 600, .inl w117)), (oq 4, .inl (cI, 600, .inl w118)), (oq 5, .inr (8, [tx, .int zl, .int ta, .int be, .int ki, .int nu, .int wo]))] H := hP
  have hD : va_D A [(oq 0, .inr (6, gPs oq w102 w103 w104 w105 w106 w107 w108 w109 w110 (nI w111) (nI w112))), (oq 6, .inl (cI, 5, .inl w113)), (oq 7, .inl (cI, 600, .inl w114)), (oq 1, .inr (7, [.int (nI w115), .ref (oq 2), .ref (oq 3), .ref (oq 4)])), (oq 2, .inl (cI, 600, .inl w116)), (oq 3, .inl (cI, 600, .inl w117)), (oq 4, .inl (cI, 600, .inl w118)), (oq 5, .inr (8, [tx, .int zl, .int ta, .int be, .int ki, .int nu, .int wo]))] := hD
  try dsimp only at hw
  clear hz1 hk1 hFc hPc hKc hDc
  obtain ⟨hx119_1, hx119_2, hx119_3⟩ := hw
  exact W.vret hx hb hr (fun t ht hW => ⟨⟨(w102, w103, w104, w105, w106, w107, w108, w109, w110, w111, w112, w113, w114, w115, w116, w117, w118), rfl, (by (try dsimp only); first | done | exact ⟨by omega, by omega, by omega⟩), by rw [ht]; exact hP.sub [0, 1, 2, 3, 4, 5, 6, 7] rfl, va_K.moved hW.alike (hK.sub [0] rfl), hD.sub [0, 1, 2, 3, 4, 5, 6, 7] (by decide) rfl⟩, hS.F ht⟩) hS.2.2 dX6_accept_85

