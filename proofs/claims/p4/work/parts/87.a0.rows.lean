theorem dX6_note_0 : decode cX6_note 0 = .ok (.aload_n 0, 1) := by decide +kernel
theorem dX6_note_1 : decode cX6_note 1 = .ok (.getfield 32, 3) := by decide +kernel
theorem dX6_note_4 : decode cX6_note 4 = .ok (.ifCond .eq 27, 3) := by decide +kernel
theorem dX6_note_7 : decode cX6_note 7 = .ok (.iload_n 2, 1) := by decide +kernel
theorem dX6_note_8 : decode cX6_note 8 = .ok (.aload_n 0, 1) := by decide +kernel
theorem dX6_note_9 : decode cX6_note 9 = .ok (.getfield 73, 3) := by decide +kernel
theorem dX6_note_12 : decode cX6_note 12 = .ok (.if_icmp .lt 19, 3) := by decide +kernel
theorem dX6_note_15 : decode cX6_note 15 = .ok (.iload_n 2, 1) := by decide +kernel
theorem dX6_note_16 : decode cX6_note 16 = .ok (.aload_n 0, 1) := by decide +kernel
theorem dX6_note_17 : decode cX6_note 17 = .ok (.getfield 73, 3) := by decide +kernel
theorem dX6_note_20 : decode cX6_note 20 = .ok (.if_icmp .ne 29, 3) := by decide +kernel
theorem dX6_note_23 : decode cX6_note 23 = .ok (.iload_n 1, 1) := by decide +kernel
theorem dX6_note_24 : decode cX6_note 24 = .ok (.aload_n 0, 1) := by decide +kernel
theorem dX6_note_25 : decode cX6_note 25 = .ok (.getfield 32, 3) := by decide +kernel
theorem dX6_note_28 : decode cX6_note 28 = .ok (.if_icmp .ge 21, 3) := by decide +kernel
theorem dX6_note_31 : decode cX6_note 31 = .ok (.aload_n 0, 1) := by decide +kernel
theorem dX6_note_32 : decode cX6_note 32 = .ok (.iload_n 1, 1) := by decide +kernel
theorem dX6_note_33 : decode cX6_note 33 = .ok (.putfield 32, 3) := by decide +kernel
theorem dX6_note_36 : decode cX6_note 36 = .ok (.aload_n 0, 1) := by decide +kernel
theorem dX6_note_37 : decode cX6_note 37 = .ok (.iload_n 2, 1) := by decide +kernel
theorem dX6_note_38 : decode cX6_note 38 = .ok (.putfield 73, 3) := by decide +kernel
theorem dX6_note_41 : decode cX6_note 41 = .ok (.aload_n 0, 1) := by decide +kernel
theorem dX6_note_42 : decode cX6_note 42 = .ok (.aload_n 0, 1) := by decide +kernel
theorem dX6_note_43 : decode cX6_note 43 = .ok (.getfield 49, 3) := by decide +kernel
theorem dX6_note_46 : decode cX6_note 46 = .ok (.putfield 76, 3) := by decide +kernel
theorem dX6_note_49 : decode cX6_note 49 = .ok (.return_, 1) := by decide +kernel
theorem dX6_refuse_0 : decode cX6_refuse 0 = .ok (.aload_n 0, 1) := by decide +kernel
theorem dX6_refuse_1 : decode cX6_refuse 1 = .ok (.iconst 1, 1) := by decide +kernel
theorem dX6_refuse_2 : decode cX6_refuse 2 = .ok (.aload_n 0, 1) := by decide +kernel
theorem dX6_refuse_3 : decode cX6_refuse 3 = .ok (.getfield 21, 3) := by decide +kernel
theorem dX6_refuse_6 : decode cX6_refuse 6 = .ok (.getfield 79, 3) := by decide +kernel
theorem dX6_refuse_9 : decode cX6_refuse 9 = .ok (.invokevirtual 55, 3) := by decide +kernel
theorem dX6_refuse_12 : decode cX6_refuse 12 = .ok (.aload_n 0, 1) := by decide +kernel
theorem dX6_refuse_13 : decode cX6_refuse 13 = .ok (.iconst 0, 1) := by decide +kernel
theorem dX6_refuse_14 : decode cX6_refuse 14 = .ok (.putfield 42, 3) := by decide +kernel
theorem dX6_refuse_17 : decode cX6_refuse 17 = .ok (.return_, 1) := by decide +kernel
theorem dX6_accept_0 : decode cX6_accept 0 = .ok (.aload_n 0, 1) := by decide +kernel
theorem dX6_accept_1 : decode cX6_accept 1 = .ok (.getfield 39, 3) := by decide +kernel
theorem dX6_accept_4 : decode cX6_accept 4 = .ok (.tableswitch 76 0 4 #[36, 44, 52, 60, 68], 36) := by decide +kernel
theorem dX6_accept_40 : decode cX6_accept 40 = .ok (.aload_n 0, 1) := by decide +kernel
theorem dX6_accept_41 : decode cX6_accept 41 = .ok (.iload_n 1, 1) := by decide +kernel
theorem dX6_accept_42 : decode cX6_accept 42 = .ok (.invokevirtual 82, 3) := by decide +kernel
theorem dX6_accept_45 : decode cX6_accept 45 = .ok (.goto 40, 3) := by decide +kernel
theorem dX6_accept_48 : decode cX6_accept 48 = .ok (.aload_n 0, 1) := by decide +kernel
theorem dX6_accept_49 : decode cX6_accept 49 = .ok (.iload_n 1, 1) := by decide +kernel
theorem dX6_accept_50 : decode cX6_accept 50 = .ok (.invokevirtual 85, 3) := by decide +kernel
theorem dX6_accept_53 : decode cX6_accept 53 = .ok (.goto 32, 3) := by decide +kernel
theorem dX6_accept_56 : decode cX6_accept 56 = .ok (.aload_n 0, 1) := by decide +kernel
theorem dX6_accept_57 : decode cX6_accept 57 = .ok (.iload_n 1, 1) := by decide +kernel
theorem dX6_accept_58 : decode cX6_accept 58 = .ok (.invokevirtual 88, 3) := by decide +kernel
theorem dX6_accept_61 : decode cX6_accept 61 = .ok (.goto 24, 3) := by decide +kernel
theorem dX6_accept_64 : decode cX6_accept 64 = .ok (.aload_n 0, 1) := by decide +kernel
theorem dX6_accept_65 : decode cX6_accept 65 = .ok (.iload_n 1, 1) := by decide +kernel
theorem dX6_accept_66 : decode cX6_accept 66 = .ok (.invokevirtual 91, 3) := by decide +kernel
theorem dX6_accept_69 : decode cX6_accept 69 = .ok (.goto 16, 3) := by decide +kernel
theorem dX6_accept_72 : decode cX6_accept 72 = .ok (.aload_n 0, 1) := by decide +kernel
theorem dX6_accept_73 : decode cX6_accept 73 = .ok (.iload_n 1, 1) := by decide +kernel
theorem dX6_accept_74 : decode cX6_accept 74 = .ok (.invokevirtual 94, 3) := by decide +kernel
theorem dX6_accept_77 : decode cX6_accept 77 = .ok (.goto 8, 3) := by decide +kernel
theorem dX6_accept_80 : decode cX6_accept 80 = .ok (.aload_n 0, 1) := by decide +kernel
theorem dX6_accept_81 : decode cX6_accept 81 = .ok (.iload_n 1, 1) := by decide +kernel
theorem dX6_accept_82 : decode cX6_accept 82 = .ok (.invokevirtual 97, 3) := by decide +kernel
theorem dX6_accept_85 : decode cX6_accept 85 = .ok (.return_, 1) := by decide +kernel
theorem dX6_acceptStatement_0 : decode cX6_acceptStatement 0 = .ok (.aload_n 0, 1) := by decide +kernel
theorem dX6_acceptStatement_1 : decode cX6_acceptStatement 1 = .ok (.aload_n 0, 1) := by decide +kernel
theorem dX6_acceptStatement_2 : decode cX6_acceptStatement 2 = .ok (.getfield 21, 3) := by decide +kernel
theorem dX6_acceptStatement_5 : decode cX6_acceptStatement 5 = .ok (.getfield 79, 3) := by decide +kernel
theorem dX6_acceptStatement_8 : decode cX6_acceptStatement 8 = .ok (.putfield 100, 3) := by decide +kernel
theorem dX6_acceptStatement_11 : decode cX6_acceptStatement 11 = .ok (.aload_n 0, 1) := by decide +kernel
theorem dX6_acceptStatement_12 : decode cX6_acceptStatement 12 = .ok (.iload_n 1, 1) := by decide +kernel
theorem dX6_acceptStatement_13 : decode cX6_acceptStatement 13 = .ok (.putfield 103, 3) := by decide +kernel
theorem dX6_acceptStatement_16 : decode cX6_acceptStatement 16 = .ok (.iload_n 1, 1) := by decide +kernel
theorem dX6_acceptStatement_17 : decode cX6_acceptStatement 17 = .ok (.tableswitch 77 3 9 #[43, 77, 43, 43, 43, 64, 51], 43) := by decide +kernel
theorem dX6_acceptStatement_60 : decode cX6_acceptStatement 60 = .ok (.aload_n 0, 1) := by decide +kernel
theorem dX6_acceptStatement_61 : decode cX6_acceptStatement 61 = .ok (.iconst 1, 1) := by decide +kernel
theorem dX6_acceptStatement_62 : decode cX6_acceptStatement 62 = .ok (.putfield 39, 3) := by decide +kernel
theorem dX6_acceptStatement_65 : decode cX6_acceptStatement 65 = .ok (.goto 34, 3) := by decide +kernel
theorem dX6_acceptStatement_68 : decode cX6_acceptStatement 68 = .ok (.aload_n 0, 1) := by decide +kernel
theorem dX6_acceptStatement_69 : decode cX6_acceptStatement 69 = .ok (.iconst 1, 1) := by decide +kernel
theorem dX6_acceptStatement_70 : decode cX6_acceptStatement 70 = .ok (.putfield 42, 3) := by decide +kernel
theorem dX6_acceptStatement_73 : decode cX6_acceptStatement 73 = .ok (.aload_n 0, 1) := by decide +kernel
theorem dX6_acceptStatement_74 : decode cX6_acceptStatement 74 = .ok (.iconst 1, 1) := by decide +kernel
theorem dX6_acceptStatement_75 : decode cX6_acceptStatement 75 = .ok (.putfield 39, 3) := by decide +kernel
theorem dX6_acceptStatement_78 : decode cX6_acceptStatement 78 = .ok (.goto 21, 3) := by decide +kernel
theorem dX6_acceptStatement_81 : decode cX6_acceptStatement 81 = .ok (.aload_n 0, 1) := by decide +kernel
theorem dX6_acceptStatement_82 : decode cX6_acceptStatement 82 = .ok (.iconst 1, 1) := by decide +kernel
theorem dX6_acceptStatement_83 : decode cX6_acceptStatement 83 = .ok (.putfield 42, 3) := by decide +kernel
theorem dX6_acceptStatement_86 : decode cX6_acceptStatement 86 = .ok (.aload_n 0, 1) := by decide +kernel
theorem dX6_acceptStatement_87 : decode cX6_acceptStatement 87 = .ok (.iconst 3, 1) := by decide +kernel
theorem dX6_acceptStatement_88 : decode cX6_acceptStatement 88 = .ok (.putfield 39, 3) := by decide +kernel
theorem dX6_acceptStatement_91 : decode cX6_acceptStatement 91 = .ok (.goto 8, 3) := by decide +kernel
theorem dX6_acceptStatement_94 : decode cX6_acceptStatement 94 = .ok (.aload_n 0, 1) := by decide +kernel
theorem dX6_acceptStatement_95 : decode cX6_acceptStatement 95 = .ok (.iload_n 1, 1) := by decide +kernel
theorem dX6_acceptStatement_96 : decode cX6_acceptStatement 96 = .ok (.invokevirtual 106, 3) := by decide +kernel
theorem dX6_acceptStatement_99 : decode cX6_acceptStatement 99 = .ok (.return_, 1) := by decide +kernel
theorem dX6_acceptEnd_0 : decode cX6_acceptEnd 0 = .ok (.iload_n 1, 1) := by decide +kernel
theorem dX6_acceptEnd_1 : decode cX6_acceptEnd 1 = .ok (.bipush 93, 2) := by decide +kernel
theorem dX6_acceptEnd_3 : decode cX6_acceptEnd 3 = .ok (.if_icmp .ne 17, 3) := by decide +kernel
theorem dX6_acceptEnd_6 : decode cX6_acceptEnd 6 = .ok (.aload_n 0, 1) := by decide +kernel
theorem dX6_acceptEnd_7 : decode cX6_acceptEnd 7 = .ok (.getfield 49, 3) := by decide +kernel
theorem dX6_acceptEnd_10 : decode cX6_acceptEnd 10 = .ok (.ifCond .le 10, 3) := by decide +kernel
theorem dX6_acceptEnd_13 : decode cX6_acceptEnd 13 = .ok (.aload_n 0, 1) := by decide +kernel
theorem dX6_acceptEnd_14 : decode cX6_acceptEnd 14 = .ok (.invokevirtual 109, 3) := by decide +kernel
theorem dX6_acceptEnd_17 : decode cX6_acceptEnd 17 = .ok (.goto 27, 3) := by decide +kernel
theorem dX6_acceptEnd_20 : decode cX6_acceptEnd 20 = .ok (.iload_n 1, 1) := by decide +kernel
theorem dX6_acceptEnd_21 : decode cX6_acceptEnd 21 = .ok (.ifCond .ne 19, 3) := by decide +kernel
theorem dX6_acceptEnd_24 : decode cX6_acceptEnd 24 = .ok (.aload_n 0, 1) := by decide +kernel
theorem dX6_acceptEnd_25 : decode cX6_acceptEnd 25 = .ok (.getfield 49, 3) := by decide +kernel
theorem dX6_acceptEnd_28 : decode cX6_acceptEnd 28 = .ok (.ifCond .ne 12, 3) := by decide +kernel
theorem dX6_acceptEnd_31 : decode cX6_acceptEnd 31 = .ok (.aload_n 0, 1) := by decide +kernel
theorem dX6_acceptEnd_32 : decode cX6_acceptEnd 32 = .ok (.bipush 6, 2) := by decide +kernel
theorem dX6_acceptEnd_34 : decode cX6_acceptEnd 34 = .ok (.putfield 39, 3) := by decide +kernel
theorem dX6_acceptEnd_37 : decode cX6_acceptEnd 37 = .ok (.goto 7, 3) := by decide +kernel
theorem dX6_acceptEnd_40 : decode cX6_acceptEnd 40 = .ok (.aload_n 0, 1) := by decide +kernel
theorem dX6_acceptEnd_41 : decode cX6_acceptEnd 41 = .ok (.invokevirtual 112, 3) := by decide +kernel
theorem dX6_acceptEnd_44 : decode cX6_acceptEnd 44 = .ok (.return_, 1) := by decide +kernel
theorem dX6_acceptUnit_0 : decode cX6_acceptUnit 0 = .ok (.iload_n 1, 1) := by decide +kernel
theorem dX6_acceptUnit_1 : decode cX6_acceptUnit 1 = .ok (.lookupswitch 105 #[(2, 43), (10, 43), (11, 43), (40, 66)], 43) := by decide +kernel
theorem dX6_acceptUnit_44 : decode cX6_acceptUnit 44 = .ok (.aload_n 0, 1) := by decide +kernel
theorem dX6_acceptUnit_45 : decode cX6_acceptUnit 45 = .ok (.getfield 12, 3) := by decide +kernel
theorem dX6_acceptUnit_48 : decode cX6_acceptUnit 48 = .ok (.iload_n 1, 1) := by decide +kernel
theorem dX6_acceptUnit_49 : decode cX6_acceptUnit 49 = .ok (.aload_n 0, 1) := by decide +kernel
theorem dX6_acceptUnit_50 : decode cX6_acceptUnit 50 = .ok (.getfield 21, 3) := by decide +kernel
theorem dX6_acceptUnit_53 : decode cX6_acceptUnit 53 = .ok (.getfield 115, 3) := by decide +kernel
theorem dX6_acceptUnit_56 : decode cX6_acceptUnit 56 = .ok (.invokevirtual 118, 3) := by decide +kernel
theorem dX6_acceptUnit_59 : decode cX6_acceptUnit 59 = .ok (.aload_n 0, 1) := by decide +kernel
theorem dX6_acceptUnit_60 : decode cX6_acceptUnit 60 = .ok (.iconst 2, 1) := by decide +kernel
theorem dX6_acceptUnit_61 : decode cX6_acceptUnit 61 = .ok (.putfield 39, 3) := by decide +kernel
theorem dX6_acceptUnit_64 : decode cX6_acceptUnit 64 = .ok (.goto 46, 3) := by decide +kernel
theorem dX6_acceptUnit_67 : decode cX6_acceptUnit 67 = .ok (.aload_n 0, 1) := by decide +kernel
theorem dX6_acceptUnit_68 : decode cX6_acceptUnit 68 = .ok (.dup, 1) := by decide +kernel
theorem dX6_acceptUnit_69 : decode cX6_acceptUnit 69 = .ok (.getfield 46, 3) := by decide +kernel
theorem dX6_acceptUnit_72 : decode cX6_acceptUnit 72 = .ok (.iconst 1, 1) := by decide +kernel
theorem dX6_acceptUnit_73 : decode cX6_acceptUnit 73 = .ok (.iadd, 1) := by decide +kernel
theorem dX6_acceptUnit_74 : decode cX6_acceptUnit 74 = .ok (.putfield 46, 3) := by decide +kernel
theorem dX6_acceptUnit_77 : decode cX6_acceptUnit 77 = .ok (.aload_n 0, 1) := by decide +kernel
theorem dX6_acceptUnit_78 : decode cX6_acceptUnit 78 = .ok (.getfield 46, 3) := by decide +kernel
theorem dX6_acceptUnit_81 : decode cX6_acceptUnit 81 = .ok (.bipush 8, 2) := by decide +kernel
theorem dX6_acceptUnit_83 : decode cX6_acceptUnit 83 = .ok (.if_icmp .le 15, 3) := by decide +kernel
theorem dX6_acceptUnit_86 : decode cX6_acceptUnit 86 = .ok (.aload_n 0, 1) := by decide +kernel
theorem dX6_acceptUnit_87 : decode cX6_acceptUnit 87 = .ok (.iconst 3, 1) := by decide +kernel
theorem dX6_acceptUnit_88 : decode cX6_acceptUnit 88 = .ok (.aload_n 0, 1) := by decide +kernel
theorem dX6_acceptUnit_89 : decode cX6_acceptUnit 89 = .ok (.getfield 21, 3) := by decide +kernel
theorem dX6_acceptUnit_92 : decode cX6_acceptUnit 92 = .ok (.getfield 79, 3) := by decide +kernel
theorem dX6_acceptUnit_95 : decode cX6_acceptUnit 95 = .ok (.invokevirtual 55, 3) := by decide +kernel
theorem dX6_acceptUnit_98 : decode cX6_acceptUnit 98 = .ok (.aload_n 0, 1) := by decide +kernel
theorem dX6_acceptUnit_99 : decode cX6_acceptUnit 99 = .ok (.iload_n 1, 1) := by decide +kernel
theorem dX6_acceptUnit_100 : decode cX6_acceptUnit 100 = .ok (.invokevirtual 121, 3) := by decide +kernel
theorem dX6_acceptUnit_103 : decode cX6_acceptUnit 103 = .ok (.goto 7, 3) := by decide +kernel
theorem dX6_acceptUnit_106 : decode cX6_acceptUnit 106 = .ok (.aload_n 0, 1) := by decide +kernel
theorem dX6_acceptUnit_107 : decode cX6_acceptUnit 107 = .ok (.invokevirtual 112, 3) := by decide +kernel
theorem dX6_acceptUnit_110 : decode cX6_acceptUnit 110 = .ok (.return_, 1) := by decide +kernel
theorem dX6_acceptBehindUnit_0 : decode cX6_acceptBehindUnit 0 = .ok (.iload_n 1, 1) := by decide +kernel
theorem dX6_acceptBehindUnit_1 : decode cX6_acceptBehindUnit 1 = .ok (.invokestatic 124, 3) := by decide +kernel
theorem dX6_acceptBehindUnit_4 : decode cX6_acceptBehindUnit 4 = .ok (.ifCond .le 24, 3) := by decide +kernel
theorem dX6_acceptBehindUnit_7 : decode cX6_acceptBehindUnit 7 = .ok (.aload_n 0, 1) := by decide +kernel
theorem dX6_acceptBehindUnit_8 : decode cX6_acceptBehindUnit 8 = .ok (.iload_n 1, 1) := by decide +kernel
theorem dX6_acceptBehindUnit_9 : decode cX6_acceptBehindUnit 9 = .ok (.invokestatic 124, 3) := by decide +kernel
theorem dX6_acceptBehindUnit_12 : decode cX6_acceptBehindUnit 12 = .ok (.invokevirtual 128, 3) := by decide +kernel
theorem dX6_acceptBehindUnit_15 : decode cX6_acceptBehindUnit 15 = .ok (.aload_n 0, 1) := by decide +kernel
theorem dX6_acceptBehindUnit_16 : decode cX6_acceptBehindUnit 16 = .ok (.iload_n 1, 1) := by decide +kernel
theorem dX6_acceptBehindUnit_17 : decode cX6_acceptBehindUnit 17 = .ok (.invokevirtual 121, 3) := by decide +kernel
theorem dX6_acceptBehindUnit_20 : decode cX6_acceptBehindUnit 20 = .ok (.aload_n 0, 1) := by decide +kernel
theorem dX6_acceptBehindUnit_21 : decode cX6_acceptBehindUnit 21 = .ok (.iconst 1, 1) := by decide +kernel
theorem dX6_acceptBehindUnit_22 : decode cX6_acceptBehindUnit 22 = .ok (.putfield 39, 3) := by decide +kernel
theorem dX6_acceptBehindUnit_25 : decode cX6_acceptBehindUnit 25 = .ok (.goto 23, 3) := by decide +kernel
theorem dX6_acceptBehindUnit_28 : decode cX6_acceptBehindUnit 28 = .ok (.aload_n 0, 1) := by decide +kernel
theorem dX6_acceptBehindUnit_29 : decode cX6_acceptBehindUnit 29 = .ok (.getfield 46, 3) := by decide +kernel
theorem dX6_acceptBehindUnit_32 : decode cX6_acceptBehindUnit 32 = .ok (.ifCond .le 11, 3) := by decide +kernel
theorem dX6_acceptBehindUnit_35 : decode cX6_acceptBehindUnit 35 = .ok (.aload_n 0, 1) := by decide +kernel
theorem dX6_acceptBehindUnit_36 : decode cX6_acceptBehindUnit 36 = .ok (.iload_n 1, 1) := by decide +kernel
theorem dX6_acceptBehindUnit_37 : decode cX6_acceptBehindUnit 37 = .ok (.invokevirtual 131, 3) := by decide +kernel
theorem dX6_acceptBehindUnit_40 : decode cX6_acceptBehindUnit 40 = .ok (.goto 8, 3) := by decide +kernel
theorem dX6_acceptBehindUnit_43 : decode cX6_acceptBehindUnit 43 = .ok (.aload_n 0, 1) := by decide +kernel
theorem dX6_acceptBehindUnit_44 : decode cX6_acceptBehindUnit 44 = .ok (.iload_n 1, 1) := by decide +kernel
theorem dX6_acceptBehindUnit_45 : decode cX6_acceptBehindUnit 45 = .ok (.invokevirtual 134, 3) := by decide +kernel
theorem dX6_acceptBehindUnit_48 : decode cX6_acceptBehindUnit 48 = .ok (.return_, 1) := by decide +kernel
theorem dX6_acceptClosing_0 : decode cX6_acceptClosing 0 = .ok (.iload_n 1, 1) := by decide +kernel
theorem dX6_acceptClosing_1 : decode cX6_acceptClosing 1 = .ok (.bipush 41, 2) := by decide +kernel
theorem dX6_acceptClosing_3 : decode cX6_acceptClosing 3 = .ok (.if_icmp .eq 8, 3) := by decide +kernel
theorem dX6_acceptClosing_6 : decode cX6_acceptClosing 6 = .ok (.aload_n 0, 1) := by decide +kernel
theorem dX6_acceptClosing_7 : decode cX6_acceptClosing 7 = .ok (.invokevirtual 112, 3) := by decide +kernel
theorem dX6_acceptClosing_10 : decode cX6_acceptClosing 10 = .ok (.return_, 1) := by decide +kernel
theorem dX6_acceptClosing_11 : decode cX6_acceptClosing 11 = .ok (.aload_n 0, 1) := by decide +kernel
theorem dX6_acceptClosing_12 : decode cX6_acceptClosing 12 = .ok (.iconst 1, 1) := by decide +kernel
theorem dX6_acceptClosing_13 : decode cX6_acceptClosing 13 = .ok (.invokevirtual 128, 3) := by decide +kernel
theorem dX6_acceptClosing_16 : decode cX6_acceptClosing 16 = .ok (.aload_n 0, 1) := by decide +kernel
theorem dX6_acceptClosing_17 : decode cX6_acceptClosing 17 = .ok (.dup, 1) := by decide +kernel
theorem dX6_acceptClosing_18 : decode cX6_acceptClosing 18 = .ok (.getfield 46, 3) := by decide +kernel
theorem dX6_acceptClosing_21 : decode cX6_acceptClosing 21 = .ok (.iconst 1, 1) := by decide +kernel
theorem dX6_acceptClosing_22 : decode cX6_acceptClosing 22 = .ok (.isub, 1) := by decide +kernel
theorem dX6_acceptClosing_23 : decode cX6_acceptClosing 23 = .ok (.putfield 46, 3) := by decide +kernel
theorem dX6_acceptClosing_26 : decode cX6_acceptClosing 26 = .ok (.aload_n 0, 1) := by decide +kernel
theorem dX6_acceptClosing_27 : decode cX6_acceptClosing 27 = .ok (.getfield 52, 3) := by decide +kernel
theorem dX6_acceptClosing_30 : decode cX6_acceptClosing 30 = .ok (.ifCond .le 13, 3) := by decide +kernel
theorem dX6_acceptClosing_33 : decode cX6_acceptClosing 33 = .ok (.aload_n 0, 1) := by decide +kernel
theorem dX6_acceptClosing_34 : decode cX6_acceptClosing 34 = .ok (.dup, 1) := by decide +kernel
theorem dX6_acceptClosing_35 : decode cX6_acceptClosing 35 = .ok (.getfield 52, 3) := by decide +kernel
theorem dX6_acceptClosing_38 : decode cX6_acceptClosing 38 = .ok (.iconst 1, 1) := by decide +kernel
theorem dX6_acceptClosing_39 : decode cX6_acceptClosing 39 = .ok (.isub, 1) := by decide +kernel
theorem dX6_acceptClosing_40 : decode cX6_acceptClosing 40 = .ok (.putfield 52, 3) := by decide +kernel
theorem dX6_acceptClosing_43 : decode cX6_acceptClosing 43 = .ok (.return_, 1) := by decide +kernel
theorem dX6_acceptSumEnd_0 : decode cX6_acceptSumEnd 0 = .ok (.aload_n 0, 1) := by decide +kernel
theorem dX6_acceptSumEnd_1 : decode cX6_acceptSumEnd 1 = .ok (.iconst 1, 1) := by decide +kernel
theorem dX6_acceptSumEnd_2 : decode cX6_acceptSumEnd 2 = .ok (.invokevirtual 128, 3) := by decide +kernel
theorem dX6_acceptSumEnd_5 : decode cX6_acceptSumEnd 5 = .ok (.aload_n 0, 1) := by decide +kernel
theorem dX6_acceptSumEnd_6 : decode cX6_acceptSumEnd 6 = .ok (.getfield 103, 3) := by decide +kernel
theorem dX6_acceptSumEnd_9 : decode cX6_acceptSumEnd 9 = .ok (.iconst 3, 1) := by decide +kernel
theorem dX6_acceptSumEnd_10 : decode cX6_acceptSumEnd 10 = .ok (.if_icmp .ne 21, 3) := by decide +kernel
theorem dX6_acceptSumEnd_13 : decode cX6_acceptSumEnd 13 = .ok (.iload_n 1, 1) := by decide +kernel
theorem dX6_acceptSumEnd_14 : decode cX6_acceptSumEnd 14 = .ok (.iconst 4, 1) := by decide +kernel
theorem dX6_acceptSumEnd_15 : decode cX6_acceptSumEnd 15 = .ok (.if_icmp .ne 16, 3) := by decide +kernel
theorem dX6_acceptSumEnd_18 : decode cX6_acceptSumEnd 18 = .ok (.aload_n 0, 1) := by decide +kernel
theorem dX6_acceptSumEnd_19 : decode cX6_acceptSumEnd 19 = .ok (.iconst 4, 1) := by decide +kernel
theorem dX6_acceptSumEnd_20 : decode cX6_acceptSumEnd 20 = .ok (.putfield 103, 3) := by decide +kernel
theorem dX6_acceptSumEnd_23 : decode cX6_acceptSumEnd 23 = .ok (.aload_n 0, 1) := by decide +kernel
theorem dX6_acceptSumEnd_24 : decode cX6_acceptSumEnd 24 = .ok (.iconst 1, 1) := by decide +kernel
theorem dX6_acceptSumEnd_25 : decode cX6_acceptSumEnd 25 = .ok (.putfield 39, 3) := by decide +kernel
theorem dX6_acceptSumEnd_28 : decode cX6_acceptSumEnd 28 = .ok (.goto 87, 3) := by decide +kernel
theorem dX6_acceptSumEnd_31 : decode cX6_acceptSumEnd 31 = .ok (.aload_n 0, 1) := by decide +kernel
theorem dX6_acceptSumEnd_32 : decode cX6_acceptSumEnd 32 = .ok (.getfield 103, 3) := by decide +kernel
theorem dX6_acceptSumEnd_35 : decode cX6_acceptSumEnd 35 = .ok (.bipush 9, 2) := by decide +kernel
theorem dX6_acceptSumEnd_37 : decode cX6_acceptSumEnd 37 = .ok (.if_icmp .ne 19, 3) := by decide +kernel
theorem dX6_acceptSumEnd_40 : decode cX6_acceptSumEnd 40 = .ok (.iload_n 1, 1) := by decide +kernel
theorem dX6_acceptSumEnd_41 : decode cX6_acceptSumEnd 41 = .ok (.bipush 91, 2) := by decide +kernel
theorem dX6_acceptSumEnd_43 : decode cX6_acceptSumEnd 43 = .ok (.if_icmp .ne 13, 3) := by decide +kernel
theorem dX6_acceptSumEnd_46 : decode cX6_acceptSumEnd 46 = .ok (.aload_n 0, 1) := by decide +kernel
theorem dX6_acceptSumEnd_47 : decode cX6_acceptSumEnd 47 = .ok (.bipush 9, 2) := by decide +kernel
theorem dX6_acceptSumEnd_49 : decode cX6_acceptSumEnd 49 = .ok (.iconst 0, 1) := by decide +kernel
theorem dX6_acceptSumEnd_50 : decode cX6_acceptSumEnd 50 = .ok (.invokevirtual 137, 3) := by decide +kernel
theorem dX6_acceptSumEnd_53 : decode cX6_acceptSumEnd 53 = .ok (.goto 62, 3) := by decide +kernel
theorem dX6_acceptSumEnd_56 : decode cX6_acceptSumEnd 56 = .ok (.aload_n 0, 1) := by decide +kernel
theorem dX6_acceptSumEnd_57 : decode cX6_acceptSumEnd 57 = .ok (.getfield 103, 3) := by decide +kernel
theorem dX6_acceptSumEnd_60 : decode cX6_acceptSumEnd 60 = .ok (.iconst 3, 1) := by decide +kernel
theorem dX6_acceptSumEnd_61 : decode cX6_acceptSumEnd 61 = .ok (.if_icmp .eq 50, 3) := by decide +kernel
theorem dX6_acceptSumEnd_64 : decode cX6_acceptSumEnd 64 = .ok (.aload_n 0, 1) := by decide +kernel
theorem dX6_acceptSumEnd_65 : decode cX6_acceptSumEnd 65 = .ok (.getfield 103, 3) := by decide +kernel
theorem dX6_acceptSumEnd_68 : decode cX6_acceptSumEnd 68 = .ok (.bipush 9, 2) := by decide +kernel
theorem dX6_acceptSumEnd_70 : decode cX6_acceptSumEnd 70 = .ok (.if_icmp .eq 41, 3) := by decide +kernel
theorem dX6_acceptSumEnd_73 : decode cX6_acceptSumEnd 73 = .ok (.iload_n 1, 1) := by decide +kernel
theorem dX6_acceptSumEnd_74 : decode cX6_acceptSumEnd 74 = .ok (.bipush 59, 2) := by decide +kernel
theorem dX6_acceptSumEnd_76 : decode cX6_acceptSumEnd 76 = .ok (.if_icmp .ne 35, 3) := by decide +kernel
theorem dX6_acceptSumEnd_79 : decode cX6_acceptSumEnd 79 = .ok (.aload_n 0, 1) := by decide +kernel
theorem dX6_acceptSumEnd_80 : decode cX6_acceptSumEnd 80 = .ok (.getfield 12, 3) := by decide +kernel
theorem dX6_acceptSumEnd_83 : decode cX6_acceptSumEnd 83 = .ok (.aload_n 0, 1) := by decide +kernel
theorem dX6_acceptSumEnd_84 : decode cX6_acceptSumEnd 84 = .ok (.getfield 103, 3) := by decide +kernel
theorem dX6_acceptSumEnd_87 : decode cX6_acceptSumEnd 87 = .ok (.iconst 4, 1) := by decide +kernel
theorem dX6_acceptSumEnd_88 : decode cX6_acceptSumEnd 88 = .ok (.if_icmp .ne 7, 3) := by decide +kernel
theorem dX6_acceptSumEnd_91 : decode cX6_acceptSumEnd 91 = .ok (.iconst 3, 1) := by decide +kernel
theorem dX6_acceptSumEnd_92 : decode cX6_acceptSumEnd 92 = .ok (.goto 7, 3) := by decide +kernel
theorem dX6_acceptSumEnd_95 : decode cX6_acceptSumEnd 95 = .ok (.aload_n 0, 1) := by decide +kernel
theorem dX6_acceptSumEnd_96 : decode cX6_acceptSumEnd 96 = .ok (.getfield 103, 3) := by decide +kernel
theorem dX6_acceptSumEnd_99 : decode cX6_acceptSumEnd 99 = .ok (.iconst 0, 1) := by decide +kernel
theorem dX6_acceptSumEnd_100 : decode cX6_acceptSumEnd 100 = .ok (.invokevirtual 118, 3) := by decide +kernel
theorem dX6_acceptSumEnd_103 : decode cX6_acceptSumEnd 103 = .ok (.aload_n 0, 1) := by decide +kernel
theorem dX6_acceptSumEnd_104 : decode cX6_acceptSumEnd 104 = .ok (.iconst 0, 1) := by decide +kernel
theorem dX6_acceptSumEnd_105 : decode cX6_acceptSumEnd 105 = .ok (.putfield 39, 3) := by decide +kernel
theorem dX6_acceptSumEnd_108 : decode cX6_acceptSumEnd 108 = .ok (.goto 7, 3) := by decide +kernel
theorem dX6_acceptSumEnd_111 : decode cX6_acceptSumEnd 111 = .ok (.aload_n 0, 1) := by decide +kernel
theorem dX6_acceptSumEnd_112 : decode cX6_acceptSumEnd 112 = .ok (.invokevirtual 112, 3) := by decide +kernel
theorem dX6_acceptSumEnd_115 : decode cX6_acceptSumEnd 115 = .ok (.return_, 1) := by decide +kernel
theorem dX6_acceptRounds_0 : decode cX6_acceptRounds 0 = .ok (.iload_n 1, 1) := by decide +kernel
theorem dX6_acceptRounds_1 : decode cX6_acceptRounds 1 = .ok (.iconst 2, 1) := by decide +kernel
theorem dX6_acceptRounds_2 : decode cX6_acceptRounds 2 = .ok (.if_icmp .eq 8, 3) := by decide +kernel
theorem dX6_acceptRounds_5 : decode cX6_acceptRounds 5 = .ok (.aload_n 0, 1) := by decide +kernel
theorem dX6_acceptRounds_6 : decode cX6_acceptRounds 6 = .ok (.invokevirtual 112, 3) := by decide +kernel
theorem dX6_acceptRounds_9 : decode cX6_acceptRounds 9 = .ok (.return_, 1) := by decide +kernel
theorem dX6_acceptRounds_10 : decode cX6_acceptRounds 10 = .ok (.aload_n 0, 1) := by decide +kernel
theorem dX6_acceptRounds_11 : decode cX6_acceptRounds 11 = .ok (.aload_n 0, 1) := by decide +kernel
theorem dX6_acceptRounds_12 : decode cX6_acceptRounds 12 = .ok (.getfield 21, 3) := by decide +kernel
theorem dX6_acceptRounds_15 : decode cX6_acceptRounds 15 = .ok (.getfield 115, 3) := by decide +kernel
theorem dX6_acceptRounds_18 : decode cX6_acceptRounds 18 = .ok (.putfield 140, 3) := by decide +kernel
theorem dX6_acceptRounds_21 : decode cX6_acceptRounds 21 = .ok (.aload_n 0, 1) := by decide +kernel
theorem dX6_acceptRounds_22 : decode cX6_acceptRounds 22 = .ok (.getfield 140, 3) := by decide +kernel
theorem dX6_acceptRounds_25 : decode cX6_acceptRounds 25 = .ok (.sipush 200, 3) := by decide +kernel
theorem dX6_acceptRounds_28 : decode cX6_acceptRounds 28 = .ok (.if_icmp .le 15, 3) := by decide +kernel
theorem dX6_acceptRounds_31 : decode cX6_acceptRounds 31 = .ok (.aload_n 0, 1) := by decide +kernel
theorem dX6_acceptRounds_32 : decode cX6_acceptRounds 32 = .ok (.iconst 2, 1) := by decide +kernel
theorem dX6_acceptRounds_33 : decode cX6_acceptRounds 33 = .ok (.aload_n 0, 1) := by decide +kernel
theorem dX6_acceptRounds_34 : decode cX6_acceptRounds 34 = .ok (.getfield 21, 3) := by decide +kernel
theorem dX6_acceptRounds_37 : decode cX6_acceptRounds 37 = .ok (.getfield 79, 3) := by decide +kernel
theorem dX6_acceptRounds_40 : decode cX6_acceptRounds 40 = .ok (.invokevirtual 55, 3) := by decide +kernel
theorem dX6_acceptRounds_43 : decode cX6_acceptRounds 43 = .ok (.aload_n 0, 1) := by decide +kernel
theorem dX6_acceptRounds_44 : decode cX6_acceptRounds 44 = .ok (.iconst 4, 1) := by decide +kernel
theorem dX6_acceptRounds_45 : decode cX6_acceptRounds 45 = .ok (.putfield 39, 3) := by decide +kernel
theorem dX6_acceptRounds_48 : decode cX6_acceptRounds 48 = .ok (.return_, 1) := by decide +kernel
theorem dX6_acceptOpening_0 : decode cX6_acceptOpening 0 = .ok (.iload_n 1, 1) := by decide +kernel
theorem dX6_acceptOpening_1 : decode cX6_acceptOpening 1 = .ok (.bipush 91, 2) := by decide +kernel
theorem dX6_acceptOpening_3 : decode cX6_acceptOpening 3 = .ok (.if_icmp .ne 16, 3) := by decide +kernel
theorem dX6_acceptOpening_6 : decode cX6_acceptOpening 6 = .ok (.aload_n 0, 1) := by decide +kernel
theorem dX6_acceptOpening_7 : decode cX6_acceptOpening 7 = .ok (.bipush 8, 2) := by decide +kernel
theorem dX6_acceptOpening_9 : decode cX6_acceptOpening 9 = .ok (.aload_n 0, 1) := by decide +kernel
theorem dX6_acceptOpening_10 : decode cX6_acceptOpening 10 = .ok (.getfield 140, 3) := by decide +kernel
theorem dX6_acceptOpening_13 : decode cX6_acceptOpening 13 = .ok (.invokevirtual 137, 3) := by decide +kernel
theorem dX6_acceptOpening_16 : decode cX6_acceptOpening 16 = .ok (.goto 7, 3) := by decide +kernel
theorem dX6_acceptOpening_19 : decode cX6_acceptOpening 19 = .ok (.aload_n 0, 1) := by decide +kernel
theorem dX6_acceptOpening_20 : decode cX6_acceptOpening 20 = .ok (.invokevirtual 112, 3) := by decide +kernel
theorem dX6_acceptOpening_23 : decode cX6_acceptOpening 23 = .ok (.return_, 1) := by decide +kernel
theorem dX6_acceptBehindBlock_0 : decode cX6_acceptBehindBlock 0 = .ok (.iload_n 1, 1) := by decide +kernel
theorem dX6_acceptBehindBlock_1 : decode cX6_acceptBehindBlock 1 = .ok (.bipush 59, 2) := by decide +kernel
theorem dX6_acceptBehindBlock_3 : decode cX6_acceptBehindBlock 3 = .ok (.if_icmp .ne 11, 3) := by decide +kernel
theorem dX6_acceptBehindBlock_6 : decode cX6_acceptBehindBlock 6 = .ok (.aload_n 0, 1) := by decide +kernel
theorem dX6_acceptBehindBlock_7 : decode cX6_acceptBehindBlock 7 = .ok (.iconst 0, 1) := by decide +kernel
theorem dX6_acceptBehindBlock_8 : decode cX6_acceptBehindBlock 8 = .ok (.putfield 39, 3) := by decide +kernel
theorem dX6_acceptBehindBlock_11 : decode cX6_acceptBehindBlock 11 = .ok (.goto 7, 3) := by decide +kernel
theorem dX6_acceptBehindBlock_14 : decode cX6_acceptBehindBlock 14 = .ok (.aload_n 0, 1) := by decide +kernel
theorem dX6_acceptBehindBlock_15 : decode cX6_acceptBehindBlock 15 = .ok (.invokevirtual 112, 3) := by decide +kernel
theorem dX6_acceptBehindBlock_18 : decode cX6_acceptBehindBlock 18 = .ok (.return_, 1) := by decide +kernel
theorem dX6_open_0 : decode cX6_open 0 = .ok (.aload_n 0, 1) := by decide +kernel
theorem dX6_open_1 : decode cX6_open 1 = .ok (.iconst 0, 1) := by decide +kernel
theorem dX6_open_2 : decode cX6_open 2 = .ok (.putfield 42, 3) := by decide +kernel
theorem dX6_open_5 : decode cX6_open 5 = .ok (.aload_n 0, 1) := by decide +kernel
theorem dX6_open_6 : decode cX6_open 6 = .ok (.getfield 49, 3) := by decide +kernel
theorem dX6_open_9 : decode cX6_open 9 = .ok (.iconst 5, 1) := by decide +kernel
theorem dX6_open_10 : decode cX6_open 10 = .ok (.if_icmp .lt 13, 3) := by decide +kernel
theorem dX6_open_13 : decode cX6_open 13 = .ok (.aload_n 0, 1) := by decide +kernel
theorem dX6_open_14 : decode cX6_open 14 = .ok (.iconst 3, 1) := by decide +kernel
theorem dX6_open_15 : decode cX6_open 15 = .ok (.aload_n 0, 1) := by decide +kernel
theorem dX6_open_16 : decode cX6_open 16 = .ok (.getfield 100, 3) := by decide +kernel
theorem dX6_open_19 : decode cX6_open 19 = .ok (.invokevirtual 55, 3) := by decide +kernel
theorem dX6_open_22 : decode cX6_open 22 = .ok (.return_, 1) := by decide +kernel
theorem dX6_open_23 : decode cX6_open 23 = .ok (.aload_n 0, 1) := by decide +kernel
theorem dX6_open_24 : decode cX6_open 24 = .ok (.getfield 25, 3) := by decide +kernel
theorem dX6_open_27 : decode cX6_open 27 = .ok (.aload_n 0, 1) := by decide +kernel
theorem dX6_open_28 : decode cX6_open 28 = .ok (.getfield 49, 3) := by decide +kernel
theorem dX6_open_31 : decode cX6_open 31 = .ok (.aload_n 0, 1) := by decide +kernel
theorem dX6_open_32 : decode cX6_open 32 = .ok (.getfield 12, 3) := by decide +kernel
theorem dX6_open_35 : decode cX6_open 35 = .ok (.getfield 36, 3) := by decide +kernel
theorem dX6_open_38 : decode cX6_open 38 = .ok (.iastore, 1) := by decide +kernel
theorem dX6_open_39 : decode cX6_open 39 = .ok (.aload_n 0, 1) := by decide +kernel
theorem dX6_open_40 : decode cX6_open 40 = .ok (.dup, 1) := by decide +kernel
theorem dX6_open_41 : decode cX6_open 41 = .ok (.getfield 49, 3) := by decide +kernel
theorem dX6_open_44 : decode cX6_open 44 = .ok (.iconst 1, 1) := by decide +kernel
theorem dX6_open_45 : decode cX6_open 45 = .ok (.iadd, 1) := by decide +kernel
theorem dX6_open_46 : decode cX6_open 46 = .ok (.putfield 49, 3) := by decide +kernel
theorem dX6_open_49 : decode cX6_open 49 = .ok (.aload_n 0, 1) := by decide +kernel
theorem dX6_open_50 : decode cX6_open 50 = .ok (.getfield 12, 3) := by decide +kernel
theorem dX6_open_53 : decode cX6_open 53 = .ok (.iload_n 1, 1) := by decide +kernel
theorem dX6_open_54 : decode cX6_open 54 = .ok (.iload_n 2, 1) := by decide +kernel
theorem dX6_open_55 : decode cX6_open 55 = .ok (.invokevirtual 118, 3) := by decide +kernel
theorem dX6_open_58 : decode cX6_open 58 = .ok (.aload_n 0, 1) := by decide +kernel
theorem dX6_open_59 : decode cX6_open 59 = .ok (.iconst 0, 1) := by decide +kernel
theorem dX6_open_60 : decode cX6_open 60 = .ok (.putfield 39, 3) := by decide +kernel
theorem dX6_open_63 : decode cX6_open 63 = .ok (.return_, 1) := by decide +kernel
theorem dX6_close_0 : decode cX6_close 0 = .ok (.aload_n 0, 1) := by decide +kernel
theorem dX6_close_1 : decode cX6_close 1 = .ok (.dup, 1) := by decide +kernel
theorem dX6_close_2 : decode cX6_close 2 = .ok (.getfield 49, 3) := by decide +kernel
theorem dX6_close_5 : decode cX6_close 5 = .ok (.iconst 1, 1) := by decide +kernel
theorem dX6_close_6 : decode cX6_close 6 = .ok (.isub, 1) := by decide +kernel
theorem dX6_close_7 : decode cX6_close 7 = .ok (.putfield 49, 3) := by decide +kernel
