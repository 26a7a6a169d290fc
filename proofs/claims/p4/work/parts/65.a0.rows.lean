theorem dX11_begins_0 : decode cX11_begins 0 = .ok (.aload_n 0, 1) := by decide +kernel
theorem dX11_begins_1 : decode cX11_begins 1 = .ok (.getfield 45, 3) := by decide +kernel
theorem dX11_begins_4 : decode cX11_begins 4 = .ok (.iconst 2, 1) := by decide +kernel
theorem dX11_begins_5 : decode cX11_begins 5 = .ok (.iload_n 1, 1) := by decide +kernel
theorem dX11_begins_6 : decode cX11_begins 6 = .ok (.imul, 1) := by decide +kernel
theorem dX11_begins_7 : decode cX11_begins 7 = .ok (.iconst 3, 1) := by decide +kernel
theorem dX11_begins_8 : decode cX11_begins 8 = .ok (.iadd, 1) := by decide +kernel
theorem dX11_begins_9 : decode cX11_begins 9 = .ok (.iaload, 1) := by decide +kernel
theorem dX11_begins_10 : decode cX11_begins 10 = .ok (.istore_n 2, 1) := by decide +kernel
theorem dX11_begins_11 : decode cX11_begins 11 = .ok (.aload_n 0, 1) := by decide +kernel
theorem dX11_begins_12 : decode cX11_begins 12 = .ok (.getfield 45, 3) := by decide +kernel
theorem dX11_begins_15 : decode cX11_begins 15 = .ok (.iconst 2, 1) := by decide +kernel
theorem dX11_begins_16 : decode cX11_begins 16 = .ok (.iload_n 1, 1) := by decide +kernel
theorem dX11_begins_17 : decode cX11_begins 17 = .ok (.imul, 1) := by decide +kernel
theorem dX11_begins_18 : decode cX11_begins 18 = .ok (.iaload, 1) := by decide +kernel
theorem dX11_begins_19 : decode cX11_begins 19 = .ok (.iconst 4, 1) := by decide +kernel
theorem dX11_begins_20 : decode cX11_begins 20 = .ok (.if_icmp .ne 24, 3) := by decide +kernel
theorem dX11_begins_23 : decode cX11_begins 23 = .ok (.aload_n 0, 1) := by decide +kernel
theorem dX11_begins_24 : decode cX11_begins 24 = .ok (.getfield 45, 3) := by decide +kernel
theorem dX11_begins_27 : decode cX11_begins 27 = .ok (.iconst 2, 1) := by decide +kernel
theorem dX11_begins_28 : decode cX11_begins 28 = .ok (.iload_n 1, 1) := by decide +kernel
theorem dX11_begins_29 : decode cX11_begins 29 = .ok (.imul, 1) := by decide +kernel
theorem dX11_begins_30 : decode cX11_begins 30 = .ok (.iconst 1, 1) := by decide +kernel
theorem dX11_begins_31 : decode cX11_begins 31 = .ok (.iadd, 1) := by decide +kernel
theorem dX11_begins_32 : decode cX11_begins 32 = .ok (.iaload, 1) := by decide +kernel
theorem dX11_begins_33 : decode cX11_begins 33 = .ok (.ifCond .le 7, 3) := by decide +kernel
theorem dX11_begins_36 : decode cX11_begins 36 = .ok (.iconst 1, 1) := by decide +kernel
theorem dX11_begins_37 : decode cX11_begins 37 = .ok (.goto 11, 3) := by decide +kernel
theorem dX11_begins_40 : decode cX11_begins 40 = .ok (.iconst 0, 1) := by decide +kernel
theorem dX11_begins_41 : decode cX11_begins 41 = .ok (.goto 7, 3) := by decide +kernel
theorem dX11_begins_44 : decode cX11_begins 44 = .ok (.aload_n 0, 1) := by decide +kernel
theorem dX11_begins_45 : decode cX11_begins 45 = .ok (.invokevirtual 410, 3) := by decide +kernel
theorem dX11_begins_48 : decode cX11_begins 48 = .ok (.istore_n 3, 1) := by decide +kernel
theorem dX11_begins_49 : decode cX11_begins 49 = .ok (.aload_n 0, 1) := by decide +kernel
theorem dX11_begins_50 : decode cX11_begins 50 = .ok (.iload_n 3, 1) := by decide +kernel
theorem dX11_begins_51 : decode cX11_begins 51 = .ok (.ifCond .eq 9, 3) := by decide +kernel
theorem dX11_begins_54 : decode cX11_begins 54 = .ok (.iload_n 1, 1) := by decide +kernel
theorem dX11_begins_55 : decode cX11_begins 55 = .ok (.iconst 2, 1) := by decide +kernel
theorem dX11_begins_56 : decode cX11_begins 56 = .ok (.iadd, 1) := by decide +kernel
theorem dX11_begins_57 : decode cX11_begins 57 = .ok (.goto 4, 3) := by decide +kernel
theorem dX11_begins_60 : decode cX11_begins 60 = .ok (.iload_n 2, 1) := by decide +kernel
theorem dX11_begins_61 : decode cX11_begins 61 = .ok (.putfield 413, 3) := by decide +kernel
theorem dX11_begins_64 : decode cX11_begins 64 = .ok (.iload_n 3, 1) := by decide +kernel
theorem dX11_begins_65 : decode cX11_begins 65 = .ok (.ifCond .ne 4, 3) := by decide +kernel
theorem dX11_begins_68 : decode cX11_begins 68 = .ok (.return_, 1) := by decide +kernel
theorem dX11_begins_69 : decode cX11_begins 69 = .ok (.aload_n 0, 1) := by decide +kernel
theorem dX11_begins_70 : decode cX11_begins 70 = .ok (.getfield 67, 3) := by decide +kernel
theorem dX11_begins_73 : decode cX11_begins 73 = .ok (.aload_n 0, 1) := by decide +kernel
theorem dX11_begins_74 : decode cX11_begins 74 = .ok (.getfield 385, 3) := by decide +kernel
theorem dX11_begins_77 : decode cX11_begins 77 = .ok (.iload_n 1, 1) := by decide +kernel
theorem dX11_begins_78 : decode cX11_begins 78 = .ok (.iastore, 1) := by decide +kernel
theorem dX11_begins_79 : decode cX11_begins 79 = .ok (.aload_n 0, 1) := by decide +kernel
theorem dX11_begins_80 : decode cX11_begins 80 = .ok (.getfield 64, 3) := by decide +kernel
theorem dX11_begins_83 : decode cX11_begins 83 = .ok (.aload_n 0, 1) := by decide +kernel
theorem dX11_begins_84 : decode cX11_begins 84 = .ok (.getfield 385, 3) := by decide +kernel
theorem dX11_begins_87 : decode cX11_begins 87 = .ok (.iconst 0, 1) := by decide +kernel
theorem dX11_begins_88 : decode cX11_begins 88 = .ok (.iastore, 1) := by decide +kernel
theorem dX11_begins_89 : decode cX11_begins 89 = .ok (.aload_n 0, 1) := by decide +kernel
theorem dX11_begins_90 : decode cX11_begins 90 = .ok (.dup, 1) := by decide +kernel
theorem dX11_begins_91 : decode cX11_begins 91 = .ok (.getfield 385, 3) := by decide +kernel
theorem dX11_begins_94 : decode cX11_begins 94 = .ok (.iconst 1, 1) := by decide +kernel
theorem dX11_begins_95 : decode cX11_begins 95 = .ok (.iadd, 1) := by decide +kernel
theorem dX11_begins_96 : decode cX11_begins 96 = .ok (.putfield 385, 3) := by decide +kernel
theorem dX11_begins_99 : decode cX11_begins 99 = .ok (.aload_n 0, 1) := by decide +kernel
theorem dX11_begins_100 : decode cX11_begins 100 = .ok (.getfield 45, 3) := by decide +kernel
theorem dX11_begins_103 : decode cX11_begins 103 = .ok (.iconst 2, 1) := by decide +kernel
theorem dX11_begins_104 : decode cX11_begins 104 = .ok (.iload_n 1, 1) := by decide +kernel
theorem dX11_begins_105 : decode cX11_begins 105 = .ok (.imul, 1) := by decide +kernel
theorem dX11_begins_106 : decode cX11_begins 106 = .ok (.iaload, 1) := by decide +kernel
theorem dX11_begins_107 : decode cX11_begins 107 = .ok (.iconst 4, 1) := by decide +kernel
theorem dX11_begins_108 : decode cX11_begins 108 = .ok (.if_icmp .ne 8, 3) := by decide +kernel
theorem dX11_begins_111 : decode cX11_begins 111 = .ok (.aload_n 0, 1) := by decide +kernel
theorem dX11_begins_112 : decode cX11_begins 112 = .ok (.invokevirtual 416, 3) := by decide +kernel
theorem dX11_begins_115 : decode cX11_begins 115 = .ok (.pop, 1) := by decide +kernel
theorem dX11_begins_116 : decode cX11_begins 116 = .ok (.return_, 1) := by decide +kernel
theorem dX11_closes_0 : decode cX11_closes 0 = .ok (.aload_n 0, 1) := by decide +kernel
theorem dX11_closes_1 : decode cX11_closes 1 = .ok (.getfield 45, 3) := by decide +kernel
theorem dX11_closes_4 : decode cX11_closes 4 = .ok (.iconst 2, 1) := by decide +kernel
theorem dX11_closes_5 : decode cX11_closes 5 = .ok (.iload_n 1, 1) := by decide +kernel
theorem dX11_closes_6 : decode cX11_closes 6 = .ok (.imul, 1) := by decide +kernel
theorem dX11_closes_7 : decode cX11_closes 7 = .ok (.iconst 1, 1) := by decide +kernel
theorem dX11_closes_8 : decode cX11_closes 8 = .ok (.iadd, 1) := by decide +kernel
theorem dX11_closes_9 : decode cX11_closes 9 = .ok (.iaload, 1) := by decide +kernel
theorem dX11_closes_10 : decode cX11_closes 10 = .ok (.istore_n 2, 1) := by decide +kernel
theorem dX11_closes_11 : decode cX11_closes 11 = .ok (.aload_n 0, 1) := by decide +kernel
theorem dX11_closes_12 : decode cX11_closes 12 = .ok (.getfield 385, 3) := by decide +kernel
theorem dX11_closes_15 : decode cX11_closes 15 = .ok (.iconst 1, 1) := by decide +kernel
theorem dX11_closes_16 : decode cX11_closes 16 = .ok (.isub, 1) := by decide +kernel
theorem dX11_closes_17 : decode cX11_closes 17 = .ok (.istore_n 3, 1) := by decide +kernel
theorem dX11_closes_18 : decode cX11_closes 18 = .ok (.aload_n 0, 1) := by decide +kernel
theorem dX11_closes_19 : decode cX11_closes 19 = .ok (.iload_n 1, 1) := by decide +kernel
theorem dX11_closes_20 : decode cX11_closes 20 = .ok (.iconst 1, 1) := by decide +kernel
theorem dX11_closes_21 : decode cX11_closes 21 = .ok (.iadd, 1) := by decide +kernel
theorem dX11_closes_22 : decode cX11_closes 22 = .ok (.putfield 413, 3) := by decide +kernel
theorem dX11_closes_25 : decode cX11_closes 25 = .ok (.aload_n 0, 1) := by decide +kernel
theorem dX11_closes_26 : decode cX11_closes 26 = .ok (.getfield 45, 3) := by decide +kernel
theorem dX11_closes_29 : decode cX11_closes 29 = .ok (.iconst 2, 1) := by decide +kernel
theorem dX11_closes_30 : decode cX11_closes 30 = .ok (.iload_n 2, 1) := by decide +kernel
theorem dX11_closes_31 : decode cX11_closes 31 = .ok (.imul, 1) := by decide +kernel
theorem dX11_closes_32 : decode cX11_closes 32 = .ok (.iaload, 1) := by decide +kernel
theorem dX11_closes_33 : decode cX11_closes 33 = .ok (.iconst 4, 1) := by decide +kernel
theorem dX11_closes_34 : decode cX11_closes 34 = .ok (.if_icmp .ne 49, 3) := by decide +kernel
theorem dX11_closes_37 : decode cX11_closes 37 = .ok (.aload_n 0, 1) := by decide +kernel
theorem dX11_closes_38 : decode cX11_closes 38 = .ok (.getfield 64, 3) := by decide +kernel
theorem dX11_closes_41 : decode cX11_closes 41 = .ok (.iload_n 3, 1) := by decide +kernel
theorem dX11_closes_42 : decode cX11_closes 42 = .ok (.iaload, 1) := by decide +kernel
theorem dX11_closes_43 : decode cX11_closes 43 = .ok (.iconst 1, 1) := by decide +kernel
theorem dX11_closes_44 : decode cX11_closes 44 = .ok (.iadd, 1) := by decide +kernel
theorem dX11_closes_45 : decode cX11_closes 45 = .ok (.aload_n 0, 1) := by decide +kernel
theorem dX11_closes_46 : decode cX11_closes 46 = .ok (.getfield 45, 3) := by decide +kernel
theorem dX11_closes_49 : decode cX11_closes 49 = .ok (.iconst 2, 1) := by decide +kernel
theorem dX11_closes_50 : decode cX11_closes 50 = .ok (.iload_n 2, 1) := by decide +kernel
theorem dX11_closes_51 : decode cX11_closes 51 = .ok (.imul, 1) := by decide +kernel
theorem dX11_closes_52 : decode cX11_closes 52 = .ok (.iconst 1, 1) := by decide +kernel
theorem dX11_closes_53 : decode cX11_closes 53 = .ok (.iadd, 1) := by decide +kernel
theorem dX11_closes_54 : decode cX11_closes 54 = .ok (.iaload, 1) := by decide +kernel
theorem dX11_closes_55 : decode cX11_closes 55 = .ok (.if_icmp .ge 28, 3) := by decide +kernel
theorem dX11_closes_58 : decode cX11_closes 58 = .ok (.aload_n 0, 1) := by decide +kernel
theorem dX11_closes_59 : decode cX11_closes 59 = .ok (.getfield 64, 3) := by decide +kernel
theorem dX11_closes_62 : decode cX11_closes 62 = .ok (.iload_n 3, 1) := by decide +kernel
theorem dX11_closes_63 : decode cX11_closes 63 = .ok (.dup2, 1) := by decide +kernel
theorem dX11_closes_64 : decode cX11_closes 64 = .ok (.iaload, 1) := by decide +kernel
theorem dX11_closes_65 : decode cX11_closes 65 = .ok (.iconst 1, 1) := by decide +kernel
theorem dX11_closes_66 : decode cX11_closes 66 = .ok (.iadd, 1) := by decide +kernel
theorem dX11_closes_67 : decode cX11_closes 67 = .ok (.iastore, 1) := by decide +kernel
theorem dX11_closes_68 : decode cX11_closes 68 = .ok (.aload_n 0, 1) := by decide +kernel
theorem dX11_closes_69 : decode cX11_closes 69 = .ok (.iload_n 2, 1) := by decide +kernel
theorem dX11_closes_70 : decode cX11_closes 70 = .ok (.iconst 2, 1) := by decide +kernel
theorem dX11_closes_71 : decode cX11_closes 71 = .ok (.iadd, 1) := by decide +kernel
theorem dX11_closes_72 : decode cX11_closes 72 = .ok (.putfield 413, 3) := by decide +kernel
theorem dX11_closes_75 : decode cX11_closes 75 = .ok (.aload_n 0, 1) := by decide +kernel
theorem dX11_closes_76 : decode cX11_closes 76 = .ok (.invokevirtual 416, 3) := by decide +kernel
theorem dX11_closes_79 : decode cX11_closes 79 = .ok (.pop, 1) := by decide +kernel
theorem dX11_closes_80 : decode cX11_closes 80 = .ok (.goto 13, 3) := by decide +kernel
theorem dX11_closes_83 : decode cX11_closes 83 = .ok (.aload_n 0, 1) := by decide +kernel
theorem dX11_closes_84 : decode cX11_closes 84 = .ok (.dup, 1) := by decide +kernel
theorem dX11_closes_85 : decode cX11_closes 85 = .ok (.getfield 385, 3) := by decide +kernel
theorem dX11_closes_88 : decode cX11_closes 88 = .ok (.iconst 1, 1) := by decide +kernel
theorem dX11_closes_89 : decode cX11_closes 89 = .ok (.isub, 1) := by decide +kernel
theorem dX11_closes_90 : decode cX11_closes 90 = .ok (.putfield 385, 3) := by decide +kernel
theorem dX11_closes_93 : decode cX11_closes 93 = .ok (.return_, 1) := by decide +kernel
