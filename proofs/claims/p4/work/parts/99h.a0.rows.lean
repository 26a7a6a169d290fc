theorem dX10_back_0 : decode cX10_back 0 = .ok (.iload_n 1, 1) := by decide +kernel
theorem dX10_back_1 : decode cX10_back 1 = .ok (.invokestatic 55, 3) := by decide +kernel
theorem dX10_back_4 : decode cX10_back 4 = .ok (.ifCond .ne 6, 3) := by decide +kernel
theorem dX10_back_7 : decode cX10_back 7 = .ok (.bipush (-2), 2) := by decide +kernel
theorem dX10_back_9 : decode cX10_back 9 = .ok (.ireturn, 1) := by decide +kernel
theorem dX10_back_10 : decode cX10_back 10 = .ok (.aload_n 0, 1) := by decide +kernel
theorem dX10_back_11 : decode cX10_back 11 = .ok (.getfield 19, 3) := by decide +kernel
theorem dX10_back_14 : decode cX10_back 14 = .ok (.istore_n 2, 1) := by decide +kernel
theorem dX10_back_15 : decode cX10_back 15 = .ok (.aload_n 0, 1) := by decide +kernel
theorem dX10_back_16 : decode cX10_back 16 = .ok (.iconst 0, 1) := by decide +kernel
theorem dX10_back_17 : decode cX10_back 17 = .ok (.putfield 19, 3) := by decide +kernel
theorem dX10_back_20 : decode cX10_back 20 = .ok (.aload_n 0, 1) := by decide +kernel
theorem dX10_back_21 : decode cX10_back 21 = .ok (.getfield 15, 3) := by decide +kernel
theorem dX10_back_24 : decode cX10_back 24 = .ok (.iload_n 2, 1) := by decide +kernel
theorem dX10_back_25 : decode cX10_back 25 = .ok (.invokestatic 322, 3) := by decide +kernel
theorem dX10_back_28 : decode cX10_back 28 = .ok (.ifCond .ne 5, 3) := by decide +kernel
theorem dX10_back_31 : decode cX10_back 31 = .ok (.iconst (-1), 1) := by decide +kernel
theorem dX10_back_32 : decode cX10_back 32 = .ok (.ireturn, 1) := by decide +kernel
theorem dX10_back_33 : decode cX10_back 33 = .ok (.aload_n 0, 1) := by decide +kernel
theorem dX10_back_34 : decode cX10_back 34 = .ok (.iload_n 1, 1) := by decide +kernel
theorem dX10_back_35 : decode cX10_back 35 = .ok (.invokevirtual 63, 3) := by decide +kernel
theorem dX10_back_38 : decode cX10_back 38 = .ok (.astore_n 3, 1) := by decide +kernel
theorem dX10_back_39 : decode cX10_back 39 = .ok (.aload_n 3, 1) := by decide +kernel
theorem dX10_back_40 : decode cX10_back 40 = .ok (.aload_n 0, 1) := by decide +kernel
theorem dX10_back_41 : decode cX10_back 41 = .ok (.getfield 15, 3) := by decide +kernel
theorem dX10_back_44 : decode cX10_back 44 = .ok (.iconst 0, 1) := by decide +kernel
theorem dX10_back_45 : decode cX10_back 45 = .ok (.iaload, 1) := by decide +kernel
theorem dX10_back_46 : decode cX10_back 46 = .ok (.aload_n 0, 1) := by decide +kernel
theorem dX10_back_47 : decode cX10_back 47 = .ok (.getfield 15, 3) := by decide +kernel
theorem dX10_back_50 : decode cX10_back 50 = .ok (.invokestatic 326, 3) := by decide +kernel
theorem dX10_back_53 : decode cX10_back 53 = .ok (.aload_n 0, 1) := by decide +kernel
theorem dX10_back_54 : decode cX10_back 54 = .ok (.getfield 15, 3) := by decide +kernel
theorem dX10_back_57 : decode cX10_back 57 = .ok (.iconst 3, 1) := by decide +kernel
theorem dX10_back_58 : decode cX10_back 58 = .ok (.iaload, 1) := by decide +kernel
theorem dX10_back_59 : decode cX10_back 59 = .ok (.aload_n 0, 1) := by decide +kernel
theorem dX10_back_60 : decode cX10_back 60 = .ok (.getfield 15, 3) := by decide +kernel
theorem dX10_back_63 : decode cX10_back 63 = .ok (.iconst 4, 1) := by decide +kernel
theorem dX10_back_64 : decode cX10_back 64 = .ok (.invokestatic 330, 3) := by decide +kernel
theorem dX10_back_67 : decode cX10_back 67 = .ok (.invokevirtual 67, 3) := by decide +kernel
theorem dX10_back_70 : decode cX10_back 70 = .ok (.aload_n 0, 1) := by decide +kernel
theorem dX10_back_71 : decode cX10_back 71 = .ok (.getfield 15, 3) := by decide +kernel
theorem dX10_back_74 : decode cX10_back 74 = .ok (.bipush 12, 2) := by decide +kernel
theorem dX10_back_76 : decode cX10_back 76 = .ok (.iaload, 1) := by decide +kernel
theorem dX10_back_77 : decode cX10_back 77 = .ok (.istore 4, 2) := by decide +kernel
theorem dX10_back_79 : decode cX10_back 79 = .ok (.iconst 0, 1) := by decide +kernel
theorem dX10_back_80 : decode cX10_back 80 = .ok (.istore 5, 2) := by decide +kernel
theorem dX10_back_82 : decode cX10_back 82 = .ok (.iload 5, 2) := by decide +kernel
theorem dX10_back_84 : decode cX10_back 84 = .ok (.iload 4, 2) := by decide +kernel
theorem dX10_back_86 : decode cX10_back 86 = .ok (.if_icmp .ge 48, 3) := by decide +kernel
theorem dX10_back_89 : decode cX10_back 89 = .ok (.bipush 13, 2) := by decide +kernel
theorem dX10_back_91 : decode cX10_back 91 = .ok (.bipush 8, 2) := by decide +kernel
theorem dX10_back_93 : decode cX10_back 93 = .ok (.iload 5, 2) := by decide +kernel
theorem dX10_back_95 : decode cX10_back 95 = .ok (.imul, 1) := by decide +kernel
theorem dX10_back_96 : decode cX10_back 96 = .ok (.iadd, 1) := by decide +kernel
theorem dX10_back_97 : decode cX10_back 97 = .ok (.istore 6, 2) := by decide +kernel
theorem dX10_back_99 : decode cX10_back 99 = .ok (.aload_n 3, 1) := by decide +kernel
theorem dX10_back_100 : decode cX10_back 100 = .ok (.getfield 93, 3) := by decide +kernel
theorem dX10_back_103 : decode cX10_back 103 = .ok (.iload 5, 2) := by decide +kernel
theorem dX10_back_105 : decode cX10_back 105 = .ok (.aload_n 0, 1) := by decide +kernel
theorem dX10_back_106 : decode cX10_back 106 = .ok (.getfield 15, 3) := by decide +kernel
theorem dX10_back_109 : decode cX10_back 109 = .ok (.iload 6, 2) := by decide +kernel
theorem dX10_back_111 : decode cX10_back 111 = .ok (.invokestatic 334, 3) := by decide +kernel
theorem dX10_back_114 : decode cX10_back 114 = .ok (.aload_n 0, 1) := by decide +kernel
theorem dX10_back_115 : decode cX10_back 115 = .ok (.getfield 15, 3) := by decide +kernel
theorem dX10_back_118 : decode cX10_back 118 = .ok (.iload 6, 2) := by decide +kernel
theorem dX10_back_120 : decode cX10_back 120 = .ok (.iconst 4, 1) := by decide +kernel
theorem dX10_back_121 : decode cX10_back 121 = .ok (.iadd, 1) := by decide +kernel
theorem dX10_back_122 : decode cX10_back 122 = .ok (.invokestatic 334, 3) := by decide +kernel
theorem dX10_back_125 : decode cX10_back 125 = .ok (.invokevirtual 338, 3) := by decide +kernel
theorem dX10_back_128 : decode cX10_back 128 = .ok (.iinc 5 1, 3) := by decide +kernel
theorem dX10_back_131 : decode cX10_back 131 = .ok (.goto (-49), 3) := by decide +kernel
theorem dX10_back_134 : decode cX10_back 134 = .ok (.aload_n 3, 1) := by decide +kernel
theorem dX10_back_135 : decode cX10_back 135 = .ok (.invokevirtual 71, 3) := by decide +kernel
theorem dX10_back_138 : decode cX10_back 138 = .ok (.iload 4, 2) := by decide +kernel
theorem dX10_back_140 : decode cX10_back 140 = .ok (.ireturn, 1) := by decide +kernel
