theorem dX3_deal_0 : decode cX3_deal 0 = .ok (.aload_n 0, 1) := by decide +kernel
theorem dX3_deal_1 : decode cX3_deal 1 = .ok (.invokevirtual 60, 3) := by decide +kernel
theorem dX3_deal_4 : decode cX3_deal 4 = .ok (.aload_n 0, 1) := by decide +kernel
theorem dX3_deal_5 : decode cX3_deal 5 = .ok (.iconst 1, 1) := by decide +kernel
theorem dX3_deal_6 : decode cX3_deal 6 = .ok (.sipush 2048, 3) := by decide +kernel
theorem dX3_deal_9 : decode cX3_deal 9 = .ok (.iload 4, 2) := by decide +kernel
theorem dX3_deal_11 : decode cX3_deal 11 = .ok (.invokestatic 63, 3) := by decide +kernel
theorem dX3_deal_14 : decode cX3_deal 14 = .ok (.invokestatic 69, 3) := by decide +kernel
theorem dX3_deal_17 : decode cX3_deal 17 = .ok (.putfield 36, 3) := by decide +kernel
theorem dX3_deal_20 : decode cX3_deal 20 = .ok (.aload_n 0, 1) := by decide +kernel
theorem dX3_deal_21 : decode cX3_deal 21 = .ok (.iload_n 2, 1) := by decide +kernel
theorem dX3_deal_22 : decode cX3_deal 22 = .ok (.putfield 40, 3) := by decide +kernel
theorem dX3_deal_25 : decode cX3_deal 25 = .ok (.aload_n 0, 1) := by decide +kernel
theorem dX3_deal_26 : decode cX3_deal 26 = .ok (.iload_n 3, 1) := by decide +kernel
theorem dX3_deal_27 : decode cX3_deal 27 = .ok (.putfield 43, 3) := by decide +kernel
theorem dX3_deal_30 : decode cX3_deal 30 = .ok (.aload_n 0, 1) := by decide +kernel
theorem dX3_deal_31 : decode cX3_deal 31 = .ok (.aload_n 1, 1) := by decide +kernel
theorem dX3_deal_32 : decode cX3_deal 32 = .ok (.getfield 72, 3) := by decide +kernel
theorem dX3_deal_35 : decode cX3_deal 35 = .ok (.putfield 54, 3) := by decide +kernel
theorem dX3_deal_38 : decode cX3_deal 38 = .ok (.iconst 0, 1) := by decide +kernel
theorem dX3_deal_39 : decode cX3_deal 39 = .ok (.istore 5, 2) := by decide +kernel
theorem dX3_deal_41 : decode cX3_deal 41 = .ok (.iconst 0, 1) := by decide +kernel
theorem dX3_deal_42 : decode cX3_deal 42 = .ok (.istore 6, 2) := by decide +kernel
theorem dX3_deal_44 : decode cX3_deal 44 = .ok (.iload 6, 2) := by decide +kernel
theorem dX3_deal_46 : decode cX3_deal 46 = .ok (.aload_n 0, 1) := by decide +kernel
theorem dX3_deal_47 : decode cX3_deal 47 = .ok (.getfield 54, 3) := by decide +kernel
theorem dX3_deal_50 : decode cX3_deal 50 = .ok (.if_icmp .ge 69, 3) := by decide +kernel
theorem dX3_deal_53 : decode cX3_deal 53 = .ok (.aload_n 0, 1) := by decide +kernel
theorem dX3_deal_54 : decode cX3_deal 54 = .ok (.getfield 40, 3) := by decide +kernel
theorem dX3_deal_57 : decode cX3_deal 57 = .ok (.aload_n 0, 1) := by decide +kernel
theorem dX3_deal_58 : decode cX3_deal 58 = .ok (.getfield 43, 3) := by decide +kernel
theorem dX3_deal_61 : decode cX3_deal 61 = .ok (.aload_n 1, 1) := by decide +kernel
theorem dX3_deal_62 : decode cX3_deal 62 = .ok (.getfield 75, 3) := by decide +kernel
theorem dX3_deal_65 : decode cX3_deal 65 = .ok (.iload 6, 2) := by decide +kernel
theorem dX3_deal_67 : decode cX3_deal 67 = .ok (.iaload, 1) := by decide +kernel
theorem dX3_deal_68 : decode cX3_deal 68 = .ok (.aload_n 0, 1) := by decide +kernel
theorem dX3_deal_69 : decode cX3_deal 69 = .ok (.getfield 36, 3) := by decide +kernel
theorem dX3_deal_72 : decode cX3_deal 72 = .ok (.invokestatic 46, 3) := by decide +kernel
theorem dX3_deal_75 : decode cX3_deal 75 = .ok (.istore 7, 2) := by decide +kernel
theorem dX3_deal_77 : decode cX3_deal 77 = .ok (.aload_n 0, 1) := by decide +kernel
theorem dX3_deal_78 : decode cX3_deal 78 = .ok (.getfield 27, 3) := by decide +kernel
theorem dX3_deal_81 : decode cX3_deal 81 = .ok (.iload 6, 2) := by decide +kernel
theorem dX3_deal_83 : decode cX3_deal 83 = .ok (.iload 7, 2) := by decide +kernel
theorem dX3_deal_85 : decode cX3_deal 85 = .ok (.iastore, 1) := by decide +kernel
theorem dX3_deal_86 : decode cX3_deal 86 = .ok (.iload 5, 2) := by decide +kernel
theorem dX3_deal_88 : decode cX3_deal 88 = .ok (.iconst 2, 1) := by decide +kernel
theorem dX3_deal_89 : decode cX3_deal 89 = .ok (.aload_n 0, 1) := by decide +kernel
theorem dX3_deal_90 : decode cX3_deal 90 = .ok (.getfield 9, 3) := by decide +kernel
theorem dX3_deal_93 : decode cX3_deal 93 = .ok (.iload 7, 2) := by decide +kernel
theorem dX3_deal_95 : decode cX3_deal 95 = .ok (.iaload, 1) := by decide +kernel
theorem dX3_deal_96 : decode cX3_deal 96 = .ok (.imul, 1) := by decide +kernel
theorem dX3_deal_97 : decode cX3_deal 97 = .ok (.iconst 1, 1) := by decide +kernel
theorem dX3_deal_98 : decode cX3_deal 98 = .ok (.iadd, 1) := by decide +kernel
theorem dX3_deal_99 : decode cX3_deal 99 = .ok (.iadd, 1) := by decide +kernel
theorem dX3_deal_100 : decode cX3_deal 100 = .ok (.istore 5, 2) := by decide +kernel
theorem dX3_deal_102 : decode cX3_deal 102 = .ok (.aload_n 0, 1) := by decide +kernel
theorem dX3_deal_103 : decode cX3_deal 103 = .ok (.getfield 9, 3) := by decide +kernel
theorem dX3_deal_106 : decode cX3_deal 106 = .ok (.iload 7, 2) := by decide +kernel
theorem dX3_deal_108 : decode cX3_deal 108 = .ok (.dup2, 1) := by decide +kernel
theorem dX3_deal_109 : decode cX3_deal 109 = .ok (.iaload, 1) := by decide +kernel
theorem dX3_deal_110 : decode cX3_deal 110 = .ok (.iconst 1, 1) := by decide +kernel
theorem dX3_deal_111 : decode cX3_deal 111 = .ok (.iadd, 1) := by decide +kernel
theorem dX3_deal_112 : decode cX3_deal 112 = .ok (.iastore, 1) := by decide +kernel
theorem dX3_deal_113 : decode cX3_deal 113 = .ok (.iinc 6 1, 3) := by decide +kernel
theorem dX3_deal_116 : decode cX3_deal 116 = .ok (.goto (-72), 3) := by decide +kernel
theorem dX3_deal_119 : decode cX3_deal 119 = .ok (.iload 5, 2) := by decide +kernel
theorem dX3_deal_121 : decode cX3_deal 121 = .ok (.ireturn, 1) := by decide +kernel
