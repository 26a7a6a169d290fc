theorem dX11_sum_0 : decode cX11_sum 0 = .ok (.aload_n 0, 1) := by decide +kernel
theorem dX11_sum_1 : decode cX11_sum 1 = .ok (.iconst 0, 1) := by decide +kernel
theorem dX11_sum_2 : decode cX11_sum 2 = .ok (.putfield 341, 3) := by decide +kernel
theorem dX11_sum_5 : decode cX11_sum 5 = .ok (.aload_n 0, 1) := by decide +kernel
theorem dX11_sum_6 : decode cX11_sum 6 = .ok (.iconst 0, 1) := by decide +kernel
theorem dX11_sum_7 : decode cX11_sum 7 = .ok (.putfield 338, 3) := by decide +kernel
theorem dX11_sum_10 : decode cX11_sum 10 = .ok (.iconst 1, 1) := by decide +kernel
theorem dX11_sum_11 : decode cX11_sum 11 = .ok (.istore_n 1, 1) := by decide +kernel
theorem dX11_sum_12 : decode cX11_sum 12 = .ok (.aload_n 0, 1) := by decide +kernel
theorem dX11_sum_13 : decode cX11_sum 13 = .ok (.invokevirtual 351, 3) := by decide +kernel
theorem dX11_sum_16 : decode cX11_sum 16 = .ok (.aload_n 0, 1) := by decide +kernel
theorem dX11_sum_17 : decode cX11_sum 17 = .ok (.invokevirtual 313, 3) := by decide +kernel
theorem dX11_sum_20 : decode cX11_sum 20 = .ok (.ifCond .eq 101, 3) := by decide +kernel
theorem dX11_sum_23 : decode cX11_sum 23 = .ok (.iload_n 1, 1) := by decide +kernel
theorem dX11_sum_24 : decode cX11_sum 24 = .ok (.ifCond .eq 97, 3) := by decide +kernel
theorem dX11_sum_27 : decode cX11_sum 27 = .ok (.aload_n 0, 1) := by decide +kernel
theorem dX11_sum_28 : decode cX11_sum 28 = .ok (.invokevirtual 354, 3) := by decide +kernel
theorem dX11_sum_31 : decode cX11_sum 31 = .ok (.istore_n 2, 1) := by decide +kernel
theorem dX11_sum_32 : decode cX11_sum 32 = .ok (.iload_n 2, 1) := by decide +kernel
theorem dX11_sum_33 : decode cX11_sum 33 = .ok (.iconst (-1), 1) := by decide +kernel
theorem dX11_sum_34 : decode cX11_sum 34 = .ok (.if_icmp .eq 57, 3) := by decide +kernel
theorem dX11_sum_37 : decode cX11_sum 37 = .ok (.aload_n 0, 1) := by decide +kernel
theorem dX11_sum_38 : decode cX11_sum 38 = .ok (.iload_n 2, 1) := by decide +kernel
theorem dX11_sum_39 : decode cX11_sum 39 = .ok (.bipush 15, 2) := by decide +kernel
theorem dX11_sum_41 : decode cX11_sum 41 = .ok (.if_icmp .ge 8, 3) := by decide +kernel
theorem dX11_sum_44 : decode cX11_sum 44 = .ok (.bipush 13, 2) := by decide +kernel
theorem dX11_sum_46 : decode cX11_sum 46 = .ok (.goto 5, 3) := by decide +kernel
theorem dX11_sum_49 : decode cX11_sum 49 = .ok (.bipush 15, 2) := by decide +kernel
theorem dX11_sum_51 : decode cX11_sum 51 = .ok (.invokevirtual 357, 3) := by decide +kernel
theorem dX11_sum_54 : decode cX11_sum 54 = .ok (.aload_n 0, 1) := by decide +kernel
theorem dX11_sum_55 : decode cX11_sum 55 = .ok (.dup, 1) := by decide +kernel
theorem dX11_sum_56 : decode cX11_sum 56 = .ok (.getfield 303, 3) := by decide +kernel
theorem dX11_sum_59 : decode cX11_sum 59 = .ok (.iconst 1, 1) := by decide +kernel
theorem dX11_sum_60 : decode cX11_sum 60 = .ok (.iadd, 1) := by decide +kernel
theorem dX11_sum_61 : decode cX11_sum 61 = .ok (.putfield 303, 3) := by decide +kernel
theorem dX11_sum_64 : decode cX11_sum 64 = .ok (.aload_n 0, 1) := by decide +kernel
theorem dX11_sum_65 : decode cX11_sum 65 = .ok (.getfield 51, 3) := by decide +kernel
theorem dX11_sum_68 : decode cX11_sum 68 = .ok (.aload_n 0, 1) := by decide +kernel
theorem dX11_sum_69 : decode cX11_sum 69 = .ok (.getfield 341, 3) := by decide +kernel
theorem dX11_sum_72 : decode cX11_sum 72 = .ok (.iload_n 2, 1) := by decide +kernel
theorem dX11_sum_73 : decode cX11_sum 73 = .ok (.iastore, 1) := by decide +kernel
theorem dX11_sum_74 : decode cX11_sum 74 = .ok (.aload_n 0, 1) := by decide +kernel
theorem dX11_sum_75 : decode cX11_sum 75 = .ok (.dup, 1) := by decide +kernel
theorem dX11_sum_76 : decode cX11_sum 76 = .ok (.getfield 341, 3) := by decide +kernel
theorem dX11_sum_79 : decode cX11_sum 79 = .ok (.iconst 1, 1) := by decide +kernel
theorem dX11_sum_80 : decode cX11_sum 80 = .ok (.iadd, 1) := by decide +kernel
theorem dX11_sum_81 : decode cX11_sum 81 = .ok (.putfield 341, 3) := by decide +kernel
theorem dX11_sum_84 : decode cX11_sum 84 = .ok (.aload_n 0, 1) := by decide +kernel
theorem dX11_sum_85 : decode cX11_sum 85 = .ok (.invokevirtual 351, 3) := by decide +kernel
theorem dX11_sum_88 : decode cX11_sum 88 = .ok (.goto 30, 3) := by decide +kernel
theorem dX11_sum_91 : decode cX11_sum 91 = .ok (.aload_n 0, 1) := by decide +kernel
theorem dX11_sum_92 : decode cX11_sum 92 = .ok (.bipush 13, 2) := by decide +kernel
theorem dX11_sum_94 : decode cX11_sum 94 = .ok (.invokevirtual 357, 3) := by decide +kernel
theorem dX11_sum_97 : decode cX11_sum 97 = .ok (.aload_n 0, 1) := by decide +kernel
theorem dX11_sum_98 : decode cX11_sum 98 = .ok (.getfield 341, 3) := by decide +kernel
theorem dX11_sum_101 : decode cX11_sum 101 = .ok (.ifCond .le 7, 3) := by decide +kernel
theorem dX11_sum_104 : decode cX11_sum 104 = .ok (.iconst 1, 1) := by decide +kernel
theorem dX11_sum_105 : decode cX11_sum 105 = .ok (.goto 4, 3) := by decide +kernel
theorem dX11_sum_108 : decode cX11_sum 108 = .ok (.iconst 0, 1) := by decide +kernel
theorem dX11_sum_109 : decode cX11_sum 109 = .ok (.istore_n 1, 1) := by decide +kernel
theorem dX11_sum_110 : decode cX11_sum 110 = .ok (.iload_n 1, 1) := by decide +kernel
theorem dX11_sum_111 : decode cX11_sum 111 = .ok (.ifCond .eq 7, 3) := by decide +kernel
theorem dX11_sum_114 : decode cX11_sum 114 = .ok (.aload_n 0, 1) := by decide +kernel
theorem dX11_sum_115 : decode cX11_sum 115 = .ok (.invokevirtual 360, 3) := by decide +kernel
theorem dX11_sum_118 : decode cX11_sum 118 = .ok (.goto (-102), 3) := by decide +kernel
theorem dX11_sum_121 : decode cX11_sum 121 = .ok (.return_, 1) := by decide +kernel
