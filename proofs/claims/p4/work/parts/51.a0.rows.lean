theorem dX11_frozen_0 : decode cX11_frozen 0 = .ok (.aload_n 0, 1) := by decide +kernel
theorem dX11_frozen_1 : decode cX11_frozen 1 = .ok (.iconst 0, 1) := by decide +kernel
theorem dX11_frozen_2 : decode cX11_frozen 2 = .ok (.putfield 73, 3) := by decide +kernel
theorem dX11_frozen_5 : decode cX11_frozen 5 = .ok (.aload_n 0, 1) := by decide +kernel
theorem dX11_frozen_6 : decode cX11_frozen 6 = .ok (.iload_n 1, 1) := by decide +kernel
theorem dX11_frozen_7 : decode cX11_frozen 7 = .ok (.invokevirtual 222, 3) := by decide +kernel
theorem dX11_frozen_10 : decode cX11_frozen 10 = .ok (.ifCond .eq 16, 3) := by decide +kernel
theorem dX11_frozen_13 : decode cX11_frozen 13 = .ok (.iload 4, 2) := by decide +kernel
theorem dX11_frozen_15 : decode cX11_frozen 15 = .ok (.i2l, 1) := by decide +kernel
theorem dX11_frozen_16 : decode cX11_frozen 16 = .ok (.lconst 0, 1) := by decide +kernel
theorem dX11_frozen_17 : decode cX11_frozen 17 = .ok (.ldc2_w 160, 3) := by decide +kernel
theorem dX11_frozen_20 : decode cX11_frozen 20 = .ok (.invokestatic 83, 3) := by decide +kernel
theorem dX11_frozen_23 : decode cX11_frozen 23 = .ok (.ifCond .ne 7, 3) := by decide +kernel
theorem dX11_frozen_26 : decode cX11_frozen 26 = .ok (.ldc2_w 235, 3) := by decide +kernel
theorem dX11_frozen_29 : decode cX11_frozen 29 = .ok (.lreturn, 1) := by decide +kernel
theorem dX11_frozen_30 : decode cX11_frozen 30 = .ok (.aload_n 0, 1) := by decide +kernel
theorem dX11_frozen_31 : decode cX11_frozen 31 = .ok (.iload_n 1, 1) := by decide +kernel
theorem dX11_frozen_32 : decode cX11_frozen 32 = .ok (.lload_n 2, 1) := by decide +kernel
theorem dX11_frozen_33 : decode cX11_frozen 33 = .ok (.invokevirtual 268, 3) := by decide +kernel
theorem dX11_frozen_36 : decode cX11_frozen 36 = .ok (.ifCond .ne 7, 3) := by decide +kernel
theorem dX11_frozen_39 : decode cX11_frozen 39 = .ok (.ldc2_w 272, 3) := by decide +kernel
theorem dX11_frozen_42 : decode cX11_frozen 42 = .ok (.lreturn, 1) := by decide +kernel
theorem dX11_frozen_43 : decode cX11_frozen 43 = .ok (.iload 4, 2) := by decide +kernel
theorem dX11_frozen_45 : decode cX11_frozen 45 = .ok (.ifCond .ne 10, 3) := by decide +kernel
theorem dX11_frozen_48 : decode cX11_frozen 48 = .ok (.aload_n 0, 1) := by decide +kernel
theorem dX11_frozen_49 : decode cX11_frozen 49 = .ok (.iconst 4, 1) := by decide +kernel
theorem dX11_frozen_50 : decode cX11_frozen 50 = .ok (.iconst 5, 1) := by decide +kernel
theorem dX11_frozen_51 : decode cX11_frozen 51 = .ok (.invokevirtual 89, 3) := by decide +kernel
theorem dX11_frozen_54 : decode cX11_frozen 54 = .ok (.lreturn, 1) := by decide +kernel
theorem dX11_frozen_55 : decode cX11_frozen 55 = .ok (.iload 4, 2) := by decide +kernel
theorem dX11_frozen_57 : decode cX11_frozen 57 = .ok (.iconst 3, 1) := by decide +kernel
theorem dX11_frozen_58 : decode cX11_frozen 58 = .ok (.if_icmp .ge 23, 3) := by decide +kernel
theorem dX11_frozen_61 : decode cX11_frozen 61 = .ok (.iload 4, 2) := by decide +kernel
theorem dX11_frozen_63 : decode cX11_frozen 63 = .ok (.iconst 1, 1) := by decide +kernel
theorem dX11_frozen_64 : decode cX11_frozen 64 = .ok (.if_icmp .ne 11, 3) := by decide +kernel
theorem dX11_frozen_67 : decode cX11_frozen 67 = .ok (.aload_n 0, 1) := by decide +kernel
theorem dX11_frozen_68 : decode cX11_frozen 68 = .ok (.getfield 259, 3) := by decide +kernel
theorem dX11_frozen_71 : decode cX11_frozen 71 = .ok (.i2l, 1) := by decide +kernel
theorem dX11_frozen_72 : decode cX11_frozen 72 = .ok (.goto 8, 3) := by decide +kernel
theorem dX11_frozen_75 : decode cX11_frozen 75 = .ok (.aload_n 0, 1) := by decide +kernel
theorem dX11_frozen_76 : decode cX11_frozen 76 = .ok (.getfield 262, 3) := by decide +kernel
theorem dX11_frozen_79 : decode cX11_frozen 79 = .ok (.i2l, 1) := by decide +kernel
theorem dX11_frozen_80 : decode cX11_frozen 80 = .ok (.lreturn, 1) := by decide +kernel
theorem dX11_frozen_81 : decode cX11_frozen 81 = .ok (.iconst (-1), 1) := by decide +kernel
theorem dX11_frozen_82 : decode cX11_frozen 82 = .ok (.istore 5, 2) := by decide +kernel
theorem dX11_frozen_84 : decode cX11_frozen 84 = .ok (.iconst 0, 1) := by decide +kernel
theorem dX11_frozen_85 : decode cX11_frozen 85 = .ok (.istore 6, 2) := by decide +kernel
theorem dX11_frozen_87 : decode cX11_frozen 87 = .ok (.iload 6, 2) := by decide +kernel
theorem dX11_frozen_89 : decode cX11_frozen 89 = .ok (.aload_n 0, 1) := by decide +kernel
theorem dX11_frozen_90 : decode cX11_frozen 90 = .ok (.iload_n 1, 1) := by decide +kernel
theorem dX11_frozen_91 : decode cX11_frozen 91 = .ok (.invokevirtual 95, 3) := by decide +kernel
theorem dX11_frozen_94 : decode cX11_frozen 94 = .ok (.if_icmp .ge 50, 3) := by decide +kernel
theorem dX11_frozen_97 : decode cX11_frozen 97 = .ok (.aload_n 0, 1) := by decide +kernel
theorem dX11_frozen_98 : decode cX11_frozen 98 = .ok (.iload 6, 2) := by decide +kernel
theorem dX11_frozen_100 : decode cX11_frozen 100 = .ok (.invokevirtual 274, 3) := by decide +kernel
theorem dX11_frozen_103 : decode cX11_frozen 103 = .ok (.istore 7, 2) := by decide +kernel
theorem dX11_frozen_105 : decode cX11_frozen 105 = .ok (.iload 5, 2) := by decide +kernel
theorem dX11_frozen_107 : decode cX11_frozen 107 = .ok (.iconst (-1), 1) := by decide +kernel
theorem dX11_frozen_108 : decode cX11_frozen 108 = .ok (.if_icmp .eq 26, 3) := by decide +kernel
theorem dX11_frozen_111 : decode cX11_frozen 111 = .ok (.iload 4, 2) := by decide +kernel
theorem dX11_frozen_113 : decode cX11_frozen 113 = .ok (.iconst 3, 1) := by decide +kernel
theorem dX11_frozen_114 : decode cX11_frozen 114 = .ok (.if_icmp .ne 13, 3) := by decide +kernel
theorem dX11_frozen_117 : decode cX11_frozen 117 = .ok (.iload 7, 2) := by decide +kernel
theorem dX11_frozen_119 : decode cX11_frozen 119 = .ok (.iload 5, 2) := by decide +kernel
theorem dX11_frozen_121 : decode cX11_frozen 121 = .ok (.if_icmp .ge 17, 3) := by decide +kernel
theorem dX11_frozen_124 : decode cX11_frozen 124 = .ok (.goto 10, 3) := by decide +kernel
theorem dX11_frozen_127 : decode cX11_frozen 127 = .ok (.iload 7, 2) := by decide +kernel
theorem dX11_frozen_129 : decode cX11_frozen 129 = .ok (.iload 5, 2) := by decide +kernel
theorem dX11_frozen_131 : decode cX11_frozen 131 = .ok (.if_icmp .le 7, 3) := by decide +kernel
theorem dX11_frozen_134 : decode cX11_frozen 134 = .ok (.iload 7, 2) := by decide +kernel
theorem dX11_frozen_136 : decode cX11_frozen 136 = .ok (.istore 5, 2) := by decide +kernel
theorem dX11_frozen_138 : decode cX11_frozen 138 = .ok (.iinc 6 1, 3) := by decide +kernel
theorem dX11_frozen_141 : decode cX11_frozen 141 = .ok (.goto (-54), 3) := by decide +kernel
theorem dX11_frozen_144 : decode cX11_frozen 144 = .ok (.iload 5, 2) := by decide +kernel
theorem dX11_frozen_146 : decode cX11_frozen 146 = .ok (.i2l, 1) := by decide +kernel
theorem dX11_frozen_147 : decode cX11_frozen 147 = .ok (.lreturn, 1) := by decide +kernel
