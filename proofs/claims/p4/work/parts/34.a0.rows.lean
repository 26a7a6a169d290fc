theorem dX11_sumBy_0 : decode cX11_sumBy 0 = .ok (.aload_n 0, 1) := by decide +kernel
theorem dX11_sumBy_1 : decode cX11_sumBy 1 = .ok (.iload_n 1, 1) := by decide +kernel
theorem dX11_sumBy_2 : decode cX11_sumBy 2 = .ok (.invokevirtual 152, 3) := by decide +kernel
theorem dX11_sumBy_5 : decode cX11_sumBy 5 = .ok (.istore 6, 2) := by decide +kernel
theorem dX11_sumBy_7 : decode cX11_sumBy 7 = .ok (.iconst 0, 1) := by decide +kernel
theorem dX11_sumBy_8 : decode cX11_sumBy 8 = .ok (.istore 7, 2) := by decide +kernel
theorem dX11_sumBy_10 : decode cX11_sumBy 10 = .ok (.iload 7, 2) := by decide +kernel
theorem dX11_sumBy_12 : decode cX11_sumBy 12 = .ok (.iload 6, 2) := by decide +kernel
theorem dX11_sumBy_14 : decode cX11_sumBy 14 = .ok (.if_icmp .ge 17, 3) := by decide +kernel
theorem dX11_sumBy_17 : decode cX11_sumBy 17 = .ok (.aload_n 0, 1) := by decide +kernel
theorem dX11_sumBy_18 : decode cX11_sumBy 18 = .ok (.getfield 42, 3) := by decide +kernel
theorem dX11_sumBy_21 : decode cX11_sumBy 21 = .ok (.iload 7, 2) := by decide +kernel
theorem dX11_sumBy_23 : decode cX11_sumBy 23 = .ok (.iconst 0, 1) := by decide +kernel
theorem dX11_sumBy_24 : decode cX11_sumBy 24 = .ok (.iastore, 1) := by decide +kernel
theorem dX11_sumBy_25 : decode cX11_sumBy 25 = .ok (.iinc 7 1, 3) := by decide +kernel
theorem dX11_sumBy_28 : decode cX11_sumBy 28 = .ok (.goto (-18), 3) := by decide +kernel
theorem dX11_sumBy_31 : decode cX11_sumBy 31 = .ok (.sipush 160, 3) := by decide +kernel
theorem dX11_sumBy_34 : decode cX11_sumBy 34 = .ok (.iload_n 1, 1) := by decide +kernel
theorem dX11_sumBy_35 : decode cX11_sumBy 35 = .ok (.imul, 1) := by decide +kernel
theorem dX11_sumBy_36 : decode cX11_sumBy 36 = .ok (.istore 7, 2) := by decide +kernel
theorem dX11_sumBy_38 : decode cX11_sumBy 38 = .ok (.iload 7, 2) := by decide +kernel
theorem dX11_sumBy_40 : decode cX11_sumBy 40 = .ok (.sipush 160, 3) := by decide +kernel
theorem dX11_sumBy_43 : decode cX11_sumBy 43 = .ok (.iload_n 1, 1) := by decide +kernel
theorem dX11_sumBy_44 : decode cX11_sumBy 44 = .ok (.imul, 1) := by decide +kernel
theorem dX11_sumBy_45 : decode cX11_sumBy 45 = .ok (.aload_n 0, 1) := by decide +kernel
theorem dX11_sumBy_46 : decode cX11_sumBy 46 = .ok (.iload_n 1, 1) := by decide +kernel
theorem dX11_sumBy_47 : decode cX11_sumBy 47 = .ok (.invokevirtual 95, 3) := by decide +kernel
theorem dX11_sumBy_50 : decode cX11_sumBy 50 = .ok (.iadd, 1) := by decide +kernel
theorem dX11_sumBy_51 : decode cX11_sumBy 51 = .ok (.if_icmp .ge 35, 3) := by decide +kernel
theorem dX11_sumBy_54 : decode cX11_sumBy 54 = .ok (.aload_n 0, 1) := by decide +kernel
theorem dX11_sumBy_55 : decode cX11_sumBy 55 = .ok (.getfield 42, 3) := by decide +kernel
theorem dX11_sumBy_58 : decode cX11_sumBy 58 = .ok (.lload_n 2, 1) := by decide +kernel
theorem dX11_sumBy_59 : decode cX11_sumBy 59 = .ok (.lload 4, 2) := by decide +kernel
theorem dX11_sumBy_61 : decode cX11_sumBy 61 = .ok (.aload_n 0, 1) := by decide +kernel
theorem dX11_sumBy_62 : decode cX11_sumBy 62 = .ok (.getfield 17, 3) := by decide +kernel
theorem dX11_sumBy_65 : decode cX11_sumBy 65 = .ok (.iload 7, 2) := by decide +kernel
theorem dX11_sumBy_67 : decode cX11_sumBy 67 = .ok (.iaload, 1) := by decide +kernel
theorem dX11_sumBy_68 : decode cX11_sumBy 68 = .ok (.i2l, 1) := by decide +kernel
theorem dX11_sumBy_69 : decode cX11_sumBy 69 = .ok (.iload 6, 2) := by decide +kernel
theorem dX11_sumBy_71 : decode cX11_sumBy 71 = .ok (.i2l, 1) := by decide +kernel
theorem dX11_sumBy_72 : decode cX11_sumBy 72 = .ok (.invokestatic 133, 3) := by decide +kernel
theorem dX11_sumBy_75 : decode cX11_sumBy 75 = .ok (.dup2, 1) := by decide +kernel
theorem dX11_sumBy_76 : decode cX11_sumBy 76 = .ok (.iaload, 1) := by decide +kernel
theorem dX11_sumBy_77 : decode cX11_sumBy 77 = .ok (.iconst 1, 1) := by decide +kernel
theorem dX11_sumBy_78 : decode cX11_sumBy 78 = .ok (.iadd, 1) := by decide +kernel
theorem dX11_sumBy_79 : decode cX11_sumBy 79 = .ok (.iastore, 1) := by decide +kernel
theorem dX11_sumBy_80 : decode cX11_sumBy 80 = .ok (.iinc 7 1, 3) := by decide +kernel
theorem dX11_sumBy_83 : decode cX11_sumBy 83 = .ok (.goto (-45), 3) := by decide +kernel
theorem dX11_sumBy_86 : decode cX11_sumBy 86 = .ok (.lconst 0, 1) := by decide +kernel
theorem dX11_sumBy_87 : decode cX11_sumBy 87 = .ok (.lstore 7, 2) := by decide +kernel
theorem dX11_sumBy_89 : decode cX11_sumBy 89 = .ok (.iconst 0, 1) := by decide +kernel
theorem dX11_sumBy_90 : decode cX11_sumBy 90 = .ok (.istore 9, 2) := by decide +kernel
theorem dX11_sumBy_92 : decode cX11_sumBy 92 = .ok (.iload 9, 2) := by decide +kernel
theorem dX11_sumBy_94 : decode cX11_sumBy 94 = .ok (.iload 6, 2) := by decide +kernel
theorem dX11_sumBy_96 : decode cX11_sumBy 96 = .ok (.if_icmp .ge 35, 3) := by decide +kernel
theorem dX11_sumBy_99 : decode cX11_sumBy 99 = .ok (.lload 7, 2) := by decide +kernel
theorem dX11_sumBy_101 : decode cX11_sumBy 101 = .ok (.ldc2_w 160, 3) := by decide +kernel
theorem dX11_sumBy_104 : decode cX11_sumBy 104 = .ok (.aload_n 0, 1) := by decide +kernel
theorem dX11_sumBy_105 : decode cX11_sumBy 105 = .ok (.getfield 42, 3) := by decide +kernel
theorem dX11_sumBy_108 : decode cX11_sumBy 108 = .ok (.iload 9, 2) := by decide +kernel
theorem dX11_sumBy_110 : decode cX11_sumBy 110 = .ok (.iaload, 1) := by decide +kernel
theorem dX11_sumBy_111 : decode cX11_sumBy 111 = .ok (.i2l, 1) := by decide +kernel
theorem dX11_sumBy_112 : decode cX11_sumBy 112 = .ok (.lmul, 1) := by decide +kernel
theorem dX11_sumBy_113 : decode cX11_sumBy 113 = .ok (.aload_n 0, 1) := by decide +kernel
theorem dX11_sumBy_114 : decode cX11_sumBy 114 = .ok (.getfield 42, 3) := by decide +kernel
theorem dX11_sumBy_117 : decode cX11_sumBy 117 = .ok (.iload 9, 2) := by decide +kernel
theorem dX11_sumBy_119 : decode cX11_sumBy 119 = .ok (.iaload, 1) := by decide +kernel
theorem dX11_sumBy_120 : decode cX11_sumBy 120 = .ok (.i2l, 1) := by decide +kernel
theorem dX11_sumBy_121 : decode cX11_sumBy 121 = .ok (.lmul, 1) := by decide +kernel
theorem dX11_sumBy_122 : decode cX11_sumBy 122 = .ok (.ladd, 1) := by decide +kernel
theorem dX11_sumBy_123 : decode cX11_sumBy 123 = .ok (.lstore 7, 2) := by decide +kernel
theorem dX11_sumBy_125 : decode cX11_sumBy 125 = .ok (.iinc 9 1, 3) := by decide +kernel
theorem dX11_sumBy_128 : decode cX11_sumBy 128 = .ok (.goto (-36), 3) := by decide +kernel
theorem dX11_sumBy_131 : decode cX11_sumBy 131 = .ok (.lload 7, 2) := by decide +kernel
theorem dX11_sumBy_133 : decode cX11_sumBy 133 = .ok (.lreturn, 1) := by decide +kernel
