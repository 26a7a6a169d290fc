theorem dX11_clashes_0 : decode cX11_clashes 0 = .ok (.aload_n 0, 1) := by decide +kernel
theorem dX11_clashes_1 : decode cX11_clashes 1 = .ok (.iload_n 1, 1) := by decide +kernel
theorem dX11_clashes_2 : decode cX11_clashes 2 = .ok (.iload_n 2, 1) := by decide +kernel
theorem dX11_clashes_3 : decode cX11_clashes 3 = .ok (.invokevirtual 137, 3) := by decide +kernel
theorem dX11_clashes_6 : decode cX11_clashes 6 = .ok (.istore 7, 2) := by decide +kernel
theorem dX11_clashes_8 : decode cX11_clashes 8 = .ok (.iconst 0, 1) := by decide +kernel
theorem dX11_clashes_9 : decode cX11_clashes 9 = .ok (.istore 8, 2) := by decide +kernel
theorem dX11_clashes_11 : decode cX11_clashes 11 = .ok (.sipush 160, 3) := by decide +kernel
theorem dX11_clashes_14 : decode cX11_clashes 14 = .ok (.iload_n 1, 1) := by decide +kernel
theorem dX11_clashes_15 : decode cX11_clashes 15 = .ok (.imul, 1) := by decide +kernel
theorem dX11_clashes_16 : decode cX11_clashes 16 = .ok (.istore 9, 2) := by decide +kernel
theorem dX11_clashes_18 : decode cX11_clashes 18 = .ok (.iload 9, 2) := by decide +kernel
theorem dX11_clashes_20 : decode cX11_clashes 20 = .ok (.sipush 160, 3) := by decide +kernel
theorem dX11_clashes_23 : decode cX11_clashes 23 = .ok (.iload_n 1, 1) := by decide +kernel
theorem dX11_clashes_24 : decode cX11_clashes 24 = .ok (.imul, 1) := by decide +kernel
theorem dX11_clashes_25 : decode cX11_clashes 25 = .ok (.aload_n 0, 1) := by decide +kernel
theorem dX11_clashes_26 : decode cX11_clashes 26 = .ok (.iload_n 1, 1) := by decide +kernel
theorem dX11_clashes_27 : decode cX11_clashes 27 = .ok (.invokevirtual 95, 3) := by decide +kernel
theorem dX11_clashes_30 : decode cX11_clashes 30 = .ok (.iadd, 1) := by decide +kernel
theorem dX11_clashes_31 : decode cX11_clashes 31 = .ok (.if_icmp .ge 106, 3) := by decide +kernel
theorem dX11_clashes_34 : decode cX11_clashes 34 = .ok (.aload_n 0, 1) := by decide +kernel
theorem dX11_clashes_35 : decode cX11_clashes 35 = .ok (.getfield 24, 3) := by decide +kernel
theorem dX11_clashes_38 : decode cX11_clashes 38 = .ok (.iload 9, 2) := by decide +kernel
theorem dX11_clashes_40 : decode cX11_clashes 40 = .ok (.iaload, 1) := by decide +kernel
theorem dX11_clashes_41 : decode cX11_clashes 41 = .ok (.iload_n 2, 1) := by decide +kernel
theorem dX11_clashes_42 : decode cX11_clashes 42 = .ok (.if_icmp .eq 6, 3) := by decide +kernel
theorem dX11_clashes_45 : decode cX11_clashes 45 = .ok (.goto 86, 3) := by decide +kernel
theorem dX11_clashes_48 : decode cX11_clashes 48 = .ok (.lload_n 3, 1) := by decide +kernel
theorem dX11_clashes_49 : decode cX11_clashes 49 = .ok (.lload 5, 2) := by decide +kernel
theorem dX11_clashes_51 : decode cX11_clashes 51 = .ok (.aload_n 0, 1) := by decide +kernel
theorem dX11_clashes_52 : decode cX11_clashes 52 = .ok (.getfield 17, 3) := by decide +kernel
theorem dX11_clashes_55 : decode cX11_clashes 55 = .ok (.iload 9, 2) := by decide +kernel
theorem dX11_clashes_57 : decode cX11_clashes 57 = .ok (.iaload, 1) := by decide +kernel
theorem dX11_clashes_58 : decode cX11_clashes 58 = .ok (.i2l, 1) := by decide +kernel
theorem dX11_clashes_59 : decode cX11_clashes 59 = .ok (.iload 7, 2) := by decide +kernel
theorem dX11_clashes_61 : decode cX11_clashes 61 = .ok (.i2l, 1) := by decide +kernel
theorem dX11_clashes_62 : decode cX11_clashes 62 = .ok (.invokestatic 133, 3) := by decide +kernel
theorem dX11_clashes_65 : decode cX11_clashes 65 = .ok (.istore 10, 2) := by decide +kernel
theorem dX11_clashes_67 : decode cX11_clashes 67 = .ok (.iload 9, 2) := by decide +kernel
theorem dX11_clashes_69 : decode cX11_clashes 69 = .ok (.iconst 1, 1) := by decide +kernel
theorem dX11_clashes_70 : decode cX11_clashes 70 = .ok (.iadd, 1) := by decide +kernel
theorem dX11_clashes_71 : decode cX11_clashes 71 = .ok (.istore 11, 2) := by decide +kernel
theorem dX11_clashes_73 : decode cX11_clashes 73 = .ok (.iload 11, 2) := by decide +kernel
theorem dX11_clashes_75 : decode cX11_clashes 75 = .ok (.sipush 160, 3) := by decide +kernel
theorem dX11_clashes_78 : decode cX11_clashes 78 = .ok (.iload_n 1, 1) := by decide +kernel
theorem dX11_clashes_79 : decode cX11_clashes 79 = .ok (.imul, 1) := by decide +kernel
theorem dX11_clashes_80 : decode cX11_clashes 80 = .ok (.aload_n 0, 1) := by decide +kernel
theorem dX11_clashes_81 : decode cX11_clashes 81 = .ok (.iload_n 1, 1) := by decide +kernel
theorem dX11_clashes_82 : decode cX11_clashes 82 = .ok (.invokevirtual 95, 3) := by decide +kernel
theorem dX11_clashes_85 : decode cX11_clashes 85 = .ok (.iadd, 1) := by decide +kernel
theorem dX11_clashes_86 : decode cX11_clashes 86 = .ok (.if_icmp .ge 45, 3) := by decide +kernel
theorem dX11_clashes_89 : decode cX11_clashes 89 = .ok (.aload_n 0, 1) := by decide +kernel
theorem dX11_clashes_90 : decode cX11_clashes 90 = .ok (.getfield 24, 3) := by decide +kernel
theorem dX11_clashes_93 : decode cX11_clashes 93 = .ok (.iload 11, 2) := by decide +kernel
theorem dX11_clashes_95 : decode cX11_clashes 95 = .ok (.iaload, 1) := by decide +kernel
theorem dX11_clashes_96 : decode cX11_clashes 96 = .ok (.iload_n 2, 1) := by decide +kernel
theorem dX11_clashes_97 : decode cX11_clashes 97 = .ok (.if_icmp .ne 28, 3) := by decide +kernel
theorem dX11_clashes_100 : decode cX11_clashes 100 = .ok (.lload_n 3, 1) := by decide +kernel
theorem dX11_clashes_101 : decode cX11_clashes 101 = .ok (.lload 5, 2) := by decide +kernel
theorem dX11_clashes_103 : decode cX11_clashes 103 = .ok (.aload_n 0, 1) := by decide +kernel
theorem dX11_clashes_104 : decode cX11_clashes 104 = .ok (.getfield 17, 3) := by decide +kernel
theorem dX11_clashes_107 : decode cX11_clashes 107 = .ok (.iload 11, 2) := by decide +kernel
theorem dX11_clashes_109 : decode cX11_clashes 109 = .ok (.iaload, 1) := by decide +kernel
theorem dX11_clashes_110 : decode cX11_clashes 110 = .ok (.i2l, 1) := by decide +kernel
theorem dX11_clashes_111 : decode cX11_clashes 111 = .ok (.iload 7, 2) := by decide +kernel
theorem dX11_clashes_113 : decode cX11_clashes 113 = .ok (.i2l, 1) := by decide +kernel
theorem dX11_clashes_114 : decode cX11_clashes 114 = .ok (.invokestatic 133, 3) := by decide +kernel
theorem dX11_clashes_117 : decode cX11_clashes 117 = .ok (.iload 10, 2) := by decide +kernel
theorem dX11_clashes_119 : decode cX11_clashes 119 = .ok (.if_icmp .ne 6, 3) := by decide +kernel
theorem dX11_clashes_122 : decode cX11_clashes 122 = .ok (.iinc 8 1, 3) := by decide +kernel
theorem dX11_clashes_125 : decode cX11_clashes 125 = .ok (.iinc 11 1, 3) := by decide +kernel
theorem dX11_clashes_128 : decode cX11_clashes 128 = .ok (.goto (-55), 3) := by decide +kernel
theorem dX11_clashes_131 : decode cX11_clashes 131 = .ok (.iinc 9 1, 3) := by decide +kernel
theorem dX11_clashes_134 : decode cX11_clashes 134 = .ok (.goto (-116), 3) := by decide +kernel
theorem dX11_clashes_137 : decode cX11_clashes 137 = .ok (.iload 8, 2) := by decide +kernel
theorem dX11_clashes_139 : decode cX11_clashes 139 = .ok (.ireturn, 1) := by decide +kernel
