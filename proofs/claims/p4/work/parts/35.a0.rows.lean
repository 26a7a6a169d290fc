theorem dX11_best_0 : decode cX11_best 0 = .ok (.aload_n 0, 1) := by decide +kernel
theorem dX11_best_1 : decode cX11_best 1 = .ok (.iconst 0, 1) := by decide +kernel
theorem dX11_best_2 : decode cX11_best 2 = .ok (.putfield 73, 3) := by decide +kernel
theorem dX11_best_5 : decode cX11_best 5 = .ok (.aload_n 0, 1) := by decide +kernel
theorem dX11_best_6 : decode cX11_best 6 = .ok (.iload_n 1, 1) := by decide +kernel
theorem dX11_best_7 : decode cX11_best 7 = .ok (.invokevirtual 222, 3) := by decide +kernel
theorem dX11_best_10 : decode cX11_best 10 = .ok (.ifCond .eq 28, 3) := by decide +kernel
theorem dX11_best_13 : decode cX11_best 13 = .ok (.iload_n 2, 1) := by decide +kernel
theorem dX11_best_14 : decode cX11_best 14 = .ok (.i2l, 1) := by decide +kernel
theorem dX11_best_15 : decode cX11_best 15 = .ok (.lconst 1, 1) := by decide +kernel
theorem dX11_best_16 : decode cX11_best 16 = .ok (.ldc2_w 186, 3) := by decide +kernel
theorem dX11_best_19 : decode cX11_best 19 = .ok (.invokestatic 83, 3) := by decide +kernel
theorem dX11_best_22 : decode cX11_best 22 = .ok (.ifCond .eq 16, 3) := by decide +kernel
theorem dX11_best_25 : decode cX11_best 25 = .ok (.iload 5, 2) := by decide +kernel
theorem dX11_best_27 : decode cX11_best 27 = .ok (.i2l, 1) := by decide +kernel
theorem dX11_best_28 : decode cX11_best 28 = .ok (.lconst 0, 1) := by decide +kernel
theorem dX11_best_29 : decode cX11_best 29 = .ok (.ldc2_w 210, 3) := by decide +kernel
theorem dX11_best_32 : decode cX11_best 32 = .ok (.invokestatic 83, 3) := by decide +kernel
theorem dX11_best_35 : decode cX11_best 35 = .ok (.ifCond .ne 7, 3) := by decide +kernel
theorem dX11_best_38 : decode cX11_best 38 = .ok (.ldc2_w 235, 3) := by decide +kernel
theorem dX11_best_41 : decode cX11_best 41 = .ok (.lreturn, 1) := by decide +kernel
theorem dX11_best_42 : decode cX11_best 42 = .ok (.aload_n 0, 1) := by decide +kernel
theorem dX11_best_43 : decode cX11_best 43 = .ok (.lload_n 3, 1) := by decide +kernel
theorem dX11_best_44 : decode cX11_best 44 = .ok (.putfield 105, 3) := by decide +kernel
theorem dX11_best_47 : decode cX11_best 47 = .ok (.iconst (-1), 1) := by decide +kernel
theorem dX11_best_48 : decode cX11_best 48 = .ok (.istore 6, 2) := by decide +kernel
theorem dX11_best_50 : decode cX11_best 50 = .ok (.iconst 0, 1) := by decide +kernel
theorem dX11_best_51 : decode cX11_best 51 = .ok (.istore 7, 2) := by decide +kernel
theorem dX11_best_53 : decode cX11_best 53 = .ok (.lconst 0, 1) := by decide +kernel
theorem dX11_best_54 : decode cX11_best 54 = .ok (.lstore 8, 2) := by decide +kernel
theorem dX11_best_56 : decode cX11_best 56 = .ok (.iconst 0, 1) := by decide +kernel
theorem dX11_best_57 : decode cX11_best 57 = .ok (.istore 10, 2) := by decide +kernel
theorem dX11_best_59 : decode cX11_best 59 = .ok (.iload 10, 2) := by decide +kernel
theorem dX11_best_61 : decode cX11_best 61 = .ok (.iload_n 2, 1) := by decide +kernel
theorem dX11_best_62 : decode cX11_best 62 = .ok (.if_icmp .ge 86, 3) := by decide +kernel
theorem dX11_best_65 : decode cX11_best 65 = .ok (.aload_n 0, 1) := by decide +kernel
theorem dX11_best_66 : decode cX11_best 66 = .ok (.invokevirtual 141, 3) := by decide +kernel
theorem dX11_best_69 : decode cX11_best 69 = .ok (.aload_n 0, 1) := by decide +kernel
theorem dX11_best_70 : decode cX11_best 70 = .ok (.iload_n 1, 1) := by decide +kernel
theorem dX11_best_71 : decode cX11_best 71 = .ok (.aload_n 0, 1) := by decide +kernel
theorem dX11_best_72 : decode cX11_best 72 = .ok (.getfield 117, 3) := by decide +kernel
theorem dX11_best_75 : decode cX11_best 75 = .ok (.aload_n 0, 1) := by decide +kernel
theorem dX11_best_76 : decode cX11_best 76 = .ok (.getfield 120, 3) := by decide +kernel
theorem dX11_best_79 : decode cX11_best 79 = .ok (.invokevirtual 255, 3) := by decide +kernel
theorem dX11_best_82 : decode cX11_best 82 = .ok (.lstore 11, 2) := by decide +kernel
theorem dX11_best_84 : decode cX11_best 84 = .ok (.iload 7, 2) := by decide +kernel
theorem dX11_best_86 : decode cX11_best 86 = .ok (.lload 11, 2) := by decide +kernel
theorem dX11_best_88 : decode cX11_best 88 = .ok (.aload_n 0, 1) := by decide +kernel
theorem dX11_best_89 : decode cX11_best 89 = .ok (.iload_n 1, 1) := by decide +kernel
theorem dX11_best_90 : decode cX11_best 90 = .ok (.bipush 14, 2) := by decide +kernel
theorem dX11_best_92 : decode cX11_best 92 = .ok (.invokevirtual 89, 3) := by decide +kernel
theorem dX11_best_95 : decode cX11_best 95 = .ok (.aload_n 0, 1) := by decide +kernel
theorem dX11_best_96 : decode cX11_best 96 = .ok (.iload_n 1, 1) := by decide +kernel
theorem dX11_best_97 : decode cX11_best 97 = .ok (.iconst 2, 1) := by decide +kernel
theorem dX11_best_98 : decode cX11_best 98 = .ok (.invokevirtual 89, 3) := by decide +kernel
theorem dX11_best_101 : decode cX11_best 101 = .ok (.lmul, 1) := by decide +kernel
theorem dX11_best_102 : decode cX11_best 102 = .ok (.lcmp, 1) := by decide +kernel
theorem dX11_best_103 : decode cX11_best 103 = .ok (.ifCond .gt 7, 3) := by decide +kernel
theorem dX11_best_106 : decode cX11_best 106 = .ok (.iconst 1, 1) := by decide +kernel
theorem dX11_best_107 : decode cX11_best 107 = .ok (.goto 4, 3) := by decide +kernel
theorem dX11_best_110 : decode cX11_best 110 = .ok (.iconst 0, 1) := by decide +kernel
theorem dX11_best_111 : decode cX11_best 111 = .ok (.invokestatic 198, 3) := by decide +kernel
theorem dX11_best_114 : decode cX11_best 114 = .ok (.iadd, 1) := by decide +kernel
theorem dX11_best_115 : decode cX11_best 115 = .ok (.istore 7, 2) := by decide +kernel
theorem dX11_best_117 : decode cX11_best 117 = .ok (.iload 6, 2) := by decide +kernel
theorem dX11_best_119 : decode cX11_best 119 = .ok (.iconst (-1), 1) := by decide +kernel
theorem dX11_best_120 : decode cX11_best 120 = .ok (.if_icmp .eq 14, 3) := by decide +kernel
theorem dX11_best_123 : decode cX11_best 123 = .ok (.lload 11, 2) := by decide +kernel
theorem dX11_best_125 : decode cX11_best 125 = .ok (.lload 8, 2) := by decide +kernel
theorem dX11_best_127 : decode cX11_best 127 = .ok (.lcmp, 1) := by decide +kernel
theorem dX11_best_128 : decode cX11_best 128 = .ok (.ifCond .lt 6, 3) := by decide +kernel
theorem dX11_best_131 : decode cX11_best 131 = .ok (.goto 11, 3) := by decide +kernel
theorem dX11_best_134 : decode cX11_best 134 = .ok (.iload 10, 2) := by decide +kernel
theorem dX11_best_136 : decode cX11_best 136 = .ok (.istore 6, 2) := by decide +kernel
theorem dX11_best_138 : decode cX11_best 138 = .ok (.lload 11, 2) := by decide +kernel
theorem dX11_best_140 : decode cX11_best 140 = .ok (.lstore 8, 2) := by decide +kernel
theorem dX11_best_142 : decode cX11_best 142 = .ok (.iinc 10 1, 3) := by decide +kernel
theorem dX11_best_145 : decode cX11_best 145 = .ok (.goto (-86), 3) := by decide +kernel
theorem dX11_best_148 : decode cX11_best 148 = .ok (.iload 5, 2) := by decide +kernel
theorem dX11_best_150 : decode cX11_best 150 = .ok (.ifCond .ne 9, 3) := by decide +kernel
theorem dX11_best_153 : decode cX11_best 153 = .ok (.iload 6, 2) := by decide +kernel
theorem dX11_best_155 : decode cX11_best 155 = .ok (.i2l, 1) := by decide +kernel
theorem dX11_best_156 : decode cX11_best 156 = .ok (.goto 17, 3) := by decide +kernel
theorem dX11_best_159 : decode cX11_best 159 = .ok (.iload 5, 2) := by decide +kernel
theorem dX11_best_161 : decode cX11_best 161 = .ok (.iconst 1, 1) := by decide +kernel
theorem dX11_best_162 : decode cX11_best 162 = .ok (.if_icmp .ne 8, 3) := by decide +kernel
theorem dX11_best_165 : decode cX11_best 165 = .ok (.lload 8, 2) := by decide +kernel
theorem dX11_best_167 : decode cX11_best 167 = .ok (.goto 6, 3) := by decide +kernel
theorem dX11_best_170 : decode cX11_best 170 = .ok (.iload 7, 2) := by decide +kernel
theorem dX11_best_172 : decode cX11_best 172 = .ok (.i2l, 1) := by decide +kernel
theorem dX11_best_173 : decode cX11_best 173 = .ok (.lreturn, 1) := by decide +kernel
