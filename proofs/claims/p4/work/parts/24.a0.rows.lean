theorem dX11_way_0 : decode cX11_way 0 = .ok (.aload_n 0, 1) := by decide +kernel
theorem dX11_way_1 : decode cX11_way 1 = .ok (.iload_n 1, 1) := by decide +kernel
theorem dX11_way_2 : decode cX11_way 2 = .ok (.iload_n 2, 1) := by decide +kernel
theorem dX11_way_3 : decode cX11_way 3 = .ok (.invokevirtual 202, 3) := by decide +kernel
theorem dX11_way_6 : decode cX11_way 6 = .ok (.ifCond .eq 5, 3) := by decide +kernel
theorem dX11_way_9 : decode cX11_way 9 = .ok (.iconst 0, 1) := by decide +kernel
theorem dX11_way_10 : decode cX11_way 10 = .ok (.ireturn, 1) := by decide +kernel
theorem dX11_way_11 : decode cX11_way 11 = .ok (.aload_n 0, 1) := by decide +kernel
theorem dX11_way_12 : decode cX11_way 12 = .ok (.iload_n 1, 1) := by decide +kernel
theorem dX11_way_13 : decode cX11_way 13 = .ok (.iconst 3, 1) := by decide +kernel
theorem dX11_way_14 : decode cX11_way 14 = .ok (.invokevirtual 89, 3) := by decide +kernel
theorem dX11_way_17 : decode cX11_way 17 = .ok (.lconst 1, 1) := by decide +kernel
theorem dX11_way_18 : decode cX11_way 18 = .ok (.ladd, 1) := by decide +kernel
theorem dX11_way_19 : decode cX11_way 19 = .ok (.aload_n 0, 1) := by decide +kernel
theorem dX11_way_20 : decode cX11_way 20 = .ok (.iload_n 1, 1) := by decide +kernel
theorem dX11_way_21 : decode cX11_way 21 = .ok (.iconst 2, 1) := by decide +kernel
theorem dX11_way_22 : decode cX11_way 22 = .ok (.invokevirtual 89, 3) := by decide +kernel
theorem dX11_way_25 : decode cX11_way 25 = .ok (.lcmp, 1) := by decide +kernel
theorem dX11_way_26 : decode cX11_way 26 = .ok (.ifCond .le 5, 3) := by decide +kernel
theorem dX11_way_29 : decode cX11_way 29 = .ok (.iconst 4, 1) := by decide +kernel
theorem dX11_way_30 : decode cX11_way 30 = .ok (.ireturn, 1) := by decide +kernel
theorem dX11_way_31 : decode cX11_way 31 = .ok (.aload_n 0, 1) := by decide +kernel
theorem dX11_way_32 : decode cX11_way 32 = .ok (.iload_n 1, 1) := by decide +kernel
theorem dX11_way_33 : decode cX11_way 33 = .ok (.iload_n 2, 1) := by decide +kernel
theorem dX11_way_34 : decode cX11_way 34 = .ok (.invokevirtual 155, 3) := by decide +kernel
theorem dX11_way_37 : decode cX11_way 37 = .ok (.istore_n 3, 1) := by decide +kernel
theorem dX11_way_38 : decode cX11_way 38 = .ok (.aload_n 0, 1) := by decide +kernel
theorem dX11_way_39 : decode cX11_way 39 = .ok (.getfield 30, 3) := by decide +kernel
theorem dX11_way_42 : decode cX11_way 42 = .ok (.sipush 2048, 3) := by decide +kernel
theorem dX11_way_45 : decode cX11_way 45 = .ok (.iload_n 1, 1) := by decide +kernel
theorem dX11_way_46 : decode cX11_way 46 = .ok (.imul, 1) := by decide +kernel
theorem dX11_way_47 : decode cX11_way 47 = .ok (.iload_n 3, 1) := by decide +kernel
theorem dX11_way_48 : decode cX11_way 48 = .ok (.iadd, 1) := by decide +kernel
theorem dX11_way_49 : decode cX11_way 49 = .ok (.iaload, 1) := by decide +kernel
theorem dX11_way_50 : decode cX11_way 50 = .ok (.istore 4, 2) := by decide +kernel
theorem dX11_way_52 : decode cX11_way 52 = .ok (.aload_n 0, 1) := by decide +kernel
theorem dX11_way_53 : decode cX11_way 53 = .ok (.getfield 33, 3) := by decide +kernel
theorem dX11_way_56 : decode cX11_way 56 = .ok (.sipush 2048, 3) := by decide +kernel
theorem dX11_way_59 : decode cX11_way 59 = .ok (.iload_n 1, 1) := by decide +kernel
theorem dX11_way_60 : decode cX11_way 60 = .ok (.imul, 1) := by decide +kernel
theorem dX11_way_61 : decode cX11_way 61 = .ok (.iload_n 3, 1) := by decide +kernel
theorem dX11_way_62 : decode cX11_way 62 = .ok (.iadd, 1) := by decide +kernel
theorem dX11_way_63 : decode cX11_way 63 = .ok (.iaload, 1) := by decide +kernel
theorem dX11_way_64 : decode cX11_way 64 = .ok (.iload 4, 2) := by decide +kernel
theorem dX11_way_66 : decode cX11_way 66 = .ok (.if_icmp .ge 25, 3) := by decide +kernel
theorem dX11_way_69 : decode cX11_way 69 = .ok (.aload_n 0, 1) := by decide +kernel
theorem dX11_way_70 : decode cX11_way 70 = .ok (.iload_n 1, 1) := by decide +kernel
theorem dX11_way_71 : decode cX11_way 71 = .ok (.iload_n 3, 1) := by decide +kernel
theorem dX11_way_72 : decode cX11_way 72 = .ok (.aload_n 0, 1) := by decide +kernel
theorem dX11_way_73 : decode cX11_way 73 = .ok (.iload_n 1, 1) := by decide +kernel
theorem dX11_way_74 : decode cX11_way 74 = .ok (.iload_n 3, 1) := by decide +kernel
theorem dX11_way_75 : decode cX11_way 75 = .ok (.iload_n 2, 1) := by decide +kernel
theorem dX11_way_76 : decode cX11_way 76 = .ok (.invokevirtual 148, 3) := by decide +kernel
theorem dX11_way_79 : decode cX11_way 79 = .ok (.invokevirtual 206, 3) := by decide +kernel
theorem dX11_way_82 : decode cX11_way 82 = .ok (.ifCond .eq 7, 3) := by decide +kernel
theorem dX11_way_85 : decode cX11_way 85 = .ok (.iconst 1, 1) := by decide +kernel
theorem dX11_way_86 : decode cX11_way 86 = .ok (.goto 4, 3) := by decide +kernel
theorem dX11_way_89 : decode cX11_way 89 = .ok (.iconst 2, 1) := by decide +kernel
theorem dX11_way_90 : decode cX11_way 90 = .ok (.ireturn, 1) := by decide +kernel
theorem dX11_way_91 : decode cX11_way 91 = .ok (.iload 4, 2) := by decide +kernel
theorem dX11_way_93 : decode cX11_way 93 = .ok (.ifCond .ne 9, 3) := by decide +kernel
theorem dX11_way_96 : decode cX11_way 96 = .ok (.ldc2_w 210, 3) := by decide +kernel
theorem dX11_way_99 : decode cX11_way 99 = .ok (.goto 10, 3) := by decide +kernel
theorem dX11_way_102 : decode cX11_way 102 = .ok (.ldc2_w 210, 3) := by decide +kernel
theorem dX11_way_105 : decode cX11_way 105 = .ok (.iload 4, 2) := by decide +kernel
theorem dX11_way_107 : decode cX11_way 107 = .ok (.i2l, 1) := by decide +kernel
theorem dX11_way_108 : decode cX11_way 108 = .ok (.lmul, 1) := by decide +kernel
theorem dX11_way_109 : decode cX11_way 109 = .ok (.lstore 5, 2) := by decide +kernel
theorem dX11_way_111 : decode cX11_way 111 = .ok (.aload_n 0, 1) := by decide +kernel
theorem dX11_way_112 : decode cX11_way 112 = .ok (.iload_n 1, 1) := by decide +kernel
theorem dX11_way_113 : decode cX11_way 113 = .ok (.iconst 5, 1) := by decide +kernel
theorem dX11_way_114 : decode cX11_way 114 = .ok (.invokevirtual 89, 3) := by decide +kernel
theorem dX11_way_117 : decode cX11_way 117 = .ok (.iload 4, 2) := by decide +kernel
theorem dX11_way_119 : decode cX11_way 119 = .ok (.i2l, 1) := by decide +kernel
theorem dX11_way_120 : decode cX11_way 120 = .ok (.iload 4, 2) := by decide +kernel
theorem dX11_way_122 : decode cX11_way 122 = .ok (.i2l, 1) := by decide +kernel
theorem dX11_way_123 : decode cX11_way 123 = .ok (.lmul, 1) := by decide +kernel
theorem dX11_way_124 : decode cX11_way 124 = .ok (.lsub, 1) := by decide +kernel
theorem dX11_way_125 : decode cX11_way 125 = .ok (.lload 5, 2) := by decide +kernel
theorem dX11_way_127 : decode cX11_way 127 = .ok (.lload 5, 2) := by decide +kernel
theorem dX11_way_129 : decode cX11_way 129 = .ok (.lmul, 1) := by decide +kernel
theorem dX11_way_130 : decode cX11_way 130 = .ok (.ladd, 1) := by decide +kernel
theorem dX11_way_131 : decode cX11_way 131 = .ok (.aload_n 0, 1) := by decide +kernel
theorem dX11_way_132 : decode cX11_way 132 = .ok (.iload_n 1, 1) := by decide +kernel
theorem dX11_way_133 : decode cX11_way 133 = .ok (.bipush 14, 2) := by decide +kernel
theorem dX11_way_135 : decode cX11_way 135 = .ok (.invokevirtual 89, 3) := by decide +kernel
theorem dX11_way_138 : decode cX11_way 138 = .ok (.aload_n 0, 1) := by decide +kernel
theorem dX11_way_139 : decode cX11_way 139 = .ok (.iload_n 1, 1) := by decide +kernel
theorem dX11_way_140 : decode cX11_way 140 = .ok (.iconst 2, 1) := by decide +kernel
theorem dX11_way_141 : decode cX11_way 141 = .ok (.invokevirtual 89, 3) := by decide +kernel
theorem dX11_way_144 : decode cX11_way 144 = .ok (.lmul, 1) := by decide +kernel
theorem dX11_way_145 : decode cX11_way 145 = .ok (.lcmp, 1) := by decide +kernel
theorem dX11_way_146 : decode cX11_way 146 = .ok (.ifCond .gt 7, 3) := by decide +kernel
theorem dX11_way_149 : decode cX11_way 149 = .ok (.iconst 3, 1) := by decide +kernel
theorem dX11_way_150 : decode cX11_way 150 = .ok (.goto 4, 3) := by decide +kernel
theorem dX11_way_153 : decode cX11_way 153 = .ok (.iconst 4, 1) := by decide +kernel
theorem dX11_way_154 : decode cX11_way 154 = .ok (.ireturn, 1) := by decide +kernel
