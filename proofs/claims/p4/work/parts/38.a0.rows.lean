theorem dX11_shared_0 : decode cX11_shared 0 = .ok (.aload_n 0, 1) := by decide +kernel
theorem dX11_shared_1 : decode cX11_shared 1 = .ok (.iconst 0, 1) := by decide +kernel
theorem dX11_shared_2 : decode cX11_shared 2 = .ok (.putfield 73, 3) := by decide +kernel
theorem dX11_shared_5 : decode cX11_shared 5 = .ok (.aload_n 0, 1) := by decide +kernel
theorem dX11_shared_6 : decode cX11_shared 6 = .ok (.iload_n 1, 1) := by decide +kernel
theorem dX11_shared_7 : decode cX11_shared 7 = .ok (.invokevirtual 222, 3) := by decide +kernel
theorem dX11_shared_10 : decode cX11_shared 10 = .ok (.ifCond .eq 23, 3) := by decide +kernel
theorem dX11_shared_13 : decode cX11_shared 13 = .ok (.aload_n 0, 1) := by decide +kernel
theorem dX11_shared_14 : decode cX11_shared 14 = .ok (.iload_n 2, 1) := by decide +kernel
theorem dX11_shared_15 : decode cX11_shared 15 = .ok (.invokevirtual 222, 3) := by decide +kernel
theorem dX11_shared_18 : decode cX11_shared 18 = .ok (.ifCond .eq 15, 3) := by decide +kernel
theorem dX11_shared_21 : decode cX11_shared 21 = .ok (.iload_n 3, 1) := by decide +kernel
theorem dX11_shared_22 : decode cX11_shared 22 = .ok (.i2l, 1) := by decide +kernel
theorem dX11_shared_23 : decode cX11_shared 23 = .ok (.lconst 0, 1) := by decide +kernel
theorem dX11_shared_24 : decode cX11_shared 24 = .ok (.ldc2_w 87, 3) := by decide +kernel
theorem dX11_shared_27 : decode cX11_shared 27 = .ok (.invokestatic 83, 3) := by decide +kernel
theorem dX11_shared_30 : decode cX11_shared 30 = .ok (.ifCond .ne 5, 3) := by decide +kernel
theorem dX11_shared_33 : decode cX11_shared 33 = .ok (.iconst (-1), 1) := by decide +kernel
theorem dX11_shared_34 : decode cX11_shared 34 = .ok (.ireturn, 1) := by decide +kernel
theorem dX11_shared_35 : decode cX11_shared 35 = .ok (.iconst 0, 1) := by decide +kernel
theorem dX11_shared_36 : decode cX11_shared 36 = .ok (.istore 4, 2) := by decide +kernel
theorem dX11_shared_38 : decode cX11_shared 38 = .ok (.iconst 0, 1) := by decide +kernel
theorem dX11_shared_39 : decode cX11_shared 39 = .ok (.istore 5, 2) := by decide +kernel
theorem dX11_shared_41 : decode cX11_shared 41 = .ok (.sipush 160, 3) := by decide +kernel
theorem dX11_shared_44 : decode cX11_shared 44 = .ok (.iload_n 1, 1) := by decide +kernel
theorem dX11_shared_45 : decode cX11_shared 45 = .ok (.imul, 1) := by decide +kernel
theorem dX11_shared_46 : decode cX11_shared 46 = .ok (.istore 6, 2) := by decide +kernel
theorem dX11_shared_48 : decode cX11_shared 48 = .ok (.iload 6, 2) := by decide +kernel
theorem dX11_shared_50 : decode cX11_shared 50 = .ok (.sipush 160, 3) := by decide +kernel
theorem dX11_shared_53 : decode cX11_shared 53 = .ok (.iload_n 1, 1) := by decide +kernel
theorem dX11_shared_54 : decode cX11_shared 54 = .ok (.imul, 1) := by decide +kernel
theorem dX11_shared_55 : decode cX11_shared 55 = .ok (.aload_n 0, 1) := by decide +kernel
theorem dX11_shared_56 : decode cX11_shared 56 = .ok (.iload_n 1, 1) := by decide +kernel
theorem dX11_shared_57 : decode cX11_shared 57 = .ok (.invokevirtual 95, 3) := by decide +kernel
theorem dX11_shared_60 : decode cX11_shared 60 = .ok (.iadd, 1) := by decide +kernel
theorem dX11_shared_61 : decode cX11_shared 61 = .ok (.if_icmp .ge 65, 3) := by decide +kernel
theorem dX11_shared_64 : decode cX11_shared 64 = .ok (.aload_n 0, 1) := by decide +kernel
theorem dX11_shared_65 : decode cX11_shared 65 = .ok (.iload_n 2, 1) := by decide +kernel
theorem dX11_shared_66 : decode cX11_shared 66 = .ok (.aload_n 0, 1) := by decide +kernel
theorem dX11_shared_67 : decode cX11_shared 67 = .ok (.getfield 17, 3) := by decide +kernel
theorem dX11_shared_70 : decode cX11_shared 70 = .ok (.iload 6, 2) := by decide +kernel
theorem dX11_shared_72 : decode cX11_shared 72 = .ok (.iaload, 1) := by decide +kernel
theorem dX11_shared_73 : decode cX11_shared 73 = .ok (.invokevirtual 202, 3) := by decide +kernel
theorem dX11_shared_76 : decode cX11_shared 76 = .ok (.ifCond .ne 6, 3) := by decide +kernel
theorem dX11_shared_79 : decode cX11_shared 79 = .ok (.goto 41, 3) := by decide +kernel
theorem dX11_shared_82 : decode cX11_shared 82 = .ok (.iinc 4 1, 3) := by decide +kernel
theorem dX11_shared_85 : decode cX11_shared 85 = .ok (.iload 5, 2) := by decide +kernel
theorem dX11_shared_87 : decode cX11_shared 87 = .ok (.aload_n 0, 1) := by decide +kernel
theorem dX11_shared_88 : decode cX11_shared 88 = .ok (.iload_n 2, 1) := by decide +kernel
theorem dX11_shared_89 : decode cX11_shared 89 = .ok (.aload_n 0, 1) := by decide +kernel
theorem dX11_shared_90 : decode cX11_shared 90 = .ok (.getfield 17, 3) := by decide +kernel
theorem dX11_shared_93 : decode cX11_shared 93 = .ok (.iload 6, 2) := by decide +kernel
theorem dX11_shared_95 : decode cX11_shared 95 = .ok (.iaload, 1) := by decide +kernel
theorem dX11_shared_96 : decode cX11_shared 96 = .ok (.invokevirtual 277, 3) := by decide +kernel
theorem dX11_shared_99 : decode cX11_shared 99 = .ok (.aload_n 0, 1) := by decide +kernel
theorem dX11_shared_100 : decode cX11_shared 100 = .ok (.getfield 21, 3) := by decide +kernel
theorem dX11_shared_103 : decode cX11_shared 103 = .ok (.iload 6, 2) := by decide +kernel
theorem dX11_shared_105 : decode cX11_shared 105 = .ok (.iaload, 1) := by decide +kernel
theorem dX11_shared_106 : decode cX11_shared 106 = .ok (.if_icmp .ne 7, 3) := by decide +kernel
theorem dX11_shared_109 : decode cX11_shared 109 = .ok (.iconst 1, 1) := by decide +kernel
theorem dX11_shared_110 : decode cX11_shared 110 = .ok (.goto 4, 3) := by decide +kernel
theorem dX11_shared_113 : decode cX11_shared 113 = .ok (.iconst 0, 1) := by decide +kernel
theorem dX11_shared_114 : decode cX11_shared 114 = .ok (.invokestatic 198, 3) := by decide +kernel
theorem dX11_shared_117 : decode cX11_shared 117 = .ok (.iadd, 1) := by decide +kernel
theorem dX11_shared_118 : decode cX11_shared 118 = .ok (.istore 5, 2) := by decide +kernel
theorem dX11_shared_120 : decode cX11_shared 120 = .ok (.iinc 6 1, 3) := by decide +kernel
theorem dX11_shared_123 : decode cX11_shared 123 = .ok (.goto (-75), 3) := by decide +kernel
theorem dX11_shared_126 : decode cX11_shared 126 = .ok (.iload_n 3, 1) := by decide +kernel
theorem dX11_shared_127 : decode cX11_shared 127 = .ok (.ifCond .ne 8, 3) := by decide +kernel
theorem dX11_shared_130 : decode cX11_shared 130 = .ok (.iload 4, 2) := by decide +kernel
theorem dX11_shared_132 : decode cX11_shared 132 = .ok (.goto 43, 3) := by decide +kernel
theorem dX11_shared_135 : decode cX11_shared 135 = .ok (.iload_n 3, 1) := by decide +kernel
theorem dX11_shared_136 : decode cX11_shared 136 = .ok (.iconst 1, 1) := by decide +kernel
theorem dX11_shared_137 : decode cX11_shared 137 = .ok (.if_icmp .ne 20, 3) := by decide +kernel
theorem dX11_shared_140 : decode cX11_shared 140 = .ok (.aload_n 0, 1) := by decide +kernel
theorem dX11_shared_141 : decode cX11_shared 141 = .ok (.iload_n 1, 1) := by decide +kernel
theorem dX11_shared_142 : decode cX11_shared 142 = .ok (.invokevirtual 95, 3) := by decide +kernel
theorem dX11_shared_145 : decode cX11_shared 145 = .ok (.aload_n 0, 1) := by decide +kernel
theorem dX11_shared_146 : decode cX11_shared 146 = .ok (.iload_n 2, 1) := by decide +kernel
theorem dX11_shared_147 : decode cX11_shared 147 = .ok (.invokevirtual 95, 3) := by decide +kernel
theorem dX11_shared_150 : decode cX11_shared 150 = .ok (.iadd, 1) := by decide +kernel
theorem dX11_shared_151 : decode cX11_shared 151 = .ok (.iload 4, 2) := by decide +kernel
theorem dX11_shared_153 : decode cX11_shared 153 = .ok (.isub, 1) := by decide +kernel
theorem dX11_shared_154 : decode cX11_shared 154 = .ok (.goto 21, 3) := by decide +kernel
theorem dX11_shared_157 : decode cX11_shared 157 = .ok (.iload_n 3, 1) := by decide +kernel
theorem dX11_shared_158 : decode cX11_shared 158 = .ok (.iconst 2, 1) := by decide +kernel
theorem dX11_shared_159 : decode cX11_shared 159 = .ok (.if_icmp .ne 14, 3) := by decide +kernel
theorem dX11_shared_162 : decode cX11_shared 162 = .ok (.aload_n 0, 1) := by decide +kernel
theorem dX11_shared_163 : decode cX11_shared 163 = .ok (.iload_n 1, 1) := by decide +kernel
theorem dX11_shared_164 : decode cX11_shared 164 = .ok (.invokevirtual 95, 3) := by decide +kernel
theorem dX11_shared_167 : decode cX11_shared 167 = .ok (.iload 4, 2) := by decide +kernel
theorem dX11_shared_169 : decode cX11_shared 169 = .ok (.isub, 1) := by decide +kernel
theorem dX11_shared_170 : decode cX11_shared 170 = .ok (.goto 5, 3) := by decide +kernel
theorem dX11_shared_173 : decode cX11_shared 173 = .ok (.iload 5, 2) := by decide +kernel
theorem dX11_shared_175 : decode cX11_shared 175 = .ok (.ireturn, 1) := by decide +kernel
