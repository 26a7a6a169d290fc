theorem dX11_back_0 : decode cX11_back 0 = .ok (.aload_n 0, 1) := by decide +kernel
theorem dX11_back_1 : decode cX11_back 1 = .ok (.iconst 0, 1) := by decide +kernel
theorem dX11_back_2 : decode cX11_back 2 = .ok (.putfield 73, 3) := by decide +kernel
theorem dX11_back_5 : decode cX11_back 5 = .ok (.iload_n 1, 1) := by decide +kernel
theorem dX11_back_6 : decode cX11_back 6 = .ok (.i2l, 1) := by decide +kernel
theorem dX11_back_7 : decode cX11_back 7 = .ok (.lconst 0, 1) := by decide +kernel
theorem dX11_back_8 : decode cX11_back 8 = .ok (.ldc2_w 87, 3) := by decide +kernel
theorem dX11_back_11 : decode cX11_back 11 = .ok (.invokestatic 83, 3) := by decide +kernel
theorem dX11_back_14 : decode cX11_back 14 = .ok (.ifCond .ne 6, 3) := by decide +kernel
theorem dX11_back_17 : decode cX11_back 17 = .ok (.bipush (-2), 2) := by decide +kernel
theorem dX11_back_19 : decode cX11_back 19 = .ok (.ireturn, 1) := by decide +kernel
theorem dX11_back_20 : decode cX11_back 20 = .ok (.aload_n 0, 1) := by decide +kernel
theorem dX11_back_21 : decode cX11_back 21 = .ok (.getfield 76, 3) := by decide +kernel
theorem dX11_back_24 : decode cX11_back 24 = .ok (.istore_n 2, 1) := by decide +kernel
theorem dX11_back_25 : decode cX11_back 25 = .ok (.aload_n 0, 1) := by decide +kernel
theorem dX11_back_26 : decode cX11_back 26 = .ok (.iconst 0, 1) := by decide +kernel
theorem dX11_back_27 : decode cX11_back 27 = .ok (.putfield 76, 3) := by decide +kernel
theorem dX11_back_30 : decode cX11_back 30 = .ok (.aload_n 0, 1) := by decide +kernel
theorem dX11_back_31 : decode cX11_back 31 = .ok (.iload_n 2, 1) := by decide +kernel
theorem dX11_back_32 : decode cX11_back 32 = .ok (.invokevirtual 453, 3) := by decide +kernel
theorem dX11_back_35 : decode cX11_back 35 = .ok (.ifCond .ne 5, 3) := by decide +kernel
theorem dX11_back_38 : decode cX11_back 38 = .ok (.iconst (-1), 1) := by decide +kernel
theorem dX11_back_39 : decode cX11_back 39 = .ok (.ireturn, 1) := by decide +kernel
theorem dX11_back_40 : decode cX11_back 40 = .ok (.aload_n 0, 1) := by decide +kernel
theorem dX11_back_41 : decode cX11_back 41 = .ok (.iload_n 1, 1) := by decide +kernel
theorem dX11_back_42 : decode cX11_back 42 = .ok (.aload_n 0, 1) := by decide +kernel
theorem dX11_back_43 : decode cX11_back 43 = .ok (.iconst 0, 1) := by decide +kernel
theorem dX11_back_44 : decode cX11_back 44 = .ok (.iconst 1, 1) := by decide +kernel
theorem dX11_back_45 : decode cX11_back 45 = .ok (.invokevirtual 450, 3) := by decide +kernel
theorem dX11_back_48 : decode cX11_back 48 = .ok (.l2i, 1) := by decide +kernel
theorem dX11_back_49 : decode cX11_back 49 = .ok (.aload_n 0, 1) := by decide +kernel
theorem dX11_back_50 : decode cX11_back 50 = .ok (.iconst 1, 1) := by decide +kernel
theorem dX11_back_51 : decode cX11_back 51 = .ok (.iconst 2, 1) := by decide +kernel
theorem dX11_back_52 : decode cX11_back 52 = .ok (.invokevirtual 450, 3) := by decide +kernel
theorem dX11_back_55 : decode cX11_back 55 = .ok (.l2i, 1) := by decide +kernel
theorem dX11_back_56 : decode cX11_back 56 = .ok (.aload_n 0, 1) := by decide +kernel
theorem dX11_back_57 : decode cX11_back 57 = .ok (.iconst 3, 1) := by decide +kernel
theorem dX11_back_58 : decode cX11_back 58 = .ok (.iconst 1, 1) := by decide +kernel
theorem dX11_back_59 : decode cX11_back 59 = .ok (.invokevirtual 450, 3) := by decide +kernel
theorem dX11_back_62 : decode cX11_back 62 = .ok (.l2i, 1) := by decide +kernel
theorem dX11_back_63 : decode cX11_back 63 = .ok (.aload_n 0, 1) := by decide +kernel
theorem dX11_back_64 : decode cX11_back 64 = .ok (.iconst 4, 1) := by decide +kernel
theorem dX11_back_65 : decode cX11_back 65 = .ok (.bipush 8, 2) := by decide +kernel
theorem dX11_back_67 : decode cX11_back 67 = .ok (.invokevirtual 450, 3) := by decide +kernel
theorem dX11_back_70 : decode cX11_back 70 = .ok (.invokevirtual 188, 3) := by decide +kernel
theorem dX11_back_73 : decode cX11_back 73 = .ok (.aload_n 0, 1) := by decide +kernel
theorem dX11_back_74 : decode cX11_back 74 = .ok (.getfield 7, 3) := by decide +kernel
theorem dX11_back_77 : decode cX11_back 77 = .ok (.bipush 12, 2) := by decide +kernel
theorem dX11_back_79 : decode cX11_back 79 = .ok (.baload, 1) := by decide +kernel
theorem dX11_back_80 : decode cX11_back 80 = .ok (.sipush 255, 3) := by decide +kernel
theorem dX11_back_83 : decode cX11_back 83 = .ok (.iand, 1) := by decide +kernel
theorem dX11_back_84 : decode cX11_back 84 = .ok (.istore_n 3, 1) := by decide +kernel
theorem dX11_back_85 : decode cX11_back 85 = .ok (.iconst 0, 1) := by decide +kernel
theorem dX11_back_86 : decode cX11_back 86 = .ok (.istore 4, 2) := by decide +kernel
theorem dX11_back_88 : decode cX11_back 88 = .ok (.iload 4, 2) := by decide +kernel
theorem dX11_back_90 : decode cX11_back 90 = .ok (.iload_n 3, 1) := by decide +kernel
theorem dX11_back_91 : decode cX11_back 91 = .ok (.if_icmp .ge 63, 3) := by decide +kernel
theorem dX11_back_94 : decode cX11_back 94 = .ok (.aload_n 0, 1) := by decide +kernel
theorem dX11_back_95 : decode cX11_back 95 = .ok (.getfield 17, 3) := by decide +kernel
theorem dX11_back_98 : decode cX11_back 98 = .ok (.sipush 160, 3) := by decide +kernel
theorem dX11_back_101 : decode cX11_back 101 = .ok (.iload_n 1, 1) := by decide +kernel
theorem dX11_back_102 : decode cX11_back 102 = .ok (.imul, 1) := by decide +kernel
theorem dX11_back_103 : decode cX11_back 103 = .ok (.iload 4, 2) := by decide +kernel
theorem dX11_back_105 : decode cX11_back 105 = .ok (.iadd, 1) := by decide +kernel
theorem dX11_back_106 : decode cX11_back 106 = .ok (.aload_n 0, 1) := by decide +kernel
theorem dX11_back_107 : decode cX11_back 107 = .ok (.bipush 13, 2) := by decide +kernel
theorem dX11_back_109 : decode cX11_back 109 = .ok (.bipush 8, 2) := by decide +kernel
theorem dX11_back_111 : decode cX11_back 111 = .ok (.iload 4, 2) := by decide +kernel
theorem dX11_back_113 : decode cX11_back 113 = .ok (.imul, 1) := by decide +kernel
theorem dX11_back_114 : decode cX11_back 114 = .ok (.iadd, 1) := by decide +kernel
theorem dX11_back_115 : decode cX11_back 115 = .ok (.iconst 4, 1) := by decide +kernel
theorem dX11_back_116 : decode cX11_back 116 = .ok (.invokevirtual 450, 3) := by decide +kernel
theorem dX11_back_119 : decode cX11_back 119 = .ok (.l2i, 1) := by decide +kernel
theorem dX11_back_120 : decode cX11_back 120 = .ok (.iastore, 1) := by decide +kernel
theorem dX11_back_121 : decode cX11_back 121 = .ok (.aload_n 0, 1) := by decide +kernel
theorem dX11_back_122 : decode cX11_back 122 = .ok (.getfield 21, 3) := by decide +kernel
theorem dX11_back_125 : decode cX11_back 125 = .ok (.sipush 160, 3) := by decide +kernel
theorem dX11_back_128 : decode cX11_back 128 = .ok (.iload_n 1, 1) := by decide +kernel
theorem dX11_back_129 : decode cX11_back 129 = .ok (.imul, 1) := by decide +kernel
theorem dX11_back_130 : decode cX11_back 130 = .ok (.iload 4, 2) := by decide +kernel
theorem dX11_back_132 : decode cX11_back 132 = .ok (.iadd, 1) := by decide +kernel
theorem dX11_back_133 : decode cX11_back 133 = .ok (.aload_n 0, 1) := by decide +kernel
theorem dX11_back_134 : decode cX11_back 134 = .ok (.bipush 17, 2) := by decide +kernel
theorem dX11_back_136 : decode cX11_back 136 = .ok (.bipush 8, 2) := by decide +kernel
theorem dX11_back_138 : decode cX11_back 138 = .ok (.iload 4, 2) := by decide +kernel
theorem dX11_back_140 : decode cX11_back 140 = .ok (.imul, 1) := by decide +kernel
theorem dX11_back_141 : decode cX11_back 141 = .ok (.iadd, 1) := by decide +kernel
theorem dX11_back_142 : decode cX11_back 142 = .ok (.iconst 4, 1) := by decide +kernel
theorem dX11_back_143 : decode cX11_back 143 = .ok (.invokevirtual 450, 3) := by decide +kernel
theorem dX11_back_146 : decode cX11_back 146 = .ok (.l2i, 1) := by decide +kernel
theorem dX11_back_147 : decode cX11_back 147 = .ok (.iastore, 1) := by decide +kernel
theorem dX11_back_148 : decode cX11_back 148 = .ok (.iinc 4 1, 3) := by decide +kernel
theorem dX11_back_151 : decode cX11_back 151 = .ok (.goto (-63), 3) := by decide +kernel
theorem dX11_back_154 : decode cX11_back 154 = .ok (.aload_n 0, 1) := by decide +kernel
theorem dX11_back_155 : decode cX11_back 155 = .ok (.iload_n 1, 1) := by decide +kernel
theorem dX11_back_156 : decode cX11_back 156 = .ok (.iconst 1, 1) := by decide +kernel
theorem dX11_back_157 : decode cX11_back 157 = .ok (.iload_n 3, 1) := by decide +kernel
theorem dX11_back_158 : decode cX11_back 158 = .ok (.i2l, 1) := by decide +kernel
theorem dX11_back_159 : decode cX11_back 159 = .ok (.invokevirtual 126, 3) := by decide +kernel
theorem dX11_back_162 : decode cX11_back 162 = .ok (.aload_n 0, 1) := by decide +kernel
theorem dX11_back_163 : decode cX11_back 163 = .ok (.iload_n 1, 1) := by decide +kernel
theorem dX11_back_164 : decode cX11_back 164 = .ok (.invokevirtual 192, 3) := by decide +kernel
theorem dX11_back_167 : decode cX11_back 167 = .ok (.iload_n 3, 1) := by decide +kernel
theorem dX11_back_168 : decode cX11_back 168 = .ok (.ireturn, 1) := by decide +kernel
