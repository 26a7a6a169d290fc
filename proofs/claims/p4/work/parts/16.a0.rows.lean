theorem dX11_parts_0 : decode cX11_parts 0 = .ok (.aload_n 0, 1) := by decide +kernel
theorem dX11_parts_1 : decode cX11_parts 1 = .ok (.iload_n 1, 1) := by decide +kernel
theorem dX11_parts_2 : decode cX11_parts 2 = .ok (.bipush 6, 2) := by decide +kernel
theorem dX11_parts_4 : decode cX11_parts 4 = .ok (.lload_n 2, 1) := by decide +kernel
theorem dX11_parts_5 : decode cX11_parts 5 = .ok (.invokevirtual 126, 3) := by decide +kernel
theorem dX11_parts_8 : decode cX11_parts 8 = .ok (.aload_n 0, 1) := by decide +kernel
theorem dX11_parts_9 : decode cX11_parts 9 = .ok (.iload_n 1, 1) := by decide +kernel
theorem dX11_parts_10 : decode cX11_parts 10 = .ok (.bipush 7, 2) := by decide +kernel
theorem dX11_parts_12 : decode cX11_parts 12 = .ok (.lload 4, 2) := by decide +kernel
theorem dX11_parts_14 : decode cX11_parts 14 = .ok (.invokevirtual 126, 3) := by decide +kernel
theorem dX11_parts_17 : decode cX11_parts 17 = .ok (.iconst 0, 1) := by decide +kernel
theorem dX11_parts_18 : decode cX11_parts 18 = .ok (.istore 7, 2) := by decide +kernel
theorem dX11_parts_20 : decode cX11_parts 20 = .ok (.iload 7, 2) := by decide +kernel
theorem dX11_parts_22 : decode cX11_parts 22 = .ok (.aload_n 0, 1) := by decide +kernel
theorem dX11_parts_23 : decode cX11_parts 23 = .ok (.iload_n 1, 1) := by decide +kernel
theorem dX11_parts_24 : decode cX11_parts 24 = .ok (.invokevirtual 152, 3) := by decide +kernel
theorem dX11_parts_27 : decode cX11_parts 27 = .ok (.if_icmp .ge 23, 3) := by decide +kernel
theorem dX11_parts_30 : decode cX11_parts 30 = .ok (.aload_n 0, 1) := by decide +kernel
theorem dX11_parts_31 : decode cX11_parts 31 = .ok (.getfield 33, 3) := by decide +kernel
theorem dX11_parts_34 : decode cX11_parts 34 = .ok (.sipush 2048, 3) := by decide +kernel
theorem dX11_parts_37 : decode cX11_parts 37 = .ok (.iload_n 1, 1) := by decide +kernel
theorem dX11_parts_38 : decode cX11_parts 38 = .ok (.imul, 1) := by decide +kernel
theorem dX11_parts_39 : decode cX11_parts 39 = .ok (.iload 7, 2) := by decide +kernel
theorem dX11_parts_41 : decode cX11_parts 41 = .ok (.iadd, 1) := by decide +kernel
theorem dX11_parts_42 : decode cX11_parts 42 = .ok (.iconst 0, 1) := by decide +kernel
theorem dX11_parts_43 : decode cX11_parts 43 = .ok (.iastore, 1) := by decide +kernel
theorem dX11_parts_44 : decode cX11_parts 44 = .ok (.iinc 7 1, 3) := by decide +kernel
theorem dX11_parts_47 : decode cX11_parts 47 = .ok (.goto (-27), 3) := by decide +kernel
theorem dX11_parts_50 : decode cX11_parts 50 = .ok (.sipush 160, 3) := by decide +kernel
theorem dX11_parts_53 : decode cX11_parts 53 = .ok (.iload_n 1, 1) := by decide +kernel
theorem dX11_parts_54 : decode cX11_parts 54 = .ok (.imul, 1) := by decide +kernel
theorem dX11_parts_55 : decode cX11_parts 55 = .ok (.istore 7, 2) := by decide +kernel
theorem dX11_parts_57 : decode cX11_parts 57 = .ok (.iload 7, 2) := by decide +kernel
theorem dX11_parts_59 : decode cX11_parts 59 = .ok (.sipush 160, 3) := by decide +kernel
theorem dX11_parts_62 : decode cX11_parts 62 = .ok (.iload_n 1, 1) := by decide +kernel
theorem dX11_parts_63 : decode cX11_parts 63 = .ok (.imul, 1) := by decide +kernel
theorem dX11_parts_64 : decode cX11_parts 64 = .ok (.aload_n 0, 1) := by decide +kernel
theorem dX11_parts_65 : decode cX11_parts 65 = .ok (.iload_n 1, 1) := by decide +kernel
theorem dX11_parts_66 : decode cX11_parts 66 = .ok (.invokevirtual 95, 3) := by decide +kernel
theorem dX11_parts_69 : decode cX11_parts 69 = .ok (.iadd, 1) := by decide +kernel
theorem dX11_parts_70 : decode cX11_parts 70 = .ok (.if_icmp .ge 50, 3) := by decide +kernel
theorem dX11_parts_73 : decode cX11_parts 73 = .ok (.aload_n 0, 1) := by decide +kernel
theorem dX11_parts_74 : decode cX11_parts 74 = .ok (.getfield 24, 3) := by decide +kernel
theorem dX11_parts_77 : decode cX11_parts 77 = .ok (.iload 7, 2) := by decide +kernel
theorem dX11_parts_79 : decode cX11_parts 79 = .ok (.aload_n 0, 1) := by decide +kernel
theorem dX11_parts_80 : decode cX11_parts 80 = .ok (.iload_n 1, 1) := by decide +kernel
theorem dX11_parts_81 : decode cX11_parts 81 = .ok (.aload_n 0, 1) := by decide +kernel
theorem dX11_parts_82 : decode cX11_parts 82 = .ok (.getfield 17, 3) := by decide +kernel
theorem dX11_parts_85 : decode cX11_parts 85 = .ok (.iload 7, 2) := by decide +kernel
theorem dX11_parts_87 : decode cX11_parts 87 = .ok (.iaload, 1) := by decide +kernel
theorem dX11_parts_88 : decode cX11_parts 88 = .ok (.invokevirtual 155, 3) := by decide +kernel
theorem dX11_parts_91 : decode cX11_parts 91 = .ok (.iastore, 1) := by decide +kernel
theorem dX11_parts_92 : decode cX11_parts 92 = .ok (.aload_n 0, 1) := by decide +kernel
theorem dX11_parts_93 : decode cX11_parts 93 = .ok (.getfield 33, 3) := by decide +kernel
theorem dX11_parts_96 : decode cX11_parts 96 = .ok (.sipush 2048, 3) := by decide +kernel
theorem dX11_parts_99 : decode cX11_parts 99 = .ok (.iload_n 1, 1) := by decide +kernel
theorem dX11_parts_100 : decode cX11_parts 100 = .ok (.imul, 1) := by decide +kernel
theorem dX11_parts_101 : decode cX11_parts 101 = .ok (.aload_n 0, 1) := by decide +kernel
theorem dX11_parts_102 : decode cX11_parts 102 = .ok (.getfield 24, 3) := by decide +kernel
theorem dX11_parts_105 : decode cX11_parts 105 = .ok (.iload 7, 2) := by decide +kernel
theorem dX11_parts_107 : decode cX11_parts 107 = .ok (.iaload, 1) := by decide +kernel
theorem dX11_parts_108 : decode cX11_parts 108 = .ok (.iadd, 1) := by decide +kernel
theorem dX11_parts_109 : decode cX11_parts 109 = .ok (.dup2, 1) := by decide +kernel
theorem dX11_parts_110 : decode cX11_parts 110 = .ok (.iaload, 1) := by decide +kernel
theorem dX11_parts_111 : decode cX11_parts 111 = .ok (.iconst 1, 1) := by decide +kernel
theorem dX11_parts_112 : decode cX11_parts 112 = .ok (.iadd, 1) := by decide +kernel
theorem dX11_parts_113 : decode cX11_parts 113 = .ok (.iastore, 1) := by decide +kernel
theorem dX11_parts_114 : decode cX11_parts 114 = .ok (.iinc 7 1, 3) := by decide +kernel
theorem dX11_parts_117 : decode cX11_parts 117 = .ok (.goto (-60), 3) := by decide +kernel
theorem dX11_parts_120 : decode cX11_parts 120 = .ok (.lconst 0, 1) := by decide +kernel
theorem dX11_parts_121 : decode cX11_parts 121 = .ok (.lstore 7, 2) := by decide +kernel
theorem dX11_parts_123 : decode cX11_parts 123 = .ok (.iconst 0, 1) := by decide +kernel
theorem dX11_parts_124 : decode cX11_parts 124 = .ok (.istore 9, 2) := by decide +kernel
theorem dX11_parts_126 : decode cX11_parts 126 = .ok (.iload 9, 2) := by decide +kernel
theorem dX11_parts_128 : decode cX11_parts 128 = .ok (.aload_n 0, 1) := by decide +kernel
theorem dX11_parts_129 : decode cX11_parts 129 = .ok (.iload_n 1, 1) := by decide +kernel
theorem dX11_parts_130 : decode cX11_parts 130 = .ok (.invokevirtual 152, 3) := by decide +kernel
theorem dX11_parts_133 : decode cX11_parts 133 = .ok (.if_icmp .ge 51, 3) := by decide +kernel
theorem dX11_parts_136 : decode cX11_parts 136 = .ok (.aload_n 0, 1) := by decide +kernel
theorem dX11_parts_137 : decode cX11_parts 137 = .ok (.getfield 30, 3) := by decide +kernel
theorem dX11_parts_140 : decode cX11_parts 140 = .ok (.sipush 2048, 3) := by decide +kernel
theorem dX11_parts_143 : decode cX11_parts 143 = .ok (.iload_n 1, 1) := by decide +kernel
theorem dX11_parts_144 : decode cX11_parts 144 = .ok (.imul, 1) := by decide +kernel
theorem dX11_parts_145 : decode cX11_parts 145 = .ok (.iload 9, 2) := by decide +kernel
theorem dX11_parts_147 : decode cX11_parts 147 = .ok (.iadd, 1) := by decide +kernel
theorem dX11_parts_148 : decode cX11_parts 148 = .ok (.iload 6, 2) := by decide +kernel
theorem dX11_parts_150 : decode cX11_parts 150 = .ok (.aload_n 0, 1) := by decide +kernel
theorem dX11_parts_151 : decode cX11_parts 151 = .ok (.getfield 33, 3) := by decide +kernel
theorem dX11_parts_154 : decode cX11_parts 154 = .ok (.sipush 2048, 3) := by decide +kernel
theorem dX11_parts_157 : decode cX11_parts 157 = .ok (.iload_n 1, 1) := by decide +kernel
theorem dX11_parts_158 : decode cX11_parts 158 = .ok (.imul, 1) := by decide +kernel
theorem dX11_parts_159 : decode cX11_parts 159 = .ok (.iload 9, 2) := by decide +kernel
theorem dX11_parts_161 : decode cX11_parts 161 = .ok (.iadd, 1) := by decide +kernel
theorem dX11_parts_162 : decode cX11_parts 162 = .ok (.iaload, 1) := by decide +kernel
theorem dX11_parts_163 : decode cX11_parts 163 = .ok (.imul, 1) := by decide +kernel
theorem dX11_parts_164 : decode cX11_parts 164 = .ok (.iastore, 1) := by decide +kernel
theorem dX11_parts_165 : decode cX11_parts 165 = .ok (.lload 7, 2) := by decide +kernel
theorem dX11_parts_167 : decode cX11_parts 167 = .ok (.aload_n 0, 1) := by decide +kernel
theorem dX11_parts_168 : decode cX11_parts 168 = .ok (.iload_n 1, 1) := by decide +kernel
theorem dX11_parts_169 : decode cX11_parts 169 = .ok (.iload 9, 2) := by decide +kernel
theorem dX11_parts_171 : decode cX11_parts 171 = .ok (.invokevirtual 137, 3) := by decide +kernel
theorem dX11_parts_174 : decode cX11_parts 174 = .ok (.i2l, 1) := by decide +kernel
theorem dX11_parts_175 : decode cX11_parts 175 = .ok (.ladd, 1) := by decide +kernel
theorem dX11_parts_176 : decode cX11_parts 176 = .ok (.lstore 7, 2) := by decide +kernel
theorem dX11_parts_178 : decode cX11_parts 178 = .ok (.iinc 9 1, 3) := by decide +kernel
theorem dX11_parts_181 : decode cX11_parts 181 = .ok (.goto (-55), 3) := by decide +kernel
theorem dX11_parts_184 : decode cX11_parts 184 = .ok (.aload_n 0, 1) := by decide +kernel
theorem dX11_parts_185 : decode cX11_parts 185 = .ok (.iload_n 1, 1) := by decide +kernel
theorem dX11_parts_186 : decode cX11_parts 186 = .ok (.iconst 5, 1) := by decide +kernel
theorem dX11_parts_187 : decode cX11_parts 187 = .ok (.lload 7, 2) := by decide +kernel
theorem dX11_parts_189 : decode cX11_parts 189 = .ok (.invokevirtual 126, 3) := by decide +kernel
theorem dX11_parts_192 : decode cX11_parts 192 = .ok (.lload 7, 2) := by decide +kernel
theorem dX11_parts_194 : decode cX11_parts 194 = .ok (.lreturn, 1) := by decide +kernel
