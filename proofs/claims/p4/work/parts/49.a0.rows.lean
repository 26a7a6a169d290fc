theorem dX11_freezes_0 : decode cX11_freezes 0 = .ok (.aload_n 0, 1) := by decide +kernel
theorem dX11_freezes_1 : decode cX11_freezes 1 = .ok (.iload_n 1, 1) := by decide +kernel
theorem dX11_freezes_2 : decode cX11_freezes 2 = .ok (.invokevirtual 95, 3) := by decide +kernel
theorem dX11_freezes_5 : decode cX11_freezes 5 = .ok (.istore 4, 2) := by decide +kernel
theorem dX11_freezes_7 : decode cX11_freezes 7 = .ok (.iconst 0, 1) := by decide +kernel
theorem dX11_freezes_8 : decode cX11_freezes 8 = .ok (.istore 5, 2) := by decide +kernel
theorem dX11_freezes_10 : decode cX11_freezes 10 = .ok (.iload 5, 2) := by decide +kernel
theorem dX11_freezes_12 : decode cX11_freezes 12 = .ok (.iload 4, 2) := by decide +kernel
theorem dX11_freezes_14 : decode cX11_freezes 14 = .ok (.if_icmp .ge 33, 3) := by decide +kernel
theorem dX11_freezes_17 : decode cX11_freezes 17 = .ok (.aload_n 0, 1) := by decide +kernel
theorem dX11_freezes_18 : decode cX11_freezes 18 = .ok (.getfield 17, 3) := by decide +kernel
theorem dX11_freezes_21 : decode cX11_freezes 21 = .ok (.sipush 640, 3) := by decide +kernel
theorem dX11_freezes_24 : decode cX11_freezes 24 = .ok (.iload 5, 2) := by decide +kernel
theorem dX11_freezes_26 : decode cX11_freezes 26 = .ok (.iadd, 1) := by decide +kernel
theorem dX11_freezes_27 : decode cX11_freezes 27 = .ok (.aload_n 0, 1) := by decide +kernel
theorem dX11_freezes_28 : decode cX11_freezes 28 = .ok (.getfield 17, 3) := by decide +kernel
theorem dX11_freezes_31 : decode cX11_freezes 31 = .ok (.sipush 160, 3) := by decide +kernel
theorem dX11_freezes_34 : decode cX11_freezes 34 = .ok (.iload_n 1, 1) := by decide +kernel
theorem dX11_freezes_35 : decode cX11_freezes 35 = .ok (.imul, 1) := by decide +kernel
theorem dX11_freezes_36 : decode cX11_freezes 36 = .ok (.iload 5, 2) := by decide +kernel
theorem dX11_freezes_38 : decode cX11_freezes 38 = .ok (.iadd, 1) := by decide +kernel
theorem dX11_freezes_39 : decode cX11_freezes 39 = .ok (.iaload, 1) := by decide +kernel
theorem dX11_freezes_40 : decode cX11_freezes 40 = .ok (.iastore, 1) := by decide +kernel
theorem dX11_freezes_41 : decode cX11_freezes 41 = .ok (.iinc 5 1, 3) := by decide +kernel
theorem dX11_freezes_44 : decode cX11_freezes 44 = .ok (.goto (-34), 3) := by decide +kernel
theorem dX11_freezes_47 : decode cX11_freezes 47 = .ok (.aload_n 0, 1) := by decide +kernel
theorem dX11_freezes_48 : decode cX11_freezes 48 = .ok (.iconst 4, 1) := by decide +kernel
theorem dX11_freezes_49 : decode cX11_freezes 49 = .ok (.iconst 1, 1) := by decide +kernel
theorem dX11_freezes_50 : decode cX11_freezes 50 = .ok (.iload 4, 2) := by decide +kernel
theorem dX11_freezes_52 : decode cX11_freezes 52 = .ok (.i2l, 1) := by decide +kernel
theorem dX11_freezes_53 : decode cX11_freezes 53 = .ok (.invokevirtual 126, 3) := by decide +kernel
theorem dX11_freezes_56 : decode cX11_freezes 56 = .ok (.aload_n 0, 1) := by decide +kernel
theorem dX11_freezes_57 : decode cX11_freezes 57 = .ok (.iconst 4, 1) := by decide +kernel
theorem dX11_freezes_58 : decode cX11_freezes 58 = .ok (.iconst 4, 1) := by decide +kernel
theorem dX11_freezes_59 : decode cX11_freezes 59 = .ok (.iload 4, 2) := by decide +kernel
theorem dX11_freezes_61 : decode cX11_freezes 61 = .ok (.iconst 1, 1) := by decide +kernel
theorem dX11_freezes_62 : decode cX11_freezes 62 = .ok (.if_icmp .ge 7, 3) := by decide +kernel
theorem dX11_freezes_65 : decode cX11_freezes 65 = .ok (.lconst 1, 1) := by decide +kernel
theorem dX11_freezes_66 : decode cX11_freezes 66 = .ok (.goto 6, 3) := by decide +kernel
theorem dX11_freezes_69 : decode cX11_freezes 69 = .ok (.iload 4, 2) := by decide +kernel
theorem dX11_freezes_71 : decode cX11_freezes 71 = .ok (.i2l, 1) := by decide +kernel
theorem dX11_freezes_72 : decode cX11_freezes 72 = .ok (.invokevirtual 126, 3) := by decide +kernel
theorem dX11_freezes_75 : decode cX11_freezes 75 = .ok (.aload_n 0, 1) := by decide +kernel
theorem dX11_freezes_76 : decode cX11_freezes 76 = .ok (.lload_n 2, 1) := by decide +kernel
theorem dX11_freezes_77 : decode cX11_freezes 77 = .ok (.putfield 105, 3) := by decide +kernel
theorem dX11_freezes_80 : decode cX11_freezes 80 = .ok (.aload_n 0, 1) := by decide +kernel
theorem dX11_freezes_81 : decode cX11_freezes 81 = .ok (.iconst 0, 1) := by decide +kernel
theorem dX11_freezes_82 : decode cX11_freezes 82 = .ok (.putfield 123, 3) := by decide +kernel
theorem dX11_freezes_85 : decode cX11_freezes 85 = .ok (.iconst 0, 1) := by decide +kernel
theorem dX11_freezes_86 : decode cX11_freezes 86 = .ok (.istore 5, 2) := by decide +kernel
theorem dX11_freezes_88 : decode cX11_freezes 88 = .ok (.iload 5, 2) := by decide +kernel
theorem dX11_freezes_90 : decode cX11_freezes 90 = .ok (.ifCond .ne 52, 3) := by decide +kernel
theorem dX11_freezes_93 : decode cX11_freezes 93 = .ok (.aload_n 0, 1) := by decide +kernel
theorem dX11_freezes_94 : decode cX11_freezes 94 = .ok (.getfield 123, 3) := by decide +kernel
theorem dX11_freezes_97 : decode cX11_freezes 97 = .ok (.sipush 1000, 3) := by decide +kernel
theorem dX11_freezes_100 : decode cX11_freezes 100 = .ok (.if_icmp .ge 42, 3) := by decide +kernel
theorem dX11_freezes_103 : decode cX11_freezes 103 = .ok (.aload_n 0, 1) := by decide +kernel
theorem dX11_freezes_104 : decode cX11_freezes 104 = .ok (.invokevirtual 141, 3) := by decide +kernel
theorem dX11_freezes_107 : decode cX11_freezes 107 = .ok (.aload_n 0, 1) := by decide +kernel
theorem dX11_freezes_108 : decode cX11_freezes 108 = .ok (.iconst 4, 1) := by decide +kernel
theorem dX11_freezes_109 : decode cX11_freezes 109 = .ok (.aload_n 0, 1) := by decide +kernel
theorem dX11_freezes_110 : decode cX11_freezes 110 = .ok (.getfield 117, 3) := by decide +kernel
theorem dX11_freezes_113 : decode cX11_freezes 113 = .ok (.aload_n 0, 1) := by decide +kernel
theorem dX11_freezes_114 : decode cX11_freezes 114 = .ok (.getfield 120, 3) := by decide +kernel
theorem dX11_freezes_117 : decode cX11_freezes 117 = .ok (.iconst 1, 1) := by decide +kernel
theorem dX11_freezes_118 : decode cX11_freezes 118 = .ok (.invokevirtual 165, 3) := by decide +kernel
theorem dX11_freezes_121 : decode cX11_freezes 121 = .ok (.ldc2_w 87, 3) := by decide +kernel
theorem dX11_freezes_124 : decode cX11_freezes 124 = .ok (.iload 4, 2) := by decide +kernel
theorem dX11_freezes_126 : decode cX11_freezes 126 = .ok (.i2l, 1) := by decide +kernel
theorem dX11_freezes_127 : decode cX11_freezes 127 = .ok (.lmul, 1) := by decide +kernel
theorem dX11_freezes_128 : decode cX11_freezes 128 = .ok (.lcmp, 1) := by decide +kernel
theorem dX11_freezes_129 : decode cX11_freezes 129 = .ok (.ifCond .gt 7, 3) := by decide +kernel
theorem dX11_freezes_132 : decode cX11_freezes 132 = .ok (.iconst 1, 1) := by decide +kernel
theorem dX11_freezes_133 : decode cX11_freezes 133 = .ok (.goto 4, 3) := by decide +kernel
theorem dX11_freezes_136 : decode cX11_freezes 136 = .ok (.iconst 0, 1) := by decide +kernel
theorem dX11_freezes_137 : decode cX11_freezes 137 = .ok (.istore 5, 2) := by decide +kernel
theorem dX11_freezes_139 : decode cX11_freezes 139 = .ok (.goto (-51), 3) := by decide +kernel
theorem dX11_freezes_142 : decode cX11_freezes 142 = .ok (.iload 5, 2) := by decide +kernel
theorem dX11_freezes_144 : decode cX11_freezes 144 = .ok (.ifCond .ne 5, 3) := by decide +kernel
theorem dX11_freezes_147 : decode cX11_freezes 147 = .ok (.iconst 0, 1) := by decide +kernel
theorem dX11_freezes_148 : decode cX11_freezes 148 = .ok (.ireturn, 1) := by decide +kernel
theorem dX11_freezes_149 : decode cX11_freezes 149 = .ok (.aload_n 0, 1) := by decide +kernel
theorem dX11_freezes_150 : decode cX11_freezes 150 = .ok (.aload_n 0, 1) := by decide +kernel
theorem dX11_freezes_151 : decode cX11_freezes 151 = .ok (.getfield 123, 3) := by decide +kernel
theorem dX11_freezes_154 : decode cX11_freezes 154 = .ok (.putfield 259, 3) := by decide +kernel
theorem dX11_freezes_157 : decode cX11_freezes 157 = .ok (.iconst 0, 1) := by decide +kernel
theorem dX11_freezes_158 : decode cX11_freezes 158 = .ok (.istore 6, 2) := by decide +kernel
theorem dX11_freezes_160 : decode cX11_freezes 160 = .ok (.iload 6, 2) := by decide +kernel
theorem dX11_freezes_162 : decode cX11_freezes 162 = .ok (.aload_n 0, 1) := by decide +kernel
theorem dX11_freezes_163 : decode cX11_freezes 163 = .ok (.iconst 4, 1) := by decide +kernel
theorem dX11_freezes_164 : decode cX11_freezes 164 = .ok (.invokevirtual 152, 3) := by decide +kernel
theorem dX11_freezes_167 : decode cX11_freezes 167 = .ok (.if_icmp .ge 16, 3) := by decide +kernel
theorem dX11_freezes_170 : decode cX11_freezes 170 = .ok (.aload_n 0, 1) := by decide +kernel
theorem dX11_freezes_171 : decode cX11_freezes 171 = .ok (.iconst 4, 1) := by decide +kernel
theorem dX11_freezes_172 : decode cX11_freezes 172 = .ok (.iload 6, 2) := by decide +kernel
theorem dX11_freezes_174 : decode cX11_freezes 174 = .ok (.invokevirtual 171, 3) := by decide +kernel
theorem dX11_freezes_177 : decode cX11_freezes 177 = .ok (.iinc 6 1, 3) := by decide +kernel
theorem dX11_freezes_180 : decode cX11_freezes 180 = .ok (.goto (-20), 3) := by decide +kernel
theorem dX11_freezes_183 : decode cX11_freezes 183 = .ok (.aload_n 0, 1) := by decide +kernel
theorem dX11_freezes_184 : decode cX11_freezes 184 = .ok (.aload_n 0, 1) := by decide +kernel
theorem dX11_freezes_185 : decode cX11_freezes 185 = .ok (.getfield 123, 3) := by decide +kernel
theorem dX11_freezes_188 : decode cX11_freezes 188 = .ok (.aload_n 0, 1) := by decide +kernel
theorem dX11_freezes_189 : decode cX11_freezes 189 = .ok (.getfield 259, 3) := by decide +kernel
theorem dX11_freezes_192 : decode cX11_freezes 192 = .ok (.isub, 1) := by decide +kernel
theorem dX11_freezes_193 : decode cX11_freezes 193 = .ok (.putfield 262, 3) := by decide +kernel
theorem dX11_freezes_196 : decode cX11_freezes 196 = .ok (.iconst 1, 1) := by decide +kernel
theorem dX11_freezes_197 : decode cX11_freezes 197 = .ok (.ireturn, 1) := by decide +kernel
