theorem dX11_outer_0 : decode cX11_outer 0 = .ok (.aload_n 0, 1) := by decide +kernel
theorem dX11_outer_1 : decode cX11_outer 1 = .ok (.iconst 0, 1) := by decide +kernel
theorem dX11_outer_2 : decode cX11_outer 2 = .ok (.putfield 73, 3) := by decide +kernel
theorem dX11_outer_5 : decode cX11_outer 5 = .ok (.aload_n 0, 1) := by decide +kernel
theorem dX11_outer_6 : decode cX11_outer 6 = .ok (.iload_n 1, 1) := by decide +kernel
theorem dX11_outer_7 : decode cX11_outer 7 = .ok (.invokevirtual 222, 3) := by decide +kernel
theorem dX11_outer_10 : decode cX11_outer 10 = .ok (.ifCond .eq 37, 3) := by decide +kernel
theorem dX11_outer_13 : decode cX11_outer 13 = .ok (.iload_n 2, 1) := by decide +kernel
theorem dX11_outer_14 : decode cX11_outer 14 = .ok (.iload_n 3, 1) := by decide +kernel
theorem dX11_outer_15 : decode cX11_outer 15 = .ok (.invokestatic 252, 3) := by decide +kernel
theorem dX11_outer_18 : decode cX11_outer 18 = .ok (.ifCond .eq 29, 3) := by decide +kernel
theorem dX11_outer_21 : decode cX11_outer 21 = .ok (.iload 4, 2) := by decide +kernel
theorem dX11_outer_23 : decode cX11_outer 23 = .ok (.i2l, 1) := by decide +kernel
theorem dX11_outer_24 : decode cX11_outer 24 = .ok (.lconst 1, 1) := by decide +kernel
theorem dX11_outer_25 : decode cX11_outer 25 = .ok (.ldc2_w 169, 3) := by decide +kernel
theorem dX11_outer_28 : decode cX11_outer 28 = .ok (.invokestatic 83, 3) := by decide +kernel
theorem dX11_outer_31 : decode cX11_outer 31 = .ok (.ifCond .eq 16, 3) := by decide +kernel
theorem dX11_outer_34 : decode cX11_outer 34 = .ok (.iload 5, 2) := by decide +kernel
theorem dX11_outer_36 : decode cX11_outer 36 = .ok (.i2l, 1) := by decide +kernel
theorem dX11_outer_37 : decode cX11_outer 37 = .ok (.lconst 0, 1) := by decide +kernel
theorem dX11_outer_38 : decode cX11_outer 38 = .ok (.ldc2_w 87, 3) := by decide +kernel
theorem dX11_outer_41 : decode cX11_outer 41 = .ok (.invokestatic 83, 3) := by decide +kernel
theorem dX11_outer_44 : decode cX11_outer 44 = .ok (.ifCond .ne 7, 3) := by decide +kernel
theorem dX11_outer_47 : decode cX11_outer 47 = .ok (.ldc2_w 235, 3) := by decide +kernel
theorem dX11_outer_50 : decode cX11_outer 50 = .ok (.lreturn, 1) := by decide +kernel
theorem dX11_outer_51 : decode cX11_outer 51 = .ok (.iconst 0, 1) := by decide +kernel
theorem dX11_outer_52 : decode cX11_outer 52 = .ok (.istore 6, 2) := by decide +kernel
theorem dX11_outer_54 : decode cX11_outer 54 = .ok (.iload 6, 2) := by decide +kernel
theorem dX11_outer_56 : decode cX11_outer 56 = .ok (.iload 4, 2) := by decide +kernel
theorem dX11_outer_58 : decode cX11_outer 58 = .ok (.if_icmp .ge 17, 3) := by decide +kernel
theorem dX11_outer_61 : decode cX11_outer 61 = .ok (.aload_n 0, 1) := by decide +kernel
theorem dX11_outer_62 : decode cX11_outer 62 = .ok (.getfield 42, 3) := by decide +kernel
theorem dX11_outer_65 : decode cX11_outer 65 = .ok (.iload 6, 2) := by decide +kernel
theorem dX11_outer_67 : decode cX11_outer 67 = .ok (.iconst 0, 1) := by decide +kernel
theorem dX11_outer_68 : decode cX11_outer 68 = .ok (.iastore, 1) := by decide +kernel
theorem dX11_outer_69 : decode cX11_outer 69 = .ok (.iinc 6 1, 3) := by decide +kernel
theorem dX11_outer_72 : decode cX11_outer 72 = .ok (.goto (-18), 3) := by decide +kernel
theorem dX11_outer_75 : decode cX11_outer 75 = .ok (.sipush 160, 3) := by decide +kernel
theorem dX11_outer_78 : decode cX11_outer 78 = .ok (.iload_n 1, 1) := by decide +kernel
theorem dX11_outer_79 : decode cX11_outer 79 = .ok (.imul, 1) := by decide +kernel
theorem dX11_outer_80 : decode cX11_outer 80 = .ok (.istore 6, 2) := by decide +kernel
theorem dX11_outer_82 : decode cX11_outer 82 = .ok (.iload 6, 2) := by decide +kernel
theorem dX11_outer_84 : decode cX11_outer 84 = .ok (.sipush 160, 3) := by decide +kernel
theorem dX11_outer_87 : decode cX11_outer 87 = .ok (.iload_n 1, 1) := by decide +kernel
theorem dX11_outer_88 : decode cX11_outer 88 = .ok (.imul, 1) := by decide +kernel
theorem dX11_outer_89 : decode cX11_outer 89 = .ok (.aload_n 0, 1) := by decide +kernel
theorem dX11_outer_90 : decode cX11_outer 90 = .ok (.iload_n 1, 1) := by decide +kernel
theorem dX11_outer_91 : decode cX11_outer 91 = .ok (.invokevirtual 95, 3) := by decide +kernel
theorem dX11_outer_94 : decode cX11_outer 94 = .ok (.iadd, 1) := by decide +kernel
theorem dX11_outer_95 : decode cX11_outer 95 = .ok (.if_icmp .ge 36, 3) := by decide +kernel
theorem dX11_outer_98 : decode cX11_outer 98 = .ok (.aload_n 0, 1) := by decide +kernel
theorem dX11_outer_99 : decode cX11_outer 99 = .ok (.getfield 42, 3) := by decide +kernel
theorem dX11_outer_102 : decode cX11_outer 102 = .ok (.iload_n 2, 1) := by decide +kernel
theorem dX11_outer_103 : decode cX11_outer 103 = .ok (.i2l, 1) := by decide +kernel
theorem dX11_outer_104 : decode cX11_outer 104 = .ok (.iload_n 3, 1) := by decide +kernel
theorem dX11_outer_105 : decode cX11_outer 105 = .ok (.i2l, 1) := by decide +kernel
theorem dX11_outer_106 : decode cX11_outer 106 = .ok (.aload_n 0, 1) := by decide +kernel
theorem dX11_outer_107 : decode cX11_outer 107 = .ok (.getfield 17, 3) := by decide +kernel
theorem dX11_outer_110 : decode cX11_outer 110 = .ok (.iload 6, 2) := by decide +kernel
theorem dX11_outer_112 : decode cX11_outer 112 = .ok (.iaload, 1) := by decide +kernel
theorem dX11_outer_113 : decode cX11_outer 113 = .ok (.i2l, 1) := by decide +kernel
theorem dX11_outer_114 : decode cX11_outer 114 = .ok (.iload 4, 2) := by decide +kernel
theorem dX11_outer_116 : decode cX11_outer 116 = .ok (.i2l, 1) := by decide +kernel
theorem dX11_outer_117 : decode cX11_outer 117 = .ok (.invokestatic 133, 3) := by decide +kernel
theorem dX11_outer_120 : decode cX11_outer 120 = .ok (.dup2, 1) := by decide +kernel
theorem dX11_outer_121 : decode cX11_outer 121 = .ok (.iaload, 1) := by decide +kernel
theorem dX11_outer_122 : decode cX11_outer 122 = .ok (.iconst 1, 1) := by decide +kernel
theorem dX11_outer_123 : decode cX11_outer 123 = .ok (.iadd, 1) := by decide +kernel
theorem dX11_outer_124 : decode cX11_outer 124 = .ok (.iastore, 1) := by decide +kernel
theorem dX11_outer_125 : decode cX11_outer 125 = .ok (.iinc 6 1, 3) := by decide +kernel
theorem dX11_outer_128 : decode cX11_outer 128 = .ok (.goto (-46), 3) := by decide +kernel
theorem dX11_outer_131 : decode cX11_outer 131 = .ok (.lconst 0, 1) := by decide +kernel
theorem dX11_outer_132 : decode cX11_outer 132 = .ok (.lstore 6, 2) := by decide +kernel
theorem dX11_outer_134 : decode cX11_outer 134 = .ok (.iconst 0, 1) := by decide +kernel
theorem dX11_outer_135 : decode cX11_outer 135 = .ok (.istore 8, 2) := by decide +kernel
theorem dX11_outer_137 : decode cX11_outer 137 = .ok (.iconst 0, 1) := by decide +kernel
theorem dX11_outer_138 : decode cX11_outer 138 = .ok (.istore 9, 2) := by decide +kernel
theorem dX11_outer_140 : decode cX11_outer 140 = .ok (.iconst 0, 1) := by decide +kernel
theorem dX11_outer_141 : decode cX11_outer 141 = .ok (.istore 10, 2) := by decide +kernel
theorem dX11_outer_143 : decode cX11_outer 143 = .ok (.iload 10, 2) := by decide +kernel
theorem dX11_outer_145 : decode cX11_outer 145 = .ok (.iload 4, 2) := by decide +kernel
theorem dX11_outer_147 : decode cX11_outer 147 = .ok (.if_icmp .ge 80, 3) := by decide +kernel
theorem dX11_outer_150 : decode cX11_outer 150 = .ok (.lload 6, 2) := by decide +kernel
theorem dX11_outer_152 : decode cX11_outer 152 = .ok (.aload_n 0, 1) := by decide +kernel
theorem dX11_outer_153 : decode cX11_outer 153 = .ok (.getfield 42, 3) := by decide +kernel
theorem dX11_outer_156 : decode cX11_outer 156 = .ok (.iload 10, 2) := by decide +kernel
theorem dX11_outer_158 : decode cX11_outer 158 = .ok (.iaload, 1) := by decide +kernel
theorem dX11_outer_159 : decode cX11_outer 159 = .ok (.i2l, 1) := by decide +kernel
theorem dX11_outer_160 : decode cX11_outer 160 = .ok (.aload_n 0, 1) := by decide +kernel
theorem dX11_outer_161 : decode cX11_outer 161 = .ok (.getfield 42, 3) := by decide +kernel
theorem dX11_outer_164 : decode cX11_outer 164 = .ok (.iload 10, 2) := by decide +kernel
theorem dX11_outer_166 : decode cX11_outer 166 = .ok (.iaload, 1) := by decide +kernel
theorem dX11_outer_167 : decode cX11_outer 167 = .ok (.i2l, 1) := by decide +kernel
theorem dX11_outer_168 : decode cX11_outer 168 = .ok (.lmul, 1) := by decide +kernel
theorem dX11_outer_169 : decode cX11_outer 169 = .ok (.ladd, 1) := by decide +kernel
theorem dX11_outer_170 : decode cX11_outer 170 = .ok (.lstore 6, 2) := by decide +kernel
theorem dX11_outer_172 : decode cX11_outer 172 = .ok (.aload_n 0, 1) := by decide +kernel
theorem dX11_outer_173 : decode cX11_outer 173 = .ok (.getfield 42, 3) := by decide +kernel
theorem dX11_outer_176 : decode cX11_outer 176 = .ok (.iload 10, 2) := by decide +kernel
theorem dX11_outer_178 : decode cX11_outer 178 = .ok (.iaload, 1) := by decide +kernel
theorem dX11_outer_179 : decode cX11_outer 179 = .ok (.iload 8, 2) := by decide +kernel
theorem dX11_outer_181 : decode cX11_outer 181 = .ok (.if_icmp .le 13, 3) := by decide +kernel
theorem dX11_outer_184 : decode cX11_outer 184 = .ok (.aload_n 0, 1) := by decide +kernel
theorem dX11_outer_185 : decode cX11_outer 185 = .ok (.getfield 42, 3) := by decide +kernel
theorem dX11_outer_188 : decode cX11_outer 188 = .ok (.iload 10, 2) := by decide +kernel
theorem dX11_outer_190 : decode cX11_outer 190 = .ok (.iaload, 1) := by decide +kernel
theorem dX11_outer_191 : decode cX11_outer 191 = .ok (.goto 5, 3) := by decide +kernel
theorem dX11_outer_194 : decode cX11_outer 194 = .ok (.iload 8, 2) := by decide +kernel
theorem dX11_outer_196 : decode cX11_outer 196 = .ok (.istore 8, 2) := by decide +kernel
theorem dX11_outer_198 : decode cX11_outer 198 = .ok (.iload 9, 2) := by decide +kernel
theorem dX11_outer_200 : decode cX11_outer 200 = .ok (.aload_n 0, 1) := by decide +kernel
theorem dX11_outer_201 : decode cX11_outer 201 = .ok (.getfield 42, 3) := by decide +kernel
theorem dX11_outer_204 : decode cX11_outer 204 = .ok (.iload 10, 2) := by decide +kernel
theorem dX11_outer_206 : decode cX11_outer 206 = .ok (.iaload, 1) := by decide +kernel
theorem dX11_outer_207 : decode cX11_outer 207 = .ok (.ifCond .ne 7, 3) := by decide +kernel
theorem dX11_outer_210 : decode cX11_outer 210 = .ok (.iconst 1, 1) := by decide +kernel
theorem dX11_outer_211 : decode cX11_outer 211 = .ok (.goto 4, 3) := by decide +kernel
theorem dX11_outer_214 : decode cX11_outer 214 = .ok (.iconst 0, 1) := by decide +kernel
theorem dX11_outer_215 : decode cX11_outer 215 = .ok (.invokestatic 198, 3) := by decide +kernel
theorem dX11_outer_218 : decode cX11_outer 218 = .ok (.iadd, 1) := by decide +kernel
theorem dX11_outer_219 : decode cX11_outer 219 = .ok (.istore 9, 2) := by decide +kernel
theorem dX11_outer_221 : decode cX11_outer 221 = .ok (.iinc 10 1, 3) := by decide +kernel
theorem dX11_outer_224 : decode cX11_outer 224 = .ok (.goto (-81), 3) := by decide +kernel
theorem dX11_outer_227 : decode cX11_outer 227 = .ok (.iload 5, 2) := by decide +kernel
theorem dX11_outer_229 : decode cX11_outer 229 = .ok (.ifCond .ne 12, 3) := by decide +kernel
theorem dX11_outer_232 : decode cX11_outer 232 = .ok (.ldc2_w 160, 3) := by decide +kernel
theorem dX11_outer_235 : decode cX11_outer 235 = .ok (.lload 6, 2) := by decide +kernel
theorem dX11_outer_237 : decode cX11_outer 237 = .ok (.lmul, 1) := by decide +kernel
theorem dX11_outer_238 : decode cX11_outer 238 = .ok (.goto 29, 3) := by decide +kernel
theorem dX11_outer_241 : decode cX11_outer 241 = .ok (.iload 5, 2) := by decide +kernel
theorem dX11_outer_243 : decode cX11_outer 243 = .ok (.iconst 1, 1) := by decide +kernel
theorem dX11_outer_244 : decode cX11_outer 244 = .ok (.if_icmp .ne 8, 3) := by decide +kernel
theorem dX11_outer_247 : decode cX11_outer 247 = .ok (.lload 6, 2) := by decide +kernel
theorem dX11_outer_249 : decode cX11_outer 249 = .ok (.goto 18, 3) := by decide +kernel
theorem dX11_outer_252 : decode cX11_outer 252 = .ok (.iload 5, 2) := by decide +kernel
theorem dX11_outer_254 : decode cX11_outer 254 = .ok (.iconst 2, 1) := by decide +kernel
theorem dX11_outer_255 : decode cX11_outer 255 = .ok (.if_icmp .ne 9, 3) := by decide +kernel
theorem dX11_outer_258 : decode cX11_outer 258 = .ok (.iload 8, 2) := by decide +kernel
theorem dX11_outer_260 : decode cX11_outer 260 = .ok (.i2l, 1) := by decide +kernel
theorem dX11_outer_261 : decode cX11_outer 261 = .ok (.goto 6, 3) := by decide +kernel
theorem dX11_outer_264 : decode cX11_outer 264 = .ok (.iload 9, 2) := by decide +kernel
theorem dX11_outer_266 : decode cX11_outer 266 = .ok (.i2l, 1) := by decide +kernel
theorem dX11_outer_267 : decode cX11_outer 267 = .ok (.lreturn, 1) := by decide +kernel
