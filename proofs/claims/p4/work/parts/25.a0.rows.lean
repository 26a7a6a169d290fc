theorem dX11_putsKey_0 : decode cX11_putsKey 0 = .ok (.aload_n 0, 1) := by decide +kernel
theorem dX11_putsKey_1 : decode cX11_putsKey 1 = .ok (.iload_n 1, 1) := by decide +kernel
theorem dX11_putsKey_2 : decode cX11_putsKey 2 = .ok (.iload_n 2, 1) := by decide +kernel
theorem dX11_putsKey_3 : decode cX11_putsKey 3 = .ok (.invokevirtual 212, 3) := by decide +kernel
theorem dX11_putsKey_6 : decode cX11_putsKey 6 = .ok (.istore 4, 2) := by decide +kernel
theorem dX11_putsKey_8 : decode cX11_putsKey 8 = .ok (.aload_n 0, 1) := by decide +kernel
theorem dX11_putsKey_9 : decode cX11_putsKey 9 = .ok (.iload_n 1, 1) := by decide +kernel
theorem dX11_putsKey_10 : decode cX11_putsKey 10 = .ok (.iload_n 2, 1) := by decide +kernel
theorem dX11_putsKey_11 : decode cX11_putsKey 11 = .ok (.invokevirtual 155, 3) := by decide +kernel
theorem dX11_putsKey_14 : decode cX11_putsKey 14 = .ok (.istore 5, 2) := by decide +kernel
theorem dX11_putsKey_16 : decode cX11_putsKey 16 = .ok (.aload_n 0, 1) := by decide +kernel
theorem dX11_putsKey_17 : decode cX11_putsKey 17 = .ok (.iload_n 1, 1) := by decide +kernel
theorem dX11_putsKey_18 : decode cX11_putsKey 18 = .ok (.iload_n 2, 1) := by decide +kernel
theorem dX11_putsKey_19 : decode cX11_putsKey 19 = .ok (.invokevirtual 215, 3) := by decide +kernel
theorem dX11_putsKey_22 : decode cX11_putsKey 22 = .ok (.iload 4, 2) := by decide +kernel
theorem dX11_putsKey_24 : decode cX11_putsKey 24 = .ok (.ifCond .ne 24, 3) := by decide +kernel
theorem dX11_putsKey_27 : decode cX11_putsKey 27 = .ok (.aload_n 0, 1) := by decide +kernel
theorem dX11_putsKey_28 : decode cX11_putsKey 28 = .ok (.getfield 21, 3) := by decide +kernel
theorem dX11_putsKey_31 : decode cX11_putsKey 31 = .ok (.sipush 160, 3) := by decide +kernel
theorem dX11_putsKey_34 : decode cX11_putsKey 34 = .ok (.iload_n 1, 1) := by decide +kernel
theorem dX11_putsKey_35 : decode cX11_putsKey 35 = .ok (.imul, 1) := by decide +kernel
theorem dX11_putsKey_36 : decode cX11_putsKey 36 = .ok (.aload_n 0, 1) := by decide +kernel
theorem dX11_putsKey_37 : decode cX11_putsKey 37 = .ok (.iload_n 1, 1) := by decide +kernel
theorem dX11_putsKey_38 : decode cX11_putsKey 38 = .ok (.iload_n 2, 1) := by decide +kernel
theorem dX11_putsKey_39 : decode cX11_putsKey 39 = .ok (.i2l, 1) := by decide +kernel
theorem dX11_putsKey_40 : decode cX11_putsKey 40 = .ok (.invokevirtual 99, 3) := by decide +kernel
theorem dX11_putsKey_43 : decode cX11_putsKey 43 = .ok (.iadd, 1) := by decide +kernel
theorem dX11_putsKey_44 : decode cX11_putsKey 44 = .ok (.iload_n 3, 1) := by decide +kernel
theorem dX11_putsKey_45 : decode cX11_putsKey 45 = .ok (.iastore, 1) := by decide +kernel
theorem dX11_putsKey_46 : decode cX11_putsKey 46 = .ok (.iconst 0, 1) := by decide +kernel
theorem dX11_putsKey_47 : decode cX11_putsKey 47 = .ok (.ireturn, 1) := by decide +kernel
theorem dX11_putsKey_48 : decode cX11_putsKey 48 = .ok (.aload_n 0, 1) := by decide +kernel
theorem dX11_putsKey_49 : decode cX11_putsKey 49 = .ok (.iload_n 1, 1) := by decide +kernel
theorem dX11_putsKey_50 : decode cX11_putsKey 50 = .ok (.iconst 3, 1) := by decide +kernel
theorem dX11_putsKey_51 : decode cX11_putsKey 51 = .ok (.lconst 1, 1) := by decide +kernel
theorem dX11_putsKey_52 : decode cX11_putsKey 52 = .ok (.invokevirtual 130, 3) := by decide +kernel
theorem dX11_putsKey_55 : decode cX11_putsKey 55 = .ok (.aload_n 0, 1) := by decide +kernel
theorem dX11_putsKey_56 : decode cX11_putsKey 56 = .ok (.iload_n 1, 1) := by decide +kernel
theorem dX11_putsKey_57 : decode cX11_putsKey 57 = .ok (.iload_n 2, 1) := by decide +kernel
theorem dX11_putsKey_58 : decode cX11_putsKey 58 = .ok (.iload_n 3, 1) := by decide +kernel
theorem dX11_putsKey_59 : decode cX11_putsKey 59 = .ok (.invokevirtual 218, 3) := by decide +kernel
theorem dX11_putsKey_62 : decode cX11_putsKey 62 = .ok (.iload 4, 2) := by decide +kernel
theorem dX11_putsKey_64 : decode cX11_putsKey 64 = .ok (.iconst 4, 1) := by decide +kernel
theorem dX11_putsKey_65 : decode cX11_putsKey 65 = .ok (.if_icmp .ne 18, 3) := by decide +kernel
theorem dX11_putsKey_68 : decode cX11_putsKey 68 = .ok (.aload_n 0, 1) := by decide +kernel
theorem dX11_putsKey_69 : decode cX11_putsKey 69 = .ok (.iload_n 1, 1) := by decide +kernel
theorem dX11_putsKey_70 : decode cX11_putsKey 70 = .ok (.bipush 11, 2) := by decide +kernel
theorem dX11_putsKey_72 : decode cX11_putsKey 72 = .ok (.lconst 1, 1) := by decide +kernel
theorem dX11_putsKey_73 : decode cX11_putsKey 73 = .ok (.invokevirtual 130, 3) := by decide +kernel
theorem dX11_putsKey_76 : decode cX11_putsKey 76 = .ok (.aload_n 0, 1) := by decide +kernel
theorem dX11_putsKey_77 : decode cX11_putsKey 77 = .ok (.iload_n 1, 1) := by decide +kernel
theorem dX11_putsKey_78 : decode cX11_putsKey 78 = .ok (.invokevirtual 192, 3) := by decide +kernel
theorem dX11_putsKey_81 : decode cX11_putsKey 81 = .ok (.iconst 4, 1) := by decide +kernel
theorem dX11_putsKey_82 : decode cX11_putsKey 82 = .ok (.ireturn, 1) := by decide +kernel
theorem dX11_putsKey_83 : decode cX11_putsKey 83 = .ok (.aload_n 0, 1) := by decide +kernel
theorem dX11_putsKey_84 : decode cX11_putsKey 84 = .ok (.getfield 33, 3) := by decide +kernel
theorem dX11_putsKey_87 : decode cX11_putsKey 87 = .ok (.sipush 2048, 3) := by decide +kernel
theorem dX11_putsKey_90 : decode cX11_putsKey 90 = .ok (.iload_n 1, 1) := by decide +kernel
theorem dX11_putsKey_91 : decode cX11_putsKey 91 = .ok (.imul, 1) := by decide +kernel
theorem dX11_putsKey_92 : decode cX11_putsKey 92 = .ok (.iload 5, 2) := by decide +kernel
theorem dX11_putsKey_94 : decode cX11_putsKey 94 = .ok (.iadd, 1) := by decide +kernel
theorem dX11_putsKey_95 : decode cX11_putsKey 95 = .ok (.dup2, 1) := by decide +kernel
theorem dX11_putsKey_96 : decode cX11_putsKey 96 = .ok (.iaload, 1) := by decide +kernel
theorem dX11_putsKey_97 : decode cX11_putsKey 97 = .ok (.iconst 1, 1) := by decide +kernel
theorem dX11_putsKey_98 : decode cX11_putsKey 98 = .ok (.iadd, 1) := by decide +kernel
theorem dX11_putsKey_99 : decode cX11_putsKey 99 = .ok (.iastore, 1) := by decide +kernel
theorem dX11_putsKey_100 : decode cX11_putsKey 100 = .ok (.iload 4, 2) := by decide +kernel
theorem dX11_putsKey_102 : decode cX11_putsKey 102 = .ok (.iconst 1, 1) := by decide +kernel
theorem dX11_putsKey_103 : decode cX11_putsKey 103 = .ok (.if_icmp .ne 31, 3) := by decide +kernel
theorem dX11_putsKey_106 : decode cX11_putsKey 106 = .ok (.aload_n 0, 1) := by decide +kernel
theorem dX11_putsKey_107 : decode cX11_putsKey 107 = .ok (.getfield 27, 3) := by decide +kernel
theorem dX11_putsKey_110 : decode cX11_putsKey 110 = .ok (.sipush 160, 3) := by decide +kernel
theorem dX11_putsKey_113 : decode cX11_putsKey 113 = .ok (.iload_n 1, 1) := by decide +kernel
theorem dX11_putsKey_114 : decode cX11_putsKey 114 = .ok (.imul, 1) := by decide +kernel
theorem dX11_putsKey_115 : decode cX11_putsKey 115 = .ok (.aload_n 0, 1) := by decide +kernel
theorem dX11_putsKey_116 : decode cX11_putsKey 116 = .ok (.iload_n 1, 1) := by decide +kernel
theorem dX11_putsKey_117 : decode cX11_putsKey 117 = .ok (.iload_n 2, 1) := by decide +kernel
theorem dX11_putsKey_118 : decode cX11_putsKey 118 = .ok (.i2l, 1) := by decide +kernel
theorem dX11_putsKey_119 : decode cX11_putsKey 119 = .ok (.invokevirtual 99, 3) := by decide +kernel
theorem dX11_putsKey_122 : decode cX11_putsKey 122 = .ok (.iadd, 1) := by decide +kernel
theorem dX11_putsKey_123 : decode cX11_putsKey 123 = .ok (.aload_n 0, 1) := by decide +kernel
theorem dX11_putsKey_124 : decode cX11_putsKey 124 = .ok (.iload_n 1, 1) := by decide +kernel
theorem dX11_putsKey_125 : decode cX11_putsKey 125 = .ok (.iload 5, 2) := by decide +kernel
theorem dX11_putsKey_127 : decode cX11_putsKey 127 = .ok (.iload_n 2, 1) := by decide +kernel
theorem dX11_putsKey_128 : decode cX11_putsKey 128 = .ok (.invokevirtual 148, 3) := by decide +kernel
theorem dX11_putsKey_131 : decode cX11_putsKey 131 = .ok (.iastore, 1) := by decide +kernel
theorem dX11_putsKey_132 : decode cX11_putsKey 132 = .ok (.iconst 1, 1) := by decide +kernel
theorem dX11_putsKey_133 : decode cX11_putsKey 133 = .ok (.ireturn, 1) := by decide +kernel
theorem dX11_putsKey_134 : decode cX11_putsKey 134 = .ok (.iload 4, 2) := by decide +kernel
theorem dX11_putsKey_136 : decode cX11_putsKey 136 = .ok (.iconst 3, 1) := by decide +kernel
theorem dX11_putsKey_137 : decode cX11_putsKey 137 = .ok (.if_icmp .ne 80, 3) := by decide +kernel
theorem dX11_putsKey_140 : decode cX11_putsKey 140 = .ok (.aload_n 0, 1) := by decide +kernel
theorem dX11_putsKey_141 : decode cX11_putsKey 141 = .ok (.iload_n 1, 1) := by decide +kernel
theorem dX11_putsKey_142 : decode cX11_putsKey 142 = .ok (.iconst 5, 1) := by decide +kernel
theorem dX11_putsKey_143 : decode cX11_putsKey 143 = .ok (.aload_n 0, 1) := by decide +kernel
theorem dX11_putsKey_144 : decode cX11_putsKey 144 = .ok (.iload_n 1, 1) := by decide +kernel
theorem dX11_putsKey_145 : decode cX11_putsKey 145 = .ok (.iload 5, 2) := by decide +kernel
theorem dX11_putsKey_147 : decode cX11_putsKey 147 = .ok (.invokevirtual 137, 3) := by decide +kernel
theorem dX11_putsKey_150 : decode cX11_putsKey 150 = .ok (.ineg, 1) := by decide +kernel
theorem dX11_putsKey_151 : decode cX11_putsKey 151 = .ok (.i2l, 1) := by decide +kernel
theorem dX11_putsKey_152 : decode cX11_putsKey 152 = .ok (.invokevirtual 130, 3) := by decide +kernel
theorem dX11_putsKey_155 : decode cX11_putsKey 155 = .ok (.aload_n 0, 1) := by decide +kernel
theorem dX11_putsKey_156 : decode cX11_putsKey 156 = .ok (.getfield 30, 3) := by decide +kernel
theorem dX11_putsKey_159 : decode cX11_putsKey 159 = .ok (.sipush 2048, 3) := by decide +kernel
theorem dX11_putsKey_162 : decode cX11_putsKey 162 = .ok (.iload_n 1, 1) := by decide +kernel
theorem dX11_putsKey_163 : decode cX11_putsKey 163 = .ok (.imul, 1) := by decide +kernel
theorem dX11_putsKey_164 : decode cX11_putsKey 164 = .ok (.iload 5, 2) := by decide +kernel
theorem dX11_putsKey_166 : decode cX11_putsKey 166 = .ok (.iadd, 1) := by decide +kernel
theorem dX11_putsKey_167 : decode cX11_putsKey 167 = .ok (.aload_n 0, 1) := by decide +kernel
theorem dX11_putsKey_168 : decode cX11_putsKey 168 = .ok (.getfield 30, 3) := by decide +kernel
theorem dX11_putsKey_171 : decode cX11_putsKey 171 = .ok (.sipush 2048, 3) := by decide +kernel
theorem dX11_putsKey_174 : decode cX11_putsKey 174 = .ok (.iload_n 1, 1) := by decide +kernel
theorem dX11_putsKey_175 : decode cX11_putsKey 175 = .ok (.imul, 1) := by decide +kernel
theorem dX11_putsKey_176 : decode cX11_putsKey 176 = .ok (.iload 5, 2) := by decide +kernel
theorem dX11_putsKey_178 : decode cX11_putsKey 178 = .ok (.iadd, 1) := by decide +kernel
theorem dX11_putsKey_179 : decode cX11_putsKey 179 = .ok (.iaload, 1) := by decide +kernel
theorem dX11_putsKey_180 : decode cX11_putsKey 180 = .ok (.ifCond .ne 7, 3) := by decide +kernel
theorem dX11_putsKey_183 : decode cX11_putsKey 183 = .ok (.iconst 2, 1) := by decide +kernel
theorem dX11_putsKey_184 : decode cX11_putsKey 184 = .ok (.goto 18, 3) := by decide +kernel
theorem dX11_putsKey_187 : decode cX11_putsKey 187 = .ok (.iconst 2, 1) := by decide +kernel
theorem dX11_putsKey_188 : decode cX11_putsKey 188 = .ok (.aload_n 0, 1) := by decide +kernel
theorem dX11_putsKey_189 : decode cX11_putsKey 189 = .ok (.getfield 30, 3) := by decide +kernel
theorem dX11_putsKey_192 : decode cX11_putsKey 192 = .ok (.sipush 2048, 3) := by decide +kernel
theorem dX11_putsKey_195 : decode cX11_putsKey 195 = .ok (.iload_n 1, 1) := by decide +kernel
theorem dX11_putsKey_196 : decode cX11_putsKey 196 = .ok (.imul, 1) := by decide +kernel
theorem dX11_putsKey_197 : decode cX11_putsKey 197 = .ok (.iload 5, 2) := by decide +kernel
theorem dX11_putsKey_199 : decode cX11_putsKey 199 = .ok (.iadd, 1) := by decide +kernel
theorem dX11_putsKey_200 : decode cX11_putsKey 200 = .ok (.iaload, 1) := by decide +kernel
theorem dX11_putsKey_201 : decode cX11_putsKey 201 = .ok (.imul, 1) := by decide +kernel
theorem dX11_putsKey_202 : decode cX11_putsKey 202 = .ok (.iastore, 1) := by decide +kernel
theorem dX11_putsKey_203 : decode cX11_putsKey 203 = .ok (.aload_n 0, 1) := by decide +kernel
theorem dX11_putsKey_204 : decode cX11_putsKey 204 = .ok (.iload_n 1, 1) := by decide +kernel
theorem dX11_putsKey_205 : decode cX11_putsKey 205 = .ok (.iconst 5, 1) := by decide +kernel
theorem dX11_putsKey_206 : decode cX11_putsKey 206 = .ok (.aload_n 0, 1) := by decide +kernel
theorem dX11_putsKey_207 : decode cX11_putsKey 207 = .ok (.iload_n 1, 1) := by decide +kernel
theorem dX11_putsKey_208 : decode cX11_putsKey 208 = .ok (.iload 5, 2) := by decide +kernel
theorem dX11_putsKey_210 : decode cX11_putsKey 210 = .ok (.invokevirtual 137, 3) := by decide +kernel
theorem dX11_putsKey_213 : decode cX11_putsKey 213 = .ok (.i2l, 1) := by decide +kernel
theorem dX11_putsKey_214 : decode cX11_putsKey 214 = .ok (.invokevirtual 130, 3) := by decide +kernel
theorem dX11_putsKey_217 : decode cX11_putsKey 217 = .ok (.aload_n 0, 1) := by decide +kernel
theorem dX11_putsKey_218 : decode cX11_putsKey 218 = .ok (.iload_n 1, 1) := by decide +kernel
theorem dX11_putsKey_219 : decode cX11_putsKey 219 = .ok (.invokevirtual 162, 3) := by decide +kernel
theorem dX11_putsKey_222 : decode cX11_putsKey 222 = .ok (.aload_n 0, 1) := by decide +kernel
theorem dX11_putsKey_223 : decode cX11_putsKey 223 = .ok (.iload_n 1, 1) := by decide +kernel
theorem dX11_putsKey_224 : decode cX11_putsKey 224 = .ok (.iload 5, 2) := by decide +kernel
theorem dX11_putsKey_226 : decode cX11_putsKey 226 = .ok (.invokevirtual 171, 3) := by decide +kernel
theorem dX11_putsKey_229 : decode cX11_putsKey 229 = .ok (.aload_n 0, 1) := by decide +kernel
theorem dX11_putsKey_230 : decode cX11_putsKey 230 = .ok (.iload_n 1, 1) := by decide +kernel
theorem dX11_putsKey_231 : decode cX11_putsKey 231 = .ok (.invokevirtual 175, 3) := by decide +kernel
theorem dX11_putsKey_234 : decode cX11_putsKey 234 = .ok (.aload_n 0, 1) := by decide +kernel
theorem dX11_putsKey_235 : decode cX11_putsKey 235 = .ok (.iload_n 1, 1) := by decide +kernel
theorem dX11_putsKey_236 : decode cX11_putsKey 236 = .ok (.bipush 10, 2) := by decide +kernel
theorem dX11_putsKey_238 : decode cX11_putsKey 238 = .ok (.lconst 1, 1) := by decide +kernel
theorem dX11_putsKey_239 : decode cX11_putsKey 239 = .ok (.invokevirtual 130, 3) := by decide +kernel
theorem dX11_putsKey_242 : decode cX11_putsKey 242 = .ok (.aload_n 0, 1) := by decide +kernel
theorem dX11_putsKey_243 : decode cX11_putsKey 243 = .ok (.iload_n 1, 1) := by decide +kernel
theorem dX11_putsKey_244 : decode cX11_putsKey 244 = .ok (.bipush 12, 2) := by decide +kernel
theorem dX11_putsKey_246 : decode cX11_putsKey 246 = .ok (.aload_n 0, 1) := by decide +kernel
theorem dX11_putsKey_247 : decode cX11_putsKey 247 = .ok (.getfield 33, 3) := by decide +kernel
theorem dX11_putsKey_250 : decode cX11_putsKey 250 = .ok (.sipush 2048, 3) := by decide +kernel
theorem dX11_putsKey_253 : decode cX11_putsKey 253 = .ok (.iload_n 1, 1) := by decide +kernel
theorem dX11_putsKey_254 : decode cX11_putsKey 254 = .ok (.imul, 1) := by decide +kernel
theorem dX11_putsKey_255 : decode cX11_putsKey 255 = .ok (.iload 5, 2) := by decide +kernel
theorem dX11_putsKey_257 : decode cX11_putsKey 257 = .ok (.iadd, 1) := by decide +kernel
theorem dX11_putsKey_258 : decode cX11_putsKey 258 = .ok (.iaload, 1) := by decide +kernel
theorem dX11_putsKey_259 : decode cX11_putsKey 259 = .ok (.i2l, 1) := by decide +kernel
theorem dX11_putsKey_260 : decode cX11_putsKey 260 = .ok (.invokevirtual 130, 3) := by decide +kernel
theorem dX11_putsKey_263 : decode cX11_putsKey 263 = .ok (.iload 4, 2) := by decide +kernel
theorem dX11_putsKey_265 : decode cX11_putsKey 265 = .ok (.ireturn, 1) := by decide +kernel
