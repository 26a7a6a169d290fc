theorem dX4_work_0 : decode cX4_work 0 = .ok (.iconst 0, 1) := by decide +kernel
theorem dX4_work_1 : decode cX4_work 1 = .ok (.istore_n 3, 1) := by decide +kernel
theorem dX4_work_2 : decode cX4_work 2 = .ok (.iconst 0, 1) := by decide +kernel
theorem dX4_work_3 : decode cX4_work 3 = .ok (.istore 4, 2) := by decide +kernel
theorem dX4_work_5 : decode cX4_work 5 = .ok (.iload 4, 2) := by decide +kernel
theorem dX4_work_7 : decode cX4_work 7 = .ok (.ldc 38, 2) := by decide +kernel
theorem dX4_work_9 : decode cX4_work 9 = .ok (.if_icmp .ge 260, 3) := by decide +kernel
theorem dX4_work_12 : decode cX4_work 12 = .ok (.iload_n 3, 1) := by decide +kernel
theorem dX4_work_13 : decode cX4_work 13 = .ok (.ifCond .lt 256, 3) := by decide +kernel
theorem dX4_work_16 : decode cX4_work 16 = .ok (.iload_n 3, 1) := by decide +kernel
theorem dX4_work_17 : decode cX4_work 17 = .ok (.aload_n 1, 1) := by decide +kernel
theorem dX4_work_18 : decode cX4_work 18 = .ok (.getfield 39, 3) := by decide +kernel
theorem dX4_work_21 : decode cX4_work 21 = .ok (.if_icmp .ge 248, 3) := by decide +kernel
theorem dX4_work_24 : decode cX4_work 24 = .ok (.aload_n 0, 1) := by decide +kernel
theorem dX4_work_25 : decode cX4_work 25 = .ok (.getfield 28, 3) := by decide +kernel
theorem dX4_work_28 : decode cX4_work 28 = .ok (.ifCond .ne 241, 3) := by decide +kernel
theorem dX4_work_31 : decode cX4_work 31 = .ok (.aload_n 1, 1) := by decide +kernel
theorem dX4_work_32 : decode cX4_work 32 = .ok (.getfield 44, 3) := by decide +kernel
theorem dX4_work_35 : decode cX4_work 35 = .ok (.iload_n 3, 1) := by decide +kernel
theorem dX4_work_36 : decode cX4_work 36 = .ok (.iaload, 1) := by decide +kernel
theorem dX4_work_37 : decode cX4_work 37 = .ok (.lookupswitch 213 #[(2, 91), (3, 196), (5, 196), (6, 196), (7, 196), (8, 176), (9, 153), (10, 107), (11, 139), (93, 186)], 91) := by decide +kernel
theorem dX4_work_128 : decode cX4_work 128 = .ok (.aload_n 0, 1) := by decide +kernel
theorem dX4_work_129 : decode cX4_work 129 = .ok (.aload_n 1, 1) := by decide +kernel
theorem dX4_work_130 : decode cX4_work 130 = .ok (.getfield 47, 3) := by decide +kernel
theorem dX4_work_133 : decode cX4_work 133 = .ok (.iload_n 3, 1) := by decide +kernel
theorem dX4_work_134 : decode cX4_work 134 = .ok (.iaload, 1) := by decide +kernel
theorem dX4_work_135 : decode cX4_work 135 = .ok (.invokevirtual 50, 3) := by decide +kernel
theorem dX4_work_138 : decode cX4_work 138 = .ok (.iinc 3 1, 3) := by decide +kernel
theorem dX4_work_141 : decode cX4_work 141 = .ok (.goto 122, 3) := by decide +kernel
theorem dX4_work_144 : decode cX4_work 144 = .ok (.aload_n 0, 1) := by decide +kernel
theorem dX4_work_145 : decode cX4_work 145 = .ok (.aload_n 0, 1) := by decide +kernel
theorem dX4_work_146 : decode cX4_work 146 = .ok (.getfield 32, 3) := by decide +kernel
theorem dX4_work_149 : decode cX4_work 149 = .ok (.ifCond .le 17, 3) := by decide +kernel
theorem dX4_work_152 : decode cX4_work 152 = .ok (.aload_n 0, 1) := by decide +kernel
theorem dX4_work_153 : decode cX4_work 153 = .ok (.getfield 9, 3) := by decide +kernel
theorem dX4_work_156 : decode cX4_work 156 = .ok (.aload_n 0, 1) := by decide +kernel
theorem dX4_work_157 : decode cX4_work 157 = .ok (.getfield 32, 3) := by decide +kernel
theorem dX4_work_160 : decode cX4_work 160 = .ok (.iconst 1, 1) := by decide +kernel
theorem dX4_work_161 : decode cX4_work 161 = .ok (.isub, 1) := by decide +kernel
theorem dX4_work_162 : decode cX4_work 162 = .ok (.iaload, 1) := by decide +kernel
theorem dX4_work_163 : decode cX4_work 163 = .ok (.goto 4, 3) := by decide +kernel
theorem dX4_work_166 : decode cX4_work 166 = .ok (.iconst 0, 1) := by decide +kernel
theorem dX4_work_167 : decode cX4_work 167 = .ok (.invokevirtual 50, 3) := by decide +kernel
theorem dX4_work_170 : decode cX4_work 170 = .ok (.iinc 3 1, 3) := by decide +kernel
theorem dX4_work_173 : decode cX4_work 173 = .ok (.goto 90, 3) := by decide +kernel
theorem dX4_work_176 : decode cX4_work 176 = .ok (.aload_n 0, 1) := by decide +kernel
theorem dX4_work_177 : decode cX4_work 177 = .ok (.aload_n 0, 1) := by decide +kernel
theorem dX4_work_178 : decode cX4_work 178 = .ok (.getfield 25, 3) := by decide +kernel
theorem dX4_work_181 : decode cX4_work 181 = .ok (.invokevirtual 50, 3) := by decide +kernel
theorem dX4_work_184 : decode cX4_work 184 = .ok (.iinc 3 1, 3) := by decide +kernel
theorem dX4_work_187 : decode cX4_work 187 = .ok (.goto 76, 3) := by decide +kernel
theorem dX4_work_190 : decode cX4_work 190 = .ok (.aload_n 0, 1) := by decide +kernel
theorem dX4_work_191 : decode cX4_work 191 = .ok (.invokevirtual 54, 3) := by decide +kernel
theorem dX4_work_194 : decode cX4_work 194 = .ok (.ifCond .le 9, 3) := by decide +kernel
theorem dX4_work_197 : decode cX4_work 197 = .ok (.iload_n 3, 1) := by decide +kernel
theorem dX4_work_198 : decode cX4_work 198 = .ok (.iconst 1, 1) := by decide +kernel
theorem dX4_work_199 : decode cX4_work 199 = .ok (.iadd, 1) := by decide +kernel
theorem dX4_work_200 : decode cX4_work 200 = .ok (.goto 9, 3) := by decide +kernel
theorem dX4_work_203 : decode cX4_work 203 = .ok (.aload_n 1, 1) := by decide +kernel
theorem dX4_work_204 : decode cX4_work 204 = .ok (.getfield 58, 3) := by decide +kernel
theorem dX4_work_207 : decode cX4_work 207 = .ok (.iload_n 3, 1) := by decide +kernel
theorem dX4_work_208 : decode cX4_work 208 = .ok (.iaload, 1) := by decide +kernel
theorem dX4_work_209 : decode cX4_work 209 = .ok (.istore_n 3, 1) := by decide +kernel
theorem dX4_work_210 : decode cX4_work 210 = .ok (.goto 53, 3) := by decide +kernel
theorem dX4_work_213 : decode cX4_work 213 = .ok (.aload_n 0, 1) := by decide +kernel
theorem dX4_work_214 : decode cX4_work 214 = .ok (.aload_n 1, 1) := by decide +kernel
theorem dX4_work_215 : decode cX4_work 215 = .ok (.iload_n 3, 1) := by decide +kernel
theorem dX4_work_216 : decode cX4_work 216 = .ok (.invokevirtual 61, 3) := by decide +kernel
theorem dX4_work_219 : decode cX4_work 219 = .ok (.istore_n 3, 1) := by decide +kernel
theorem dX4_work_220 : decode cX4_work 220 = .ok (.goto 43, 3) := by decide +kernel
theorem dX4_work_223 : decode cX4_work 223 = .ok (.aload_n 0, 1) := by decide +kernel
theorem dX4_work_224 : decode cX4_work 224 = .ok (.aload_n 1, 1) := by decide +kernel
theorem dX4_work_225 : decode cX4_work 225 = .ok (.iload_n 3, 1) := by decide +kernel
theorem dX4_work_226 : decode cX4_work 226 = .ok (.invokevirtual 65, 3) := by decide +kernel
theorem dX4_work_229 : decode cX4_work 229 = .ok (.istore_n 3, 1) := by decide +kernel
theorem dX4_work_230 : decode cX4_work 230 = .ok (.goto 33, 3) := by decide +kernel
theorem dX4_work_233 : decode cX4_work 233 = .ok (.aload_n 0, 1) := by decide +kernel
theorem dX4_work_234 : decode cX4_work 234 = .ok (.aload_n 1, 1) := by decide +kernel
theorem dX4_work_235 : decode cX4_work 235 = .ok (.getfield 44, 3) := by decide +kernel
theorem dX4_work_238 : decode cX4_work 238 = .ok (.iload_n 3, 1) := by decide +kernel
theorem dX4_work_239 : decode cX4_work 239 = .ok (.iaload, 1) := by decide +kernel
theorem dX4_work_240 : decode cX4_work 240 = .ok (.aload_n 2, 1) := by decide +kernel
theorem dX4_work_241 : decode cX4_work 241 = .ok (.invokevirtual 68, 3) := by decide +kernel
theorem dX4_work_244 : decode cX4_work 244 = .ok (.iinc 3 1, 3) := by decide +kernel
theorem dX4_work_247 : decode cX4_work 247 = .ok (.goto 16, 3) := by decide +kernel
theorem dX4_work_250 : decode cX4_work 250 = .ok (.aload_n 0, 1) := by decide +kernel
theorem dX4_work_251 : decode cX4_work 251 = .ok (.aload_n 1, 1) := by decide +kernel
theorem dX4_work_252 : decode cX4_work 252 = .ok (.getfield 44, 3) := by decide +kernel
theorem dX4_work_255 : decode cX4_work 255 = .ok (.iload_n 3, 1) := by decide +kernel
theorem dX4_work_256 : decode cX4_work 256 = .ok (.iaload, 1) := by decide +kernel
theorem dX4_work_257 : decode cX4_work 257 = .ok (.invokevirtual 72, 3) := by decide +kernel
theorem dX4_work_260 : decode cX4_work 260 = .ok (.iinc 3 1, 3) := by decide +kernel
theorem dX4_work_263 : decode cX4_work 263 = .ok (.iinc 4 1, 3) := by decide +kernel
theorem dX4_work_266 : decode cX4_work 266 = .ok (.goto (-261), 3) := by decide +kernel
theorem dX4_work_269 : decode cX4_work 269 = .ok (.return_, 1) := by decide +kernel
