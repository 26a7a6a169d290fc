theorem dX11_does_0 : decode cX11_does 0 = .ok (.aload_n 0, 1) := by decide +kernel
theorem dX11_does_1 : decode cX11_does 1 = .ok (.dup, 1) := by decide +kernel
theorem dX11_does_2 : decode cX11_does 2 = .ok (.getfield 388, 3) := by decide +kernel
theorem dX11_does_5 : decode cX11_does 5 = .ok (.iconst 1, 1) := by decide +kernel
theorem dX11_does_6 : decode cX11_does 6 = .ok (.isub, 1) := by decide +kernel
theorem dX11_does_7 : decode cX11_does 7 = .ok (.putfield 388, 3) := by decide +kernel
theorem dX11_does_10 : decode cX11_does 10 = .ok (.aload_n 0, 1) := by decide +kernel
theorem dX11_does_11 : decode cX11_does 11 = .ok (.getfield 61, 3) := by decide +kernel
theorem dX11_does_14 : decode cX11_does 14 = .ok (.aload_n 0, 1) := by decide +kernel
theorem dX11_does_15 : decode cX11_does 15 = .ok (.getfield 388, 3) := by decide +kernel
theorem dX11_does_18 : decode cX11_does 18 = .ok (.iaload, 1) := by decide +kernel
theorem dX11_does_19 : decode cX11_does 19 = .ok (.istore_n 3, 1) := by decide +kernel
theorem dX11_does_20 : decode cX11_does 20 = .ok (.iload_n 3, 1) := by decide +kernel
theorem dX11_does_21 : decode cX11_does 21 = .ok (.istore 4, 2) := by decide +kernel
theorem dX11_does_23 : decode cX11_does 23 = .ok (.iload_n 2, 1) := by decide +kernel
theorem dX11_does_24 : decode cX11_does 24 = .ok (.ifCond .ne 24, 3) := by decide +kernel
theorem dX11_does_27 : decode cX11_does 27 = .ok (.aload_n 0, 1) := by decide +kernel
theorem dX11_does_28 : decode cX11_does 28 = .ok (.dup, 1) := by decide +kernel
theorem dX11_does_29 : decode cX11_does 29 = .ok (.getfield 388, 3) := by decide +kernel
theorem dX11_does_32 : decode cX11_does 32 = .ok (.iconst 1, 1) := by decide +kernel
theorem dX11_does_33 : decode cX11_does 33 = .ok (.isub, 1) := by decide +kernel
theorem dX11_does_34 : decode cX11_does 34 = .ok (.putfield 388, 3) := by decide +kernel
theorem dX11_does_37 : decode cX11_does 37 = .ok (.aload_n 0, 1) := by decide +kernel
theorem dX11_does_38 : decode cX11_does 38 = .ok (.getfield 61, 3) := by decide +kernel
theorem dX11_does_41 : decode cX11_does 41 = .ok (.aload_n 0, 1) := by decide +kernel
theorem dX11_does_42 : decode cX11_does 42 = .ok (.getfield 388, 3) := by decide +kernel
theorem dX11_does_45 : decode cX11_does 45 = .ok (.iaload, 1) := by decide +kernel
theorem dX11_does_46 : decode cX11_does 46 = .ok (.istore 4, 2) := by decide +kernel
theorem dX11_does_48 : decode cX11_does 48 = .ok (.iload_n 2, 1) := by decide +kernel
theorem dX11_does_49 : decode cX11_does 49 = .ok (.iconst 3, 1) := by decide +kernel
theorem dX11_does_50 : decode cX11_does 50 = .ok (.if_icmp .ne 11, 3) := by decide +kernel
theorem dX11_does_53 : decode cX11_does 53 = .ok (.aload_n 0, 1) := by decide +kernel
theorem dX11_does_54 : decode cX11_does 54 = .ok (.iload_n 3, 1) := by decide +kernel
theorem dX11_does_55 : decode cX11_does 55 = .ok (.putfield 394, 3) := by decide +kernel
theorem dX11_does_58 : decode cX11_does 58 = .ok (.goto 165, 3) := by decide +kernel
theorem dX11_does_61 : decode cX11_does 61 = .ok (.iload 4, 2) := by decide +kernel
theorem dX11_does_63 : decode cX11_does 63 = .ok (.invokestatic 226, 3) := by decide +kernel
theorem dX11_does_66 : decode cX11_does 66 = .ok (.ifCond .ne 26, 3) := by decide +kernel
theorem dX11_does_69 : decode cX11_does 69 = .ok (.aload_n 0, 1) := by decide +kernel
theorem dX11_does_70 : decode cX11_does 70 = .ok (.dup, 1) := by decide +kernel
theorem dX11_does_71 : decode cX11_does 71 = .ok (.getfield 407, 3) := by decide +kernel
theorem dX11_does_74 : decode cX11_does 74 = .ok (.iconst 1, 1) := by decide +kernel
theorem dX11_does_75 : decode cX11_does 75 = .ok (.iadd, 1) := by decide +kernel
theorem dX11_does_76 : decode cX11_does 76 = .ok (.putfield 407, 3) := by decide +kernel
theorem dX11_does_79 : decode cX11_does 79 = .ok (.iload_n 2, 1) := by decide +kernel
theorem dX11_does_80 : decode cX11_does 80 = .ok (.iconst 2, 1) := by decide +kernel
theorem dX11_does_81 : decode cX11_does 81 = .ok (.if_icmp .ne 142, 3) := by decide +kernel
theorem dX11_does_84 : decode cX11_does 84 = .ok (.aload_n 0, 1) := by decide +kernel
theorem dX11_does_85 : decode cX11_does 85 = .ok (.iconst (-1), 1) := by decide +kernel
theorem dX11_does_86 : decode cX11_does 86 = .ok (.putfield 394, 3) := by decide +kernel
theorem dX11_does_89 : decode cX11_does 89 = .ok (.goto 134, 3) := by decide +kernel
theorem dX11_does_92 : decode cX11_does 92 = .ok (.iload_n 2, 1) := by decide +kernel
theorem dX11_does_93 : decode cX11_does 93 = .ok (.iconst 2, 1) := by decide +kernel
theorem dX11_does_94 : decode cX11_does 94 = .ok (.if_icmp .ne 38, 3) := by decide +kernel
theorem dX11_does_97 : decode cX11_does 97 = .ok (.aload_n 0, 1) := by decide +kernel
theorem dX11_does_98 : decode cX11_does 98 = .ok (.iload_n 1, 1) := by decide +kernel
theorem dX11_does_99 : decode cX11_does 99 = .ok (.iload 4, 2) := by decide +kernel
theorem dX11_does_101 : decode cX11_does 101 = .ok (.invokevirtual 215, 3) := by decide +kernel
theorem dX11_does_104 : decode cX11_does 104 = .ok (.aload_n 0, 1) := by decide +kernel
theorem dX11_does_105 : decode cX11_does 105 = .ok (.aload_n 0, 1) := by decide +kernel
theorem dX11_does_106 : decode cX11_does 106 = .ok (.iload_n 1, 1) := by decide +kernel
theorem dX11_does_107 : decode cX11_does 107 = .ok (.iload 4, 2) := by decide +kernel
theorem dX11_does_109 : decode cX11_does 109 = .ok (.invokevirtual 202, 3) := by decide +kernel
theorem dX11_does_112 : decode cX11_does 112 = .ok (.ifCond .eq 13, 3) := by decide +kernel
theorem dX11_does_115 : decode cX11_does 115 = .ok (.aload_n 0, 1) := by decide +kernel
theorem dX11_does_116 : decode cX11_does 116 = .ok (.iload_n 1, 1) := by decide +kernel
theorem dX11_does_117 : decode cX11_does 117 = .ok (.iload 4, 2) := by decide +kernel
theorem dX11_does_119 : decode cX11_does 119 = .ok (.invokevirtual 277, 3) := by decide +kernel
theorem dX11_does_122 : decode cX11_does 122 = .ok (.goto 4, 3) := by decide +kernel
theorem dX11_does_125 : decode cX11_does 125 = .ok (.iconst (-1), 1) := by decide +kernel
theorem dX11_does_126 : decode cX11_does 126 = .ok (.putfield 394, 3) := by decide +kernel
theorem dX11_does_129 : decode cX11_does 129 = .ok (.goto 94, 3) := by decide +kernel
theorem dX11_does_132 : decode cX11_does 132 = .ok (.iload_n 2, 1) := by decide +kernel
theorem dX11_does_133 : decode cX11_does 133 = .ok (.iconst 1, 1) := by decide +kernel
theorem dX11_does_134 : decode cX11_does 134 = .ok (.if_icmp .ne 34, 3) := by decide +kernel
theorem dX11_does_137 : decode cX11_does 137 = .ok (.aload_n 0, 1) := by decide +kernel
theorem dX11_does_138 : decode cX11_does 138 = .ok (.dup, 1) := by decide +kernel
theorem dX11_does_139 : decode cX11_does 139 = .ok (.getfield 407, 3) := by decide +kernel
theorem dX11_does_142 : decode cX11_does 142 = .ok (.aload_n 0, 1) := by decide +kernel
theorem dX11_does_143 : decode cX11_does 143 = .ok (.iload_n 1, 1) := by decide +kernel
theorem dX11_does_144 : decode cX11_does 144 = .ok (.iload 4, 2) := by decide +kernel
theorem dX11_does_146 : decode cX11_does 146 = .ok (.invokevirtual 239, 3) := by decide +kernel
theorem dX11_does_149 : decode cX11_does 149 = .ok (.iconst (-1), 1) := by decide +kernel
theorem dX11_does_150 : decode cX11_does 150 = .ok (.if_icmp .ne 7, 3) := by decide +kernel
theorem dX11_does_153 : decode cX11_does 153 = .ok (.iconst 1, 1) := by decide +kernel
theorem dX11_does_154 : decode cX11_does 154 = .ok (.goto 4, 3) := by decide +kernel
theorem dX11_does_157 : decode cX11_does 157 = .ok (.iconst 0, 1) := by decide +kernel
theorem dX11_does_158 : decode cX11_does 158 = .ok (.invokestatic 198, 3) := by decide +kernel
theorem dX11_does_161 : decode cX11_does 161 = .ok (.iadd, 1) := by decide +kernel
theorem dX11_does_162 : decode cX11_does 162 = .ok (.putfield 407, 3) := by decide +kernel
theorem dX11_does_165 : decode cX11_does 165 = .ok (.goto 58, 3) := by decide +kernel
theorem dX11_does_168 : decode cX11_does 168 = .ok (.aload_n 0, 1) := by decide +kernel
theorem dX11_does_169 : decode cX11_does 169 = .ok (.iload_n 1, 1) := by decide +kernel
theorem dX11_does_170 : decode cX11_does 170 = .ok (.iload 4, 2) := by decide +kernel
theorem dX11_does_172 : decode cX11_does 172 = .ok (.invokevirtual 229, 3) := by decide +kernel
theorem dX11_does_175 : decode cX11_does 175 = .ok (.ifCond .eq 16, 3) := by decide +kernel
theorem dX11_does_178 : decode cX11_does 178 = .ok (.aload_n 0, 1) := by decide +kernel
theorem dX11_does_179 : decode cX11_does 179 = .ok (.dup, 1) := by decide +kernel
theorem dX11_does_180 : decode cX11_does 180 = .ok (.getfield 407, 3) := by decide +kernel
theorem dX11_does_183 : decode cX11_does 183 = .ok (.iconst 1, 1) := by decide +kernel
theorem dX11_does_184 : decode cX11_does 184 = .ok (.iadd, 1) := by decide +kernel
theorem dX11_does_185 : decode cX11_does 185 = .ok (.putfield 407, 3) := by decide +kernel
theorem dX11_does_188 : decode cX11_does 188 = .ok (.goto 35, 3) := by decide +kernel
theorem dX11_does_191 : decode cX11_does 191 = .ok (.aload_n 0, 1) := by decide +kernel
theorem dX11_does_192 : decode cX11_does 192 = .ok (.iload_n 1, 1) := by decide +kernel
theorem dX11_does_193 : decode cX11_does 193 = .ok (.iload 4, 2) := by decide +kernel
theorem dX11_does_195 : decode cX11_does 195 = .ok (.iload_n 3, 1) := by decide +kernel
theorem dX11_does_196 : decode cX11_does 196 = .ok (.invokevirtual 232, 3) := by decide +kernel
theorem dX11_does_199 : decode cX11_does 199 = .ok (.istore 5, 2) := by decide +kernel
theorem dX11_does_201 : decode cX11_does 201 = .ok (.aload_n 0, 1) := by decide +kernel
theorem dX11_does_202 : decode cX11_does 202 = .ok (.dup, 1) := by decide +kernel
theorem dX11_does_203 : decode cX11_does 203 = .ok (.getfield 407, 3) := by decide +kernel
theorem dX11_does_206 : decode cX11_does 206 = .ok (.iload 5, 2) := by decide +kernel
theorem dX11_does_208 : decode cX11_does 208 = .ok (.ifCond .ge 7, 3) := by decide +kernel
theorem dX11_does_211 : decode cX11_does 211 = .ok (.iconst 1, 1) := by decide +kernel
theorem dX11_does_212 : decode cX11_does 212 = .ok (.goto 4, 3) := by decide +kernel
theorem dX11_does_215 : decode cX11_does 215 = .ok (.iconst 0, 1) := by decide +kernel
theorem dX11_does_216 : decode cX11_does 216 = .ok (.invokestatic 198, 3) := by decide +kernel
theorem dX11_does_219 : decode cX11_does 219 = .ok (.iadd, 1) := by decide +kernel
theorem dX11_does_220 : decode cX11_does 220 = .ok (.putfield 407, 3) := by decide +kernel
theorem dX11_does_223 : decode cX11_does 223 = .ok (.return_, 1) := by decide +kernel
