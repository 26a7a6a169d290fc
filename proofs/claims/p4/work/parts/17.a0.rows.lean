theorem dX11_buildsAll_0 : decode cX11_buildsAll 0 = .ok (.aload_n 0, 1) := by decide +kernel
theorem dX11_buildsAll_1 : decode cX11_buildsAll 1 = .ok (.iload_n 1, 1) := by decide +kernel
theorem dX11_buildsAll_2 : decode cX11_buildsAll 2 = .ok (.invokevirtual 95, 3) := by decide +kernel
theorem dX11_buildsAll_5 : decode cX11_buildsAll 5 = .ok (.istore_n 2, 1) := by decide +kernel
theorem dX11_buildsAll_6 : decode cX11_buildsAll 6 = .ok (.aload_n 0, 1) := by decide +kernel
theorem dX11_buildsAll_7 : decode cX11_buildsAll 7 = .ok (.iload_n 1, 1) := by decide +kernel
theorem dX11_buildsAll_8 : decode cX11_buildsAll 8 = .ok (.iconst 2, 1) := by decide +kernel
theorem dX11_buildsAll_9 : decode cX11_buildsAll 9 = .ok (.iload_n 2, 1) := by decide +kernel
theorem dX11_buildsAll_10 : decode cX11_buildsAll 10 = .ok (.i2l, 1) := by decide +kernel
theorem dX11_buildsAll_11 : decode cX11_buildsAll 11 = .ok (.aload_n 0, 1) := by decide +kernel
theorem dX11_buildsAll_12 : decode cX11_buildsAll 12 = .ok (.iload_n 1, 1) := by decide +kernel
theorem dX11_buildsAll_13 : decode cX11_buildsAll 13 = .ok (.bipush 16, 2) := by decide +kernel
theorem dX11_buildsAll_15 : decode cX11_buildsAll 15 = .ok (.invokevirtual 89, 3) := by decide +kernel
theorem dX11_buildsAll_18 : decode cX11_buildsAll 18 = .ok (.iload_n 2, 1) := by decide +kernel
theorem dX11_buildsAll_19 : decode cX11_buildsAll 19 = .ok (.i2l, 1) := by decide +kernel
theorem dX11_buildsAll_20 : decode cX11_buildsAll 20 = .ok (.lmul, 1) := by decide +kernel
theorem dX11_buildsAll_21 : decode cX11_buildsAll 21 = .ok (.ldc2_w 158, 3) := by decide +kernel
theorem dX11_buildsAll_24 : decode cX11_buildsAll 24 = .ok (.ldiv, 1) := by decide +kernel
theorem dX11_buildsAll_25 : decode cX11_buildsAll 25 = .ok (.ladd, 1) := by decide +kernel
theorem dX11_buildsAll_26 : decode cX11_buildsAll 26 = .ok (.ldc2_w 160, 3) := by decide +kernel
theorem dX11_buildsAll_29 : decode cX11_buildsAll 29 = .ok (.ladd, 1) := by decide +kernel
theorem dX11_buildsAll_30 : decode cX11_buildsAll 30 = .ok (.invokevirtual 126, 3) := by decide +kernel
theorem dX11_buildsAll_33 : decode cX11_buildsAll 33 = .ok (.aload_n 0, 1) := by decide +kernel
theorem dX11_buildsAll_34 : decode cX11_buildsAll 34 = .ok (.iload_n 1, 1) := by decide +kernel
theorem dX11_buildsAll_35 : decode cX11_buildsAll 35 = .ok (.iconst 3, 1) := by decide +kernel
theorem dX11_buildsAll_36 : decode cX11_buildsAll 36 = .ok (.iload_n 2, 1) := by decide +kernel
theorem dX11_buildsAll_37 : decode cX11_buildsAll 37 = .ok (.i2l, 1) := by decide +kernel
theorem dX11_buildsAll_38 : decode cX11_buildsAll 38 = .ok (.invokevirtual 126, 3) := by decide +kernel
theorem dX11_buildsAll_41 : decode cX11_buildsAll 41 = .ok (.aload_n 0, 1) := by decide +kernel
theorem dX11_buildsAll_42 : decode cX11_buildsAll 42 = .ok (.iload_n 1, 1) := by decide +kernel
theorem dX11_buildsAll_43 : decode cX11_buildsAll 43 = .ok (.bipush 15, 2) := by decide +kernel
theorem dX11_buildsAll_45 : decode cX11_buildsAll 45 = .ok (.invokevirtual 89, 3) := by decide +kernel
theorem dX11_buildsAll_48 : decode cX11_buildsAll 48 = .ok (.aload_n 0, 1) := by decide +kernel
theorem dX11_buildsAll_49 : decode cX11_buildsAll 49 = .ok (.iload_n 1, 1) := by decide +kernel
theorem dX11_buildsAll_50 : decode cX11_buildsAll 50 = .ok (.iconst 2, 1) := by decide +kernel
theorem dX11_buildsAll_51 : decode cX11_buildsAll 51 = .ok (.invokevirtual 89, 3) := by decide +kernel
theorem dX11_buildsAll_54 : decode cX11_buildsAll 54 = .ok (.lmul, 1) := by decide +kernel
theorem dX11_buildsAll_55 : decode cX11_buildsAll 55 = .ok (.ldc2_w 158, 3) := by decide +kernel
theorem dX11_buildsAll_58 : decode cX11_buildsAll 58 = .ok (.ldiv, 1) := by decide +kernel
theorem dX11_buildsAll_59 : decode cX11_buildsAll 59 = .ok (.lstore_n 3, 1) := by decide +kernel
theorem dX11_buildsAll_60 : decode cX11_buildsAll 60 = .ok (.aload_n 0, 1) := by decide +kernel
theorem dX11_buildsAll_61 : decode cX11_buildsAll 61 = .ok (.iload_n 1, 1) := by decide +kernel
theorem dX11_buildsAll_62 : decode cX11_buildsAll 62 = .ok (.iconst 4, 1) := by decide +kernel
theorem dX11_buildsAll_63 : decode cX11_buildsAll 63 = .ok (.lload_n 3, 1) := by decide +kernel
theorem dX11_buildsAll_64 : decode cX11_buildsAll 64 = .ok (.lconst 1, 1) := by decide +kernel
theorem dX11_buildsAll_65 : decode cX11_buildsAll 65 = .ok (.lcmp, 1) := by decide +kernel
theorem dX11_buildsAll_66 : decode cX11_buildsAll 66 = .ok (.ifCond .ge 7, 3) := by decide +kernel
theorem dX11_buildsAll_73 : decode cX11_buildsAll 73 = .ok (.lload_n 3, 1) := by decide +kernel
theorem dX11_buildsAll_74 : decode cX11_buildsAll 74 = .ok (.invokevirtual 126, 3) := by decide +kernel
theorem dX11_buildsAll_77 : decode cX11_buildsAll 77 = .ok (.aload_n 0, 1) := by decide +kernel
theorem dX11_buildsAll_78 : decode cX11_buildsAll 78 = .ok (.iload_n 1, 1) := by decide +kernel
theorem dX11_buildsAll_79 : decode cX11_buildsAll 79 = .ok (.invokevirtual 162, 3) := by decide +kernel
theorem dX11_buildsAll_82 : decode cX11_buildsAll 82 = .ok (.aload_n 0, 1) := by decide +kernel
theorem dX11_buildsAll_83 : decode cX11_buildsAll 83 = .ok (.invokevirtual 141, 3) := by decide +kernel
theorem dX11_buildsAll_86 : decode cX11_buildsAll 86 = .ok (.aload_n 0, 1) := by decide +kernel
theorem dX11_buildsAll_87 : decode cX11_buildsAll 87 = .ok (.iload_n 1, 1) := by decide +kernel
theorem dX11_buildsAll_88 : decode cX11_buildsAll 88 = .ok (.aload_n 0, 1) := by decide +kernel
theorem dX11_buildsAll_89 : decode cX11_buildsAll 89 = .ok (.getfield 117, 3) := by decide +kernel
theorem dX11_buildsAll_92 : decode cX11_buildsAll 92 = .ok (.aload_n 0, 1) := by decide +kernel
theorem dX11_buildsAll_93 : decode cX11_buildsAll 93 = .ok (.getfield 120, 3) := by decide +kernel
theorem dX11_buildsAll_96 : decode cX11_buildsAll 96 = .ok (.iconst 2, 1) := by decide +kernel
theorem dX11_buildsAll_97 : decode cX11_buildsAll 97 = .ok (.invokevirtual 165, 3) := by decide +kernel
theorem dX11_buildsAll_100 : decode cX11_buildsAll 100 = .ok (.aload_n 0, 1) := by decide +kernel
theorem dX11_buildsAll_101 : decode cX11_buildsAll 101 = .ok (.iload_n 1, 1) := by decide +kernel
theorem dX11_buildsAll_102 : decode cX11_buildsAll 102 = .ok (.bipush 14, 2) := by decide +kernel
theorem dX11_buildsAll_104 : decode cX11_buildsAll 104 = .ok (.invokevirtual 89, 3) := by decide +kernel
theorem dX11_buildsAll_107 : decode cX11_buildsAll 107 = .ok (.aload_n 0, 1) := by decide +kernel
theorem dX11_buildsAll_108 : decode cX11_buildsAll 108 = .ok (.iload_n 1, 1) := by decide +kernel
theorem dX11_buildsAll_109 : decode cX11_buildsAll 109 = .ok (.iconst 2, 1) := by decide +kernel
theorem dX11_buildsAll_110 : decode cX11_buildsAll 110 = .ok (.invokevirtual 89, 3) := by decide +kernel
theorem dX11_buildsAll_113 : decode cX11_buildsAll 113 = .ok (.lmul, 1) := by decide +kernel
theorem dX11_buildsAll_114 : decode cX11_buildsAll 114 = .ok (.lcmp, 1) := by decide +kernel
theorem dX11_buildsAll_115 : decode cX11_buildsAll 115 = .ok (.ifCond .le 63, 3) := by decide +kernel
theorem dX11_buildsAll_118 : decode cX11_buildsAll 118 = .ok (.aload_n 0, 1) := by decide +kernel
theorem dX11_buildsAll_119 : decode cX11_buildsAll 119 = .ok (.getfield 123, 3) := by decide +kernel
theorem dX11_buildsAll_122 : decode cX11_buildsAll 122 = .ok (.sipush 400, 3) := by decide +kernel
theorem dX11_buildsAll_125 : decode cX11_buildsAll 125 = .ok (.if_icmp .ge 53, 3) := by decide +kernel
theorem dX11_buildsAll_128 : decode cX11_buildsAll 128 = .ok (.aload_n 0, 1) := by decide +kernel
theorem dX11_buildsAll_129 : decode cX11_buildsAll 129 = .ok (.getfield 123, 3) := by decide +kernel
theorem dX11_buildsAll_132 : decode cX11_buildsAll 132 = .ok (.bipush 20, 2) := by decide +kernel
theorem dX11_buildsAll_134 : decode cX11_buildsAll 134 = .ok (.irem, 1) := by decide +kernel
theorem dX11_buildsAll_135 : decode cX11_buildsAll 135 = .ok (.ifCond .ne 36, 3) := by decide +kernel
theorem dX11_buildsAll_138 : decode cX11_buildsAll 138 = .ok (.aload_n 0, 1) := by decide +kernel
theorem dX11_buildsAll_139 : decode cX11_buildsAll 139 = .ok (.iload_n 1, 1) := by decide +kernel
theorem dX11_buildsAll_140 : decode cX11_buildsAll 140 = .ok (.iconst 4, 1) := by decide +kernel
theorem dX11_buildsAll_141 : decode cX11_buildsAll 141 = .ok (.iconst 2, 1) := by decide +kernel
theorem dX11_buildsAll_142 : decode cX11_buildsAll 142 = .ok (.aload_n 0, 1) := by decide +kernel
theorem dX11_buildsAll_143 : decode cX11_buildsAll 143 = .ok (.iload_n 1, 1) := by decide +kernel
theorem dX11_buildsAll_144 : decode cX11_buildsAll 144 = .ok (.invokevirtual 152, 3) := by decide +kernel
theorem dX11_buildsAll_147 : decode cX11_buildsAll 147 = .ok (.imul, 1) := by decide +kernel
theorem dX11_buildsAll_148 : decode cX11_buildsAll 148 = .ok (.sipush 2048, 3) := by decide +kernel
theorem dX11_buildsAll_151 : decode cX11_buildsAll 151 = .ok (.if_icmp .le 9, 3) := by decide +kernel
theorem dX11_buildsAll_154 : decode cX11_buildsAll 154 = .ok (.ldc2_w 169, 3) := by decide +kernel
theorem dX11_buildsAll_157 : decode cX11_buildsAll 157 = .ok (.goto 11, 3) := by decide +kernel
theorem dX11_buildsAll_160 : decode cX11_buildsAll 160 = .ok (.iconst 2, 1) := by decide +kernel
theorem dX11_buildsAll_161 : decode cX11_buildsAll 161 = .ok (.aload_n 0, 1) := by decide +kernel
theorem dX11_buildsAll_162 : decode cX11_buildsAll 162 = .ok (.iload_n 1, 1) := by decide +kernel
theorem dX11_buildsAll_163 : decode cX11_buildsAll 163 = .ok (.invokevirtual 152, 3) := by decide +kernel
theorem dX11_buildsAll_166 : decode cX11_buildsAll 166 = .ok (.imul, 1) := by decide +kernel
theorem dX11_buildsAll_167 : decode cX11_buildsAll 167 = .ok (.i2l, 1) := by decide +kernel
theorem dX11_buildsAll_168 : decode cX11_buildsAll 168 = .ok (.invokevirtual 126, 3) := by decide +kernel
theorem dX11_buildsAll_171 : decode cX11_buildsAll 171 = .ok (.aload_n 0, 1) := by decide +kernel
theorem dX11_buildsAll_172 : decode cX11_buildsAll 172 = .ok (.invokevirtual 141, 3) := by decide +kernel
theorem dX11_buildsAll_175 : decode cX11_buildsAll 175 = .ok (.goto (-89), 3) := by decide +kernel
theorem dX11_buildsAll_178 : decode cX11_buildsAll 178 = .ok (.iconst 0, 1) := by decide +kernel
theorem dX11_buildsAll_179 : decode cX11_buildsAll 179 = .ok (.istore 5, 2) := by decide +kernel
theorem dX11_buildsAll_181 : decode cX11_buildsAll 181 = .ok (.iload 5, 2) := by decide +kernel
theorem dX11_buildsAll_183 : decode cX11_buildsAll 183 = .ok (.aload_n 0, 1) := by decide +kernel
theorem dX11_buildsAll_184 : decode cX11_buildsAll 184 = .ok (.iload_n 1, 1) := by decide +kernel
theorem dX11_buildsAll_185 : decode cX11_buildsAll 185 = .ok (.invokevirtual 152, 3) := by decide +kernel
theorem dX11_buildsAll_188 : decode cX11_buildsAll 188 = .ok (.if_icmp .ge 16, 3) := by decide +kernel
theorem dX11_buildsAll_191 : decode cX11_buildsAll 191 = .ok (.aload_n 0, 1) := by decide +kernel
theorem dX11_buildsAll_192 : decode cX11_buildsAll 192 = .ok (.iload_n 1, 1) := by decide +kernel
theorem dX11_buildsAll_193 : decode cX11_buildsAll 193 = .ok (.iload 5, 2) := by decide +kernel
theorem dX11_buildsAll_195 : decode cX11_buildsAll 195 = .ok (.invokevirtual 171, 3) := by decide +kernel
theorem dX11_buildsAll_198 : decode cX11_buildsAll 198 = .ok (.iinc 5 1, 3) := by decide +kernel
theorem dX11_buildsAll_201 : decode cX11_buildsAll 201 = .ok (.goto (-20), 3) := by decide +kernel
theorem dX11_buildsAll_204 : decode cX11_buildsAll 204 = .ok (.aload_n 0, 1) := by decide +kernel
theorem dX11_buildsAll_205 : decode cX11_buildsAll 205 = .ok (.iload_n 1, 1) := by decide +kernel
theorem dX11_buildsAll_206 : decode cX11_buildsAll 206 = .ok (.invokevirtual 175, 3) := by decide +kernel
theorem dX11_buildsAll_209 : decode cX11_buildsAll 209 = .ok (.aload_n 0, 1) := by decide +kernel
theorem dX11_buildsAll_210 : decode cX11_buildsAll 210 = .ok (.iload_n 1, 1) := by decide +kernel
theorem dX11_buildsAll_211 : decode cX11_buildsAll 211 = .ok (.bipush 12, 2) := by decide +kernel
theorem dX11_buildsAll_213 : decode cX11_buildsAll 213 = .ok (.iload_n 2, 1) := by decide +kernel
theorem dX11_buildsAll_214 : decode cX11_buildsAll 214 = .ok (.i2l, 1) := by decide +kernel
theorem dX11_buildsAll_215 : decode cX11_buildsAll 215 = .ok (.invokevirtual 130, 3) := by decide +kernel
theorem dX11_buildsAll_218 : decode cX11_buildsAll 218 = .ok (.return_, 1) := by decide +kernel
