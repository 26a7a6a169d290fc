theorem dX11_copy_0 : decode cX11_copy 0 = .ok (.aload_n 0, 1) := by decide +kernel
theorem dX11_copy_1 : decode cX11_copy 1 = .ok (.iconst 0, 1) := by decide +kernel
theorem dX11_copy_2 : decode cX11_copy 2 = .ok (.putfield 73, 3) := by decide +kernel
theorem dX11_copy_5 : decode cX11_copy 5 = .ok (.iload_n 1, 1) := by decide +kernel
theorem dX11_copy_6 : decode cX11_copy 6 = .ok (.i2l, 1) := by decide +kernel
theorem dX11_copy_7 : decode cX11_copy 7 = .ok (.lconst 0, 1) := by decide +kernel
theorem dX11_copy_8 : decode cX11_copy 8 = .ok (.ldc2_w 87, 3) := by decide +kernel
theorem dX11_copy_11 : decode cX11_copy 11 = .ok (.invokestatic 83, 3) := by decide +kernel
theorem dX11_copy_14 : decode cX11_copy 14 = .ok (.ifCond .eq 16, 3) := by decide +kernel
theorem dX11_copy_17 : decode cX11_copy 17 = .ok (.aload_n 0, 1) := by decide +kernel
theorem dX11_copy_18 : decode cX11_copy 18 = .ok (.iload_n 2, 1) := by decide +kernel
theorem dX11_copy_19 : decode cX11_copy 19 = .ok (.invokevirtual 222, 3) := by decide +kernel
theorem dX11_copy_22 : decode cX11_copy 22 = .ok (.ifCond .eq 8, 3) := by decide +kernel
theorem dX11_copy_25 : decode cX11_copy 25 = .ok (.iload_n 1, 1) := by decide +kernel
theorem dX11_copy_26 : decode cX11_copy 26 = .ok (.iload_n 2, 1) := by decide +kernel
theorem dX11_copy_27 : decode cX11_copy 27 = .ok (.if_icmp .ne 6, 3) := by decide +kernel
theorem dX11_copy_30 : decode cX11_copy 30 = .ok (.bipush (-2), 2) := by decide +kernel
theorem dX11_copy_32 : decode cX11_copy 32 = .ok (.ireturn, 1) := by decide +kernel
theorem dX11_copy_33 : decode cX11_copy 33 = .ok (.iconst 0, 1) := by decide +kernel
theorem dX11_copy_34 : decode cX11_copy 34 = .ok (.istore_n 3, 1) := by decide +kernel
theorem dX11_copy_35 : decode cX11_copy 35 = .ok (.iload_n 3, 1) := by decide +kernel
theorem dX11_copy_36 : decode cX11_copy 36 = .ok (.bipush 17, 2) := by decide +kernel
theorem dX11_copy_38 : decode cX11_copy 38 = .ok (.if_icmp .ge 21, 3) := by decide +kernel
theorem dX11_copy_41 : decode cX11_copy 41 = .ok (.aload_n 0, 1) := by decide +kernel
theorem dX11_copy_42 : decode cX11_copy 42 = .ok (.iload_n 1, 1) := by decide +kernel
theorem dX11_copy_43 : decode cX11_copy 43 = .ok (.iload_n 3, 1) := by decide +kernel
theorem dX11_copy_44 : decode cX11_copy 44 = .ok (.aload_n 0, 1) := by decide +kernel
theorem dX11_copy_45 : decode cX11_copy 45 = .ok (.iload_n 2, 1) := by decide +kernel
theorem dX11_copy_46 : decode cX11_copy 46 = .ok (.iload_n 3, 1) := by decide +kernel
theorem dX11_copy_47 : decode cX11_copy 47 = .ok (.invokevirtual 89, 3) := by decide +kernel
theorem dX11_copy_50 : decode cX11_copy 50 = .ok (.invokevirtual 126, 3) := by decide +kernel
theorem dX11_copy_53 : decode cX11_copy 53 = .ok (.iinc 3 1, 3) := by decide +kernel
theorem dX11_copy_56 : decode cX11_copy 56 = .ok (.goto (-21), 3) := by decide +kernel
theorem dX11_copy_59 : decode cX11_copy 59 = .ok (.iconst 0, 1) := by decide +kernel
theorem dX11_copy_60 : decode cX11_copy 60 = .ok (.istore_n 3, 1) := by decide +kernel
theorem dX11_copy_61 : decode cX11_copy 61 = .ok (.iload_n 3, 1) := by decide +kernel
theorem dX11_copy_62 : decode cX11_copy 62 = .ok (.sipush 160, 3) := by decide +kernel
theorem dX11_copy_65 : decode cX11_copy 65 = .ok (.if_icmp .ge 27, 3) := by decide +kernel
theorem dX11_copy_68 : decode cX11_copy 68 = .ok (.aload_n 0, 1) := by decide +kernel
theorem dX11_copy_69 : decode cX11_copy 69 = .ok (.sipush 160, 3) := by decide +kernel
theorem dX11_copy_72 : decode cX11_copy 72 = .ok (.iload_n 1, 1) := by decide +kernel
theorem dX11_copy_73 : decode cX11_copy 73 = .ok (.imul, 1) := by decide +kernel
theorem dX11_copy_74 : decode cX11_copy 74 = .ok (.iload_n 3, 1) := by decide +kernel
theorem dX11_copy_75 : decode cX11_copy 75 = .ok (.iadd, 1) := by decide +kernel
theorem dX11_copy_76 : decode cX11_copy 76 = .ok (.sipush 160, 3) := by decide +kernel
theorem dX11_copy_79 : decode cX11_copy 79 = .ok (.iload_n 2, 1) := by decide +kernel
theorem dX11_copy_80 : decode cX11_copy 80 = .ok (.imul, 1) := by decide +kernel
theorem dX11_copy_81 : decode cX11_copy 81 = .ok (.iload_n 3, 1) := by decide +kernel
theorem dX11_copy_82 : decode cX11_copy 82 = .ok (.iadd, 1) := by decide +kernel
theorem dX11_copy_83 : decode cX11_copy 83 = .ok (.invokevirtual 195, 3) := by decide +kernel
theorem dX11_copy_86 : decode cX11_copy 86 = .ok (.iinc 3 1, 3) := by decide +kernel
theorem dX11_copy_89 : decode cX11_copy 89 = .ok (.goto (-28), 3) := by decide +kernel
theorem dX11_copy_92 : decode cX11_copy 92 = .ok (.iconst 0, 1) := by decide +kernel
theorem dX11_copy_93 : decode cX11_copy 93 = .ok (.istore_n 3, 1) := by decide +kernel
theorem dX11_copy_94 : decode cX11_copy 94 = .ok (.iload_n 3, 1) := by decide +kernel
theorem dX11_copy_95 : decode cX11_copy 95 = .ok (.sipush 2048, 3) := by decide +kernel
theorem dX11_copy_98 : decode cX11_copy 98 = .ok (.if_icmp .ge 105, 3) := by decide +kernel
theorem dX11_copy_101 : decode cX11_copy 101 = .ok (.aload_n 0, 1) := by decide +kernel
theorem dX11_copy_102 : decode cX11_copy 102 = .ok (.getfield 30, 3) := by decide +kernel
theorem dX11_copy_105 : decode cX11_copy 105 = .ok (.sipush 2048, 3) := by decide +kernel
theorem dX11_copy_108 : decode cX11_copy 108 = .ok (.iload_n 1, 1) := by decide +kernel
theorem dX11_copy_109 : decode cX11_copy 109 = .ok (.imul, 1) := by decide +kernel
theorem dX11_copy_110 : decode cX11_copy 110 = .ok (.iload_n 3, 1) := by decide +kernel
theorem dX11_copy_111 : decode cX11_copy 111 = .ok (.iadd, 1) := by decide +kernel
theorem dX11_copy_112 : decode cX11_copy 112 = .ok (.aload_n 0, 1) := by decide +kernel
theorem dX11_copy_113 : decode cX11_copy 113 = .ok (.getfield 30, 3) := by decide +kernel
theorem dX11_copy_116 : decode cX11_copy 116 = .ok (.sipush 2048, 3) := by decide +kernel
theorem dX11_copy_119 : decode cX11_copy 119 = .ok (.iload_n 2, 1) := by decide +kernel
theorem dX11_copy_120 : decode cX11_copy 120 = .ok (.imul, 1) := by decide +kernel
theorem dX11_copy_121 : decode cX11_copy 121 = .ok (.iload_n 3, 1) := by decide +kernel
theorem dX11_copy_122 : decode cX11_copy 122 = .ok (.iadd, 1) := by decide +kernel
theorem dX11_copy_123 : decode cX11_copy 123 = .ok (.iaload, 1) := by decide +kernel
theorem dX11_copy_124 : decode cX11_copy 124 = .ok (.iastore, 1) := by decide +kernel
theorem dX11_copy_125 : decode cX11_copy 125 = .ok (.aload_n 0, 1) := by decide +kernel
theorem dX11_copy_126 : decode cX11_copy 126 = .ok (.getfield 33, 3) := by decide +kernel
theorem dX11_copy_129 : decode cX11_copy 129 = .ok (.sipush 2048, 3) := by decide +kernel
theorem dX11_copy_132 : decode cX11_copy 132 = .ok (.iload_n 1, 1) := by decide +kernel
theorem dX11_copy_133 : decode cX11_copy 133 = .ok (.imul, 1) := by decide +kernel
theorem dX11_copy_134 : decode cX11_copy 134 = .ok (.iload_n 3, 1) := by decide +kernel
theorem dX11_copy_135 : decode cX11_copy 135 = .ok (.iadd, 1) := by decide +kernel
theorem dX11_copy_136 : decode cX11_copy 136 = .ok (.aload_n 0, 1) := by decide +kernel
theorem dX11_copy_137 : decode cX11_copy 137 = .ok (.getfield 33, 3) := by decide +kernel
theorem dX11_copy_140 : decode cX11_copy 140 = .ok (.sipush 2048, 3) := by decide +kernel
theorem dX11_copy_143 : decode cX11_copy 143 = .ok (.iload_n 2, 1) := by decide +kernel
theorem dX11_copy_144 : decode cX11_copy 144 = .ok (.imul, 1) := by decide +kernel
theorem dX11_copy_145 : decode cX11_copy 145 = .ok (.iload_n 3, 1) := by decide +kernel
theorem dX11_copy_146 : decode cX11_copy 146 = .ok (.iadd, 1) := by decide +kernel
theorem dX11_copy_147 : decode cX11_copy 147 = .ok (.iaload, 1) := by decide +kernel
theorem dX11_copy_148 : decode cX11_copy 148 = .ok (.iastore, 1) := by decide +kernel
theorem dX11_copy_149 : decode cX11_copy 149 = .ok (.aload_n 0, 1) := by decide +kernel
theorem dX11_copy_150 : decode cX11_copy 150 = .ok (.getfield 36, 3) := by decide +kernel
theorem dX11_copy_153 : decode cX11_copy 153 = .ok (.sipush 2048, 3) := by decide +kernel
theorem dX11_copy_156 : decode cX11_copy 156 = .ok (.iload_n 1, 1) := by decide +kernel
theorem dX11_copy_157 : decode cX11_copy 157 = .ok (.imul, 1) := by decide +kernel
theorem dX11_copy_158 : decode cX11_copy 158 = .ok (.iload_n 3, 1) := by decide +kernel
theorem dX11_copy_159 : decode cX11_copy 159 = .ok (.iadd, 1) := by decide +kernel
theorem dX11_copy_160 : decode cX11_copy 160 = .ok (.aload_n 0, 1) := by decide +kernel
theorem dX11_copy_161 : decode cX11_copy 161 = .ok (.getfield 36, 3) := by decide +kernel
theorem dX11_copy_164 : decode cX11_copy 164 = .ok (.sipush 2048, 3) := by decide +kernel
theorem dX11_copy_167 : decode cX11_copy 167 = .ok (.iload_n 2, 1) := by decide +kernel
theorem dX11_copy_168 : decode cX11_copy 168 = .ok (.imul, 1) := by decide +kernel
theorem dX11_copy_169 : decode cX11_copy 169 = .ok (.iload_n 3, 1) := by decide +kernel
theorem dX11_copy_170 : decode cX11_copy 170 = .ok (.iadd, 1) := by decide +kernel
theorem dX11_copy_171 : decode cX11_copy 171 = .ok (.laload, 1) := by decide +kernel
theorem dX11_copy_172 : decode cX11_copy 172 = .ok (.lastore, 1) := by decide +kernel
theorem dX11_copy_173 : decode cX11_copy 173 = .ok (.aload_n 0, 1) := by decide +kernel
theorem dX11_copy_174 : decode cX11_copy 174 = .ok (.getfield 39, 3) := by decide +kernel
theorem dX11_copy_177 : decode cX11_copy 177 = .ok (.sipush 2048, 3) := by decide +kernel
theorem dX11_copy_180 : decode cX11_copy 180 = .ok (.iload_n 1, 1) := by decide +kernel
theorem dX11_copy_181 : decode cX11_copy 181 = .ok (.imul, 1) := by decide +kernel
theorem dX11_copy_182 : decode cX11_copy 182 = .ok (.iload_n 3, 1) := by decide +kernel
theorem dX11_copy_183 : decode cX11_copy 183 = .ok (.iadd, 1) := by decide +kernel
theorem dX11_copy_184 : decode cX11_copy 184 = .ok (.aload_n 0, 1) := by decide +kernel
theorem dX11_copy_185 : decode cX11_copy 185 = .ok (.getfield 39, 3) := by decide +kernel
theorem dX11_copy_188 : decode cX11_copy 188 = .ok (.sipush 2048, 3) := by decide +kernel
theorem dX11_copy_191 : decode cX11_copy 191 = .ok (.iload_n 2, 1) := by decide +kernel
theorem dX11_copy_192 : decode cX11_copy 192 = .ok (.imul, 1) := by decide +kernel
theorem dX11_copy_193 : decode cX11_copy 193 = .ok (.iload_n 3, 1) := by decide +kernel
theorem dX11_copy_194 : decode cX11_copy 194 = .ok (.iadd, 1) := by decide +kernel
theorem dX11_copy_195 : decode cX11_copy 195 = .ok (.laload, 1) := by decide +kernel
theorem dX11_copy_196 : decode cX11_copy 196 = .ok (.lastore, 1) := by decide +kernel
theorem dX11_copy_197 : decode cX11_copy 197 = .ok (.iinc 3 1, 3) := by decide +kernel
theorem dX11_copy_200 : decode cX11_copy 200 = .ok (.goto (-106), 3) := by decide +kernel
theorem dX11_copy_203 : decode cX11_copy 203 = .ok (.iconst 1, 1) := by decide +kernel
theorem dX11_copy_204 : decode cX11_copy 204 = .ok (.ireturn, 1) := by decide +kernel
