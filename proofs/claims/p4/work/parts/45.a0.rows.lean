theorem dX11_isImage_0 : decode cX11_isImage 0 = .ok (.iload_n 1, 1) := by decide +kernel
theorem dX11_isImage_1 : decode cX11_isImage 1 = .ok (.bipush 14, 2) := by decide +kernel
theorem dX11_isImage_3 : decode cX11_isImage 3 = .ok (.if_icmp .lt 41, 3) := by decide +kernel
theorem dX11_isImage_6 : decode cX11_isImage 6 = .ok (.iload_n 1, 1) := by decide +kernel
theorem dX11_isImage_7 : decode cX11_isImage 7 = .ok (.bipush 14, 2) := by decide +kernel
theorem dX11_isImage_9 : decode cX11_isImage 9 = .ok (.bipush 8, 2) := by decide +kernel
theorem dX11_isImage_11 : decode cX11_isImage 11 = .ok (.aload_n 0, 1) := by decide +kernel
theorem dX11_isImage_12 : decode cX11_isImage 12 = .ok (.getfield 7, 3) := by decide +kernel
theorem dX11_isImage_15 : decode cX11_isImage 15 = .ok (.bipush 12, 2) := by decide +kernel
theorem dX11_isImage_17 : decode cX11_isImage 17 = .ok (.baload, 1) := by decide +kernel
theorem dX11_isImage_18 : decode cX11_isImage 18 = .ok (.sipush 255, 3) := by decide +kernel
theorem dX11_isImage_21 : decode cX11_isImage 21 = .ok (.iand, 1) := by decide +kernel
theorem dX11_isImage_22 : decode cX11_isImage 22 = .ok (.imul, 1) := by decide +kernel
theorem dX11_isImage_23 : decode cX11_isImage 23 = .ok (.iadd, 1) := by decide +kernel
theorem dX11_isImage_24 : decode cX11_isImage 24 = .ok (.if_icmp .ne 20, 3) := by decide +kernel
theorem dX11_isImage_27 : decode cX11_isImage 27 = .ok (.aload_n 0, 1) := by decide +kernel
theorem dX11_isImage_28 : decode cX11_isImage 28 = .ok (.getfield 7, 3) := by decide +kernel
theorem dX11_isImage_31 : decode cX11_isImage 31 = .ok (.bipush 12, 2) := by decide +kernel
theorem dX11_isImage_33 : decode cX11_isImage 33 = .ok (.baload, 1) := by decide +kernel
theorem dX11_isImage_34 : decode cX11_isImage 34 = .ok (.sipush 255, 3) := by decide +kernel
theorem dX11_isImage_37 : decode cX11_isImage 37 = .ok (.iand, 1) := by decide +kernel
theorem dX11_isImage_38 : decode cX11_isImage 38 = .ok (.sipush 160, 3) := by decide +kernel
theorem dX11_isImage_41 : decode cX11_isImage 41 = .ok (.if_icmp .le 5, 3) := by decide +kernel
theorem dX11_isImage_44 : decode cX11_isImage 44 = .ok (.iconst 0, 1) := by decide +kernel
theorem dX11_isImage_45 : decode cX11_isImage 45 = .ok (.ireturn, 1) := by decide +kernel
theorem dX11_isImage_46 : decode cX11_isImage 46 = .ok (.bipush 7, 2) := by decide +kernel
theorem dX11_isImage_48 : decode cX11_isImage 48 = .ok (.istore_n 2, 1) := by decide +kernel
theorem dX11_isImage_49 : decode cX11_isImage 49 = .ok (.iconst 0, 1) := by decide +kernel
theorem dX11_isImage_50 : decode cX11_isImage 50 = .ok (.istore_n 3, 1) := by decide +kernel
theorem dX11_isImage_51 : decode cX11_isImage 51 = .ok (.iload_n 3, 1) := by decide +kernel
theorem dX11_isImage_52 : decode cX11_isImage 52 = .ok (.iload_n 1, 1) := by decide +kernel
theorem dX11_isImage_53 : decode cX11_isImage 53 = .ok (.iconst 1, 1) := by decide +kernel
theorem dX11_isImage_54 : decode cX11_isImage 54 = .ok (.isub, 1) := by decide +kernel
theorem dX11_isImage_55 : decode cX11_isImage 55 = .ok (.if_icmp .ge 28, 3) := by decide +kernel
theorem dX11_isImage_58 : decode cX11_isImage 58 = .ok (.iconst 5, 1) := by decide +kernel
theorem dX11_isImage_59 : decode cX11_isImage 59 = .ok (.iload_n 2, 1) := by decide +kernel
theorem dX11_isImage_60 : decode cX11_isImage 60 = .ok (.imul, 1) := by decide +kernel
theorem dX11_isImage_61 : decode cX11_isImage 61 = .ok (.aload_n 0, 1) := by decide +kernel
theorem dX11_isImage_62 : decode cX11_isImage 62 = .ok (.getfield 7, 3) := by decide +kernel
theorem dX11_isImage_65 : decode cX11_isImage 65 = .ok (.iload_n 3, 1) := by decide +kernel
theorem dX11_isImage_66 : decode cX11_isImage 66 = .ok (.baload, 1) := by decide +kernel
theorem dX11_isImage_67 : decode cX11_isImage 67 = .ok (.sipush 255, 3) := by decide +kernel
theorem dX11_isImage_70 : decode cX11_isImage 70 = .ok (.iand, 1) := by decide +kernel
theorem dX11_isImage_71 : decode cX11_isImage 71 = .ok (.iadd, 1) := by decide +kernel
theorem dX11_isImage_72 : decode cX11_isImage 72 = .ok (.sipush 253, 3) := by decide +kernel
theorem dX11_isImage_75 : decode cX11_isImage 75 = .ok (.irem, 1) := by decide +kernel
theorem dX11_isImage_76 : decode cX11_isImage 76 = .ok (.istore_n 2, 1) := by decide +kernel
theorem dX11_isImage_77 : decode cX11_isImage 77 = .ok (.iinc 3 1, 3) := by decide +kernel
theorem dX11_isImage_80 : decode cX11_isImage 80 = .ok (.goto (-29), 3) := by decide +kernel
theorem dX11_isImage_83 : decode cX11_isImage 83 = .ok (.iload_n 2, 1) := by decide +kernel
theorem dX11_isImage_84 : decode cX11_isImage 84 = .ok (.aload_n 0, 1) := by decide +kernel
theorem dX11_isImage_85 : decode cX11_isImage 85 = .ok (.getfield 7, 3) := by decide +kernel
theorem dX11_isImage_88 : decode cX11_isImage 88 = .ok (.iload_n 1, 1) := by decide +kernel
theorem dX11_isImage_89 : decode cX11_isImage 89 = .ok (.iconst 1, 1) := by decide +kernel
theorem dX11_isImage_90 : decode cX11_isImage 90 = .ok (.isub, 1) := by decide +kernel
theorem dX11_isImage_91 : decode cX11_isImage 91 = .ok (.baload, 1) := by decide +kernel
theorem dX11_isImage_92 : decode cX11_isImage 92 = .ok (.sipush 255, 3) := by decide +kernel
theorem dX11_isImage_95 : decode cX11_isImage 95 = .ok (.iand, 1) := by decide +kernel
theorem dX11_isImage_96 : decode cX11_isImage 96 = .ok (.if_icmp .ne 55, 3) := by decide +kernel
theorem dX11_isImage_99 : decode cX11_isImage 99 = .ok (.aload_n 0, 1) := by decide +kernel
theorem dX11_isImage_100 : decode cX11_isImage 100 = .ok (.iconst 0, 1) := by decide +kernel
theorem dX11_isImage_101 : decode cX11_isImage 101 = .ok (.iconst 1, 1) := by decide +kernel
theorem dX11_isImage_102 : decode cX11_isImage 102 = .ok (.invokevirtual 450, 3) := by decide +kernel
theorem dX11_isImage_105 : decode cX11_isImage 105 = .ok (.ldc2_w 178, 3) := by decide +kernel
theorem dX11_isImage_108 : decode cX11_isImage 108 = .ok (.ldc2_w 180, 3) := by decide +kernel
theorem dX11_isImage_111 : decode cX11_isImage 111 = .ok (.invokestatic 83, 3) := by decide +kernel
theorem dX11_isImage_114 : decode cX11_isImage 114 = .ok (.ifCond .eq 37, 3) := by decide +kernel
theorem dX11_isImage_117 : decode cX11_isImage 117 = .ok (.aload_n 0, 1) := by decide +kernel
theorem dX11_isImage_118 : decode cX11_isImage 118 = .ok (.iconst 1, 1) := by decide +kernel
theorem dX11_isImage_119 : decode cX11_isImage 119 = .ok (.iconst 2, 1) := by decide +kernel
theorem dX11_isImage_120 : decode cX11_isImage 120 = .ok (.invokevirtual 450, 3) := by decide +kernel
theorem dX11_isImage_123 : decode cX11_isImage 123 = .ok (.ldc2_w 182, 3) := by decide +kernel
theorem dX11_isImage_126 : decode cX11_isImage 126 = .ok (.ldc2_w 184, 3) := by decide +kernel
theorem dX11_isImage_129 : decode cX11_isImage 129 = .ok (.invokestatic 83, 3) := by decide +kernel
theorem dX11_isImage_132 : decode cX11_isImage 132 = .ok (.ifCond .eq 19, 3) := by decide +kernel
theorem dX11_isImage_135 : decode cX11_isImage 135 = .ok (.aload_n 0, 1) := by decide +kernel
theorem dX11_isImage_136 : decode cX11_isImage 136 = .ok (.iconst 3, 1) := by decide +kernel
theorem dX11_isImage_137 : decode cX11_isImage 137 = .ok (.iconst 1, 1) := by decide +kernel
theorem dX11_isImage_138 : decode cX11_isImage 138 = .ok (.invokevirtual 450, 3) := by decide +kernel
theorem dX11_isImage_141 : decode cX11_isImage 141 = .ok (.lconst 0, 1) := by decide +kernel
theorem dX11_isImage_142 : decode cX11_isImage 142 = .ok (.ldc2_w 186, 3) := by decide +kernel
theorem dX11_isImage_145 : decode cX11_isImage 145 = .ok (.invokestatic 83, 3) := by decide +kernel
theorem dX11_isImage_148 : decode cX11_isImage 148 = .ok (.ifCond .ne 5, 3) := by decide +kernel
theorem dX11_isImage_151 : decode cX11_isImage 151 = .ok (.iconst 0, 1) := by decide +kernel
theorem dX11_isImage_152 : decode cX11_isImage 152 = .ok (.ireturn, 1) := by decide +kernel
theorem dX11_isImage_153 : decode cX11_isImage 153 = .ok (.ldc2_w 237, 3) := by decide +kernel
theorem dX11_isImage_156 : decode cX11_isImage 156 = .ok (.lstore_n 3, 1) := by decide +kernel
theorem dX11_isImage_157 : decode cX11_isImage 157 = .ok (.bipush 13, 2) := by decide +kernel
theorem dX11_isImage_159 : decode cX11_isImage 159 = .ok (.istore 5, 2) := by decide +kernel
theorem dX11_isImage_161 : decode cX11_isImage 161 = .ok (.iload 5, 2) := by decide +kernel
theorem dX11_isImage_163 : decode cX11_isImage 163 = .ok (.iload_n 1, 1) := by decide +kernel
theorem dX11_isImage_164 : decode cX11_isImage 164 = .ok (.iconst 1, 1) := by decide +kernel
theorem dX11_isImage_165 : decode cX11_isImage 165 = .ok (.isub, 1) := by decide +kernel
theorem dX11_isImage_166 : decode cX11_isImage 166 = .ok (.if_icmp .ge 39, 3) := by decide +kernel
theorem dX11_isImage_169 : decode cX11_isImage 169 = .ok (.aload_n 0, 1) := by decide +kernel
theorem dX11_isImage_170 : decode cX11_isImage 170 = .ok (.iload 5, 2) := by decide +kernel
theorem dX11_isImage_172 : decode cX11_isImage 172 = .ok (.iconst 4, 1) := by decide +kernel
theorem dX11_isImage_173 : decode cX11_isImage 173 = .ok (.invokevirtual 450, 3) := by decide +kernel
theorem dX11_isImage_176 : decode cX11_isImage 176 = .ok (.lstore 6, 2) := by decide +kernel
theorem dX11_isImage_178 : decode cX11_isImage 178 = .ok (.lload 6, 2) := by decide +kernel
theorem dX11_isImage_180 : decode cX11_isImage 180 = .ok (.lload_n 3, 1) := by decide +kernel
theorem dX11_isImage_181 : decode cX11_isImage 181 = .ok (.lcmp, 1) := by decide +kernel
theorem dX11_isImage_182 : decode cX11_isImage 182 = .ok (.ifCond .le 12, 3) := by decide +kernel
theorem dX11_isImage_185 : decode cX11_isImage 185 = .ok (.lload 6, 2) := by decide +kernel
theorem dX11_isImage_187 : decode cX11_isImage 187 = .ok (.ldc2_w 103, 3) := by decide +kernel
theorem dX11_isImage_190 : decode cX11_isImage 190 = .ok (.lcmp, 1) := by decide +kernel
theorem dX11_isImage_191 : decode cX11_isImage 191 = .ok (.ifCond .lt 5, 3) := by decide +kernel
theorem dX11_isImage_194 : decode cX11_isImage 194 = .ok (.iconst 0, 1) := by decide +kernel
theorem dX11_isImage_195 : decode cX11_isImage 195 = .ok (.ireturn, 1) := by decide +kernel
theorem dX11_isImage_196 : decode cX11_isImage 196 = .ok (.lload 6, 2) := by decide +kernel
theorem dX11_isImage_198 : decode cX11_isImage 198 = .ok (.lstore_n 3, 1) := by decide +kernel
theorem dX11_isImage_199 : decode cX11_isImage 199 = .ok (.iinc 5 8, 3) := by decide +kernel
theorem dX11_isImage_202 : decode cX11_isImage 202 = .ok (.goto (-41), 3) := by decide +kernel
theorem dX11_isImage_205 : decode cX11_isImage 205 = .ok (.iconst 1, 1) := by decide +kernel
theorem dX11_isImage_206 : decode cX11_isImage 206 = .ok (.ireturn, 1) := by decide +kernel
