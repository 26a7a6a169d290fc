theorem dX11_statement_0 : decode cX11_statement 0 = .ok (.aload_n 0, 1) := by decide +kernel
theorem dX11_statement_1 : decode cX11_statement 1 = .ok (.invokevirtual 306, 3) := by decide +kernel
theorem dX11_statement_4 : decode cX11_statement 4 = .ok (.istore_n 1, 1) := by decide +kernel
theorem dX11_statement_5 : decode cX11_statement 5 = .ok (.aload_n 0, 1) := by decide +kernel
theorem dX11_statement_6 : decode cX11_statement 6 = .ok (.sipush 17076, 3) := by decide +kernel
theorem dX11_statement_9 : decode cX11_statement 9 = .ok (.invokevirtual 329, 3) := by decide +kernel
theorem dX11_statement_12 : decode cX11_statement 12 = .ok (.ifCond .eq 33, 3) := by decide +kernel
theorem dX11_statement_15 : decode cX11_statement 15 = .ok (.aload_n 0, 1) := by decide +kernel
theorem dX11_statement_16 : decode cX11_statement 16 = .ok (.invokevirtual 366, 3) := by decide +kernel
theorem dX11_statement_19 : decode cX11_statement 19 = .ok (.aload_n 0, 1) := by decide +kernel
theorem dX11_statement_20 : decode cX11_statement 20 = .ok (.bipush 51, 2) := by decide +kernel
theorem dX11_statement_22 : decode cX11_statement 22 = .ok (.invokevirtual 369, 3) := by decide +kernel
theorem dX11_statement_25 : decode cX11_statement 25 = .ok (.aload_n 0, 1) := by decide +kernel
theorem dX11_statement_26 : decode cX11_statement 26 = .ok (.invokevirtual 313, 3) := by decide +kernel
theorem dX11_statement_29 : decode cX11_statement 29 = .ok (.ifCond .eq 7, 3) := by decide +kernel
theorem dX11_statement_32 : decode cX11_statement 32 = .ok (.aload_n 0, 1) := by decide +kernel
theorem dX11_statement_33 : decode cX11_statement 33 = .ok (.invokevirtual 366, 3) := by decide +kernel
theorem dX11_statement_36 : decode cX11_statement 36 = .ok (.aload_n 0, 1) := by decide +kernel
theorem dX11_statement_37 : decode cX11_statement 37 = .ok (.iconst 0, 1) := by decide +kernel
theorem dX11_statement_38 : decode cX11_statement 38 = .ok (.iconst 0, 1) := by decide +kernel
theorem dX11_statement_39 : decode cX11_statement 39 = .ok (.invokevirtual 344, 3) := by decide +kernel
theorem dX11_statement_42 : decode cX11_statement 42 = .ok (.goto 157, 3) := by decide +kernel
theorem dX11_statement_45 : decode cX11_statement 45 = .ok (.aload_n 0, 1) := by decide +kernel
theorem dX11_statement_46 : decode cX11_statement 46 = .ok (.ldc_w 372, 3) := by decide +kernel
theorem dX11_statement_49 : decode cX11_statement 49 = .ok (.invokevirtual 329, 3) := by decide +kernel
theorem dX11_statement_52 : decode cX11_statement 52 = .ok (.ifCond .eq 16, 3) := by decide +kernel
theorem dX11_statement_55 : decode cX11_statement 55 = .ok (.aload_n 0, 1) := by decide +kernel
theorem dX11_statement_56 : decode cX11_statement 56 = .ok (.invokevirtual 366, 3) := by decide +kernel
theorem dX11_statement_59 : decode cX11_statement 59 = .ok (.aload_n 0, 1) := by decide +kernel
theorem dX11_statement_60 : decode cX11_statement 60 = .ok (.iconst 1, 1) := by decide +kernel
theorem dX11_statement_61 : decode cX11_statement 61 = .ok (.iconst 0, 1) := by decide +kernel
theorem dX11_statement_62 : decode cX11_statement 62 = .ok (.invokevirtual 344, 3) := by decide +kernel
theorem dX11_statement_65 : decode cX11_statement 65 = .ok (.goto 134, 3) := by decide +kernel
theorem dX11_statement_68 : decode cX11_statement 68 = .ok (.aload_n 0, 1) := by decide +kernel
theorem dX11_statement_69 : decode cX11_statement 69 = .ok (.sipush 7348, 3) := by decide +kernel
theorem dX11_statement_72 : decode cX11_statement 72 = .ok (.invokevirtual 329, 3) := by decide +kernel
theorem dX11_statement_75 : decode cX11_statement 75 = .ok (.ifCond .eq 16, 3) := by decide +kernel
theorem dX11_statement_78 : decode cX11_statement 78 = .ok (.aload_n 0, 1) := by decide +kernel
theorem dX11_statement_79 : decode cX11_statement 79 = .ok (.invokevirtual 366, 3) := by decide +kernel
theorem dX11_statement_82 : decode cX11_statement 82 = .ok (.aload_n 0, 1) := by decide +kernel
theorem dX11_statement_83 : decode cX11_statement 83 = .ok (.iconst 2, 1) := by decide +kernel
theorem dX11_statement_84 : decode cX11_statement 84 = .ok (.iconst 0, 1) := by decide +kernel
theorem dX11_statement_85 : decode cX11_statement 85 = .ok (.invokevirtual 344, 3) := by decide +kernel
theorem dX11_statement_88 : decode cX11_statement 88 = .ok (.goto 111, 3) := by decide +kernel
theorem dX11_statement_91 : decode cX11_statement 91 = .ok (.aload_n 0, 1) := by decide +kernel
theorem dX11_statement_92 : decode cX11_statement 92 = .ok (.sipush 12468, 3) := by decide +kernel
theorem dX11_statement_95 : decode cX11_statement 95 = .ok (.invokevirtual 329, 3) := by decide +kernel
theorem dX11_statement_98 : decode cX11_statement 98 = .ok (.ifCond .eq 16, 3) := by decide +kernel
theorem dX11_statement_101 : decode cX11_statement 101 = .ok (.aload_n 0, 1) := by decide +kernel
theorem dX11_statement_102 : decode cX11_statement 102 = .ok (.invokevirtual 366, 3) := by decide +kernel
theorem dX11_statement_105 : decode cX11_statement 105 = .ok (.aload_n 0, 1) := by decide +kernel
theorem dX11_statement_106 : decode cX11_statement 106 = .ok (.iconst 3, 1) := by decide +kernel
theorem dX11_statement_107 : decode cX11_statement 107 = .ok (.iconst 0, 1) := by decide +kernel
theorem dX11_statement_108 : decode cX11_statement 108 = .ok (.invokevirtual 344, 3) := by decide +kernel
theorem dX11_statement_111 : decode cX11_statement 111 = .ok (.goto 88, 3) := by decide +kernel
theorem dX11_statement_114 : decode cX11_statement 114 = .ok (.aload_n 0, 1) := by decide +kernel
theorem dX11_statement_115 : decode cX11_statement 115 = .ok (.sipush 6642, 3) := by decide +kernel
theorem dX11_statement_118 : decode cX11_statement 118 = .ok (.invokevirtual 329, 3) := by decide +kernel
theorem dX11_statement_121 : decode cX11_statement 121 = .ok (.ifCond .eq 32, 3) := by decide +kernel
theorem dX11_statement_124 : decode cX11_statement 124 = .ok (.aload_n 0, 1) := by decide +kernel
theorem dX11_statement_125 : decode cX11_statement 125 = .ok (.getfield 286, 3) := by decide +kernel
theorem dX11_statement_128 : decode cX11_statement 128 = .ok (.iconst 5, 1) := by decide +kernel
theorem dX11_statement_129 : decode cX11_statement 129 = .ok (.if_icmp .ne 9, 3) := by decide +kernel
theorem dX11_statement_132 : decode cX11_statement 132 = .ok (.aload_n 0, 1) := by decide +kernel
theorem dX11_statement_133 : decode cX11_statement 133 = .ok (.iconst 3, 1) := by decide +kernel
theorem dX11_statement_134 : decode cX11_statement 134 = .ok (.iload_n 1, 1) := by decide +kernel
theorem dX11_statement_135 : decode cX11_statement 135 = .ok (.invokevirtual 310, 3) := by decide +kernel
theorem dX11_statement_138 : decode cX11_statement 138 = .ok (.aload_n 0, 1) := by decide +kernel
theorem dX11_statement_139 : decode cX11_statement 139 = .ok (.sipush 200, 3) := by decide +kernel
theorem dX11_statement_142 : decode cX11_statement 142 = .ok (.invokevirtual 348, 3) := by decide +kernel
theorem dX11_statement_145 : decode cX11_statement 145 = .ok (.istore_n 2, 1) := by decide +kernel
theorem dX11_statement_146 : decode cX11_statement 146 = .ok (.aload_n 0, 1) := by decide +kernel
theorem dX11_statement_147 : decode cX11_statement 147 = .ok (.iconst 4, 1) := by decide +kernel
theorem dX11_statement_148 : decode cX11_statement 148 = .ok (.iload_n 2, 1) := by decide +kernel
theorem dX11_statement_149 : decode cX11_statement 149 = .ok (.invokevirtual 373, 3) := by decide +kernel
theorem dX11_statement_152 : decode cX11_statement 152 = .ok (.return_, 1) := by decide +kernel
theorem dX11_statement_153 : decode cX11_statement 153 = .ok (.aload_n 0, 1) := by decide +kernel
theorem dX11_statement_154 : decode cX11_statement 154 = .ok (.sipush 294, 3) := by decide +kernel
theorem dX11_statement_157 : decode cX11_statement 157 = .ok (.invokevirtual 329, 3) := by decide +kernel
theorem dX11_statement_160 : decode cX11_statement 160 = .ok (.ifCond .eq 35, 3) := by decide +kernel
theorem dX11_statement_163 : decode cX11_statement 163 = .ok (.aload_n 0, 1) := by decide +kernel
theorem dX11_statement_164 : decode cX11_statement 164 = .ok (.getfield 286, 3) := by decide +kernel
theorem dX11_statement_167 : decode cX11_statement 167 = .ok (.iconst 5, 1) := by decide +kernel
theorem dX11_statement_168 : decode cX11_statement 168 = .ok (.if_icmp .ne 9, 3) := by decide +kernel
theorem dX11_statement_171 : decode cX11_statement 171 = .ok (.aload_n 0, 1) := by decide +kernel
theorem dX11_statement_172 : decode cX11_statement 172 = .ok (.iconst 3, 1) := by decide +kernel
theorem dX11_statement_173 : decode cX11_statement 173 = .ok (.iload_n 1, 1) := by decide +kernel
theorem dX11_statement_174 : decode cX11_statement 174 = .ok (.invokevirtual 310, 3) := by decide +kernel
theorem dX11_statement_177 : decode cX11_statement 177 = .ok (.aload_n 0, 1) := by decide +kernel
theorem dX11_statement_178 : decode cX11_statement 178 = .ok (.invokevirtual 313, 3) := by decide +kernel
theorem dX11_statement_181 : decode cX11_statement 181 = .ok (.ifCond .eq 7, 3) := by decide +kernel
theorem dX11_statement_184 : decode cX11_statement 184 = .ok (.aload_n 0, 1) := by decide +kernel
theorem dX11_statement_185 : decode cX11_statement 185 = .ok (.invokevirtual 366, 3) := by decide +kernel
theorem dX11_statement_188 : decode cX11_statement 188 = .ok (.aload_n 0, 1) := by decide +kernel
theorem dX11_statement_189 : decode cX11_statement 189 = .ok (.iconst 5, 1) := by decide +kernel
theorem dX11_statement_190 : decode cX11_statement 190 = .ok (.iconst 0, 1) := by decide +kernel
theorem dX11_statement_191 : decode cX11_statement 191 = .ok (.invokevirtual 373, 3) := by decide +kernel
theorem dX11_statement_194 : decode cX11_statement 194 = .ok (.return_, 1) := by decide +kernel
theorem dX11_statement_195 : decode cX11_statement 195 = .ok (.aload_n 0, 1) := by decide +kernel
theorem dX11_statement_196 : decode cX11_statement 196 = .ok (.invokevirtual 320, 3) := by decide +kernel
theorem dX11_statement_199 : decode cX11_statement 199 = .ok (.aload_n 0, 1) := by decide +kernel
theorem dX11_statement_200 : decode cX11_statement 200 = .ok (.bipush 59, 2) := by decide +kernel
theorem dX11_statement_202 : decode cX11_statement 202 = .ok (.invokevirtual 363, 3) := by decide +kernel
theorem dX11_statement_205 : decode cX11_statement 205 = .ok (.return_, 1) := by decide +kernel
