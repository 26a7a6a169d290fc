theorem dX11_image_0 : decode cX11_image 0 = .ok (.aload_n 0, 1) := by decide +kernel
theorem dX11_image_1 : decode cX11_image 1 = .ok (.iconst 0, 1) := by decide +kernel
theorem dX11_image_2 : decode cX11_image 2 = .ok (.putfield 73, 3) := by decide +kernel
theorem dX11_image_5 : decode cX11_image 5 = .ok (.aload_n 0, 1) := by decide +kernel
theorem dX11_image_6 : decode cX11_image 6 = .ok (.iload_n 1, 1) := by decide +kernel
theorem dX11_image_7 : decode cX11_image 7 = .ok (.invokevirtual 222, 3) := by decide +kernel
theorem dX11_image_10 : decode cX11_image 10 = .ok (.ifCond .ne 5, 3) := by decide +kernel
theorem dX11_image_13 : decode cX11_image 13 = .ok (.iconst (-1), 1) := by decide +kernel
theorem dX11_image_14 : decode cX11_image 14 = .ok (.ireturn, 1) := by decide +kernel
theorem dX11_image_15 : decode cX11_image 15 = .ok (.aload_n 0, 1) := by decide +kernel
theorem dX11_image_16 : decode cX11_image 16 = .ok (.iconst 0, 1) := by decide +kernel
theorem dX11_image_17 : decode cX11_image 17 = .ok (.putfield 437, 3) := by decide +kernel
theorem dX11_image_20 : decode cX11_image 20 = .ok (.aload_n 0, 1) := by decide +kernel
theorem dX11_image_21 : decode cX11_image 21 = .ok (.aload_n 0, 1) := by decide +kernel
theorem dX11_image_22 : decode cX11_image 22 = .ok (.iload_n 1, 1) := by decide +kernel
theorem dX11_image_23 : decode cX11_image 23 = .ok (.bipush 14, 2) := by decide +kernel
theorem dX11_image_25 : decode cX11_image 25 = .ok (.invokevirtual 89, 3) := by decide +kernel
theorem dX11_image_28 : decode cX11_image 28 = .ok (.iconst 1, 1) := by decide +kernel
theorem dX11_image_29 : decode cX11_image 29 = .ok (.invokevirtual 446, 3) := by decide +kernel
theorem dX11_image_32 : decode cX11_image 32 = .ok (.aload_n 0, 1) := by decide +kernel
theorem dX11_image_33 : decode cX11_image 33 = .ok (.aload_n 0, 1) := by decide +kernel
theorem dX11_image_34 : decode cX11_image 34 = .ok (.iload_n 1, 1) := by decide +kernel
theorem dX11_image_35 : decode cX11_image 35 = .ok (.bipush 15, 2) := by decide +kernel
theorem dX11_image_37 : decode cX11_image 37 = .ok (.invokevirtual 89, 3) := by decide +kernel
theorem dX11_image_40 : decode cX11_image 40 = .ok (.iconst 2, 1) := by decide +kernel
theorem dX11_image_41 : decode cX11_image 41 = .ok (.invokevirtual 446, 3) := by decide +kernel
theorem dX11_image_44 : decode cX11_image 44 = .ok (.aload_n 0, 1) := by decide +kernel
theorem dX11_image_45 : decode cX11_image 45 = .ok (.aload_n 0, 1) := by decide +kernel
theorem dX11_image_46 : decode cX11_image 46 = .ok (.iload_n 1, 1) := by decide +kernel
theorem dX11_image_47 : decode cX11_image 47 = .ok (.bipush 16, 2) := by decide +kernel
theorem dX11_image_49 : decode cX11_image 49 = .ok (.invokevirtual 89, 3) := by decide +kernel
theorem dX11_image_52 : decode cX11_image 52 = .ok (.iconst 1, 1) := by decide +kernel
theorem dX11_image_53 : decode cX11_image 53 = .ok (.invokevirtual 446, 3) := by decide +kernel
theorem dX11_image_56 : decode cX11_image 56 = .ok (.aload_n 0, 1) := by decide +kernel
theorem dX11_image_57 : decode cX11_image 57 = .ok (.aload_n 0, 1) := by decide +kernel
theorem dX11_image_58 : decode cX11_image 58 = .ok (.iload_n 1, 1) := by decide +kernel
theorem dX11_image_59 : decode cX11_image 59 = .ok (.bipush 13, 2) := by decide +kernel
theorem dX11_image_61 : decode cX11_image 61 = .ok (.invokevirtual 89, 3) := by decide +kernel
theorem dX11_image_64 : decode cX11_image 64 = .ok (.bipush 8, 2) := by decide +kernel
theorem dX11_image_66 : decode cX11_image 66 = .ok (.invokevirtual 446, 3) := by decide +kernel
theorem dX11_image_69 : decode cX11_image 69 = .ok (.aload_n 0, 1) := by decide +kernel
theorem dX11_image_70 : decode cX11_image 70 = .ok (.aload_n 0, 1) := by decide +kernel
theorem dX11_image_71 : decode cX11_image 71 = .ok (.iload_n 1, 1) := by decide +kernel
theorem dX11_image_72 : decode cX11_image 72 = .ok (.invokevirtual 95, 3) := by decide +kernel
theorem dX11_image_75 : decode cX11_image 75 = .ok (.i2l, 1) := by decide +kernel
theorem dX11_image_76 : decode cX11_image 76 = .ok (.iconst 1, 1) := by decide +kernel
theorem dX11_image_77 : decode cX11_image 77 = .ok (.invokevirtual 446, 3) := by decide +kernel
theorem dX11_image_80 : decode cX11_image 80 = .ok (.sipush 160, 3) := by decide +kernel
theorem dX11_image_83 : decode cX11_image 83 = .ok (.iload_n 1, 1) := by decide +kernel
theorem dX11_image_84 : decode cX11_image 84 = .ok (.imul, 1) := by decide +kernel
theorem dX11_image_85 : decode cX11_image 85 = .ok (.istore_n 2, 1) := by decide +kernel
theorem dX11_image_86 : decode cX11_image 86 = .ok (.iload_n 2, 1) := by decide +kernel
theorem dX11_image_87 : decode cX11_image 87 = .ok (.sipush 160, 3) := by decide +kernel
theorem dX11_image_90 : decode cX11_image 90 = .ok (.iload_n 1, 1) := by decide +kernel
theorem dX11_image_91 : decode cX11_image 91 = .ok (.imul, 1) := by decide +kernel
theorem dX11_image_92 : decode cX11_image 92 = .ok (.aload_n 0, 1) := by decide +kernel
theorem dX11_image_93 : decode cX11_image 93 = .ok (.iload_n 1, 1) := by decide +kernel
theorem dX11_image_94 : decode cX11_image 94 = .ok (.invokevirtual 95, 3) := by decide +kernel
theorem dX11_image_97 : decode cX11_image 97 = .ok (.iadd, 1) := by decide +kernel
theorem dX11_image_98 : decode cX11_image 98 = .ok (.if_icmp .ge 33, 3) := by decide +kernel
theorem dX11_image_101 : decode cX11_image 101 = .ok (.aload_n 0, 1) := by decide +kernel
theorem dX11_image_102 : decode cX11_image 102 = .ok (.aload_n 0, 1) := by decide +kernel
theorem dX11_image_103 : decode cX11_image 103 = .ok (.getfield 17, 3) := by decide +kernel
theorem dX11_image_106 : decode cX11_image 106 = .ok (.iload_n 2, 1) := by decide +kernel
theorem dX11_image_107 : decode cX11_image 107 = .ok (.iaload, 1) := by decide +kernel
theorem dX11_image_108 : decode cX11_image 108 = .ok (.i2l, 1) := by decide +kernel
theorem dX11_image_109 : decode cX11_image 109 = .ok (.iconst 4, 1) := by decide +kernel
theorem dX11_image_110 : decode cX11_image 110 = .ok (.invokevirtual 446, 3) := by decide +kernel
theorem dX11_image_113 : decode cX11_image 113 = .ok (.aload_n 0, 1) := by decide +kernel
theorem dX11_image_114 : decode cX11_image 114 = .ok (.aload_n 0, 1) := by decide +kernel
theorem dX11_image_115 : decode cX11_image 115 = .ok (.getfield 21, 3) := by decide +kernel
theorem dX11_image_118 : decode cX11_image 118 = .ok (.iload_n 2, 1) := by decide +kernel
theorem dX11_image_119 : decode cX11_image 119 = .ok (.iaload, 1) := by decide +kernel
theorem dX11_image_120 : decode cX11_image 120 = .ok (.i2l, 1) := by decide +kernel
theorem dX11_image_121 : decode cX11_image 121 = .ok (.iconst 4, 1) := by decide +kernel
theorem dX11_image_122 : decode cX11_image 122 = .ok (.invokevirtual 446, 3) := by decide +kernel
theorem dX11_image_125 : decode cX11_image 125 = .ok (.iinc 2 1, 3) := by decide +kernel
theorem dX11_image_128 : decode cX11_image 128 = .ok (.goto (-42), 3) := by decide +kernel
theorem dX11_image_131 : decode cX11_image 131 = .ok (.bipush 7, 2) := by decide +kernel
theorem dX11_image_133 : decode cX11_image 133 = .ok (.istore_n 2, 1) := by decide +kernel
theorem dX11_image_134 : decode cX11_image 134 = .ok (.iconst 0, 1) := by decide +kernel
theorem dX11_image_135 : decode cX11_image 135 = .ok (.istore_n 3, 1) := by decide +kernel
theorem dX11_image_136 : decode cX11_image 136 = .ok (.iload_n 3, 1) := by decide +kernel
theorem dX11_image_137 : decode cX11_image 137 = .ok (.aload_n 0, 1) := by decide +kernel
theorem dX11_image_138 : decode cX11_image 138 = .ok (.getfield 437, 3) := by decide +kernel
theorem dX11_image_141 : decode cX11_image 141 = .ok (.if_icmp .ge 24, 3) := by decide +kernel
theorem dX11_image_144 : decode cX11_image 144 = .ok (.iconst 5, 1) := by decide +kernel
theorem dX11_image_145 : decode cX11_image 145 = .ok (.iload_n 2, 1) := by decide +kernel
theorem dX11_image_146 : decode cX11_image 146 = .ok (.imul, 1) := by decide +kernel
theorem dX11_image_147 : decode cX11_image 147 = .ok (.aload_n 0, 1) := by decide +kernel
theorem dX11_image_148 : decode cX11_image 148 = .ok (.getfield 70, 3) := by decide +kernel
theorem dX11_image_151 : decode cX11_image 151 = .ok (.iload_n 3, 1) := by decide +kernel
theorem dX11_image_152 : decode cX11_image 152 = .ok (.iaload, 1) := by decide +kernel
theorem dX11_image_153 : decode cX11_image 153 = .ok (.iadd, 1) := by decide +kernel
theorem dX11_image_154 : decode cX11_image 154 = .ok (.sipush 253, 3) := by decide +kernel
theorem dX11_image_157 : decode cX11_image 157 = .ok (.irem, 1) := by decide +kernel
theorem dX11_image_158 : decode cX11_image 158 = .ok (.istore_n 2, 1) := by decide +kernel
theorem dX11_image_159 : decode cX11_image 159 = .ok (.iinc 3 1, 3) := by decide +kernel
theorem dX11_image_162 : decode cX11_image 162 = .ok (.goto (-26), 3) := by decide +kernel
theorem dX11_image_165 : decode cX11_image 165 = .ok (.aload_n 0, 1) := by decide +kernel
theorem dX11_image_166 : decode cX11_image 166 = .ok (.iload_n 2, 1) := by decide +kernel
theorem dX11_image_167 : decode cX11_image 167 = .ok (.i2l, 1) := by decide +kernel
theorem dX11_image_168 : decode cX11_image 168 = .ok (.invokevirtual 442, 3) := by decide +kernel
theorem dX11_image_171 : decode cX11_image 171 = .ok (.aload_n 0, 1) := by decide +kernel
theorem dX11_image_172 : decode cX11_image 172 = .ok (.getfield 437, 3) := by decide +kernel
theorem dX11_image_175 : decode cX11_image 175 = .ok (.ireturn, 1) := by decide +kernel
