theorem dX3_buildBucket_0 : decode cX3_buildBucket 0 = .ok (.aload_n 0, 1) := by decide +kernel
theorem dX3_buildBucket_1 : decode cX3_buildBucket 1 = .ok (.iload_n 3, 1) := by decide +kernel
theorem dX3_buildBucket_2 : decode cX3_buildBucket 2 = .ok (.invokevirtual 50, 3) := by decide +kernel
theorem dX3_buildBucket_5 : decode cX3_buildBucket 5 = .ok (.istore 5, 2) := by decide +kernel
theorem dX3_buildBucket_7 : decode cX3_buildBucket 7 = .ok (.iload 5, 2) := by decide +kernel
theorem dX3_buildBucket_9 : decode cX3_buildBucket 9 = .ok (.ifCond .eq 12, 3) := by decide +kernel
theorem dX3_buildBucket_12 : decode cX3_buildBucket 12 = .ok (.iload 4, 2) := by decide +kernel
theorem dX3_buildBucket_14 : decode cX3_buildBucket 14 = .ok (.aload_n 0, 1) := by decide +kernel
theorem dX3_buildBucket_15 : decode cX3_buildBucket 15 = .ok (.getfield 54, 3) := by decide +kernel
theorem dX3_buildBucket_18 : decode cX3_buildBucket 18 = .ok (.if_icmp .le 4, 3) := by decide +kernel
theorem dX3_buildBucket_21 : decode cX3_buildBucket 21 = .ok (.return_, 1) := by decide +kernel
theorem dX3_buildBucket_22 : decode cX3_buildBucket 22 = .ok (.iload 4, 2) := by decide +kernel
theorem dX3_buildBucket_24 : decode cX3_buildBucket 24 = .ok (.aload_n 0, 1) := by decide +kernel
theorem dX3_buildBucket_25 : decode cX3_buildBucket 25 = .ok (.getfield 9, 3) := by decide +kernel
theorem dX3_buildBucket_28 : decode cX3_buildBucket 28 = .ok (.iload_n 3, 1) := by decide +kernel
theorem dX3_buildBucket_29 : decode cX3_buildBucket 29 = .ok (.iaload, 1) := by decide +kernel
theorem dX3_buildBucket_30 : decode cX3_buildBucket 30 = .ok (.isub, 1) := by decide +kernel
theorem dX3_buildBucket_31 : decode cX3_buildBucket 31 = .ok (.istore 6, 2) := by decide +kernel
theorem dX3_buildBucket_33 : decode cX3_buildBucket 33 = .ok (.iload 6, 2) := by decide +kernel
theorem dX3_buildBucket_35 : decode cX3_buildBucket 35 = .ok (.ifCond .lt 7, 3) := by decide +kernel
theorem dX3_buildBucket_38 : decode cX3_buildBucket 38 = .ok (.iconst 1, 1) := by decide +kernel
theorem dX3_buildBucket_39 : decode cX3_buildBucket 39 = .ok (.goto 4, 3) := by decide +kernel
theorem dX3_buildBucket_42 : decode cX3_buildBucket 42 = .ok (.iconst 0, 1) := by decide +kernel
theorem dX3_buildBucket_43 : decode cX3_buildBucket 43 = .ok (.istore 7, 2) := by decide +kernel
theorem dX3_buildBucket_45 : decode cX3_buildBucket 45 = .ok (.iconst 0, 1) := by decide +kernel
theorem dX3_buildBucket_46 : decode cX3_buildBucket 46 = .ok (.istore 8, 2) := by decide +kernel
theorem dX3_buildBucket_48 : decode cX3_buildBucket 48 = .ok (.iload 8, 2) := by decide +kernel
theorem dX3_buildBucket_50 : decode cX3_buildBucket 50 = .ok (.ldc 81, 2) := by decide +kernel
theorem dX3_buildBucket_52 : decode cX3_buildBucket 52 = .ok (.if_icmp .ge 150, 3) := by decide +kernel
theorem dX3_buildBucket_55 : decode cX3_buildBucket 55 = .ok (.iload 7, 2) := by decide +kernel
theorem dX3_buildBucket_57 : decode cX3_buildBucket 57 = .ok (.ifCond .eq 145, 3) := by decide +kernel
theorem dX3_buildBucket_60 : decode cX3_buildBucket 60 = .ok (.aload_n 2, 1) := by decide +kernel
theorem dX3_buildBucket_61 : decode cX3_buildBucket 61 = .ok (.invokevirtual 82, 3) := by decide +kernel
theorem dX3_buildBucket_64 : decode cX3_buildBucket 64 = .ok (.aload_n 0, 1) := by decide +kernel
theorem dX3_buildBucket_65 : decode cX3_buildBucket 65 = .ok (.getfield 18, 3) := by decide +kernel
theorem dX3_buildBucket_68 : decode cX3_buildBucket 68 = .ok (.iload_n 3, 1) := by decide +kernel
theorem dX3_buildBucket_69 : decode cX3_buildBucket 69 = .ok (.aload_n 2, 1) := by decide +kernel
theorem dX3_buildBucket_70 : decode cX3_buildBucket 70 = .ok (.getfield 87, 3) := by decide +kernel
theorem dX3_buildBucket_73 : decode cX3_buildBucket 73 = .ok (.iastore, 1) := by decide +kernel
theorem dX3_buildBucket_74 : decode cX3_buildBucket 74 = .ok (.aload_n 0, 1) := by decide +kernel
theorem dX3_buildBucket_75 : decode cX3_buildBucket 75 = .ok (.getfield 21, 3) := by decide +kernel
theorem dX3_buildBucket_78 : decode cX3_buildBucket 78 = .ok (.iload_n 3, 1) := by decide +kernel
theorem dX3_buildBucket_79 : decode cX3_buildBucket 79 = .ok (.aload_n 2, 1) := by decide +kernel
theorem dX3_buildBucket_80 : decode cX3_buildBucket 80 = .ok (.getfield 88, 3) := by decide +kernel
theorem dX3_buildBucket_83 : decode cX3_buildBucket 83 = .ok (.iastore, 1) := by decide +kernel
theorem dX3_buildBucket_84 : decode cX3_buildBucket 84 = .ok (.iconst 0, 1) := by decide +kernel
theorem dX3_buildBucket_85 : decode cX3_buildBucket 85 = .ok (.istore 7, 2) := by decide +kernel
theorem dX3_buildBucket_87 : decode cX3_buildBucket 87 = .ok (.iload 6, 2) := by decide +kernel
theorem dX3_buildBucket_89 : decode cX3_buildBucket 89 = .ok (.istore 9, 2) := by decide +kernel
theorem dX3_buildBucket_91 : decode cX3_buildBucket 91 = .ok (.iload 9, 2) := by decide +kernel
theorem dX3_buildBucket_93 : decode cX3_buildBucket 93 = .ok (.iload 4, 2) := by decide +kernel
theorem dX3_buildBucket_95 : decode cX3_buildBucket 95 = .ok (.if_icmp .ge 101, 3) := by decide +kernel
theorem dX3_buildBucket_98 : decode cX3_buildBucket 98 = .ok (.iload 7, 2) := by decide +kernel
theorem dX3_buildBucket_100 : decode cX3_buildBucket 100 = .ok (.ifCond .ne 96, 3) := by decide +kernel
theorem dX3_buildBucket_103 : decode cX3_buildBucket 103 = .ok (.aload_n 2, 1) := by decide +kernel
theorem dX3_buildBucket_104 : decode cX3_buildBucket 104 = .ok (.getfield 87, 3) := by decide +kernel
theorem dX3_buildBucket_107 : decode cX3_buildBucket 107 = .ok (.aload_n 2, 1) := by decide +kernel
theorem dX3_buildBucket_108 : decode cX3_buildBucket 108 = .ok (.getfield 88, 3) := by decide +kernel
theorem dX3_buildBucket_111 : decode cX3_buildBucket 111 = .ok (.aload_n 1, 1) := by decide +kernel
theorem dX3_buildBucket_112 : decode cX3_buildBucket 112 = .ok (.getfield 75, 3) := by decide +kernel
theorem dX3_buildBucket_115 : decode cX3_buildBucket 115 = .ok (.aload_n 0, 1) := by decide +kernel
theorem dX3_buildBucket_116 : decode cX3_buildBucket 116 = .ok (.getfield 33, 3) := by decide +kernel
theorem dX3_buildBucket_119 : decode cX3_buildBucket 119 = .ok (.iload 9, 2) := by decide +kernel
theorem dX3_buildBucket_121 : decode cX3_buildBucket 121 = .ok (.iaload, 1) := by decide +kernel
theorem dX3_buildBucket_122 : decode cX3_buildBucket 122 = .ok (.iaload, 1) := by decide +kernel
theorem dX3_buildBucket_123 : decode cX3_buildBucket 123 = .ok (.iload 5, 2) := by decide +kernel
theorem dX3_buildBucket_125 : decode cX3_buildBucket 125 = .ok (.invokestatic 46, 3) := by decide +kernel
theorem dX3_buildBucket_128 : decode cX3_buildBucket 128 = .ok (.istore 10, 2) := by decide +kernel
theorem dX3_buildBucket_130 : decode cX3_buildBucket 130 = .ok (.aload_n 0, 1) := by decide +kernel
theorem dX3_buildBucket_131 : decode cX3_buildBucket 131 = .ok (.getfield 30, 3) := by decide +kernel
theorem dX3_buildBucket_134 : decode cX3_buildBucket 134 = .ok (.aload_n 0, 1) := by decide +kernel
theorem dX3_buildBucket_135 : decode cX3_buildBucket 135 = .ok (.getfield 33, 3) := by decide +kernel
theorem dX3_buildBucket_138 : decode cX3_buildBucket 138 = .ok (.iload 9, 2) := by decide +kernel
theorem dX3_buildBucket_140 : decode cX3_buildBucket 140 = .ok (.iaload, 1) := by decide +kernel
theorem dX3_buildBucket_141 : decode cX3_buildBucket 141 = .ok (.iload 10, 2) := by decide +kernel
theorem dX3_buildBucket_143 : decode cX3_buildBucket 143 = .ok (.iastore, 1) := by decide +kernel
theorem dX3_buildBucket_144 : decode cX3_buildBucket 144 = .ok (.iload 6, 2) := by decide +kernel
theorem dX3_buildBucket_146 : decode cX3_buildBucket 146 = .ok (.istore 11, 2) := by decide +kernel
theorem dX3_buildBucket_148 : decode cX3_buildBucket 148 = .ok (.iload 11, 2) := by decide +kernel
theorem dX3_buildBucket_150 : decode cX3_buildBucket 150 = .ok (.iload 9, 2) := by decide +kernel
theorem dX3_buildBucket_152 : decode cX3_buildBucket 152 = .ok (.if_icmp .ge 38, 3) := by decide +kernel
theorem dX3_buildBucket_155 : decode cX3_buildBucket 155 = .ok (.iload 7, 2) := by decide +kernel
theorem dX3_buildBucket_157 : decode cX3_buildBucket 157 = .ok (.ifCond .ne 20, 3) := by decide +kernel
theorem dX3_buildBucket_160 : decode cX3_buildBucket 160 = .ok (.aload_n 0, 1) := by decide +kernel
theorem dX3_buildBucket_161 : decode cX3_buildBucket 161 = .ok (.getfield 30, 3) := by decide +kernel
theorem dX3_buildBucket_164 : decode cX3_buildBucket 164 = .ok (.aload_n 0, 1) := by decide +kernel
theorem dX3_buildBucket_165 : decode cX3_buildBucket 165 = .ok (.getfield 33, 3) := by decide +kernel
theorem dX3_buildBucket_168 : decode cX3_buildBucket 168 = .ok (.iload 11, 2) := by decide +kernel
theorem dX3_buildBucket_170 : decode cX3_buildBucket 170 = .ok (.iaload, 1) := by decide +kernel
theorem dX3_buildBucket_171 : decode cX3_buildBucket 171 = .ok (.iaload, 1) := by decide +kernel
theorem dX3_buildBucket_172 : decode cX3_buildBucket 172 = .ok (.iload 10, 2) := by decide +kernel
theorem dX3_buildBucket_174 : decode cX3_buildBucket 174 = .ok (.if_icmp .ne 7, 3) := by decide +kernel
theorem dX3_buildBucket_177 : decode cX3_buildBucket 177 = .ok (.iconst 1, 1) := by decide +kernel
theorem dX3_buildBucket_178 : decode cX3_buildBucket 178 = .ok (.goto 4, 3) := by decide +kernel
theorem dX3_buildBucket_181 : decode cX3_buildBucket 181 = .ok (.iconst 0, 1) := by decide +kernel
theorem dX3_buildBucket_182 : decode cX3_buildBucket 182 = .ok (.istore 7, 2) := by decide +kernel
theorem dX3_buildBucket_184 : decode cX3_buildBucket 184 = .ok (.iinc 11 1, 3) := by decide +kernel
theorem dX3_buildBucket_187 : decode cX3_buildBucket 187 = .ok (.goto (-39), 3) := by decide +kernel
theorem dX3_buildBucket_190 : decode cX3_buildBucket 190 = .ok (.iinc 9 1, 3) := by decide +kernel
theorem dX3_buildBucket_193 : decode cX3_buildBucket 193 = .ok (.goto (-102), 3) := by decide +kernel
theorem dX3_buildBucket_196 : decode cX3_buildBucket 196 = .ok (.iinc 8 1, 3) := by decide +kernel
theorem dX3_buildBucket_199 : decode cX3_buildBucket 199 = .ok (.goto (-151), 3) := by decide +kernel
theorem dX3_buildBucket_202 : decode cX3_buildBucket 202 = .ok (.return_, 1) := by decide +kernel
