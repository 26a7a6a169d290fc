theorem dX1_write_0 : decode cX1_write 0 = .ok (.aload_n 1, 1) := by decide +kernel
theorem dX1_write_1 : decode cX1_write 1 = .ok (.getfield 15, 3) := by decide +kernel
theorem dX1_write_4 : decode cX1_write 4 = .ok (.astore_n 2, 1) := by decide +kernel
theorem dX1_write_5 : decode cX1_write 5 = .ok (.aload_n 0, 1) := by decide +kernel
theorem dX1_write_6 : decode cX1_write 6 = .ok (.getfield 9, 3) := by decide +kernel
theorem dX1_write_9 : decode cX1_write 9 = .ok (.iconst 0, 1) := by decide +kernel
theorem dX1_write_10 : decode cX1_write 10 = .ok (.aload_n 1, 1) := by decide +kernel
theorem dX1_write_11 : decode cX1_write 11 = .ok (.getfield 21, 3) := by decide +kernel
theorem dX1_write_14 : decode cX1_write 14 = .ok (.iastore, 1) := by decide +kernel
theorem dX1_write_15 : decode cX1_write 15 = .ok (.aload_n 0, 1) := by decide +kernel
theorem dX1_write_16 : decode cX1_write 16 = .ok (.getfield 9, 3) := by decide +kernel
theorem dX1_write_19 : decode cX1_write 19 = .ok (.iconst 1, 1) := by decide +kernel
theorem dX1_write_20 : decode cX1_write 20 = .ok (.aload_n 1, 1) := by decide +kernel
theorem dX1_write_21 : decode cX1_write 21 = .ok (.getfield 25, 3) := by decide +kernel
theorem dX1_write_24 : decode cX1_write 24 = .ok (.bipush 8, 2) := by decide +kernel
theorem dX1_write_26 : decode cX1_write 26 = .ok (.iushr, 1) := by decide +kernel
theorem dX1_write_27 : decode cX1_write 27 = .ok (.iastore, 1) := by decide +kernel
theorem dX1_write_28 : decode cX1_write 28 = .ok (.aload_n 0, 1) := by decide +kernel
theorem dX1_write_29 : decode cX1_write 29 = .ok (.getfield 9, 3) := by decide +kernel
theorem dX1_write_32 : decode cX1_write 32 = .ok (.iconst 2, 1) := by decide +kernel
theorem dX1_write_33 : decode cX1_write 33 = .ok (.aload_n 1, 1) := by decide +kernel
theorem dX1_write_34 : decode cX1_write 34 = .ok (.getfield 25, 3) := by decide +kernel
theorem dX1_write_37 : decode cX1_write 37 = .ok (.sipush 255, 3) := by decide +kernel
theorem dX1_write_40 : decode cX1_write 40 = .ok (.iand, 1) := by decide +kernel
theorem dX1_write_41 : decode cX1_write 41 = .ok (.iastore, 1) := by decide +kernel
theorem dX1_write_42 : decode cX1_write 42 = .ok (.aload_n 0, 1) := by decide +kernel
theorem dX1_write_43 : decode cX1_write 43 = .ok (.getfield 9, 3) := by decide +kernel
theorem dX1_write_46 : decode cX1_write 46 = .ok (.iconst 3, 1) := by decide +kernel
theorem dX1_write_47 : decode cX1_write 47 = .ok (.aload_n 1, 1) := by decide +kernel
theorem dX1_write_48 : decode cX1_write 48 = .ok (.getfield 28, 3) := by decide +kernel
theorem dX1_write_51 : decode cX1_write 51 = .ok (.iastore, 1) := by decide +kernel
theorem dX1_write_52 : decode cX1_write 52 = .ok (.aload_n 0, 1) := by decide +kernel
theorem dX1_write_53 : decode cX1_write 53 = .ok (.getfield 9, 3) := by decide +kernel
theorem dX1_write_56 : decode cX1_write 56 = .ok (.iconst 4, 1) := by decide +kernel
theorem dX1_write_57 : decode cX1_write 57 = .ok (.aload_n 1, 1) := by decide +kernel
theorem dX1_write_58 : decode cX1_write 58 = .ok (.getfield 31, 3) := by decide +kernel
theorem dX1_write_61 : decode cX1_write 61 = .ok (.getfield 35, 3) := by decide +kernel
theorem dX1_write_64 : decode cX1_write 64 = .ok (.bipush 32, 2) := by decide +kernel
theorem dX1_write_66 : decode cX1_write 66 = .ok (.lushr, 1) := by decide +kernel
theorem dX1_write_67 : decode cX1_write 67 = .ok (.l2i, 1) := by decide +kernel
theorem dX1_write_68 : decode cX1_write 68 = .ok (.invokestatic 41, 3) := by decide +kernel
theorem dX1_write_71 : decode cX1_write 71 = .ok (.aload_n 0, 1) := by decide +kernel
theorem dX1_write_72 : decode cX1_write 72 = .ok (.getfield 9, 3) := by decide +kernel
theorem dX1_write_75 : decode cX1_write 75 = .ok (.bipush 8, 2) := by decide +kernel
theorem dX1_write_77 : decode cX1_write 77 = .ok (.aload_n 1, 1) := by decide +kernel
theorem dX1_write_78 : decode cX1_write 78 = .ok (.getfield 31, 3) := by decide +kernel
theorem dX1_write_81 : decode cX1_write 81 = .ok (.getfield 35, 3) := by decide +kernel
theorem dX1_write_84 : decode cX1_write 84 = .ok (.l2i, 1) := by decide +kernel
theorem dX1_write_85 : decode cX1_write 85 = .ok (.invokestatic 41, 3) := by decide +kernel
theorem dX1_write_88 : decode cX1_write 88 = .ok (.aload_n 0, 1) := by decide +kernel
theorem dX1_write_89 : decode cX1_write 89 = .ok (.getfield 9, 3) := by decide +kernel
theorem dX1_write_92 : decode cX1_write 92 = .ok (.bipush 12, 2) := by decide +kernel
theorem dX1_write_94 : decode cX1_write 94 = .ok (.aload_n 2, 1) := by decide +kernel
theorem dX1_write_95 : decode cX1_write 95 = .ok (.getfield 45, 3) := by decide +kernel
theorem dX1_write_98 : decode cX1_write 98 = .ok (.iastore, 1) := by decide +kernel
theorem dX1_write_99 : decode cX1_write 99 = .ok (.iconst 0, 1) := by decide +kernel
theorem dX1_write_100 : decode cX1_write 100 = .ok (.istore_n 3, 1) := by decide +kernel
theorem dX1_write_101 : decode cX1_write 101 = .ok (.iload_n 3, 1) := by decide +kernel
theorem dX1_write_102 : decode cX1_write 102 = .ok (.aload_n 2, 1) := by decide +kernel
theorem dX1_write_103 : decode cX1_write 103 = .ok (.getfield 45, 3) := by decide +kernel
theorem dX1_write_106 : decode cX1_write 106 = .ok (.if_icmp .ge 48, 3) := by decide +kernel
theorem dX1_write_109 : decode cX1_write 109 = .ok (.bipush 13, 2) := by decide +kernel
theorem dX1_write_111 : decode cX1_write 111 = .ok (.bipush 8, 2) := by decide +kernel
theorem dX1_write_113 : decode cX1_write 113 = .ok (.iload_n 3, 1) := by decide +kernel
theorem dX1_write_114 : decode cX1_write 114 = .ok (.imul, 1) := by decide +kernel
theorem dX1_write_115 : decode cX1_write 115 = .ok (.iadd, 1) := by decide +kernel
theorem dX1_write_116 : decode cX1_write 116 = .ok (.istore 4, 2) := by decide +kernel
theorem dX1_write_118 : decode cX1_write 118 = .ok (.aload_n 0, 1) := by decide +kernel
theorem dX1_write_119 : decode cX1_write 119 = .ok (.getfield 9, 3) := by decide +kernel
theorem dX1_write_122 : decode cX1_write 122 = .ok (.iload 4, 2) := by decide +kernel
theorem dX1_write_124 : decode cX1_write 124 = .ok (.aload_n 2, 1) := by decide +kernel
theorem dX1_write_125 : decode cX1_write 125 = .ok (.iload_n 3, 1) := by decide +kernel
theorem dX1_write_126 : decode cX1_write 126 = .ok (.invokevirtual 50, 3) := by decide +kernel
theorem dX1_write_129 : decode cX1_write 129 = .ok (.invokestatic 41, 3) := by decide +kernel
theorem dX1_write_132 : decode cX1_write 132 = .ok (.aload_n 0, 1) := by decide +kernel
theorem dX1_write_133 : decode cX1_write 133 = .ok (.getfield 9, 3) := by decide +kernel
theorem dX1_write_136 : decode cX1_write 136 = .ok (.iload 4, 2) := by decide +kernel
theorem dX1_write_138 : decode cX1_write 138 = .ok (.iconst 4, 1) := by decide +kernel
theorem dX1_write_139 : decode cX1_write 139 = .ok (.iadd, 1) := by decide +kernel
theorem dX1_write_140 : decode cX1_write 140 = .ok (.aload_n 2, 1) := by decide +kernel
theorem dX1_write_141 : decode cX1_write 141 = .ok (.iload_n 3, 1) := by decide +kernel
theorem dX1_write_142 : decode cX1_write 142 = .ok (.invokevirtual 54, 3) := by decide +kernel
theorem dX1_write_145 : decode cX1_write 145 = .ok (.invokestatic 41, 3) := by decide +kernel
theorem dX1_write_148 : decode cX1_write 148 = .ok (.iinc 3 1, 3) := by decide +kernel
theorem dX1_write_151 : decode cX1_write 151 = .ok (.goto (-50), 3) := by decide +kernel
theorem dX1_write_154 : decode cX1_write 154 = .ok (.bipush 13, 2) := by decide +kernel
theorem dX1_write_156 : decode cX1_write 156 = .ok (.bipush 8, 2) := by decide +kernel
theorem dX1_write_158 : decode cX1_write 158 = .ok (.aload_n 2, 1) := by decide +kernel
theorem dX1_write_159 : decode cX1_write 159 = .ok (.getfield 45, 3) := by decide +kernel
theorem dX1_write_162 : decode cX1_write 162 = .ok (.imul, 1) := by decide +kernel
theorem dX1_write_163 : decode cX1_write 163 = .ok (.iadd, 1) := by decide +kernel
theorem dX1_write_164 : decode cX1_write 164 = .ok (.istore_n 3, 1) := by decide +kernel
theorem dX1_write_165 : decode cX1_write 165 = .ok (.aload_n 0, 1) := by decide +kernel
theorem dX1_write_166 : decode cX1_write 166 = .ok (.getfield 9, 3) := by decide +kernel
theorem dX1_write_169 : decode cX1_write 169 = .ok (.iload_n 3, 1) := by decide +kernel
theorem dX1_write_170 : decode cX1_write 170 = .ok (.aload_n 0, 1) := by decide +kernel
theorem dX1_write_171 : decode cX1_write 171 = .ok (.getfield 9, 3) := by decide +kernel
theorem dX1_write_174 : decode cX1_write 174 = .ok (.iload_n 3, 1) := by decide +kernel
theorem dX1_write_175 : decode cX1_write 175 = .ok (.invokestatic 57, 3) := by decide +kernel
theorem dX1_write_178 : decode cX1_write 178 = .ok (.iastore, 1) := by decide +kernel
theorem dX1_write_179 : decode cX1_write 179 = .ok (.aload_n 0, 1) := by decide +kernel
theorem dX1_write_180 : decode cX1_write 180 = .ok (.iload_n 3, 1) := by decide +kernel
theorem dX1_write_181 : decode cX1_write 181 = .ok (.iconst 1, 1) := by decide +kernel
theorem dX1_write_182 : decode cX1_write 182 = .ok (.iadd, 1) := by decide +kernel
theorem dX1_write_183 : decode cX1_write 183 = .ok (.putfield 61, 3) := by decide +kernel
theorem dX1_write_186 : decode cX1_write 186 = .ok (.return_, 1) := by decide +kernel
theorem dX7_add_0 : decode cX7_add 0 = .ok (.aload_n 0, 1) := by decide +kernel
theorem dX7_add_1 : decode cX7_add 1 = .ok (.getfield 21, 3) := by decide +kernel
theorem dX7_add_4 : decode cX7_add 4 = .ok (.sipush 600, 3) := by decide +kernel
theorem dX7_add_7 : decode cX7_add 7 = .ok (.if_icmp .ge 43, 3) := by decide +kernel
theorem dX7_add_10 : decode cX7_add 10 = .ok (.aload_n 0, 1) := by decide +kernel
theorem dX7_add_11 : decode cX7_add 11 = .ok (.getfield 9, 3) := by decide +kernel
theorem dX7_add_14 : decode cX7_add 14 = .ok (.aload_n 0, 1) := by decide +kernel
theorem dX7_add_15 : decode cX7_add 15 = .ok (.getfield 21, 3) := by decide +kernel
theorem dX7_add_18 : decode cX7_add 18 = .ok (.iload_n 1, 1) := by decide +kernel
theorem dX7_add_19 : decode cX7_add 19 = .ok (.iastore, 1) := by decide +kernel
theorem dX7_add_20 : decode cX7_add 20 = .ok (.aload_n 0, 1) := by decide +kernel
theorem dX7_add_21 : decode cX7_add 21 = .ok (.getfield 15, 3) := by decide +kernel
theorem dX7_add_24 : decode cX7_add 24 = .ok (.aload_n 0, 1) := by decide +kernel
theorem dX7_add_25 : decode cX7_add 25 = .ok (.getfield 21, 3) := by decide +kernel
theorem dX7_add_28 : decode cX7_add 28 = .ok (.iload_n 2, 1) := by decide +kernel
theorem dX7_add_29 : decode cX7_add 29 = .ok (.iastore, 1) := by decide +kernel
theorem dX7_add_30 : decode cX7_add 30 = .ok (.aload_n 0, 1) := by decide +kernel
theorem dX7_add_31 : decode cX7_add 31 = .ok (.getfield 18, 3) := by decide +kernel
theorem dX7_add_34 : decode cX7_add 34 = .ok (.aload_n 0, 1) := by decide +kernel
theorem dX7_add_35 : decode cX7_add 35 = .ok (.getfield 21, 3) := by decide +kernel
theorem dX7_add_38 : decode cX7_add 38 = .ok (.iconst 0, 1) := by decide +kernel
theorem dX7_add_39 : decode cX7_add 39 = .ok (.iastore, 1) := by decide +kernel
theorem dX7_add_40 : decode cX7_add 40 = .ok (.aload_n 0, 1) := by decide +kernel
theorem dX7_add_41 : decode cX7_add 41 = .ok (.dup, 1) := by decide +kernel
theorem dX7_add_42 : decode cX7_add 42 = .ok (.getfield 21, 3) := by decide +kernel
theorem dX7_add_45 : decode cX7_add 45 = .ok (.iconst 1, 1) := by decide +kernel
theorem dX7_add_46 : decode cX7_add 46 = .ok (.iadd, 1) := by decide +kernel
theorem dX7_add_47 : decode cX7_add 47 = .ok (.putfield 21, 3) := by decide +kernel
theorem dX7_add_50 : decode cX7_add 50 = .ok (.return_, 1) := by decide +kernel
theorem dX7_link_0 : decode cX7_link 0 = .ok (.iload_n 1, 1) := by decide +kernel
theorem dX7_link_1 : decode cX7_link 1 = .ok (.ifCond .lt 18, 3) := by decide +kernel
theorem dX7_link_4 : decode cX7_link 4 = .ok (.iload_n 1, 1) := by decide +kernel
theorem dX7_link_5 : decode cX7_link 5 = .ok (.aload_n 0, 1) := by decide +kernel
theorem dX7_link_6 : decode cX7_link 6 = .ok (.getfield 21, 3) := by decide +kernel
theorem dX7_link_9 : decode cX7_link 9 = .ok (.if_icmp .ge 10, 3) := by decide +kernel
theorem dX7_link_12 : decode cX7_link 12 = .ok (.aload_n 0, 1) := by decide +kernel
theorem dX7_link_13 : decode cX7_link 13 = .ok (.getfield 18, 3) := by decide +kernel
theorem dX7_link_16 : decode cX7_link 16 = .ok (.iload_n 1, 1) := by decide +kernel
theorem dX7_link_17 : decode cX7_link 17 = .ok (.iload_n 2, 1) := by decide +kernel
theorem dX7_link_18 : decode cX7_link 18 = .ok (.iastore, 1) := by decide +kernel
theorem dX7_link_19 : decode cX7_link 19 = .ok (.return_, 1) := by decide +kernel
theorem dX7_isFor_0 : decode cX7_isFor 0 = .ok (.iload_n 1, 1) := by decide +kernel
theorem dX7_isFor_1 : decode cX7_isFor 1 = .ok (.ifCond .lt 26, 3) := by decide +kernel
theorem dX7_isFor_4 : decode cX7_isFor 4 = .ok (.iload_n 1, 1) := by decide +kernel
theorem dX7_isFor_5 : decode cX7_isFor 5 = .ok (.aload_n 0, 1) := by decide +kernel
theorem dX7_isFor_6 : decode cX7_isFor 6 = .ok (.getfield 21, 3) := by decide +kernel
theorem dX7_isFor_9 : decode cX7_isFor 9 = .ok (.if_icmp .ge 18, 3) := by decide +kernel
theorem dX7_isFor_12 : decode cX7_isFor 12 = .ok (.aload_n 0, 1) := by decide +kernel
theorem dX7_isFor_13 : decode cX7_isFor 13 = .ok (.getfield 9, 3) := by decide +kernel
theorem dX7_isFor_16 : decode cX7_isFor 16 = .ok (.iload_n 1, 1) := by decide +kernel
theorem dX7_isFor_17 : decode cX7_isFor 17 = .ok (.iaload, 1) := by decide +kernel
theorem dX7_isFor_18 : decode cX7_isFor 18 = .ok (.bipush 8, 2) := by decide +kernel
theorem dX7_isFor_20 : decode cX7_isFor 20 = .ok (.if_icmp .ne 7, 3) := by decide +kernel
theorem dX7_isFor_23 : decode cX7_isFor 23 = .ok (.iconst 1, 1) := by decide +kernel
theorem dX7_isFor_24 : decode cX7_isFor 24 = .ok (.goto 4, 3) := by decide +kernel
theorem dX7_isFor_27 : decode cX7_isFor 27 = .ok (.iconst 0, 1) := by decide +kernel
theorem dX7_isFor_28 : decode cX7_isFor 28 = .ok (.ireturn, 1) := by decide +kernel
theorem dX10_isImage_0 : decode cX10_isImage 0 = .ok (.iload_n 1, 1) := by decide +kernel
theorem dX10_isImage_1 : decode cX10_isImage 1 = .ok (.bipush 14, 2) := by decide +kernel
theorem dX10_isImage_3 : decode cX10_isImage 3 = .ok (.if_icmp .lt 9, 3) := by decide +kernel
theorem dX10_isImage_6 : decode cX10_isImage 6 = .ok (.iload_n 1, 1) := by decide +kernel
theorem dX10_isImage_7 : decode cX10_isImage 7 = .ok (.aload_n 0, 1) := by decide +kernel
theorem dX10_isImage_8 : decode cX10_isImage 8 = .ok (.arraylength, 1) := by decide +kernel
theorem dX10_isImage_9 : decode cX10_isImage 9 = .ok (.if_icmp .le 5, 3) := by decide +kernel
theorem dX10_isImage_12 : decode cX10_isImage 12 = .ok (.iconst 0, 1) := by decide +kernel
theorem dX10_isImage_13 : decode cX10_isImage 13 = .ok (.ireturn, 1) := by decide +kernel
theorem dX10_isImage_14 : decode cX10_isImage 14 = .ok (.aload_n 0, 1) := by decide +kernel
theorem dX10_isImage_15 : decode cX10_isImage 15 = .ok (.bipush 12, 2) := by decide +kernel
theorem dX10_isImage_17 : decode cX10_isImage 17 = .ok (.iaload, 1) := by decide +kernel
theorem dX10_isImage_18 : decode cX10_isImage 18 = .ok (.istore_n 2, 1) := by decide +kernel
theorem dX10_isImage_19 : decode cX10_isImage 19 = .ok (.iload_n 2, 1) := by decide +kernel
theorem dX10_isImage_20 : decode cX10_isImage 20 = .ok (.sipush 160, 3) := by decide +kernel
theorem dX10_isImage_23 : decode cX10_isImage 23 = .ok (.if_icmp .gt 16, 3) := by decide +kernel
theorem dX10_isImage_26 : decode cX10_isImage 26 = .ok (.iload_n 1, 1) := by decide +kernel
theorem dX10_isImage_27 : decode cX10_isImage 27 = .ok (.bipush 13, 2) := by decide +kernel
theorem dX10_isImage_29 : decode cX10_isImage 29 = .ok (.bipush 8, 2) := by decide +kernel
theorem dX10_isImage_31 : decode cX10_isImage 31 = .ok (.iload_n 2, 1) := by decide +kernel
theorem dX10_isImage_32 : decode cX10_isImage 32 = .ok (.imul, 1) := by decide +kernel
theorem dX10_isImage_33 : decode cX10_isImage 33 = .ok (.iadd, 1) := by decide +kernel
theorem dX10_isImage_34 : decode cX10_isImage 34 = .ok (.iconst 1, 1) := by decide +kernel
theorem dX10_isImage_35 : decode cX10_isImage 35 = .ok (.iadd, 1) := by decide +kernel
theorem dX10_isImage_36 : decode cX10_isImage 36 = .ok (.if_icmp .eq 5, 3) := by decide +kernel
theorem dX10_isImage_39 : decode cX10_isImage 39 = .ok (.iconst 0, 1) := by decide +kernel
theorem dX10_isImage_40 : decode cX10_isImage 40 = .ok (.ireturn, 1) := by decide +kernel
theorem dX10_isImage_41 : decode cX10_isImage 41 = .ok (.aload_n 0, 1) := by decide +kernel
theorem dX10_isImage_42 : decode cX10_isImage 42 = .ok (.iconst 0, 1) := by decide +kernel
theorem dX10_isImage_43 : decode cX10_isImage 43 = .ok (.iaload, 1) := by decide +kernel
theorem dX10_isImage_44 : decode cX10_isImage 44 = .ok (.aload_n 0, 1) := by decide +kernel
theorem dX10_isImage_45 : decode cX10_isImage 45 = .ok (.invokestatic 326, 3) := by decide +kernel
theorem dX10_isImage_48 : decode cX10_isImage 48 = .ok (.aload_n 0, 1) := by decide +kernel
theorem dX10_isImage_49 : decode cX10_isImage 49 = .ok (.iconst 3, 1) := by decide +kernel
theorem dX10_isImage_50 : decode cX10_isImage 50 = .ok (.iaload, 1) := by decide +kernel
theorem dX10_isImage_51 : decode cX10_isImage 51 = .ok (.invokestatic 59, 3) := by decide +kernel
theorem dX10_isImage_54 : decode cX10_isImage 54 = .ok (.ifCond .ne 5, 3) := by decide +kernel
theorem dX10_isImage_57 : decode cX10_isImage 57 = .ok (.iconst 0, 1) := by decide +kernel
theorem dX10_isImage_58 : decode cX10_isImage 58 = .ok (.ireturn, 1) := by decide +kernel
theorem dX10_isImage_59 : decode cX10_isImage 59 = .ok (.iconst (-1), 1) := by decide +kernel
theorem dX10_isImage_60 : decode cX10_isImage 60 = .ok (.istore_n 3, 1) := by decide +kernel
theorem dX10_isImage_61 : decode cX10_isImage 61 = .ok (.iconst 0, 1) := by decide +kernel
theorem dX10_isImage_62 : decode cX10_isImage 62 = .ok (.istore 4, 2) := by decide +kernel
theorem dX10_isImage_64 : decode cX10_isImage 64 = .ok (.iload 4, 2) := by decide +kernel
theorem dX10_isImage_66 : decode cX10_isImage 66 = .ok (.iload_n 2, 1) := by decide +kernel
theorem dX10_isImage_67 : decode cX10_isImage 67 = .ok (.if_icmp .ge 42, 3) := by decide +kernel
theorem dX10_isImage_70 : decode cX10_isImage 70 = .ok (.aload_n 0, 1) := by decide +kernel
theorem dX10_isImage_71 : decode cX10_isImage 71 = .ok (.bipush 13, 2) := by decide +kernel
theorem dX10_isImage_73 : decode cX10_isImage 73 = .ok (.bipush 8, 2) := by decide +kernel
theorem dX10_isImage_75 : decode cX10_isImage 75 = .ok (.iload 4, 2) := by decide +kernel
theorem dX10_isImage_77 : decode cX10_isImage 77 = .ok (.imul, 1) := by decide +kernel
theorem dX10_isImage_78 : decode cX10_isImage 78 = .ok (.iadd, 1) := by decide +kernel
theorem dX10_isImage_79 : decode cX10_isImage 79 = .ok (.invokestatic 334, 3) := by decide +kernel
theorem dX10_isImage_82 : decode cX10_isImage 82 = .ok (.istore 5, 2) := by decide +kernel
theorem dX10_isImage_84 : decode cX10_isImage 84 = .ok (.iload 5, 2) := by decide +kernel
theorem dX10_isImage_86 : decode cX10_isImage 86 = .ok (.invokestatic 77, 3) := by decide +kernel
theorem dX10_isImage_89 : decode cX10_isImage 89 = .ok (.ifCond .eq 9, 3) := by decide +kernel
theorem dX10_isImage_92 : decode cX10_isImage 92 = .ok (.iload 5, 2) := by decide +kernel
theorem dX10_isImage_94 : decode cX10_isImage 94 = .ok (.iload_n 3, 1) := by decide +kernel
theorem dX10_isImage_95 : decode cX10_isImage 95 = .ok (.if_icmp .gt 5, 3) := by decide +kernel
theorem dX10_isImage_98 : decode cX10_isImage 98 = .ok (.iconst 0, 1) := by decide +kernel
theorem dX10_isImage_99 : decode cX10_isImage 99 = .ok (.ireturn, 1) := by decide +kernel
theorem dX10_isImage_100 : decode cX10_isImage 100 = .ok (.iload 5, 2) := by decide +kernel
theorem dX10_isImage_102 : decode cX10_isImage 102 = .ok (.istore_n 3, 1) := by decide +kernel
theorem dX10_isImage_103 : decode cX10_isImage 103 = .ok (.iinc 4 1, 3) := by decide +kernel
theorem dX10_isImage_106 : decode cX10_isImage 106 = .ok (.goto (-42), 3) := by decide +kernel
theorem dX10_isImage_109 : decode cX10_isImage 109 = .ok (.aload_n 0, 1) := by decide +kernel
theorem dX10_isImage_110 : decode cX10_isImage 110 = .ok (.iload_n 1, 1) := by decide +kernel
theorem dX10_isImage_111 : decode cX10_isImage 111 = .ok (.iconst 1, 1) := by decide +kernel
theorem dX10_isImage_112 : decode cX10_isImage 112 = .ok (.isub, 1) := by decide +kernel
theorem dX10_isImage_113 : decode cX10_isImage 113 = .ok (.iaload, 1) := by decide +kernel
theorem dX10_isImage_114 : decode cX10_isImage 114 = .ok (.aload_n 0, 1) := by decide +kernel
theorem dX10_isImage_115 : decode cX10_isImage 115 = .ok (.iload_n 1, 1) := by decide +kernel
theorem dX10_isImage_116 : decode cX10_isImage 116 = .ok (.iconst 1, 1) := by decide +kernel
theorem dX10_isImage_117 : decode cX10_isImage 117 = .ok (.isub, 1) := by decide +kernel
theorem dX10_isImage_118 : decode cX10_isImage 118 = .ok (.invokestatic 357, 3) := by decide +kernel
theorem dX10_isImage_121 : decode cX10_isImage 121 = .ok (.if_icmp .ne 7, 3) := by decide +kernel
theorem dX10_isImage_124 : decode cX10_isImage 124 = .ok (.iconst 1, 1) := by decide +kernel
theorem dX10_isImage_125 : decode cX10_isImage 125 = .ok (.goto 4, 3) := by decide +kernel
theorem dX10_isImage_128 : decode cX10_isImage 128 = .ok (.iconst 0, 1) := by decide +kernel
theorem dX10_isImage_129 : decode cX10_isImage 129 = .ok (.ireturn, 1) := by decide +kernel
def own_k_isImg : List Cond := [.methodLink RX10 334 yX10_readInt, .static yX10_readInt, .initialized RX10, .methodLink RX10 77 yX10_isKey, .static yX10_isKey, .methodLink RX10 326 yX10_spreadOf, .static yX10_spreadOf, .methodLink RX10 59 yX10_areSettings, .static yX10_areSettings, .methodLink RX10 357 yX10_checkOf, .static yX10_checkOf]
def wp_k_isImg : List Cond := .code yX10_isImage cX10_isImage 6 (some .boolean) :: (own_k_isImg ++ (wp_k_readInt ++ (wp_k_isKey ++ (wp_k_spreadOf ++ (wp_k_areS ++ (wp_k_ckT ++ ([] : List Cond)))))))
set_option maxRecDepth 20000 in
theorem inown_k_isImg : ∀ w ∈ own_k_isImg, w ∈ lw_tbl := mem_places [1172, 1173, 106, 614, 615, 1169, 1170, 452, 453, 1175, 1156] (by decide +kernel)
set_option maxRecDepth 20000 in
theorem in_k_isImg : ∀ w ∈ wp_k_isImg, w ∈ lw_tbl := List.forall_mem_cons.mpr ⟨List.mem_of_getElem? (i := 1168) (by decide +kernel), List.forall_mem_append.mpr ⟨inown_k_isImg, List.forall_mem_append.mpr ⟨in_k_readInt, List.forall_mem_append.mpr ⟨in_k_isKey, List.forall_mem_append.mpr ⟨in_k_spreadOf, List.forall_mem_append.mpr ⟨in_k_areS, List.forall_mem_append.mpr ⟨in_k_ckT, fun _ h => absurd h List.not_mem_nil⟩⟩⟩⟩⟩⟩⟩
set_option maxRecDepth 20000 in
theorem good_k_isImg : wp_k_isImg.all goodWord = true := by decide +kernel
set_option maxRecDepth 20000 in
theorem g_k_isImg_k_readInt_334 : GoodIn wp_k_isImg (va_wsS RX10 334 yX10_readInt wp_k_readInt) := goodIn_sub (List.forall_mem_append.mpr ⟨List.forall_mem_cons.mpr ⟨(List.mem_of_getElem? (i := 1) rfl), List.forall_mem_cons.mpr ⟨(List.mem_of_getElem? (i := 2) rfl), List.forall_mem_cons.mpr ⟨(List.mem_of_getElem? (i := 3) rfl), fun _ h => absurd h List.not_mem_nil⟩⟩⟩, (fun _ h => (List.mem_cons_of_mem _ (List.mem_append_right _ (List.mem_append_left _ h))))⟩) (by decide +kernel)
set_option maxRecDepth 20000 in
theorem g_k_isImg_k_isKey_77 : GoodIn wp_k_isImg (va_wsS RX10 77 yX10_isKey wp_k_isKey) := goodIn_sub (List.forall_mem_append.mpr ⟨List.forall_mem_cons.mpr ⟨(List.mem_of_getElem? (i := 4) rfl), List.forall_mem_cons.mpr ⟨(List.mem_of_getElem? (i := 5) rfl), List.forall_mem_cons.mpr ⟨(List.mem_of_getElem? (i := 3) rfl), fun _ h => absurd h List.not_mem_nil⟩⟩⟩, (fun _ h => (List.mem_cons_of_mem _ (List.mem_append_right _ (List.mem_append_right _ (List.mem_append_left _ h)))))⟩) (by decide +kernel)
set_option maxRecDepth 20000 in
theorem g_k_isImg_k_spreadOf_326 : GoodIn wp_k_isImg (va_wsS RX10 326 yX10_spreadOf wp_k_spreadOf) := goodIn_sub (List.forall_mem_append.mpr ⟨List.forall_mem_cons.mpr ⟨(List.mem_of_getElem? (i := 6) rfl), List.forall_mem_cons.mpr ⟨(List.mem_of_getElem? (i := 7) rfl), List.forall_mem_cons.mpr ⟨(List.mem_of_getElem? (i := 3) rfl), fun _ h => absurd h List.not_mem_nil⟩⟩⟩, (fun _ h => (List.mem_cons_of_mem _ (List.mem_append_right _ (List.mem_append_right _ (List.mem_append_right _ (List.mem_append_left _ h))))))⟩) (by decide +kernel)
set_option maxRecDepth 20000 in
theorem g_k_isImg_k_areS_59 : GoodIn wp_k_isImg (va_wsS RX10 59 yX10_areSettings wp_k_areS) := goodIn_sub (List.forall_mem_append.mpr ⟨List.forall_mem_cons.mpr ⟨(List.mem_of_getElem? (i := 8) rfl), List.forall_mem_cons.mpr ⟨(List.mem_of_getElem? (i := 9) rfl), List.forall_mem_cons.mpr ⟨(List.mem_of_getElem? (i := 3) rfl), fun _ h => absurd h List.not_mem_nil⟩⟩⟩, (fun _ h => (List.mem_cons_of_mem _ (List.mem_append_right _ (List.mem_append_right _ (List.mem_append_right _ (List.mem_append_right _ (List.mem_append_left _ h)))))))⟩) (by decide +kernel)
set_option maxRecDepth 20000 in
theorem g_k_isImg_k_ckT_357 : GoodIn wp_k_isImg (va_wsS RX10 357 yX10_checkOf wp_k_ckT) := goodIn_sub (List.forall_mem_append.mpr ⟨List.forall_mem_cons.mpr ⟨(List.mem_of_getElem? (i := 10) rfl), List.forall_mem_cons.mpr ⟨(List.mem_of_getElem? (i := 11) rfl), List.forall_mem_cons.mpr ⟨(List.mem_of_getElem? (i := 3) rfl), fun _ h => absurd h List.not_mem_nil⟩⟩⟩, (fun _ h => (List.mem_cons_of_mem _ (List.mem_append_right _ (List.mem_append_right _ (List.mem_append_right _ (List.mem_append_right _ (List.mem_append_right _ (List.mem_append_left _ h))))))))⟩) (by decide +kernel)
set_option maxHeartbeats 4000000 in
set_option maxRecDepth 100000 in
theorem lk_isImg (l : Launch) {p : Program} {e : Env} {s : State} {m : MethodId} {args : Array Value} {below : List Frame} {meth : Method} {c : Code} {Q : State → Prop} {A : Nat → Prop} (D : va_G) (ox : Nat → Nat) (cI : ClassId) (fT : Nat → Int32) (tp : Nat) (bt : Nat → Nat) (h16 : fT 12 ≤ nI 160) (hbt : TieC fT bt) (hx : p.tables.exec = Jvm.exec) (hb : c.code = cX10_isImage) (hml : c.maxLocals = 6) (hown : s.vm.findClass RX10 = some m.cls) (hts : ∀ w ∈ wp_k_isImg, w.before args s = true) (hA : ∀ q, s.heap.size ≤ q → A q) (hK : va_K D vwCl [(cI, .int)] s) (hN : NC s) (kx109 : ∀ (y : Nat), ∀ (la : Int32), (y ≤ 160) → (∀ j, j < y → isK (rdI fT (13 + 8 * j))) → (RsN bt y) → (la = laI bt y) → (fT 12 ≤ nI y) → ∀ (H : Heap) (locs : List Loc) (ls : Array Slot), va_P D vwCl [(ox 2, .inl (cI, 1400, .inl fT))] H → va_S A s.heap H locs → lv_has ls 6 [(0, .ref (ox 2)), (1, .int (nI tp))] → W p l e ({ frames := 1, cells := 0, slots := 0, locals := 40 }) s m args below meth c H locs 0 0 Q (F0 m 109 ls [])) (kx98 : ∀ (y : Nat), ∀ (la : Int32), (y ≤ 160) → (∀ j, j < y → isK (rdI fT (13 + 8 * j))) → (RsN bt y) → (la = laI bt y) → (y < bt 12 ∧ ¬ RsN bt (y + 1)) → ∀ (H : Heap) (locs : List Loc) (ls : Array Slot), va_P D vwCl [(ox 2, .inl (cI, 1400, .inl fT))] H → va_S A s.heap H locs → lv_has ls 6 [(0, .ref (ox 2))] → W p l e ({ frames := 1, cells := 0, slots := 0, locals := 40 }) s m args below meth c H locs 0 0 Q (F0 m 98 ls [])) : ∀ (N : Nat), ∀ (y : Nat), ∀ (la : Int32), (y ≤ 160) → (∀ j, j < y → isK (rdI fT (13 + 8 * j))) → (RsN bt y) → (la = laI bt y) → 160 - y < N → ∀ (H : Heap) (locs : List Loc) (ls : Array Slot), va_P D vwCl [(ox 2, .inl (cI, 1400, .inl fT))] H → va_S A s.heap H locs → lv_has ls 6 [(4, .int (nI y)), (3, .int la), (2, .int (fT 12)), (0, .ref (ox 2)), (1, .int (nI tp))] → W p l e ({ frames := 1, cells := 0, slots := 0, locals := 40 }) s m args below meth c H locs 0 0 Q (F0 m 64 ls []) := by
  intro N
  induction N with
  | zero =>
    intro y la hy1 hk9 hQ hla hm
    exact absurd hm (Nat.not_lt_zero _)
  | succ N ih =>
    intro y la hy1 hk9 hQ hla hm H locs ls hP hS hl
    refine lv_iload hx hb dX10_isImage_64 (lv_at hl 0 rfl) ?_
    refine lv_iload_n hx hb dX10_isImage_66 rfl (lv_at hl 2 rfl) ?_
    refine lv_icmp_ge (tgt := 109) hx hb dX10_isImage_67 (by decide) (fun hc1 => ?_) (fun hc1 => ?_)
    ·
      exact kx109 y la (hy1) (hk9) (hQ) (hla) (hc1) H locs ls (hP.sub [0] rfl) hS (lv_sub hl [3, 4] rfl)
    ·
      have hlt : y < 160 := lt_via (by omega) (by omega) hc1 h16
      have hlb : y < bt 12 := by
        rcases Nat.lt_or_ge y (bt 12) with z | z
        · exact z
        · exact absurd (by rw [(hbt 12).1]; exact nI_le z (by omega)) hc1
      refine lv_aload_n hx hb dX10_isImage_70 rfl (lv_at hl 3 rfl) ?_
      refine lv_bipush (v := 13) hx hb dX10_isImage_71 (by decide) ?_
      refine lv_bipush (v := 8) hx hb dX10_isImage_73 (by decide) ?_
      refine lv_iload hx hb dX10_isImage_75 (lv_at hl 0 rfl) ?_
      refine lv_imul hx hb dX10_isImage_77 ?_
      refine lv_topi (fun v2 ev2 => ?_)
      obtain rfl : v2 = nI (8 * y) := ev2.trans (pk_mul 8 y)
      refine lv_iadd hx hb dX10_isImage_78 ?_
      refine lv_topi (fun v3 ev3 => ?_)
      obtain rfl : v3 = nI (13 + 8 * y) := ev3.trans (nI_add 13 _)
      have hPc := hP.sub (ws' := [(ox 2, .inl (cI, 1400, .inl fT))]) [0] rfl
      have hKc := hK.sub (tys' := [(cI, .int)]) [0] rfl
      have hFc := va_free0 hS hA
      refine va_calli (va_runS (As := [.ref (ox 2), .int (nI (13 + 8 * y))]) (rest := []) ⟨hx, hb, hml, hown, hts⟩ (k_readInt l D _ ox cI fT (13 + 8 * y) (by first | assumption | omega)) (va_cwS 2 hts g_k_isImg_k_readInt_334 rfl rfl rfl (by decide +kernel) ⟨(Nat.le_of_ble_eq_true rfl), (Nat.le_of_ble_eq_true rfl)⟩) (PcRC_S hPc hKc hN) rfl rfl hl.1 rfl (lv_room (Nat.le_of_ble_eq_true rfl)) dX10_isImage_79 ⟨(Nat.le_of_ble_eq_true rfl), (Nat.le_of_ble_eq_true rfl)⟩) hS (fun q _ h => hFc q h) hFc (fun r4 uu tt H locs htt hvm hw hB hz1 hk1 hS => ?_)
      have hP := va_keep hP hk1
      try dsimp only at hw
      clear hB hz1 hk1 hFc hPc hKc
      have ev_r4 := hw
      refine lv_istore (lv' := [(5, .int r4), (4, .int (nI y)), (3, .int la), (2, .int (fT 12)), (0, .ref (ox 2)), (1, .int (nI tp))]) hx hb dX10_isImage_82 hl (by decide) rfl (fun ls hl => ?_)
      refine lv_iload hx hb dX10_isImage_84 (lv_at hl 0 rfl) ?_
      have hPc := hP.sub (ws' := []) [] rfl
      have hKc := hK.sub (tys' := []) [] rfl
      have hFc := va_free0 hS hA
      refine va_calli (va_runS (As := [.int r4]) (rest := []) ⟨hx, hb, hml, hown, hts⟩ (k_isKey l D _ cI r4) (va_cwS 1 hts g_k_isImg_k_isKey_77 rfl rfl rfl (by decide +kernel) ⟨(Nat.le_of_ble_eq_true rfl), (Nat.le_of_ble_eq_true rfl)⟩) (PcRC_S hPc hKc hN) rfl rfl hl.1 rfl (lv_room (Nat.le_of_ble_eq_true rfl)) dX10_isImage_86 ⟨(Nat.le_of_ble_eq_true rfl), (Nat.le_of_ble_eq_true rfl)⟩) hS (fun q _ h => hFc q h) hFc (fun r5 uu tt H locs htt hvm hw hB hz1 hk1 hS => ?_)
      have hP := va_keep hP hk1
      try dsimp only at hw
      clear hB hz1 hk1 hFc hPc hKc
      rcases hw with ⟨rfl, hA_r5⟩ | ⟨rfl, hA_r5⟩
      ·
        have hkk := hA_r5
        refine lv_if_eq (tgt := 98) hx hb dX10_isImage_89 (by decide) (fun hc => absurd hc (by decide)) (fun hc => ?_)
        refine lv_iload hx hb dX10_isImage_92 (lv_at hl 0 rfl) ?_
        refine lv_iload_n hx hb dX10_isImage_94 rfl (lv_at hl 2 rfl) ?_
        refine lv_icmp_gt (tgt := 100) hx hb dX10_isImage_95 (by decide) (fun hc6 => ?_) (fun hc6 => ?_)
        ·
          have hgt := hc6
          refine lv_iload hx hb dX10_isImage_100 (lv_at hl 0 rfl) ?_
          refine lv_istore_n (lv' := [(3, .int r4), (5, .int r4), (4, .int (nI y)), (2, .int (fT 12)), (0, .ref (ox 2)), (1, .int (nI tp))]) hx hb dX10_isImage_102 rfl hl (by decide) rfl (fun ls hl => ?_)
          refine lv_iinc (v := nI (y + 1)) (lv' := [(4, .int (nI (y + 1))), (3, .int r4), (5, .int r4), (2, .int (fT 12)), (0, .ref (ox 2)), (1, .int (nI tp))]) hx hb dX10_isImage_103 hl (k := 2) rfl (nI_1 _) (by decide) rfl (fun ls hl => ?_)
          refine lv_goto (tgt := 64) hx hb dX10_isImage_106 (by decide) ?_
          have hbk : ∀ j, j < y + 1 → isK (rdI fT (13 + 8 * j)) := fun j hj => by
            rcases Nat.lt_or_ge j y with q | q
            · exact hk9 j q
            · rw [show j = y by omega, ← ev_r4]
              exact hkk
          exact ih (y + 1) r4 (by omega) (hbk) (rc_ok hbt hQ hla ev_r4 hkk hgt) (ev_r4.trans (rd_tie hbt _)) (by omega) H locs ls (hP.sub [0] rfl) hS (lv_sub hl [0, 1, 3, 4, 5] rfl)
        ·
          have hno9 := rc_no2 hbt hla ev_r4 hc6
          exact kx98 y la (hy1) (hk9) (hQ) (hla) (⟨hlb, hno9⟩) H locs ls (hP.sub [0] rfl) hS (lv_sub hl [4] rfl)
      ·
        have hno9 := rc_no1 hbt ev_r4 hA_r5
        refine lv_if_eq (tgt := 98) hx hb dX10_isImage_89 (by decide) (fun hc => ?_) (fun hc => absurd (by decide) hc)
        exact kx98 y la (hy1) (hk9) (hQ) (hla) (⟨hlb, hno9⟩) H locs ls (hP.sub [0] rfl) hS (lv_sub hl [4] rfl)
set_option maxHeartbeats 4000000 in
set_option maxRecDepth 100000 in
theorem k_isImg (l : Launch) (D : va_G) (sz : Nat) (ox : Nat → Nat) (cI : ClassId) (fT : Nat → Int32) (tp : Nat) (bt : Nat → Nat) (htp2 : tp ≤ 1400) (hbt : TieC fT bt) : Met l yX10_isImage wp_k_isImg ({ frames := 1, cells := 0, slots := 0, locals := 40 }) (PcRC D [.ref (ox 2), .int (nI tp)] sz [(ox 2, .inl (cI, 1400, .inl fT))] [(cI, .int)]) (va_Qi (fun (r : Int32) (u : Unit) => (r = 1 ∧ (ImC fT ∧ IMG bt tp)) ∨ (r = 0 ∧ ¬ IMG bt tp)) (fun (_ : Unit) _ => True) (va_A [] sz)) 0 0 (va_A [] sz) := by
  refine Met.ofW (cc := cX10_isImage) (maxL := 6) (ret := (some .boolean)) (by decide) rfl ?_
  intro p e s m args below meth c s₁ B hml hv
  obtain ⟨rfl, hsz, hP, hK, hN⟩ := hv
  have hx := B.exec
  have hb := B.bytes
  have hr := B.returns
  have hts := atoms_spec (ws := wp_k_isImg) B.pre
  have hown : s.vm.findClass RX10 = some m.cls := findClass_of_methodNamed B.named
  have hlocks := B.notSynchronized
  subst hsz
  generalize hAe : va_A [] s.heap.size = A at ⊢
  have hA : ∀ q : Nat, s.heap.size ≤ q → A q := fun q h => by rw [← hAe]; exact Or.inr h
  have hS : va_S A s.heap s.heap [] := va_S.rf
  have hP : va_P D vwCl [(ox 2, .inl (cI, 1400, .inl fT))] s.heap := hP
  have hl := lv_entry ([.ref (ox 2), .int (nI tp)]) (n := 6) (Nat.le_of_ble_eq_true rfl)
  rw [lg_entry_eq]
  generalize (lg_sl ([.ref (ox 2), .int (nI tp)]) ++ List.replicate (6 - (lg_sl ([.ref (ox 2), .int (nI tp)])).length) Slot.unset).toArray = ls at hl ⊢
  have hl : lv_has ls 6 [(0, .ref (ox 2)), (1, .int (nI tp))] := hl
  refine lv_iload_n hx hb dX10_isImage_0 rfl (lv_at hl 1 rfl) ?_
  refine lv_bipush (v := 14) hx hb dX10_isImage_1 (by decide) ?_
  refine lv_icmp_lt (tgt := 12) hx hb dX10_isImage_3 (by decide) (fun hc1 => ?_) (fun hc1 => ?_)
  ·
    have hno : ¬ IMG bt tp := fun q => by
      have h8 := q.1
      have h9 := (nI_ltI (b := 14) (by omega) (by decide)).mp hc1
      omega
    refine lv_iconst (v := 0) hx hb dX10_isImage_12 (by decide) ?_
    exact W.zret (v := 0) hx hb hr rfl (fun t ht hW => ⟨⟨0, (), rfl, Or.inr ⟨rfl, hno⟩, trivial⟩, hS.F ht⟩) hS.2.2 dX10_isImage_13
  ·
    have h14 : 14 ≤ tp := by
      rcases Nat.lt_or_ge tp 14 with z | z
      · exact absurd (nI_lt (b := 14) z (by decide)) hc1
      · exact z
    refine lv_iload_n hx hb dX10_isImage_6 rfl (lv_at hl 1 rfl) ?_
    refine lv_aload_n hx hb dX10_isImage_7 rfl (lv_at hl 0 rfl) ?_
    refine va_alen (v := 1400) hx hb hK hP 0 0 rfl rfl rfl dX10_isImage_8 ?_
    refine lv_icmp_le (tgt := 14) hx hb dX10_isImage_9 (by decide) (fun hc => ?_) (fun hc => absurd (nI_le (b := 1400) htp2 (by decide)) hc)
    refine lv_aload_n hx hb dX10_isImage_14 rfl (lv_at hl 0 rfl) ?_
    refine lv_bipush (v := 12) hx hb dX10_isImage_15 (by decide) ?_
    refine va_iald hx hb hK hP 0 0 rfl rfl (show ¬ ((12 : Int32) < 0 ∨ 1400 ≤ Int32.toNatClampNeg 12) by decide) dX10_isImage_17 ?_
    refine lv_topi (fun v2 ev2 => ?_)
    obtain rfl : v2 = fT 12 := ev2.trans (rfl)
    refine lv_istore_n (lv' := [(2, .int (fT 12)), (0, .ref (ox 2)), (1, .int (nI tp))]) hx hb dX10_isImage_18 rfl hl (by decide) rfl (fun ls hl => ?_)
    refine lv_iload_n hx hb dX10_isImage_19 rfl (lv_at hl 0 rfl) ?_
    refine lv_sipush (v := 160) hx hb dX10_isImage_20 (by decide) ?_
    refine lv_icmp_gt (tgt := 39) hx hb dX10_isImage_23 (by decide) (fun hc3 => ?_) (fun hc3 => ?_)
    ·
      have hno : ¬ IMG bt tp := fun q => absurd (show (160 : Int32) < fT 12 from hc3) (Int32.not_lt.mpr (by rw [(hbt 12).1]; exact nI_le (b := 160) q.2.1 (by decide)))
      refine lv_iconst (v := 0) hx hb dX10_isImage_39 (by decide) ?_
      exact W.zret (v := 0) hx hb hr rfl (fun t ht hW => ⟨⟨0, (), rfl, Or.inr ⟨rfl, hno⟩, trivial⟩, hS.F ht⟩) hS.2.2 dX10_isImage_40
    ·
      have h16 : fT 12 ≤ nI 160 := Int32.not_lt.mp hc3
      refine lv_iload_n hx hb dX10_isImage_26 rfl (lv_at hl 2 rfl) ?_
      refine lv_bipush (v := 13) hx hb dX10_isImage_27 (by decide) ?_
      refine lv_bipush (v := 8) hx hb dX10_isImage_29 (by decide) ?_
      refine lv_iload_n hx hb dX10_isImage_31 rfl (lv_at hl 0 rfl) ?_
      refine lv_imul hx hb dX10_isImage_32 ?_
      refine lv_topi (fun v4 ev4 => ?_)
      obtain rfl : v4 = nI (8 * bt 12) := ev4.trans (by rw [(hbt 12).1]; exact pk_mul 8 _)
      refine lv_iadd hx hb dX10_isImage_33 ?_
      refine lv_topi (fun v5 ev5 => ?_)
      obtain rfl : v5 = nI (13 + 8 * bt 12) := ev5.trans (nI_add 13 _)
      refine lv_iconst (v := 1) hx hb dX10_isImage_34 (by decide) ?_
      refine lv_iadd hx hb dX10_isImage_35 ?_
      refine lv_topi (fun v6 ev6 => ?_)
      obtain rfl : v6 = nI (13 + 8 * bt 12 + 1) := ev6.trans (nI_1 _)
      refine lv_icmp_eq (tgt := 41) hx hb dX10_isImage_36 (by decide) (fun hc7 => ?_) (fun hc7 => ?_)
      ·
        have htc : tp = 13 + 8 * bt 12 + 1 := by
          have := (hbt 12).2
          exact (nI_eq (by omega) (by omega)).mp hc7
        refine lv_aload_n hx hb dX10_isImage_41 rfl (lv_at hl 1 rfl) ?_
        refine lv_iconst (v := 0) hx hb dX10_isImage_42 (by decide) ?_
        refine va_iald hx hb hK hP 0 0 rfl rfl (show ¬ ((0 : Int32) < 0 ∨ 1400 ≤ Int32.toNatClampNeg 0) by decide) dX10_isImage_43 ?_
        refine lv_topi (fun v8 ev8 => ?_)
        obtain rfl : v8 = fT 0 := ev8.trans (rfl)
        refine lv_aload_n hx hb dX10_isImage_44 rfl (lv_at hl 1 rfl) ?_
        have hPc := hP.sub (ws' := [(ox 2, .inl (cI, 1400, .inl fT))]) [0] rfl
        have hKc := hK.sub (tys' := [(cI, .int)]) [0] rfl
        have hFc := va_free0 hS hA
        refine va_calli (va_runS (As := [.ref (ox 2)]) (rest := [.int (fT 0)]) ⟨hx, hb, hml, hown, hts⟩ (k_spreadOf l D _ ox cI fT) (va_cwS 1 hts g_k_isImg_k_spreadOf_326 rfl rfl rfl (by decide +kernel) ⟨(Nat.le_of_ble_eq_true rfl), (Nat.le_of_ble_eq_true rfl)⟩) (PcRC_S hPc hKc hN) rfl rfl hl.1 rfl (lv_room (Nat.le_of_ble_eq_true rfl)) dX10_isImage_45 ⟨(Nat.le_of_ble_eq_true rfl), (Nat.le_of_ble_eq_true rfl)⟩) hS (fun q _ h => hFc q h) hFc (fun r9 uu tt H locs htt hvm hw hB hz1 hk1 hS => ?_)
        have hP := va_keep hP hk1
        try dsimp only at hw
        clear hB hz1 hk1 hFc hPc hKc
        have esp := hw
        refine lv_aload_n hx hb dX10_isImage_48 rfl (lv_at hl 1 rfl) ?_
        refine lv_iconst (v := 3) hx hb dX10_isImage_49 (by decide) ?_
        refine va_iald hx hb hK hP 0 0 rfl rfl (show ¬ ((3 : Int32) < 0 ∨ 1400 ≤ Int32.toNatClampNeg 3) by decide) dX10_isImage_50 ?_
        refine lv_topi (fun v10 ev10 => ?_)
        obtain rfl : v10 = fT 3 := ev10.trans (rfl)
        have hPc := hP.sub (ws' := []) [] rfl
        have hKc := hK.sub (tys' := []) [] rfl
        have hFc := va_free0 hS hA
        refine va_calli (va_runS (As := [.int (fT 0), .int r9, .int (fT 3)]) (rest := []) ⟨hx, hb, hml, hown, hts⟩ (k_areS l D _ cI (fT 0) r9 (fT 3)) (va_cwS 3 hts g_k_isImg_k_areS_59 rfl rfl rfl (by decide +kernel) ⟨(Nat.le_of_ble_eq_true rfl), (Nat.le_of_ble_eq_true rfl)⟩) (PcRC_S hPc hKc hN) rfl rfl hl.1 rfl (lv_room (Nat.le_of_ble_eq_true rfl)) dX10_isImage_51 ⟨(Nat.le_of_ble_eq_true rfl), (Nat.le_of_ble_eq_true rfl)⟩) hS (fun q _ h => hFc q h) hFc (fun r11 uu tt H locs htt hvm hw hB hz1 hk1 hS => ?_)
        have hP := va_keep hP hk1
        try dsimp only at hw
        clear hB hz1 hk1 hFc hPc hKc
        rcases hw with ⟨rfl, hA_r11⟩ | ⟨rfl, hA_r11⟩
        ·
          have hI := (ok_tie hbt).mp (by rw [← esp]; exact hA_r11)
          refine lv_if_ne (tgt := 59) hx hb dX10_isImage_54 (by decide) (fun hc => ?_) (fun hc => absurd hc (by decide))
          refine lv_iconst (v := (-1)) hx hb dX10_isImage_59 (by decide) ?_
          refine lv_istore_n (lv' := [(3, .int (-1)), (2, .int (fT 12)), (0, .ref (ox 2)), (1, .int (nI tp))]) hx hb dX10_isImage_60 rfl hl (by decide) rfl (fun ls hl => ?_)
          refine lv_iconst (v := 0) hx hb dX10_isImage_61 (by decide) ?_
          refine lv_istore (lv' := [(4, .int 0), (3, .int (-1)), (2, .int (fT 12)), (0, .ref (ox 2)), (1, .int (nI tp))]) hx hb dX10_isImage_62 hl (by decide) rfl (fun ls hl => ?_)
          refine lk_isImg l D ox cI fT tp bt (h16) (hbt) hx hb hml hown hts hA (hK.sub [0] rfl) hN ?_ ?_ (161) 0 (-1) (by omega) (fun j hj => absurd hj (Nat.not_lt_zero _)) (RsN_0 _) (rfl) (by omega) _ _ _ (hP.sub [0] rfl) hS (lv_sub hl [0, 1, 2, 3, 4] rfl)
          ·
            intro y_12 la_13 hy1_14 hk9_15 hQ_16 hla_17 hx18 H locs ls hP hS hl
            refine lv_aload_n hx hb dX10_isImage_109 rfl (lv_at hl 0 rfl) ?_
            refine lv_iload_n hx hb dX10_isImage_110 rfl (lv_at hl 1 rfl) ?_
            refine lv_iconst (v := 1) hx hb dX10_isImage_111 (by decide) ?_
            refine lv_isub hx hb dX10_isImage_112 ?_
            refine lv_topi (fun v19 ev19 => ?_)
            obtain rfl : v19 = nI (tp - 1) := ev19.trans (pk_sub (b := 1) (by omega))
            refine va_iald hx hb hK hP 0 0 rfl rfl (vp_in_nI (by omega) (by decide)) dX10_isImage_113 ?_
            refine lv_topi (fun v20 ev20 => ?_)
            obtain rfl : v20 = nI (bt (tp - 1)) := ev20.trans (by rw [nI_clamp (by omega)]; exact (hbt _).1)
            refine lv_aload_n hx hb dX10_isImage_114 rfl (lv_at hl 0 rfl) ?_
            refine lv_iload_n hx hb dX10_isImage_115 rfl (lv_at hl 1 rfl) ?_
            refine lv_iconst (v := 1) hx hb dX10_isImage_116 (by decide) ?_
            refine lv_isub hx hb dX10_isImage_117 ?_
            refine lv_topi (fun v21 ev21 => ?_)
            obtain rfl : v21 = nI (tp - 1) := ev21.trans (pk_sub (b := 1) (by omega))
            have hPc := hP.sub (ws' := [(ox 2, .inl (cI, 1400, .inl fT))]) [0] rfl
            have hKc := hK.sub (tys' := [(cI, .int)]) [0] rfl
            have hFc := va_free0 hS hA
            refine va_calli (va_runS (As := [.ref (ox 2), .int (nI (tp - 1))]) (rest := [.int (nI (bt (tp - 1)))]) ⟨hx, hb, hml, hown, hts⟩ (k_ckT l D _ ox cI fT (tp - 1) bt (by omega) hbt) (va_cwS 2 hts g_k_isImg_k_ckT_357 rfl rfl rfl (by decide +kernel) ⟨(Nat.le_of_ble_eq_true rfl), (Nat.le_of_ble_eq_true rfl)⟩) (PcRC_S hPc hKc hN) rfl rfl hl.1 rfl (lv_room (Nat.le_of_ble_eq_true rfl)) dX10_isImage_118 ⟨(Nat.le_of_ble_eq_true rfl), (Nat.le_of_ble_eq_true rfl)⟩) hS (fun q _ h => hFc q h) hFc (fun r22 uu tt H locs htt hvm hw hB hz1 hk1 hS => ?_)
            have hP := va_keep hP hk1
            try dsimp only at hw
            clear hB hz1 hk1 hFc hPc hKc
            obtain rfl : r22 = nI (ckN bt (tp - 1)) := hw
            refine lv_icmp_ne (tgt := 128) hx hb dX10_isImage_121 (by decide) (fun hc23 => ?_) (fun hc23 => ?_)
            ·
              have hno : ¬ IMG bt tp := fun q => hc23 (congrArg nI q.2.2.2.2.2.2)
              refine lv_iconst (v := 0) hx hb dX10_isImage_128 (by decide) ?_
              exact W.zret (v := 0) hx hb hr rfl (fun t ht hW => ⟨⟨0, (), rfl, Or.inr ⟨rfl, hno⟩, trivial⟩, hS.F ht⟩) hS.2.2 dX10_isImage_129
            ·
              have hck : bt (tp - 1) = ckN bt (tp - 1) := by
                have h9 := ckN_lt bt (tp - 1)
                have h8 := (hbt (tp - 1)).2
                exact (nI_eq (by omega) (by omega)).mp hc23
              refine lv_iconst (v := 1) hx hb dX10_isImage_124 (by decide) ?_
              refine lv_goto (tgt := 129) hx hb dX10_isImage_125 (by decide) ?_
              exact W.zret (v := 1) hx hb hr rfl (fun t ht hW => ⟨⟨1, (), rfl, Or.inl ⟨rfl, ⟨_, hy1_14, hx18, hk9_15⟩, by omega, (by have h9 := (hbt 12).2; rw [(hbt 12).1] at h16; exact (nI_leI (b := 160) (by omega) (by decide)).mp h16), hI.1, hI.2.1, hI.2.2, RsN_m hQ_16 (by have h9 := (hbt 12).2; have h8 := hx18; rw [(hbt 12).1] at h8; exact (nI_leI (by omega) (by omega)).mp h8), hck⟩, trivial⟩, hS.F ht⟩) hS.2.2 dX10_isImage_129
          ·
            intro y_24 la_25 hy1_26 hk9_27 hQ_28 hla_29 hx30 H locs ls hP hS hl
            have hno : ¬ IMG bt tp := fun q => hx30.2 (RsN_m q.2.2.2.2.2.1 (by have := hx30.1; omega))
            refine lv_iconst (v := 0) hx hb dX10_isImage_98 (by decide) ?_
            exact W.zret (v := 0) hx hb hr rfl (fun t ht hW => ⟨⟨0, (), rfl, Or.inr ⟨rfl, hno⟩, trivial⟩, hS.F ht⟩) hS.2.2 dX10_isImage_99
        ·
          have hno : ¬ IMG bt tp := fun q => hA_r11 (by rw [esp]; exact (ok_tie hbt).mpr ⟨q.2.2.1, q.2.2.2.1, q.2.2.2.2.1⟩)
          refine lv_if_ne (tgt := 59) hx hb dX10_isImage_54 (by decide) (fun hc => absurd (by decide) hc) (fun hc => ?_)
          refine lv_iconst (v := 0) hx hb dX10_isImage_57 (by decide) ?_
          exact W.zret (v := 0) hx hb hr rfl (fun t ht hW => ⟨⟨0, (), rfl, Or.inr ⟨rfl, hno⟩, trivial⟩, hS.F ht⟩) hS.2.2 dX10_isImage_58
      ·
        have hno : ¬ IMG bt tp := fun q => hc7 (congrArg nI (by have := q.1; omega))
        refine lv_iconst (v := 0) hx hb dX10_isImage_39 (by decide) ?_
        exact W.zret (v := 0) hx hb hr rfl (fun t ht hW => ⟨⟨0, (), rfl, Or.inr ⟨rfl, hno⟩, trivial⟩, hS.F ht⟩) hS.2.2 dX10_isImage_40

def own_k_write : List Cond := [.fieldLink RX1 45 "ClashFree$Keys" "size" "I", .fieldLink RX1 9 "ClashFree$Image" "bytes" "[I", .methodLink RX1 50 yX2_keyAt, .instanceMethod yX2_keyAt, .selects RX2 yX2_keyAt yX2_keyAt, .initialized RX2, .initialized RX10, .static yX10_writeInt, .methodLink RX1 54 yX2_valueAt, .instanceMethod yX2_valueAt, .selects RX2 yX2_valueAt yX2_valueAt, .fieldLink RX1 15 "ClashFree$Table" "keys" "LClashFree$Keys;", .fieldLink RX1 21 "ClashFree$Table" "bound" "I", .fieldLink RX1 25 "ClashFree$Table" "spread" "I", .fieldLink RX1 28 "ClashFree$Table" "growth" "I", .fieldLink RX1 31 "ClashFree$Table" "draw" "LClashFree$Draw;", .fieldLink RX1 35 "ClashFree$Draw" "s" "J", .static yX10_checkOf, .fieldLink RX1 61 "ClashFree$Image" "length" "I"]
def wp_k_write : List Cond := .code yX1_write cX1_write 5 none :: (own_k_write ++ (wp_k_keyAt ++ (wp_k_wiI ++ (wp_k_valueAt ++ (wp_k_ckI ++ (wsX20 ++ (wsX10 ++ (wsX90 ++ (wsX00 ++ ([] : List Cond))))))))))
set_option maxRecDepth 20000 in
theorem inown_k_write : ∀ w ∈ own_k_write, w ∈ lw_tbl := mem_places [474, 259, 1153, 735, 736, 117, 106, 439, 1154, 694, 695, 516, 492, 495, 498, 513, 147, 1156, 257] (by decide +kernel)
set_option maxRecDepth 20000 in
theorem in_k_write : ∀ w ∈ wp_k_write, w ∈ lw_tbl := List.forall_mem_cons.mpr ⟨List.mem_of_getElem? (i := 1151) (by decide +kernel), List.forall_mem_append.mpr ⟨inown_k_write, List.forall_mem_append.mpr ⟨in_k_keyAt, List.forall_mem_append.mpr ⟨in_k_wiI, List.forall_mem_append.mpr ⟨in_k_valueAt, List.forall_mem_append.mpr ⟨in_k_ckI, List.forall_mem_append.mpr ⟨lwb_X2, List.forall_mem_append.mpr ⟨lwb_X1, List.forall_mem_append.mpr ⟨lwb_X9, List.forall_mem_append.mpr ⟨lwb_X0, fun _ h => absurd h List.not_mem_nil⟩⟩⟩⟩⟩⟩⟩⟩⟩⟩
set_option maxRecDepth 20000 in
theorem good_k_write : wp_k_write.all goodWord = true := by decide +kernel
set_option maxRecDepth 20000 in
theorem g_k_write_k_keyAt_50 : GoodIn wp_k_write (wsV RX1 50 RX2 yX2_keyAt wp_k_keyAt) := goodIn_sub (List.forall_mem_append.mpr ⟨List.forall_mem_cons.mpr ⟨(List.mem_of_getElem? (i := 3) rfl), List.forall_mem_cons.mpr ⟨(List.mem_of_getElem? (i := 4) rfl), List.forall_mem_cons.mpr ⟨(List.mem_of_getElem? (i := 5) rfl), List.forall_mem_cons.mpr ⟨(List.mem_of_getElem? (i := 6) rfl), fun _ h => absurd h List.not_mem_nil⟩⟩⟩⟩, (fun _ h => (List.mem_cons_of_mem _ (List.mem_append_right _ (List.mem_append_left _ h))))⟩) (by decide +kernel)
set_option maxRecDepth 20000 in
theorem g_k_write_k_wiI_41 : GoodIn wp_k_write (wp_k_wiI) := goodIn_sub ((fun _ h => (List.mem_cons_of_mem _ (List.mem_append_right _ (List.mem_append_right _ (List.mem_append_left _ h)))))) (by decide +kernel)
set_option maxRecDepth 20000 in
theorem g_k_write_k_valueAt_54 : GoodIn wp_k_write (wsV RX1 54 RX2 yX2_valueAt wp_k_valueAt) := goodIn_sub (List.forall_mem_append.mpr ⟨List.forall_mem_cons.mpr ⟨(List.mem_of_getElem? (i := 9) rfl), List.forall_mem_cons.mpr ⟨(List.mem_of_getElem? (i := 10) rfl), List.forall_mem_cons.mpr ⟨(List.mem_of_getElem? (i := 11) rfl), List.forall_mem_cons.mpr ⟨(List.mem_of_getElem? (i := 6) rfl), fun _ h => absurd h List.not_mem_nil⟩⟩⟩⟩, (fun _ h => (List.mem_cons_of_mem _ (List.mem_append_right _ (List.mem_append_right _ (List.mem_append_right _ (List.mem_append_left _ h))))))⟩) (by decide +kernel)
set_option maxRecDepth 20000 in
theorem g_k_write_k_ckI_57 : GoodIn wp_k_write (wp_k_ckI) := goodIn_sub ((fun _ h => (List.mem_cons_of_mem _ (List.mem_append_right _ (List.mem_append_right _ (List.mem_append_right _ (List.mem_append_right _ (List.mem_append_left _ h)))))))) (by decide +kernel)
set_option maxHeartbeats 4000000 in
set_option maxRecDepth 100000 in
theorem lk_write (l : Launch) {p : Program} {e : Env} {s : State} {m : MethodId} {args : Array Value} {below : List Frame} {meth : Method} {c : Code} {Q : State → Prop} {A : Nat → Prop} (D : va_G) (og : Nat → Nat) (ob : Nat → Nat) (cI : ClassId) (il : Nat) (tb : Int32) (ts : Int32) (tg : Int32) (tl : Int32) (tc : Int32) (tr : Int32) (tu : Int32) (tv : Int32) (tw : Int32) (sd : Int64) (da : Nat) (db : Nat) (pr : Int32) (cn : Nat) (fk : Nat → Int32) (fv : Nat → Int32) (hc : cn ≤ 160) (hx : p.tables.exec = Jvm.exec) (hb : c.code = cX1_write) (hml : c.maxLocals = 5) (hown : s.vm.findClass RX1 = some m.cls) (hts : ∀ w ∈ wp_k_write, w.before args s = true) (hA : ∀ q, s.heap.size ≤ q → A q) (hK : va_K D vwCl [(cI, .int)] s) (hN : NC s) (kx154 : ∀ (y : Nat), ∀ (gi : Nat → Int32), (y ≤ cn) → ∀ (H : Heap) (locs : List Loc) (ls : Array Slot), va_P D vwCl [(og 0, .inr (1, [.int (nI il), .ref (og 1)])), (og 1, .inl (cI, 1294, .inl gi)), (ob 0, .inr (9, gT ob tb ts tg tl tc tr tu tv tw)), (ob 1, .inr (0, [.long sd, .int (nI da), .int (nI db), .int pr])), (ob 2, .inr (2, [.int (nI cn), .ref (ob 3), .ref (ob 4)])), (ob 3, .inl (cI, 160, .inl fk)), (ob 4, .inl (cI, 160, .inl fv))] H → va_D A [(og 0, .inr (1, [.int (nI il), .ref (og 1)])), (og 1, .inl (cI, 1294, .inl gi)), (ob 0, .inr (9, gT ob tb ts tg tl tc tr tu tv tw)), (ob 1, .inr (0, [.long sd, .int (nI da), .int (nI db), .int pr])), (ob 2, .inr (2, [.int (nI cn), .ref (ob 3), .ref (ob 4)])), (ob 3, .inl (cI, 160, .inl fk)), (ob 4, .inl (cI, 160, .inl fv))] → va_S A s.heap H locs → lv_has ls 5 [(2, .ref (ob 2)), (0, .ref (og 0)), (1, .ref (ob 0))] → W p l e ({ frames := 1, cells := 0, slots := 0, locals := 60 }) s m args below meth c H locs 0 0 Q (F0 m 154 ls [])) : ∀ (N : Nat), ∀ (y : Nat), ∀ (gi : Nat → Int32), (y ≤ cn) → cn - y < N → ∀ (H : Heap) (locs : List Loc) (ls : Array Slot), va_P D vwCl [(og 0, .inr (1, [.int (nI il), .ref (og 1)])), (og 1, .inl (cI, 1294, .inl gi)), (ob 0, .inr (9, gT ob tb ts tg tl tc tr tu tv tw)), (ob 1, .inr (0, [.long sd, .int (nI da), .int (nI db), .int pr])), (ob 2, .inr (2, [.int (nI cn), .ref (ob 3), .ref (ob 4)])), (ob 3, .inl (cI, 160, .inl fk)), (ob 4, .inl (cI, 160, .inl fv))] H → va_D A [(og 0, .inr (1, [.int (nI il), .ref (og 1)])), (og 1, .inl (cI, 1294, .inl gi)), (ob 0, .inr (9, gT ob tb ts tg tl tc tr tu tv tw)), (ob 1, .inr (0, [.long sd, .int (nI da), .int (nI db), .int pr])), (ob 2, .inr (2, [.int (nI cn), .ref (ob 3), .ref (ob 4)])), (ob 3, .inl (cI, 160, .inl fk)), (ob 4, .inl (cI, 160, .inl fv))] → va_S A s.heap H locs → lv_has ls 5 [(3, .int (nI y)), (2, .ref (ob 2)), (0, .ref (og 0)), (1, .ref (ob 0))] → W p l e ({ frames := 1, cells := 0, slots := 0, locals := 60 }) s m args below meth c H locs 0 0 Q (F0 m 101 ls []) := by
  have hin_X2 : ∀ w ∈ wsX20, w ∈ wp_k_write := fun _ h => (List.mem_cons_of_mem _ (List.mem_append_right _ (List.mem_append_right _ (List.mem_append_right _ (List.mem_append_right _ (List.mem_append_right _ (List.mem_append_left _ h)))))))
  have hin_X1 : ∀ w ∈ wsX10, w ∈ wp_k_write := fun _ h => (List.mem_cons_of_mem _ (List.mem_append_right _ (List.mem_append_right _ (List.mem_append_right _ (List.mem_append_right _ (List.mem_append_right _ (List.mem_append_right _ (List.mem_append_left _ h))))))))
  have hin_X9 : ∀ w ∈ wsX90, w ∈ wp_k_write := fun _ h => (List.mem_cons_of_mem _ (List.mem_append_right _ (List.mem_append_right _ (List.mem_append_right _ (List.mem_append_right _ (List.mem_append_right _ (List.mem_append_right _ (List.mem_append_right _ (List.mem_append_left _ h)))))))))
  have hin_X0 : ∀ w ∈ wsX00, w ∈ wp_k_write := fun _ h => (List.mem_cons_of_mem _ (List.mem_append_right _ (List.mem_append_right _ (List.mem_append_right _ (List.mem_append_right _ (List.mem_append_right _ (List.mem_append_right _ (List.mem_append_right _ (List.mem_append_right _ (List.mem_append_left _ h))))))))))
  intro N
  induction N with
  | zero =>
    intro y gi hy1 hm
    exact absurd hm (Nat.not_lt_zero _)
  | succ N ih =>
    intro y gi hy1 hm H locs ls hP hD hS hl
    refine lv_iload_n hx hb dX1_write_101 rfl (lv_at hl 0 rfl) ?_
    refine lv_aload_n hx hb dX1_write_102 rfl (lv_at hl 1 rfl) ?_
    refine va_get (D := D) (ci := 2) (v := .int (nI cn)) (C := RX2) (T := TX2) (N := 3) hx hb hts hin_X2 hown hK hP 4 rfl rfl 0 (by decide) (hts (.fieldLink RX1 45 "ClashFree$Keys" "size" "I") (List.mem_of_getElem? (i := 1) rfl)) (fun _ h9 => h9) rfl dX1_write_103 ?_
    refine lv_icmp_ge (tgt := 154) hx hb dX1_write_106 (by decide) (fun hc1 => ?_) (fun hc1 => ?_)
    ·
      have hlt : cn ≤ y := (nI_leI (by omega) (by omega)).mp hc1
      exact kx154 y gi (hy1) H locs ls (hP.sub [0, 1, 2, 3, 4, 5, 6] rfl) (hD.sub [0, 1, 2, 3, 4, 5, 6] (by decide) rfl) hS (lv_sub hl [1, 2, 3] rfl)
    ·
      have hlt : y < cn := by
        rcases Nat.lt_or_ge y (cn) with z | z
        · exact z
        · exact absurd (nI_le z (by omega)) hc1
      refine lv_bipush (v := 13) hx hb dX1_write_109 (by decide) ?_
      refine lv_bipush (v := 8) hx hb dX1_write_111 (by decide) ?_
      refine lv_iload_n hx hb dX1_write_113 rfl (lv_at hl 0 rfl) ?_
      refine lv_imul hx hb dX1_write_114 ?_
      refine lv_topi (fun v2 ev2 => ?_)
      obtain rfl : v2 = nI (8 * y) := ev2.trans (pk_mul 8 y)
      refine lv_iadd hx hb dX1_write_115 ?_
      refine lv_topi (fun v3 ev3 => ?_)
      obtain rfl : v3 = nI (13 + 8 * y) := ev3.trans (nI_add 13 _)
      refine lv_istore (lv' := [(4, .int (nI (13 + 8 * y))), (3, .int (nI y)), (2, .ref (ob 2)), (0, .ref (og 0)), (1, .ref (ob 0))]) hx hb dX1_write_116 hl (by decide) rfl (fun ls hl => ?_)
      refine lv_aload_n hx hb dX1_write_118 rfl (lv_at hl 3 rfl) ?_
      refine va_get (D := D) (ci := 1) (v := .ref (og 1)) (C := RX1) (T := TX1) (N := 2) hx hb hts hin_X1 hown hK hP 0 rfl rfl 1 (by decide) (hts (.fieldLink RX1 9 "ClashFree$Image" "bytes" "[I") (List.mem_of_getElem? (i := 2) rfl)) (fun _ h9 => h9) rfl dX1_write_119 ?_
      refine lv_iload hx hb dX1_write_122 (lv_at hl 0 rfl) ?_
      refine lv_aload_n hx hb dX1_write_124 rfl (lv_at hl 2 rfl) ?_
      refine lv_iload_n hx hb dX1_write_125 rfl (lv_at hl 1 rfl) ?_
      have hPc := hP.sub (ws' := [(ob 2, .inr (2, [.int (nI cn), .ref (ob 3), .ref (ob 4)])), (ob 3, .inl (cI, 160, .inl fk))]) [4, 5] rfl
      have hKc := hK.sub (tys' := [(cI, .int)]) [0] rfl
      have hFc := va_free0 hS hA
      refine va_calli (va_runV (As := [.int (nI y)]) (rest := [.int (nI (13 + 8 * y)), .ref (og 1)]) ⟨hx, hb, hml, hown, hts⟩ (k_keyAt l D _ ob cI cn fk (nI y) hc) (cwV 1 hts g_k_write_k_keyAt_50 rfl rfl rfl (by decide +kernel) ⟨(Nat.le_of_ble_eq_true rfl), (Nat.le_of_ble_eq_true rfl)⟩) (PcRC_V (q0 := 0) hPc hKc hN rfl rfl) rfl rfl hl.1 rfl (lv_room (Nat.le_of_ble_eq_true rfl)) dX1_write_126 ⟨(Nat.le_of_ble_eq_true rfl), (Nat.le_of_ble_eq_true rfl)⟩) hS (fun q _ h => hFc q h) hFc (fun r4 uu tt H locs htt hvm hw hB hz1 hk1 hS => ?_)
      have hP := va_keep hP hk1
      try dsimp only at hw
      clear hB hz1 hk1 hFc hPc hKc
      obtain ⟨hka_r4, hkb_r4⟩ := hw
      have hPc := hP.sub (ws' := [(og 1, .inl (cI, 1294, .inl gi))]) [1] rfl
      have hKc := hK.sub (tys' := [(cI, .int)]) [0] rfl
      have hDc := hD.sub (ws' := [(og 1, .inl (cI, 1294, .inl gi))]) [1] (by decide) rfl
      have hFc := va_free (wc := [(og 1, .inl (cI, 1294, .inl gi))]) hD hS hA [1] rfl
      refine va_callv (va_runSN (As := [.ref (og 1), .int (nI (13 + 8 * y)), .int r4]) (rest := []) ⟨hx, hb, hml, hown, hts⟩ (k_wiI l D _ og cI gi (13 + 8 * y) r4 (by first | assumption | omega)) ⟨va_cnB 3 hts g_k_write_k_wiI_41 rfl rfl rfl hN.1 (hts (.initialized RX10) (List.mem_of_getElem? (i := 7) rfl)) (by decide +kernel) ⟨(Nat.le_of_ble_eq_true rfl), (Nat.le_of_ble_eq_true rfl)⟩, (hts (.static yX10_writeInt) (List.mem_of_getElem? (i := 8) rfl)), trivial⟩ (PcWC_S hPc hKc hDc hN) rfl rfl hl.1 rfl (lv_room (Nat.le_of_ble_eq_true rfl)) dX1_write_129 ⟨(Nat.le_of_ble_eq_true rfl), (Nat.le_of_ble_eq_true rfl)⟩) hS (fun q _ h => hFc q h) hFc (fun uu tt H locs htt hvm hw hB hz1 hk1 hS => ?_)
      obtain ⟨w6, rfl⟩ : ∃ z, z = uu := ⟨_, rfl⟩
      obtain ⟨hP1, hK1, hD1⟩ := hB
      rw [htt] at hP1
      have hK1 := va_K.moved hvm.symm hK1
      have hP1 : va_P D vwCl [(og 1, .inl (cI, 1294, .inl w6))] H := hP1
      obtain ⟨hP, hD⟩ := va_join (wr := [(og 0, .inr (1, [.int (nI il), .ref (og 1)])), (ob 0, .inr (9, gT ob tb ts tg tl tc tr tu tv tw)), (ob 1, .inr (0, [.long sd, .int (nI da), .int (nI db), .int pr])), (ob 2, .inr (2, [.int (nI cn), .ref (ob 3), .ref (ob 4)])), (ob 3, .inl (cI, 160, .inl fk)), (ob 4, .inl (cI, 160, .inl fv))]) (w1 := [(og 1, .inl (cI, 1294, .inl w6))]) hP hD [1] [0, 2, 3, 4, 5, 6] rfl rfl (by decide) (by decide) hk1 hFc hP1 hD1
      have hP : va_P D vwCl [(og 0, .inr (1, [.int (nI il), .ref (og 1)])), (ob 0, .inr (9, gT ob tb ts tg tl tc tr tu tv tw)), (ob 1, .inr (0, [.long sd, .int (nI da), .int (nI db), .int pr])), (ob 2, .inr (2, [.int (nI cn), .ref (ob 3), .ref (ob 4)])), (ob 3, .inl (cI, 160, .inl fk)), (ob 4, .inl (cI, 160, .inl fv)), (og 1, .inl (cI, 1294, .inl w6))] H := hP
      have hD : va_D A [(og 0, .inr (1, [.int (nI il), .ref (og 1)])), (ob 0, .inr (9, gT ob tb ts tg tl tc tr tu tv tw)), (ob 1, .inr (0, [.long sd, .int (nI da), .int (nI db), .int pr])), (ob 2, .inr (2, [.int (nI cn), .ref (ob 3), .ref (ob 4)])), (ob 3, .inl (cI, 160, .inl fk)), (ob 4, .inl (cI, 160, .inl fv)), (og 1, .inl (cI, 1294, .inl w6))] := hD
      try dsimp only at hw
      clear hz1 hk1 hFc hPc hKc hDc
      refine lv_aload_n hx hb dX1_write_132 rfl (lv_at hl 3 rfl) ?_
      refine va_get (D := D) (ci := 1) (v := .ref (og 1)) (C := RX1) (T := TX1) (N := 2) hx hb hts hin_X1 hown hK hP 0 rfl rfl 1 (by decide) (hts (.fieldLink RX1 9 "ClashFree$Image" "bytes" "[I") (List.mem_of_getElem? (i := 2) rfl)) (fun _ h9 => h9) rfl dX1_write_133 ?_
      refine lv_iload hx hb dX1_write_136 (lv_at hl 0 rfl) ?_
      refine lv_iconst (v := 4) hx hb dX1_write_138 (by decide) ?_
      refine lv_iadd hx hb dX1_write_139 ?_
      refine lv_topi (fun v7 ev7 => ?_)
      obtain rfl : v7 = nI (13 + 8 * y + 4) := ev7.trans (nI_add _ 4)
      refine lv_aload_n hx hb dX1_write_140 rfl (lv_at hl 2 rfl) ?_
      refine lv_iload_n hx hb dX1_write_141 rfl (lv_at hl 1 rfl) ?_
      have hPc := hP.sub (ws' := [(ob 2, .inr (2, [.int (nI cn), .ref (ob 3), .ref (ob 4)])), (ob 4, .inl (cI, 160, .inl fv))]) [3, 5] rfl
      have hKc := hK.sub (tys' := [(cI, .int)]) [0] rfl
      have hFc := va_free0 hS hA
      refine va_calli (va_runV (As := [.int (nI y)]) (rest := [.int (nI (13 + 8 * y + 4)), .ref (og 1)]) ⟨hx, hb, hml, hown, hts⟩ (k_valueAt l D _ ob cI cn fv (nI y) hc) (cwV 1 hts g_k_write_k_valueAt_54 rfl rfl rfl (by decide +kernel) ⟨(Nat.le_of_ble_eq_true rfl), (Nat.le_of_ble_eq_true rfl)⟩) (PcRC_V (q0 := 0) hPc hKc hN rfl rfl) rfl rfl hl.1 rfl (lv_room (Nat.le_of_ble_eq_true rfl)) dX1_write_142 ⟨(Nat.le_of_ble_eq_true rfl), (Nat.le_of_ble_eq_true rfl)⟩) hS (fun q _ h => hFc q h) hFc (fun r8 uu tt H locs htt hvm hw hB hz1 hk1 hS => ?_)
      have hP := va_keep hP hk1
      try dsimp only at hw
      clear hB hz1 hk1 hFc hPc hKc
      have hva_r8 := hw
      have hPc := hP.sub (ws' := [(og 1, .inl (cI, 1294, .inl w6))]) [6] rfl
      have hKc := hK.sub (tys' := [(cI, .int)]) [0] rfl
      have hDc := hD.sub (ws' := [(og 1, .inl (cI, 1294, .inl w6))]) [6] (by decide) rfl
      have hFc := va_free (wc := [(og 1, .inl (cI, 1294, .inl w6))]) hD hS hA [6] rfl
      refine va_callv (va_runSN (As := [.ref (og 1), .int (nI (13 + 8 * y + 4)), .int r8]) (rest := []) ⟨hx, hb, hml, hown, hts⟩ (k_wiI l D _ og cI w6 (13 + 8 * y + 4) r8 (by first | assumption | omega)) ⟨va_cnB 3 hts g_k_write_k_wiI_41 rfl rfl rfl hN.1 (hts (.initialized RX10) (List.mem_of_getElem? (i := 7) rfl)) (by decide +kernel) ⟨(Nat.le_of_ble_eq_true rfl), (Nat.le_of_ble_eq_true rfl)⟩, (hts (.static yX10_writeInt) (List.mem_of_getElem? (i := 8) rfl)), trivial⟩ (PcWC_S hPc hKc hDc hN) rfl rfl hl.1 rfl (lv_room (Nat.le_of_ble_eq_true rfl)) dX1_write_145 ⟨(Nat.le_of_ble_eq_true rfl), (Nat.le_of_ble_eq_true rfl)⟩) hS (fun q _ h => hFc q h) hFc (fun uu tt H locs htt hvm hw hB hz1 hk1 hS => ?_)
      obtain ⟨w10, rfl⟩ : ∃ z, z = uu := ⟨_, rfl⟩
      obtain ⟨hP1, hK1, hD1⟩ := hB
      rw [htt] at hP1
      have hK1 := va_K.moved hvm.symm hK1
      have hP1 : va_P D vwCl [(og 1, .inl (cI, 1294, .inl w10))] H := hP1
      obtain ⟨hP, hD⟩ := va_join (wr := [(og 0, .inr (1, [.int (nI il), .ref (og 1)])), (ob 0, .inr (9, gT ob tb ts tg tl tc tr tu tv tw)), (ob 1, .inr (0, [.long sd, .int (nI da), .int (nI db), .int pr])), (ob 2, .inr (2, [.int (nI cn), .ref (ob 3), .ref (ob 4)])), (ob 3, .inl (cI, 160, .inl fk)), (ob 4, .inl (cI, 160, .inl fv))]) (w1 := [(og 1, .inl (cI, 1294, .inl w10))]) hP hD [6] [0, 1, 2, 3, 4, 5] rfl rfl (by decide) (by decide) hk1 hFc hP1 hD1
      have hP : va_P D vwCl [(og 0, .inr (1, [.int (nI il), .ref (og 1)])), (ob 0, .inr (9, gT ob tb ts tg tl tc tr tu tv tw)), (ob 1, .inr (0, [.long sd, .int (nI da), .int (nI db), .int pr])), (ob 2, .inr (2, [.int (nI cn), .ref (ob 3), .ref (ob 4)])), (ob 3, .inl (cI, 160, .inl fk)), (ob 4, .inl (cI, 160, .inl fv)), (og 1, .inl (cI, 1294, .inl w10))] H := hP
      have hD : va_D A [(og 0, .inr (1, [.int (nI il), .ref (og 1)])), (ob 0, .inr (9, gT ob tb ts tg tl tc tr tu tv tw)), (ob 1, .inr (0, [.long sd, .int (nI da), .int (nI db), .int pr])), (ob 2, .inr (2, [.int (nI cn), .ref (ob 3), .ref (ob 4)])), (ob 3, .inl (cI, 160, .inl fk)), (ob 4, .inl (cI, 160, .inl fv)), (og 1, .inl (cI, 1294, .inl w10))] := hD
      try dsimp only at hw
      clear hz1 hk1 hFc hPc hKc hDc
      refine lv_iinc (v := nI (y + 1)) (lv' := [(3, .int (nI (y + 1))), (4, .int (nI (13 + 8 * y))), (2, .ref (ob 2)), (0, .ref (og 0)), (1, .ref (ob 0))]) hx hb dX1_write_148 hl (k := 1) rfl (nI_1 _) (by decide) rfl (fun ls hl => ?_)
      refine lv_goto (tgt := 101) hx hb dX1_write_151 (by decide) ?_
      exact ih (y + 1) w10 (by omega) (by omega) H locs ls (hP.sub [0, 6, 1, 2, 3, 4, 5] rfl) (hD.sub [0, 6, 1, 2, 3, 4, 5] (by decide) rfl) hS (lv_sub hl [0, 2, 3, 4] rfl)
set_option maxHeartbeats 4000000 in
set_option maxRecDepth 100000 in
theorem k_write (l : Launch) (D : va_G) (sz : Nat) (og : Nat → Nat) (ob : Nat → Nat) (cI : ClassId) (il : Nat) (fi : Nat → Int32) (tb : Int32) (ts : Int32) (tg : Int32) (tl : Int32) (tc : Int32) (tr : Int32) (tu : Int32) (tv : Int32) (tw : Int32) (sd : Int64) (da : Nat) (db : Nat) (pr : Int32) (cn : Nat) (fk : Nat → Int32) (fv : Nat → Int32) (hc : cn ≤ 160) : Met l yX1_write wp_k_write ({ frames := 1, cells := 0, slots := 0, locals := 60 }) (PcWC D [.ref (og 0), .ref (ob 0)] sz [(og 0, .inr (1, [.int (nI il), .ref (og 1)])), (og 1, .inl (cI, 1294, .inl fi)), (ob 0, .inr (9, gT ob tb ts tg tl tc tr tu tv tw)), (ob 1, .inr (0, [.long sd, .int (nI da), .int (nI db), .int pr])), (ob 2, .inr (2, [.int (nI cn), .ref (ob 3), .ref (ob 4)])), (ob 3, .inl (cI, 160, .inl fk)), (ob 4, .inl (cI, 160, .inl fv))] [(cI, .int)]) (va_Qv (fun (u : (Nat) × (Nat → Int32)) => u.1 ≤ 1294 ∧ u.1 = 14 + 8 * cn) (fun (u : (Nat) × (Nat → Int32)) t => va_P D vwCl [(og 0, .inr (1, [.int (nI u.1), .ref (og 1)])), (og 1, .inl (cI, 1294, .inl u.2)), (ob 0, .inr (9, gT ob tb ts tg tl tc tr tu tv tw)), (ob 1, .inr (0, [.long sd, .int (nI da), .int (nI db), .int pr])), (ob 2, .inr (2, [.int (nI cn), .ref (ob 3), .ref (ob 4)])), (ob 3, .inl (cI, 160, .inl fk)), (ob 4, .inl (cI, 160, .inl fv))] t.heap ∧ va_K D vwCl [(cI, .int)] t ∧ va_D (va_A [(og 0, .inr (1, [.int (nI il), .ref (og 1)])), (og 1, .inl (cI, 1294, .inl fi)), (ob 0, .inr (9, gT ob tb ts tg tl tc tr tu tv tw)), (ob 1, .inr (0, [.long sd, .int (nI da), .int (nI db), .int pr])), (ob 2, .inr (2, [.int (nI cn), .ref (ob 3), .ref (ob 4)])), (ob 3, .inl (cI, 160, .inl fk)), (ob 4, .inl (cI, 160, .inl fv))] sz) [(og 0, .inr (1, [.int (nI u.1), .ref (og 1)])), (og 1, .inl (cI, 1294, .inl u.2)), (ob 0, .inr (9, gT ob tb ts tg tl tc tr tu tv tw)), (ob 1, .inr (0, [.long sd, .int (nI da), .int (nI db), .int pr])), (ob 2, .inr (2, [.int (nI cn), .ref (ob 3), .ref (ob 4)])), (ob 3, .inl (cI, 160, .inl fk)), (ob 4, .inl (cI, 160, .inl fv))]) (va_A [(og 0, .inr (1, [.int (nI il), .ref (og 1)])), (og 1, .inl (cI, 1294, .inl fi)), (ob 0, .inr (9, gT ob tb ts tg tl tc tr tu tv tw)), (ob 1, .inr (0, [.long sd, .int (nI da), .int (nI db), .int pr])), (ob 2, .inr (2, [.int (nI cn), .ref (ob 3), .ref (ob 4)])), (ob 3, .inl (cI, 160, .inl fk)), (ob 4, .inl (cI, 160, .inl fv))] sz)) 0 0 (va_A [(og 0, .inr (1, [.int (nI il), .ref (og 1)])), (og 1, .inl (cI, 1294, .inl fi)), (ob 0, .inr (9, gT ob tb ts tg tl tc tr tu tv tw)), (ob 1, .inr (0, [.long sd, .int (nI da), .int (nI db), .int pr])), (ob 2, .inr (2, [.int (nI cn), .ref (ob 3), .ref (ob 4)])), (ob 3, .inl (cI, 160, .inl fk)), (ob 4, .inl (cI, 160, .inl fv))] sz) := by
  refine Met.ofW (cc := cX1_write) (maxL := 5) (ret := none) (by decide) rfl ?_
  intro p e s m args below meth c s₁ B hml hv
  obtain ⟨rfl, hsz, hP, hK, hD0, hN⟩ := hv
  have hx := B.exec
  have hb := B.bytes
  have hr := B.returns
  have hts := atoms_spec (ws := wp_k_write) B.pre
  have hin_X2 : ∀ w ∈ wsX20, w ∈ wp_k_write := fun _ h => (List.mem_cons_of_mem _ (List.mem_append_right _ (List.mem_append_right _ (List.mem_append_right _ (List.mem_append_right _ (List.mem_append_right _ (List.mem_append_left _ h)))))))
  have hin_X1 : ∀ w ∈ wsX10, w ∈ wp_k_write := fun _ h => (List.mem_cons_of_mem _ (List.mem_append_right _ (List.mem_append_right _ (List.mem_append_right _ (List.mem_append_right _ (List.mem_append_right _ (List.mem_append_right _ (List.mem_append_left _ h))))))))
  have hin_X9 : ∀ w ∈ wsX90, w ∈ wp_k_write := fun _ h => (List.mem_cons_of_mem _ (List.mem_append_right _ (List.mem_append_right _ (List.mem_append_right _ (List.mem_append_right _ (List.mem_append_right _ (List.mem_append_right _ (List.mem_append_right _ (List.mem_append_left _ h)))))))))
  have hin_X0 : ∀ w ∈ wsX00, w ∈ wp_k_write := fun _ h => (List.mem_cons_of_mem _ (List.mem_append_right _ (List.mem_append_right _ (List.mem_append_right _ (List.mem_append_right _ (List.mem_append_right _ (List.mem_append_right _ (List.mem_append_right _ (List.mem_append_right _ (List.mem_append_left _ h))))))))))
  have hown : s.vm.findClass RX1 = some m.cls := findClass_of_methodNamed B.named
  have hlocks := B.notSynchronized
  subst hsz
  have hD := hD0.self (sz := s.heap.size)
  generalize hAe : va_A [(og 0, .inr (1, [.int (nI il), .ref (og 1)])), (og 1, .inl (cI, 1294, .inl fi)), (ob 0, .inr (9, gT ob tb ts tg tl tc tr tu tv tw)), (ob 1, .inr (0, [.long sd, .int (nI da), .int (nI db), .int pr])), (ob 2, .inr (2, [.int (nI cn), .ref (ob 3), .ref (ob 4)])), (ob 3, .inl (cI, 160, .inl fk)), (ob 4, .inl (cI, 160, .inl fv))] s.heap.size = A at hD ⊢
  have hA : ∀ q : Nat, s.heap.size ≤ q → A q := fun q h => by rw [← hAe]; exact Or.inr h
  have hS : va_S A s.heap s.heap [] := va_S.rf
  have hP : va_P D vwCl [(og 0, .inr (1, [.int (nI il), .ref (og 1)])), (og 1, .inl (cI, 1294, .inl fi)), (ob 0, .inr (9, gT ob tb ts tg tl tc tr tu tv tw)), (ob 1, .inr (0, [.long sd, .int (nI da), .int (nI db), .int pr])), (ob 2, .inr (2, [.int (nI cn), .ref (ob 3), .ref (ob 4)])), (ob 3, .inl (cI, 160, .inl fk)), (ob 4, .inl (cI, 160, .inl fv))] s.heap := hP
  have hl := lv_entry ([.ref (og 0), .ref (ob 0)]) (n := 5) (Nat.le_of_ble_eq_true rfl)
  rw [lg_entry_eq]
  generalize (lg_sl ([.ref (og 0), .ref (ob 0)]) ++ List.replicate (5 - (lg_sl ([.ref (og 0), .ref (ob 0)])).length) Slot.unset).toArray = ls at hl ⊢
  have hl : lv_has ls 5 [(0, .ref (og 0)), (1, .ref (ob 0))] := hl
  refine lv_aload_n hx hb dX1_write_0 rfl (lv_at hl 1 rfl) ?_
  refine va_get (D := D) (ci := 9) (v := .ref (ob 2)) (C := RX9) (T := TX9) (N := 12) hx hb hts hin_X9 hown hK hP 2 rfl rfl 10 (by decide) (hts (.fieldLink RX1 15 "ClashFree$Table" "keys" "LClashFree$Keys;") (List.mem_of_getElem? (i := 12) rfl)) (fun _ h9 => h9) rfl dX1_write_1 ?_
  refine lv_astore_n (lv' := [(2, .ref (ob 2)), (0, .ref (og 0)), (1, .ref (ob 0))]) hx hb dX1_write_4 rfl hl (by decide) rfl (fun ls hl => ?_)
  refine lv_aload_n hx hb dX1_write_5 rfl (lv_at hl 1 rfl) ?_
  refine va_get (D := D) (ci := 1) (v := .ref (og 1)) (C := RX1) (T := TX1) (N := 2) hx hb hts hin_X1 hown hK hP 0 rfl rfl 1 (by decide) (hts (.fieldLink RX1 9 "ClashFree$Image" "bytes" "[I") (List.mem_of_getElem? (i := 2) rfl)) (fun _ h9 => h9) rfl dX1_write_6 ?_
  refine lv_iconst (v := 0) hx hb dX1_write_9 (by decide) ?_
  refine lv_aload_n hx hb dX1_write_10 rfl (lv_at hl 2 rfl) ?_
  refine va_get (D := D) (ci := 9) (v := .int tb) (C := RX9) (T := TX9) (N := 12) hx hb hts hin_X9 hown hK hP 2 rfl rfl 0 (by decide) (hts (.fieldLink RX1 21 "ClashFree$Table" "bound" "I") (List.mem_of_getElem? (i := 13) rfl)) (fun _ h9 => h9) rfl dX1_write_11 ?_
  refine va_iast hx hb hK hP hD hS 1 0 rfl rfl (show ¬ ((0 : Int32) < 0 ∨ 1294 ≤ Int32.toNatClampNeg 0) by decide) dX1_write_14 (fun H locs hP hD hS => ?_)
  have hP : va_P D vwCl [(og 0, .inr (1, [.int (nI il), .ref (og 1)])), (og 1, .inl (cI, 1294, .inl (upd fi (Int32.toNatClampNeg 0) tb))), (ob 0, .inr (9, gT ob tb ts tg tl tc tr tu tv tw)), (ob 1, .inr (0, [.long sd, .int (nI da), .int (nI db), .int pr])), (ob 2, .inr (2, [.int (nI cn), .ref (ob 3), .ref (ob 4)])), (ob 3, .inl (cI, 160, .inl fk)), (ob 4, .inl (cI, 160, .inl fv))] H := hP
  have hD : va_D A [(og 0, .inr (1, [.int (nI il), .ref (og 1)])), (og 1, .inl (cI, 1294, .inl (upd fi (Int32.toNatClampNeg 0) tb))), (ob 0, .inr (9, gT ob tb ts tg tl tc tr tu tv tw)), (ob 1, .inr (0, [.long sd, .int (nI da), .int (nI db), .int pr])), (ob 2, .inr (2, [.int (nI cn), .ref (ob 3), .ref (ob 4)])), (ob 3, .inl (cI, 160, .inl fk)), (ob 4, .inl (cI, 160, .inl fv))] := hD
  generalize upd fi (Int32.toNatClampNeg 0) tb = g1 at hP hD
  refine lv_aload_n hx hb dX1_write_15 rfl (lv_at hl 1 rfl) ?_
  refine va_get (D := D) (ci := 1) (v := .ref (og 1)) (C := RX1) (T := TX1) (N := 2) hx hb hts hin_X1 hown hK hP 0 rfl rfl 1 (by decide) (hts (.fieldLink RX1 9 "ClashFree$Image" "bytes" "[I") (List.mem_of_getElem? (i := 2) rfl)) (fun _ h9 => h9) rfl dX1_write_16 ?_
  refine lv_iconst (v := 1) hx hb dX1_write_19 (by decide) ?_
  refine lv_aload_n hx hb dX1_write_20 rfl (lv_at hl 2 rfl) ?_
  refine va_get (D := D) (ci := 9) (v := .int ts) (C := RX9) (T := TX9) (N := 12) hx hb hts hin_X9 hown hK hP 2 rfl rfl 1 (by decide) (hts (.fieldLink RX1 25 "ClashFree$Table" "spread" "I") (List.mem_of_getElem? (i := 14) rfl)) (fun _ h9 => h9) rfl dX1_write_21 ?_
  refine lv_bipush (v := 8) hx hb dX1_write_24 (by decide) ?_
  refine lv_iushr hx hb dX1_write_26 rfl ?_
  refine lv_topi (fun v2 ev2 => ?_)
  refine va_iast hx hb hK hP hD hS 1 0 rfl rfl (show ¬ ((1 : Int32) < 0 ∨ 1294 ≤ Int32.toNatClampNeg 1) by decide) dX1_write_27 (fun H locs hP hD hS => ?_)
  have hP : va_P D vwCl [(og 0, .inr (1, [.int (nI il), .ref (og 1)])), (og 1, .inl (cI, 1294, .inl (upd g1 (Int32.toNatClampNeg 1) v2))), (ob 0, .inr (9, gT ob tb ts tg tl tc tr tu tv tw)), (ob 1, .inr (0, [.long sd, .int (nI da), .int (nI db), .int pr])), (ob 2, .inr (2, [.int (nI cn), .ref (ob 3), .ref (ob 4)])), (ob 3, .inl (cI, 160, .inl fk)), (ob 4, .inl (cI, 160, .inl fv))] H := hP
  have hD : va_D A [(og 0, .inr (1, [.int (nI il), .ref (og 1)])), (og 1, .inl (cI, 1294, .inl (upd g1 (Int32.toNatClampNeg 1) v2))), (ob 0, .inr (9, gT ob tb ts tg tl tc tr tu tv tw)), (ob 1, .inr (0, [.long sd, .int (nI da), .int (nI db), .int pr])), (ob 2, .inr (2, [.int (nI cn), .ref (ob 3), .ref (ob 4)])), (ob 3, .inl (cI, 160, .inl fk)), (ob 4, .inl (cI, 160, .inl fv))] := hD
  generalize upd g1 (Int32.toNatClampNeg 1) v2 = g3 at hP hD
  refine lv_aload_n hx hb dX1_write_28 rfl (lv_at hl 1 rfl) ?_
  refine va_get (D := D) (ci := 1) (v := .ref (og 1)) (C := RX1) (T := TX1) (N := 2) hx hb hts hin_X1 hown hK hP 0 rfl rfl 1 (by decide) (hts (.fieldLink RX1 9 "ClashFree$Image" "bytes" "[I") (List.mem_of_getElem? (i := 2) rfl)) (fun _ h9 => h9) rfl dX1_write_29 ?_
  refine lv_iconst (v := 2) hx hb dX1_write_32 (by decide) ?_
  refine lv_aload_n hx hb dX1_write_33 rfl (lv_at hl 2 rfl) ?_
  refine va_get (D := D) (ci := 9) (v := .int ts) (C := RX9) (T := TX9) (N := 12) hx hb hts hin_X9 hown hK hP 2 rfl rfl 1 (by decide) (hts (.fieldLink RX1 25 "ClashFree$Table" "spread" "I") (List.mem_of_getElem? (i := 14) rfl)) (fun _ h9 => h9) rfl dX1_write_34 ?_
  refine lv_sipush (v := 255) hx hb dX1_write_37 (by decide) ?_
  refine lv_iand hx hb dX1_write_40 ?_
  refine lv_topi (fun v4 ev4 => ?_)
  refine va_iast hx hb hK hP hD hS 1 0 rfl rfl (show ¬ ((2 : Int32) < 0 ∨ 1294 ≤ Int32.toNatClampNeg 2) by decide) dX1_write_41 (fun H locs hP hD hS => ?_)
  have hP : va_P D vwCl [(og 0, .inr (1, [.int (nI il), .ref (og 1)])), (og 1, .inl (cI, 1294, .inl (upd g3 (Int32.toNatClampNeg 2) v4))), (ob 0, .inr (9, gT ob tb ts tg tl tc tr tu tv tw)), (ob 1, .inr (0, [.long sd, .int (nI da), .int (nI db), .int pr])), (ob 2, .inr (2, [.int (nI cn), .ref (ob 3), .ref (ob 4)])), (ob 3, .inl (cI, 160, .inl fk)), (ob 4, .inl (cI, 160, .inl fv))] H := hP
  have hD : va_D A [(og 0, .inr (1, [.int (nI il), .ref (og 1)])), (og 1, .inl (cI, 1294, .inl (upd g3 (Int32.toNatClampNeg 2) v4))), (ob 0, .inr (9, gT ob tb ts tg tl tc tr tu tv tw)), (ob 1, .inr (0, [.long sd, .int (nI da), .int (nI db), .int pr])), (ob 2, .inr (2, [.int (nI cn), .ref (ob 3), .ref (ob 4)])), (ob 3, .inl (cI, 160, .inl fk)), (ob 4, .inl (cI, 160, .inl fv))] := hD
  generalize upd g3 (Int32.toNatClampNeg 2) v4 = g5 at hP hD
  refine lv_aload_n hx hb dX1_write_42 rfl (lv_at hl 1 rfl) ?_
  refine va_get (D := D) (ci := 1) (v := .ref (og 1)) (C := RX1) (T := TX1) (N := 2) hx hb hts hin_X1 hown hK hP 0 rfl rfl 1 (by decide) (hts (.fieldLink RX1 9 "ClashFree$Image" "bytes" "[I") (List.mem_of_getElem? (i := 2) rfl)) (fun _ h9 => h9) rfl dX1_write_43 ?_
  refine lv_iconst (v := 3) hx hb dX1_write_46 (by decide) ?_
  refine lv_aload_n hx hb dX1_write_47 rfl (lv_at hl 2 rfl) ?_
  refine va_get (D := D) (ci := 9) (v := .int tg) (C := RX9) (T := TX9) (N := 12) hx hb hts hin_X9 hown hK hP 2 rfl rfl 2 (by decide) (hts (.fieldLink RX1 28 "ClashFree$Table" "growth" "I") (List.mem_of_getElem? (i := 15) rfl)) (fun _ h9 => h9) rfl dX1_write_48 ?_
  refine va_iast hx hb hK hP hD hS 1 0 rfl rfl (show ¬ ((3 : Int32) < 0 ∨ 1294 ≤ Int32.toNatClampNeg 3) by decide) dX1_write_51 (fun H locs hP hD hS => ?_)
  have hP : va_P D vwCl [(og 0, .inr (1, [.int (nI il), .ref (og 1)])), (og 1, .inl (cI, 1294, .inl (upd g5 (Int32.toNatClampNeg 3) tg))), (ob 0, .inr (9, gT ob tb ts tg tl tc tr tu tv tw)), (ob 1, .inr (0, [.long sd, .int (nI da), .int (nI db), .int pr])), (ob 2, .inr (2, [.int (nI cn), .ref (ob 3), .ref (ob 4)])), (ob 3, .inl (cI, 160, .inl fk)), (ob 4, .inl (cI, 160, .inl fv))] H := hP
  have hD : va_D A [(og 0, .inr (1, [.int (nI il), .ref (og 1)])), (og 1, .inl (cI, 1294, .inl (upd g5 (Int32.toNatClampNeg 3) tg))), (ob 0, .inr (9, gT ob tb ts tg tl tc tr tu tv tw)), (ob 1, .inr (0, [.long sd, .int (nI da), .int (nI db), .int pr])), (ob 2, .inr (2, [.int (nI cn), .ref (ob 3), .ref (ob 4)])), (ob 3, .inl (cI, 160, .inl fk)), (ob 4, .inl (cI, 160, .inl fv))] := hD
  generalize upd g5 (Int32.toNatClampNeg 3) tg = g6 at hP hD
  refine lv_aload_n hx hb dX1_write_52 rfl (lv_at hl 1 rfl) ?_
  refine va_get (D := D) (ci := 1) (v := .ref (og 1)) (C := RX1) (T := TX1) (N := 2) hx hb hts hin_X1 hown hK hP 0 rfl rfl 1 (by decide) (hts (.fieldLink RX1 9 "ClashFree$Image" "bytes" "[I") (List.mem_of_getElem? (i := 2) rfl)) (fun _ h9 => h9) rfl dX1_write_53 ?_
  refine lv_iconst (v := 4) hx hb dX1_write_56 (by decide) ?_
  refine lv_aload_n hx hb dX1_write_57 rfl (lv_at hl 2 rfl) ?_
  refine va_get (D := D) (ci := 9) (v := .ref (ob 1)) (C := RX9) (T := TX9) (N := 12) hx hb hts hin_X9 hown hK hP 2 rfl rfl 9 (by decide) (hts (.fieldLink RX1 31 "ClashFree$Table" "draw" "LClashFree$Draw;") (List.mem_of_getElem? (i := 16) rfl)) (fun _ h9 => h9) rfl dX1_write_58 ?_
  refine va_get (D := D) (ci := 0) (v := .long sd) (C := RX0) (T := TX0) (N := 4) hx hb hts hin_X0 hown hK hP 3 rfl rfl 0 (by decide) (hts (.fieldLink RX1 35 "ClashFree$Draw" "s" "J") (List.mem_of_getElem? (i := 17) rfl)) (fun _ h9 => h9) rfl dX1_write_61 ?_
  refine lv_bipush (v := 32) hx hb dX1_write_64 (by decide) ?_
  refine lv_lushr hx hb dX1_write_66 rfl ?_
  refine lv_topl (fun v7 ev7 => ?_)
  refine lv_l2i hx hb dX1_write_67 rfl ?_
  refine lv_topi (fun v8 ev8 => ?_)
  have hPc := hP.sub (ws' := [(og 1, .inl (cI, 1294, .inl g6))]) [1] rfl
  have hKc := hK.sub (tys' := [(cI, .int)]) [0] rfl
  have hDc := hD.sub (ws' := [(og 1, .inl (cI, 1294, .inl g6))]) [1] (by decide) rfl
  have hFc := va_free (wc := [(og 1, .inl (cI, 1294, .inl g6))]) hD hS hA [1] rfl
  refine va_callv (va_runSN (As := [.ref (og 1), .int (nI 4), .int v8]) (rest := []) ⟨hx, hb, hml, hown, hts⟩ (k_wiI l D _ og cI g6 4 v8 (by first | assumption | omega)) ⟨va_cnB 3 hts g_k_write_k_wiI_41 rfl rfl rfl hN.1 (hts (.initialized RX10) (List.mem_of_getElem? (i := 7) rfl)) (by decide +kernel) ⟨(Nat.le_of_ble_eq_true rfl), (Nat.le_of_ble_eq_true rfl)⟩, (hts (.static yX10_writeInt) (List.mem_of_getElem? (i := 8) rfl)), trivial⟩ (PcWC_S hPc hKc hDc hN) rfl rfl hl.1 rfl (lv_room (Nat.le_of_ble_eq_true rfl)) dX1_write_68 ⟨(Nat.le_of_ble_eq_true rfl), (Nat.le_of_ble_eq_true rfl)⟩) hS (fun q _ h => hFc q h) hFc (fun uu tt H locs htt hvm hw hB hz1 hk1 hS => ?_)
  obtain ⟨w10, rfl⟩ : ∃ z, z = uu := ⟨_, rfl⟩
  obtain ⟨hP1, hK1, hD1⟩ := hB
  rw [htt] at hP1
  have hK1 := va_K.moved hvm.symm hK1
  have hP1 : va_P D vwCl [(og 1, .inl (cI, 1294, .inl w10))] H := hP1
  obtain ⟨hP, hD⟩ := va_join (wr := [(og 0, .inr (1, [.int (nI il), .ref (og 1)])), (ob 0, .inr (9, gT ob tb ts tg tl tc tr tu tv tw)), (ob 1, .inr (0, [.long sd, .int (nI da), .int (nI db), .int pr])), (ob 2, .inr (2, [.int (nI cn), .ref (ob 3), .ref (ob 4)])), (ob 3, .inl (cI, 160, .inl fk)), (ob 4, .inl (cI, 160, .inl fv))]) (w1 := [(og 1, .inl (cI, 1294, .inl w10))]) hP hD [1] [0, 2, 3, 4, 5, 6] rfl rfl (by decide) (by decide) hk1 hFc hP1 hD1
  have hP : va_P D vwCl [(og 0, .inr (1, [.int (nI il), .ref (og 1)])), (ob 0, .inr (9, gT ob tb ts tg tl tc tr tu tv tw)), (ob 1, .inr (0, [.long sd, .int (nI da), .int (nI db), .int pr])), (ob 2, .inr (2, [.int (nI cn), .ref (ob 3), .ref (ob 4)])), (ob 3, .inl (cI, 160, .inl fk)), (ob 4, .inl (cI, 160, .inl fv)), (og 1, .inl (cI, 1294, .inl w10))] H := hP
  have hD : va_D A [(og 0, .inr (1, [.int (nI il), .ref (og 1)])), (ob 0, .inr (9, gT ob tb ts tg tl tc tr tu tv tw)), (ob 1, .inr (0, [.long sd, .int (nI da), .int (nI db), .int pr])), (ob 2, .inr (2, [.int (nI cn), .ref (ob 3), .ref (ob 4)])), (ob 3, .inl (cI, 160, .inl fk)), (ob 4, .inl (cI, 160, .inl fv)), (og 1, .inl (cI, 1294, .inl w10))] := hD
  try dsimp only at hw
  clear hz1 hk1 hFc hPc hKc hDc
  refine lv_aload_n hx hb dX1_write_71 rfl (lv_at hl 1 rfl) ?_
  refine va_get (D := D) (ci := 1) (v := .ref (og 1)) (C := RX1) (T := TX1) (N := 2) hx hb hts hin_X1 hown hK hP 0 rfl rfl 1 (by decide) (hts (.fieldLink RX1 9 "ClashFree$Image" "bytes" "[I") (List.mem_of_getElem? (i := 2) rfl)) (fun _ h9 => h9) rfl dX1_write_72 ?_
  refine lv_bipush (v := 8) hx hb dX1_write_75 (by decide) ?_
  refine lv_aload_n hx hb dX1_write_77 rfl (lv_at hl 2 rfl) ?_
  refine va_get (D := D) (ci := 9) (v := .ref (ob 1)) (C := RX9) (T := TX9) (N := 12) hx hb hts hin_X9 hown hK hP 1 rfl rfl 9 (by decide) (hts (.fieldLink RX1 31 "ClashFree$Table" "draw" "LClashFree$Draw;") (List.mem_of_getElem? (i := 16) rfl)) (fun _ h9 => h9) rfl dX1_write_78 ?_
  refine va_get (D := D) (ci := 0) (v := .long sd) (C := RX0) (T := TX0) (N := 4) hx hb hts hin_X0 hown hK hP 2 rfl rfl 0 (by decide) (hts (.fieldLink RX1 35 "ClashFree$Draw" "s" "J") (List.mem_of_getElem? (i := 17) rfl)) (fun _ h9 => h9) rfl dX1_write_81 ?_
  refine lv_l2i hx hb dX1_write_84 rfl ?_
  refine lv_topi (fun v11 ev11 => ?_)
  have hPc := hP.sub (ws' := [(og 1, .inl (cI, 1294, .inl w10))]) [6] rfl
  have hKc := hK.sub (tys' := [(cI, .int)]) [0] rfl
  have hDc := hD.sub (ws' := [(og 1, .inl (cI, 1294, .inl w10))]) [6] (by decide) rfl
  have hFc := va_free (wc := [(og 1, .inl (cI, 1294, .inl w10))]) hD hS hA [6] rfl
  refine va_callv (va_runSN (As := [.ref (og 1), .int (nI 8), .int v11]) (rest := []) ⟨hx, hb, hml, hown, hts⟩ (k_wiI l D _ og cI w10 8 v11 (by first | assumption | omega)) ⟨va_cnB 3 hts g_k_write_k_wiI_41 rfl rfl rfl hN.1 (hts (.initialized RX10) (List.mem_of_getElem? (i := 7) rfl)) (by decide +kernel) ⟨(Nat.le_of_ble_eq_true rfl), (Nat.le_of_ble_eq_true rfl)⟩, (hts (.static yX10_writeInt) (List.mem_of_getElem? (i := 8) rfl)), trivial⟩ (PcWC_S hPc hKc hDc hN) rfl rfl hl.1 rfl (lv_room (Nat.le_of_ble_eq_true rfl)) dX1_write_85 ⟨(Nat.le_of_ble_eq_true rfl), (Nat.le_of_ble_eq_true rfl)⟩) hS (fun q _ h => hFc q h) hFc (fun uu tt H locs htt hvm hw hB hz1 hk1 hS => ?_)
  obtain ⟨w13, rfl⟩ : ∃ z, z = uu := ⟨_, rfl⟩
  obtain ⟨hP1, hK1, hD1⟩ := hB
  rw [htt] at hP1
  have hK1 := va_K.moved hvm.symm hK1
  have hP1 : va_P D vwCl [(og 1, .inl (cI, 1294, .inl w13))] H := hP1
  obtain ⟨hP, hD⟩ := va_join (wr := [(og 0, .inr (1, [.int (nI il), .ref (og 1)])), (ob 0, .inr (9, gT ob tb ts tg tl tc tr tu tv tw)), (ob 1, .inr (0, [.long sd, .int (nI da), .int (nI db), .int pr])), (ob 2, .inr (2, [.int (nI cn), .ref (ob 3), .ref (ob 4)])), (ob 3, .inl (cI, 160, .inl fk)), (ob 4, .inl (cI, 160, .inl fv))]) (w1 := [(og 1, .inl (cI, 1294, .inl w13))]) hP hD [6] [0, 1, 2, 3, 4, 5] rfl rfl (by decide) (by decide) hk1 hFc hP1 hD1
  have hP : va_P D vwCl [(og 0, .inr (1, [.int (nI il), .ref (og 1)])), (ob 0, .inr (9, gT ob tb ts tg tl tc tr tu tv tw)), (ob 1, .inr (0, [.long sd, .int (nI da), .int (nI db), .int pr])), (ob 2, .inr (2, [.int (nI cn), .ref (ob 3), .ref (ob 4)])), (ob 3, .inl (cI, 160, .inl fk)), (ob 4, .inl (cI, 160, .inl fv)), (og 1, .inl (cI, 1294, .inl w13))] H := hP
  have hD : va_D A [(og 0, .inr (1, [.int (nI il), .ref (og 1)])), (ob 0, .inr (9, gT ob tb ts tg tl tc tr tu tv tw)), (ob 1, .inr (0, [.long sd, .int (nI da), .int (nI db), .int pr])), (ob 2, .inr (2, [.int (nI cn), .ref (ob 3), .ref (ob 4)])), (ob 3, .inl (cI, 160, .inl fk)), (ob 4, .inl (cI, 160, .inl fv)), (og 1, .inl (cI, 1294, .inl w13))] := hD
  try dsimp only at hw
  clear hz1 hk1 hFc hPc hKc hDc
  refine lv_aload_n hx hb dX1_write_88 rfl (lv_at hl 1 rfl) ?_
  refine va_get (D := D) (ci := 1) (v := .ref (og 1)) (C := RX1) (T := TX1) (N := 2) hx hb hts hin_X1 hown hK hP 0 rfl rfl 1 (by decide) (hts (.fieldLink RX1 9 "ClashFree$Image" "bytes" "[I") (List.mem_of_getElem? (i := 2) rfl)) (fun _ h9 => h9) rfl dX1_write_89 ?_
  refine lv_bipush (v := 12) hx hb dX1_write_92 (by decide) ?_
  refine lv_aload_n hx hb dX1_write_94 rfl (lv_at hl 0 rfl) ?_
  refine va_get (D := D) (ci := 2) (v := .int (nI cn)) (C := RX2) (T := TX2) (N := 3) hx hb hts hin_X2 hown hK hP 3 rfl rfl 0 (by decide) (hts (.fieldLink RX1 45 "ClashFree$Keys" "size" "I") (List.mem_of_getElem? (i := 1) rfl)) (fun _ h9 => h9) rfl dX1_write_95 ?_
  refine va_iast hx hb hK hP hD hS 6 0 rfl rfl (show ¬ ((12 : Int32) < 0 ∨ 1294 ≤ Int32.toNatClampNeg 12) by decide) dX1_write_98 (fun H locs hP hD hS => ?_)
  have hP : va_P D vwCl [(og 0, .inr (1, [.int (nI il), .ref (og 1)])), (ob 0, .inr (9, gT ob tb ts tg tl tc tr tu tv tw)), (ob 1, .inr (0, [.long sd, .int (nI da), .int (nI db), .int pr])), (ob 2, .inr (2, [.int (nI cn), .ref (ob 3), .ref (ob 4)])), (ob 3, .inl (cI, 160, .inl fk)), (ob 4, .inl (cI, 160, .inl fv)), (og 1, .inl (cI, 1294, .inl (upd w13 (Int32.toNatClampNeg 12) (nI cn))))] H := hP
  have hD : va_D A [(og 0, .inr (1, [.int (nI il), .ref (og 1)])), (ob 0, .inr (9, gT ob tb ts tg tl tc tr tu tv tw)), (ob 1, .inr (0, [.long sd, .int (nI da), .int (nI db), .int pr])), (ob 2, .inr (2, [.int (nI cn), .ref (ob 3), .ref (ob 4)])), (ob 3, .inl (cI, 160, .inl fk)), (ob 4, .inl (cI, 160, .inl fv)), (og 1, .inl (cI, 1294, .inl (upd w13 (Int32.toNatClampNeg 12) (nI cn))))] := hD
  generalize upd w13 (Int32.toNatClampNeg 12) (nI cn) = g14 at hP hD
  refine lv_iconst (v := 0) hx hb dX1_write_99 (by decide) ?_
  refine lv_istore_n (lv' := [(3, .int 0), (2, .ref (ob 2)), (0, .ref (og 0)), (1, .ref (ob 0))]) hx hb dX1_write_100 rfl hl (by decide) rfl (fun ls hl => ?_)
  refine lk_write l D og ob cI il tb ts tg tl tc tr tu tv tw sd da db pr cn fk fv (hc) hx hb hml hown hts hA (hK.sub [0] rfl) hN ?_ (cn + 1) 0 g14 (Nat.zero_le _) (by omega) _ _ _ (hP.sub [0, 6, 1, 2, 3, 4, 5] rfl) (hD.sub [0, 6, 1, 2, 3, 4, 5] (by decide) rfl) hS (lv_sub hl [0, 1, 2, 3] rfl)
  intro y_15 gi_16 hy1_17 H locs ls hP hD hS hl
  refine lv_bipush (v := 13) hx hb dX1_write_154 (by decide) ?_
  refine lv_bipush (v := 8) hx hb dX1_write_156 (by decide) ?_
  refine lv_aload_n hx hb dX1_write_158 rfl (lv_at hl 0 rfl) ?_
  refine va_get (D := D) (ci := 2) (v := .int (nI cn)) (C := RX2) (T := TX2) (N := 3) hx hb hts hin_X2 hown hK hP 4 rfl rfl 0 (by decide) (hts (.fieldLink RX1 45 "ClashFree$Keys" "size" "I") (List.mem_of_getElem? (i := 1) rfl)) (fun _ h9 => h9) rfl dX1_write_159 ?_
  refine lv_imul hx hb dX1_write_162 ?_
  refine lv_topi (fun v18 ev18 => ?_)
  obtain rfl : v18 = nI (8 * cn) := ev18.trans (pk_mul 8 cn)
  refine lv_iadd hx hb dX1_write_163 ?_
  refine lv_topi (fun v19 ev19 => ?_)
  obtain rfl : v19 = nI (13 + 8 * cn) := ev19.trans (nI_add 13 _)
  refine lv_istore_n (lv' := [(3, .int (nI (13 + 8 * cn))), (2, .ref (ob 2)), (0, .ref (og 0)), (1, .ref (ob 0))]) hx hb dX1_write_164 rfl hl (by decide) rfl (fun ls hl => ?_)
  refine lv_aload_n hx hb dX1_write_165 rfl (lv_at hl 2 rfl) ?_
  refine va_get (D := D) (ci := 1) (v := .ref (og 1)) (C := RX1) (T := TX1) (N := 2) hx hb hts hin_X1 hown hK hP 0 rfl rfl 1 (by decide) (hts (.fieldLink RX1 9 "ClashFree$Image" "bytes" "[I") (List.mem_of_getElem? (i := 2) rfl)) (fun _ h9 => h9) rfl dX1_write_166 ?_
  refine lv_iload_n hx hb dX1_write_169 rfl (lv_at hl 0 rfl) ?_
  refine lv_aload_n hx hb dX1_write_170 rfl (lv_at hl 2 rfl) ?_
  refine va_get (D := D) (ci := 1) (v := .ref (og 1)) (C := RX1) (T := TX1) (N := 2) hx hb hts hin_X1 hown hK hP 0 rfl rfl 1 (by decide) (hts (.fieldLink RX1 9 "ClashFree$Image" "bytes" "[I") (List.mem_of_getElem? (i := 2) rfl)) (fun _ h9 => h9) rfl dX1_write_171 ?_
  refine lv_iload_n hx hb dX1_write_174 rfl (lv_at hl 0 rfl) ?_
  have hPc := hP.sub (ws' := [(og 1, .inl (cI, 1294, .inl gi_16))]) [1] rfl
  have hKc := hK.sub (tys' := [(cI, .int)]) [0] rfl
  have hFc := va_free0 hS hA
  refine va_calli (va_runSN (As := [.ref (og 1), .int (nI (13 + 8 * cn))]) (rest := [.int (nI (13 + 8 * cn)), .ref (og 1)]) ⟨hx, hb, hml, hown, hts⟩ (k_ckI l D _ og cI gi_16 (nI (13 + 8 * cn))) ⟨va_cnB 2 hts g_k_write_k_ckI_57 rfl rfl rfl hN.2.1 (hts (.initialized RX10) (List.mem_of_getElem? (i := 7) rfl)) (by decide +kernel) ⟨(Nat.le_of_ble_eq_true rfl), (Nat.le_of_ble_eq_true rfl)⟩, (hts (.static yX10_checkOf) (List.mem_of_getElem? (i := 18) rfl)), trivial⟩ (PcRC_S hPc hKc hN) rfl rfl hl.1 rfl (lv_room (Nat.le_of_ble_eq_true rfl)) dX1_write_175 ⟨(Nat.le_of_ble_eq_true rfl), (Nat.le_of_ble_eq_true rfl)⟩) hS (fun q _ h => hFc q h) hFc (fun r20 uu tt H locs htt hvm hw hB hz1 hk1 hS => ?_)
  have hP := va_keep hP hk1
  try dsimp only at hw
  clear hB hz1 hk1 hFc hPc hKc
  refine va_iast hx hb hK hP hD hS 1 0 rfl rfl (vp_in_nI (by omega) (by decide)) dX1_write_178 (fun H locs hP hD hS => ?_)
  have hP : va_P D vwCl [(og 0, .inr (1, [.int (nI il), .ref (og 1)])), (og 1, .inl (cI, 1294, .inl (upd gi_16 (Int32.toNatClampNeg (nI (13 + 8 * cn))) r20))), (ob 0, .inr (9, gT ob tb ts tg tl tc tr tu tv tw)), (ob 1, .inr (0, [.long sd, .int (nI da), .int (nI db), .int pr])), (ob 2, .inr (2, [.int (nI cn), .ref (ob 3), .ref (ob 4)])), (ob 3, .inl (cI, 160, .inl fk)), (ob 4, .inl (cI, 160, .inl fv))] H := hP
  have hD : va_D A [(og 0, .inr (1, [.int (nI il), .ref (og 1)])), (og 1, .inl (cI, 1294, .inl (upd gi_16 (Int32.toNatClampNeg (nI (13 + 8 * cn))) r20))), (ob 0, .inr (9, gT ob tb ts tg tl tc tr tu tv tw)), (ob 1, .inr (0, [.long sd, .int (nI da), .int (nI db), .int pr])), (ob 2, .inr (2, [.int (nI cn), .ref (ob 3), .ref (ob 4)])), (ob 3, .inl (cI, 160, .inl fk)), (ob 4, .inl (cI, 160, .inl fv))] := hD
  generalize upd gi_16 (Int32.toNatClampNeg (nI (13 + 8 * cn))) r20 = g21 at hP hD
  refine lv_aload_n hx hb dX1_write_179 rfl (lv_at hl 2 rfl) ?_
  refine lv_iload_n hx hb dX1_write_180 rfl (lv_at hl 0 rfl) ?_
  refine lv_iconst (v := 1) hx hb dX1_write_181 (by decide) ?_
  refine lv_iadd hx hb dX1_write_182 ?_
  refine lv_topi (fun v22 ev22 => ?_)
  obtain rfl : v22 = nI (13 + 8 * cn + 1) := ev22.trans (nI_1 _)
  refine va_put (D := D) (ci := 1) (v := .int (nI (13 + 8 * cn + 1))) (ty := .int) (C := RX1) (T := TX1) (N := 2) hx hb hts hin_X1 tyX1 tyX1_ok nmX1 hown hK hP hD hS 0 rfl rfl 0 (by decide) (hts (.fieldLink RX1 61 "ClashFree$Image" "length" "I") (List.mem_of_getElem? (i := 19) rfl)) (fun _ h9 => h9) rfl (by decide +kernel) rfl rfl (Nat.le_of_ble_eq_true rfl) dX1_write_183 (fun H locs hP hD hS => ?_)
  have hP : va_P D vwCl [(og 0, .inr (1, [.int (nI (13 + 8 * cn + 1)), .ref (og 1)])), (og 1, .inl (cI, 1294, .inl g21)), (ob 0, .inr (9, gT ob tb ts tg tl tc tr tu tv tw)), (ob 1, .inr (0, [.long sd, .int (nI da), .int (nI db), .int pr])), (ob 2, .inr (2, [.int (nI cn), .ref (ob 3), .ref (ob 4)])), (ob 3, .inl (cI, 160, .inl fk)), (ob 4, .inl (cI, 160, .inl fv))] H := hP
  have hD : va_D A [(og 0, .inr (1, [.int (nI (13 + 8 * cn + 1)), .ref (og 1)])), (og 1, .inl (cI, 1294, .inl g21)), (ob 0, .inr (9, gT ob tb ts tg tl tc tr tu tv tw)), (ob 1, .inr (0, [.long sd, .int (nI da), .int (nI db), .int pr])), (ob 2, .inr (2, [.int (nI cn), .ref (ob 3), .ref (ob 4)])), (ob 3, .inl (cI, 160, .inl fk)), (ob 4, .inl (cI, 160, .inl fv))] := hD
  exact W.vret hx hb hr (fun t ht hW => ⟨⟨((13 + 8 * cn + 1), g21), rfl, (by (try dsimp only); first | done | exact ⟨by omega, by omega⟩), by rw [ht]; exact hP.sub [0, 1, 2, 3, 4, 5, 6] rfl, va_K.moved hW.alike (hK.sub [0] rfl), hD.sub [0, 1, 2, 3, 4, 5, 6] (by decide) rfl⟩, hS.F ht⟩) hS.2.2 dX1_write_186

def own_k_padd : List Cond := [.fieldLink RX7 21 "ClashFree$Program" "size" "I", .fieldLink RX7 9 "ClashFree$Program" "kinds" "[I", .fieldLink RX7 15 "ClashFree$Program" "numbers" "[I", .fieldLink RX7 18 "ClashFree$Program" "links" "[I"]
def wp_k_padd : List Cond := .code yX7_add cX7_add 3 none :: (own_k_padd ++ (wsX70 ++ ([] : List Cond)))
set_option maxRecDepth 20000 in
theorem inown_k_padd : ∀ w ∈ own_k_padd, w ∈ lw_tbl := mem_places [278, 281, 283, 285] (by decide +kernel)
set_option maxRecDepth 20000 in
theorem in_k_padd : ∀ w ∈ wp_k_padd, w ∈ lw_tbl := List.forall_mem_cons.mpr ⟨List.mem_of_getElem? (i := 1042) (by decide +kernel), List.forall_mem_append.mpr ⟨inown_k_padd, List.forall_mem_append.mpr ⟨lwb_X7, fun _ h => absurd h List.not_mem_nil⟩⟩⟩
set_option maxRecDepth 20000 in
theorem good_k_padd : wp_k_padd.all goodWord = true := by decide +kernel
set_option maxHeartbeats 4000000 in
set_option maxRecDepth 100000 in
theorem k_padd (l : Launch) (D : va_G) (sz : Nat) (oq : Nat → Nat) (cI : ClassId) (pz : Nat) (fK : Nat → Int32) (fN : Nat → Int32) (fL : Nat → Int32) (z1 : Int32) (z2 : Int32) (hpz : pz ≤ 600) : Met l yX7_add wp_k_padd ({ frames := 0, cells := 0, slots := 0, locals := 0 }) (PcWC D [.ref (oq 1), .int z1, .int z2] sz [(oq 1, .inr (7, [.int (nI pz), .ref (oq 2), .ref (oq 3), .ref (oq 4)])), (oq 2, .inl (cI, 600, .inl fK)), (oq 3, .inl (cI, 600, .inl fN)), (oq 4, .inl (cI, 600, .inl fL))] [(cI, .int)]) (va_Qv (fun (u : (Nat) × (Nat → Int32) × (Nat → Int32) × (Nat → Int32)) => (pz < 600 ∧ u.1 = pz + 1 ∧ u.2.1 = upd fK pz z1 ∧ u.2.2.1 = upd fN pz z2 ∧ u.2.2.2 = upd fL pz 0) ∨ (600 ≤ pz ∧ u.1 = pz ∧ u.2.1 = fK ∧ u.2.2.1 = fN ∧ u.2.2.2 = fL)) (fun (u : (Nat) × (Nat → Int32) × (Nat → Int32) × (Nat → Int32)) t => va_P D vwCl [(oq 1, .inr (7, [.int (nI u.1), .ref (oq 2), .ref (oq 3), .ref (oq 4)])), (oq 2, .inl (cI, 600, .inl u.2.1)), (oq 3, .inl (cI, 600, .inl u.2.2.1)), (oq 4, .inl (cI, 600, .inl u.2.2.2))] t.heap ∧ va_K D vwCl [(cI, .int)] t ∧ va_D (va_A [(oq 1, .inr (7, [.int (nI pz), .ref (oq 2), .ref (oq 3), .ref (oq 4)])), (oq 2, .inl (cI, 600, .inl fK)), (oq 3, .inl (cI, 600, .inl fN)), (oq 4, .inl (cI, 600, .inl fL))] sz) [(oq 1, .inr (7, [.int (nI u.1), .ref (oq 2), .ref (oq 3), .ref (oq 4)])), (oq 2, .inl (cI, 600, .inl u.2.1)), (oq 3, .inl (cI, 600, .inl u.2.2.1)), (oq 4, .inl (cI, 600, .inl u.2.2.2))]) (va_A [(oq 1, .inr (7, [.int (nI pz), .ref (oq 2), .ref (oq 3), .ref (oq 4)])), (oq 2, .inl (cI, 600, .inl fK)), (oq 3, .inl (cI, 600, .inl fN)), (oq 4, .inl (cI, 600, .inl fL))] sz)) 0 0 (va_A [(oq 1, .inr (7, [.int (nI pz), .ref (oq 2), .ref (oq 3), .ref (oq 4)])), (oq 2, .inl (cI, 600, .inl fK)), (oq 3, .inl (cI, 600, .inl fN)), (oq 4, .inl (cI, 600, .inl fL))] sz) := by
  refine Met.ofW (cc := cX7_add) (maxL := 3) (ret := none) (by decide) rfl ?_
  intro p e s m args below meth c s₁ B hml hv
  obtain ⟨rfl, hsz, hP, hK, hD0, hN⟩ := hv
  have hx := B.exec
  have hb := B.bytes
  have hr := B.returns
  have hts := atoms_spec (ws := wp_k_padd) B.pre
  have hin_X7 : ∀ w ∈ wsX70, w ∈ wp_k_padd := fun _ h => (List.mem_cons_of_mem _ (List.mem_append_right _ (List.mem_append_left _ h)))
  have hown : s.vm.findClass RX7 = some m.cls := findClass_of_methodNamed B.named
  have hlocks := B.notSynchronized
  subst hsz
  have hD := hD0.self (sz := s.heap.size)
  generalize hAe : va_A [(oq 1, .inr (7, [.int (nI pz), .ref (oq 2), .ref (oq 3), .ref (oq 4)])), (oq 2, .inl (cI, 600, .inl fK)), (oq 3, .inl (cI, 600, .inl fN)), (oq 4, .inl (cI, 600, .inl fL))] s.heap.size = A at hD ⊢
  have hA : ∀ q : Nat, s.heap.size ≤ q → A q := fun q h => by rw [← hAe]; exact Or.inr h
  have hS : va_S A s.heap s.heap [] := va_S.rf
  have hP : va_P D vwCl [(oq 1, .inr (7, [.int (nI pz), .ref (oq 2), .ref (oq 3), .ref (oq 4)])), (oq 2, .inl (cI, 600, .inl fK)), (oq 3, .inl (cI, 600, .inl fN)), (oq 4, .inl (cI, 600, .inl fL))] s.heap := hP
  have hl := lv_entry ([.ref (oq 1), .int z1, .int z2]) (n := 3) (Nat.le_of_ble_eq_true rfl)
  rw [lg_entry_eq]
  generalize (lg_sl ([.ref (oq 1), .int z1, .int z2]) ++ List.replicate (3 - (lg_sl ([.ref (oq 1), .int z1, .int z2])).length) Slot.unset).toArray = ls at hl ⊢
  have hl : lv_has ls 3 [(0, .ref (oq 1)), (1, .int z1), (2, .int z2)] := hl
  refine lv_aload_n hx hb dX7_add_0 rfl (lv_at hl 0 rfl) ?_
  refine va_get (D := D) (ci := 7) (v := .int (nI pz)) (C := RX7) (T := TX7) (N := 4) hx hb hts hin_X7 hown hK hP 0 rfl rfl 0 (by decide) (hts (.fieldLink RX7 21 "ClashFree$Program" "size" "I") (List.mem_of_getElem? (i := 1) rfl)) (fun _ h9 => h9) rfl dX7_add_1 ?_
  refine lv_sipush (v := 600) hx hb dX7_add_4 (by decide) ?_
  refine lv_icmp_ge (tgt := 50) hx hb dX7_add_7 (by decide) (fun hc1 => ?_) (fun hc1 => ?_)
  ·
    have hlt : 600 ≤ pz := (nI_leI (by omega) (by omega)).mp hc1
    have hge : 600 ≤ pz := (nI_leI (a := 600) (by decide) (by omega)).mp hc1
    exact W.vret hx hb hr (fun t ht hW => ⟨⟨(pz, fK, fN, fL), rfl, (by (try dsimp only); first | done | exact Or.inr ⟨hge, rfl, rfl, rfl, rfl⟩), by rw [ht]; exact hP.sub [0, 1, 2, 3] rfl, va_K.moved hW.alike (hK.sub [0] rfl), hD.sub [0, 1, 2, 3] (by decide) rfl⟩, hS.F ht⟩) hS.2.2 dX7_add_50
  ·
    have hlt : pz < 600 := by
      rcases Nat.lt_or_ge pz (600) with z | z
      · exact z
      · exact absurd (nI_le z (by omega)) hc1
    refine lv_aload_n hx hb dX7_add_10 rfl (lv_at hl 0 rfl) ?_
    refine va_get (D := D) (ci := 7) (v := .ref (oq 2)) (C := RX7) (T := TX7) (N := 4) hx hb hts hin_X7 hown hK hP 0 rfl rfl 1 (by decide) (hts (.fieldLink RX7 9 "ClashFree$Program" "kinds" "[I") (List.mem_of_getElem? (i := 2) rfl)) (fun _ h9 => h9) rfl dX7_add_11 ?_
    refine lv_aload_n hx hb dX7_add_14 rfl (lv_at hl 0 rfl) ?_
    refine va_get (D := D) (ci := 7) (v := .int (nI pz)) (C := RX7) (T := TX7) (N := 4) hx hb hts hin_X7 hown hK hP 0 rfl rfl 0 (by decide) (hts (.fieldLink RX7 21 "ClashFree$Program" "size" "I") (List.mem_of_getElem? (i := 1) rfl)) (fun _ h9 => h9) rfl dX7_add_15 ?_
    refine lv_iload_n hx hb dX7_add_18 rfl (lv_at hl 1 rfl) ?_
    refine va_iast hx hb hK hP hD hS 1 0 rfl rfl (vp_in_nI (by omega) (by decide)) dX7_add_19 (fun H locs hP hD hS => ?_)
    have hP : va_P D vwCl [(oq 1, .inr (7, [.int (nI pz), .ref (oq 2), .ref (oq 3), .ref (oq 4)])), (oq 2, .inl (cI, 600, .inl (upd fK (Int32.toNatClampNeg (nI pz)) z1))), (oq 3, .inl (cI, 600, .inl fN)), (oq 4, .inl (cI, 600, .inl fL))] H := hP
    have hD : va_D A [(oq 1, .inr (7, [.int (nI pz), .ref (oq 2), .ref (oq 3), .ref (oq 4)])), (oq 2, .inl (cI, 600, .inl (upd fK (Int32.toNatClampNeg (nI pz)) z1))), (oq 3, .inl (cI, 600, .inl fN)), (oq 4, .inl (cI, 600, .inl fL))] := hD
    rw [show (upd fK (Int32.toNatClampNeg (nI pz)) z1) = (upd fK pz z1) from by rw [nI_clamp (by omega)]] at hP hD
    refine lv_aload_n hx hb dX7_add_20 rfl (lv_at hl 0 rfl) ?_
    refine va_get (D := D) (ci := 7) (v := .ref (oq 3)) (C := RX7) (T := TX7) (N := 4) hx hb hts hin_X7 hown hK hP 0 rfl rfl 2 (by decide) (hts (.fieldLink RX7 15 "ClashFree$Program" "numbers" "[I") (List.mem_of_getElem? (i := 3) rfl)) (fun _ h9 => h9) rfl dX7_add_21 ?_
    refine lv_aload_n hx hb dX7_add_24 rfl (lv_at hl 0 rfl) ?_
    refine va_get (D := D) (ci := 7) (v := .int (nI pz)) (C := RX7) (T := TX7) (N := 4) hx hb hts hin_X7 hown hK hP 0 rfl rfl 0 (by decide) (hts (.fieldLink RX7 21 "ClashFree$Program" "size" "I") (List.mem_of_getElem? (i := 1) rfl)) (fun _ h9 => h9) rfl dX7_add_25 ?_
    refine lv_iload_n hx hb dX7_add_28 rfl (lv_at hl 2 rfl) ?_
    refine va_iast hx hb hK hP hD hS 2 0 rfl rfl (vp_in_nI (by omega) (by decide)) dX7_add_29 (fun H locs hP hD hS => ?_)
    have hP : va_P D vwCl [(oq 1, .inr (7, [.int (nI pz), .ref (oq 2), .ref (oq 3), .ref (oq 4)])), (oq 2, .inl (cI, 600, .inl (upd fK pz z1))), (oq 3, .inl (cI, 600, .inl (upd fN (Int32.toNatClampNeg (nI pz)) z2))), (oq 4, .inl (cI, 600, .inl fL))] H := hP
    have hD : va_D A [(oq 1, .inr (7, [.int (nI pz), .ref (oq 2), .ref (oq 3), .ref (oq 4)])), (oq 2, .inl (cI, 600, .inl (upd fK pz z1))), (oq 3, .inl (cI, 600, .inl (upd fN (Int32.toNatClampNeg (nI pz)) z2))), (oq 4, .inl (cI, 600, .inl fL))] := hD
    rw [show (upd fN (Int32.toNatClampNeg (nI pz)) z2) = (upd fN pz z2) from by rw [nI_clamp (by omega)]] at hP hD
    refine lv_aload_n hx hb dX7_add_30 rfl (lv_at hl 0 rfl) ?_
    refine va_get (D := D) (ci := 7) (v := .ref (oq 4)) (C := RX7) (T := TX7) (N := 4) hx hb hts hin_X7 hown hK hP 0 rfl rfl 3 (by decide) (hts (.fieldLink RX7 18 "ClashFree$Program" "links" "[I") (List.mem_of_getElem? (i := 4) rfl)) (fun _ h9 => h9) rfl dX7_add_31 ?_
    refine lv_aload_n hx hb dX7_add_34 rfl (lv_at hl 0 rfl) ?_
    refine va_get (D := D) (ci := 7) (v := .int (nI pz)) (C := RX7) (T := TX7) (N := 4) hx hb hts hin_X7 hown hK hP 0 rfl rfl 0 (by decide) (hts (.fieldLink RX7 21 "ClashFree$Program" "size" "I") (List.mem_of_getElem? (i := 1) rfl)) (fun _ h9 => h9) rfl dX7_add_35 ?_
    refine lv_iconst (v := 0) hx hb dX7_add_38 (by decide) ?_
    refine va_iast hx hb hK hP hD hS 3 0 rfl rfl (vp_in_nI (by omega) (by decide)) dX7_add_39 (fun H locs hP hD hS => ?_)
    have hP : va_P D vwCl [(oq 1, .inr (7, [.int (nI pz), .ref (oq 2), .ref (oq 3), .ref (oq 4)])), (oq 2, .inl (cI, 600, .inl (upd fK pz z1))), (oq 3, .inl (cI, 600, .inl (upd fN pz z2))), (oq 4, .inl (cI, 600, .inl (upd fL (Int32.toNatClampNeg (nI pz)) 0)))] H := hP
    have hD : va_D A [(oq 1, .inr (7, [.int (nI pz), .ref (oq 2), .ref (oq 3), .ref (oq 4)])), (oq 2, .inl (cI, 600, .inl (upd fK pz z1))), (oq 3, .inl (cI, 600, .inl (upd fN pz z2))), (oq 4, .inl (cI, 600, .inl (upd fL (Int32.toNatClampNeg (nI pz)) 0)))] := hD
    rw [show (upd fL (Int32.toNatClampNeg (nI pz)) 0) = (upd fL pz 0) from by rw [nI_clamp (by omega)]] at hP hD
    refine lv_aload_n hx hb dX7_add_40 rfl (lv_at hl 0 rfl) ?_
    refine lv_dup hx hb dX7_add_41 rfl ?_
    refine va_get (D := D) (ci := 7) (v := .int (nI pz)) (C := RX7) (T := TX7) (N := 4) hx hb hts hin_X7 hown hK hP 0 rfl rfl 0 (by decide) (hts (.fieldLink RX7 21 "ClashFree$Program" "size" "I") (List.mem_of_getElem? (i := 1) rfl)) (fun _ h9 => h9) rfl dX7_add_42 ?_
    refine lv_iconst (v := 1) hx hb dX7_add_45 (by decide) ?_
    refine lv_iadd hx hb dX7_add_46 ?_
    refine lv_topi (fun v2 ev2 => ?_)
    obtain rfl : v2 = nI (pz + 1) := ev2.trans (nI_1 _)
    refine va_put (D := D) (ci := 7) (v := .int (nI (pz + 1))) (ty := .int) (C := RX7) (T := TX7) (N := 4) hx hb hts hin_X7 tyX7 tyX7_ok nmX7 hown hK hP hD hS 0 rfl rfl 0 (by decide) (hts (.fieldLink RX7 21 "ClashFree$Program" "size" "I") (List.mem_of_getElem? (i := 1) rfl)) (fun _ h9 => h9) rfl (by decide +kernel) rfl rfl (Nat.le_of_ble_eq_true rfl) dX7_add_47 (fun H locs hP hD hS => ?_)
    have hP : va_P D vwCl [(oq 1, .inr (7, [.int (nI (pz + 1)), .ref (oq 2), .ref (oq 3), .ref (oq 4)])), (oq 2, .inl (cI, 600, .inl (upd fK pz z1))), (oq 3, .inl (cI, 600, .inl (upd fN pz z2))), (oq 4, .inl (cI, 600, .inl (upd fL pz 0)))] H := hP
    have hD : va_D A [(oq 1, .inr (7, [.int (nI (pz + 1)), .ref (oq 2), .ref (oq 3), .ref (oq 4)])), (oq 2, .inl (cI, 600, .inl (upd fK pz z1))), (oq 3, .inl (cI, 600, .inl (upd fN pz z2))), (oq 4, .inl (cI, 600, .inl (upd fL pz 0)))] := hD
    exact W.vret hx hb hr (fun t ht hW => ⟨⟨((pz + 1), (upd fK pz z1), (upd fN pz z2), (upd fL pz 0)), rfl, (by (try dsimp only); first | done | exact Or.inl ⟨hlt, rfl, rfl, rfl, rfl⟩), by rw [ht]; exact hP.sub [0, 1, 2, 3] rfl, va_K.moved hW.alike (hK.sub [0] rfl), hD.sub [0, 1, 2, 3] (by decide) rfl⟩, hS.F ht⟩) hS.2.2 dX7_add_50

def own_k_plink : List Cond := [.fieldLink RX7 21 "ClashFree$Program" "size" "I", .fieldLink RX7 18 "ClashFree$Program" "links" "[I"]
def wp_k_plink : List Cond := .code yX7_link cX7_link 3 none :: (own_k_plink ++ (wsX70 ++ ([] : List Cond)))
set_option maxRecDepth 20000 in
theorem inown_k_plink : ∀ w ∈ own_k_plink, w ∈ lw_tbl := mem_places [278, 285] (by decide +kernel)
set_option maxRecDepth 20000 in
theorem in_k_plink : ∀ w ∈ wp_k_plink, w ∈ lw_tbl := List.forall_mem_cons.mpr ⟨List.mem_of_getElem? (i := 1034) (by decide +kernel), List.forall_mem_append.mpr ⟨inown_k_plink, List.forall_mem_append.mpr ⟨lwb_X7, fun _ h => absurd h List.not_mem_nil⟩⟩⟩
set_option maxRecDepth 20000 in
theorem good_k_plink : wp_k_plink.all goodWord = true := by decide +kernel
set_option maxHeartbeats 4000000 in
set_option maxRecDepth 100000 in
theorem k_plink (l : Launch) (D : va_G) (sz : Nat) (oq : Nat → Nat) (cI : ClassId) (pz : Nat) (fL : Nat → Int32) (x : Nat) (z2 : Int32) (hpz : pz ≤ 600) (hx9 : x < pz) : Met l yX7_link wp_k_plink ({ frames := 0, cells := 0, slots := 0, locals := 0 }) (PcWC D [.ref (oq 1), .int (nI x), .int z2] sz [(oq 1, .inr (7, [.int (nI pz), .ref (oq 2), .ref (oq 3), .ref (oq 4)])), (oq 4, .inl (cI, 600, .inl fL))] [(cI, .int)]) (va_Qv (fun (u : (Nat → Int32)) => u = upd fL x z2) (fun (u : (Nat → Int32)) t => va_P D vwCl [(oq 1, .inr (7, [.int (nI pz), .ref (oq 2), .ref (oq 3), .ref (oq 4)])), (oq 4, .inl (cI, 600, .inl u))] t.heap ∧ va_K D vwCl [(cI, .int)] t ∧ va_D (va_A [(oq 1, .inr (7, [.int (nI pz), .ref (oq 2), .ref (oq 3), .ref (oq 4)])), (oq 4, .inl (cI, 600, .inl fL))] sz) [(oq 1, .inr (7, [.int (nI pz), .ref (oq 2), .ref (oq 3), .ref (oq 4)])), (oq 4, .inl (cI, 600, .inl u))]) (va_A [(oq 1, .inr (7, [.int (nI pz), .ref (oq 2), .ref (oq 3), .ref (oq 4)])), (oq 4, .inl (cI, 600, .inl fL))] sz)) 0 0 (va_A [(oq 1, .inr (7, [.int (nI pz), .ref (oq 2), .ref (oq 3), .ref (oq 4)])), (oq 4, .inl (cI, 600, .inl fL))] sz) := by
  refine Met.ofW (cc := cX7_link) (maxL := 3) (ret := none) (by decide) rfl ?_
  intro p e s m args below meth c s₁ B hml hv
  obtain ⟨rfl, hsz, hP, hK, hD0, hN⟩ := hv
  have hx := B.exec
  have hb := B.bytes
  have hr := B.returns
  have hts := atoms_spec (ws := wp_k_plink) B.pre
  have hin_X7 : ∀ w ∈ wsX70, w ∈ wp_k_plink := fun _ h => (List.mem_cons_of_mem _ (List.mem_append_right _ (List.mem_append_left _ h)))
  have hown : s.vm.findClass RX7 = some m.cls := findClass_of_methodNamed B.named
  have hlocks := B.notSynchronized
  subst hsz
  have hD := hD0.self (sz := s.heap.size)
  generalize hAe : va_A [(oq 1, .inr (7, [.int (nI pz), .ref (oq 2), .ref (oq 3), .ref (oq 4)])), (oq 4, .inl (cI, 600, .inl fL))] s.heap.size = A at hD ⊢
  have hA : ∀ q : Nat, s.heap.size ≤ q → A q := fun q h => by rw [← hAe]; exact Or.inr h
  have hS : va_S A s.heap s.heap [] := va_S.rf
  have hP : va_P D vwCl [(oq 1, .inr (7, [.int (nI pz), .ref (oq 2), .ref (oq 3), .ref (oq 4)])), (oq 4, .inl (cI, 600, .inl fL))] s.heap := hP
  have hl := lv_entry ([.ref (oq 1), .int (nI x), .int z2]) (n := 3) (Nat.le_of_ble_eq_true rfl)
  rw [lg_entry_eq]
  generalize (lg_sl ([.ref (oq 1), .int (nI x), .int z2]) ++ List.replicate (3 - (lg_sl ([.ref (oq 1), .int (nI x), .int z2])).length) Slot.unset).toArray = ls at hl ⊢
  have hl : lv_has ls 3 [(0, .ref (oq 1)), (1, .int (nI x)), (2, .int z2)] := hl
  refine lv_iload_n hx hb dX7_link_0 rfl (lv_at hl 1 rfl) ?_
  refine lv_if_lt (tgt := 19) hx hb dX7_link_1 (by decide) (fun hc => absurd hc (Int32.not_lt.mpr (nI_pos' (by omega)))) (fun hc => ?_)
  refine lv_iload_n hx hb dX7_link_4 rfl (lv_at hl 1 rfl) ?_
  refine lv_aload_n hx hb dX7_link_5 rfl (lv_at hl 0 rfl) ?_
  refine va_get (D := D) (ci := 7) (v := .int (nI pz)) (C := RX7) (T := TX7) (N := 4) hx hb hts hin_X7 hown hK hP 0 rfl rfl 0 (by decide) (hts (.fieldLink RX7 21 "ClashFree$Program" "size" "I") (List.mem_of_getElem? (i := 1) rfl)) (fun _ h9 => h9) rfl dX7_link_6 ?_
  refine lv_icmp_ge (tgt := 19) hx hb dX7_link_9 (by decide) (fun hc => absurd hc (Int32.not_le.mpr (nI_lt (by omega) (by omega)))) (fun hc => ?_)
  refine lv_aload_n hx hb dX7_link_12 rfl (lv_at hl 0 rfl) ?_
  refine va_get (D := D) (ci := 7) (v := .ref (oq 4)) (C := RX7) (T := TX7) (N := 4) hx hb hts hin_X7 hown hK hP 0 rfl rfl 3 (by decide) (hts (.fieldLink RX7 18 "ClashFree$Program" "links" "[I") (List.mem_of_getElem? (i := 2) rfl)) (fun _ h9 => h9) rfl dX7_link_13 ?_
  refine lv_iload_n hx hb dX7_link_16 rfl (lv_at hl 1 rfl) ?_
  refine lv_iload_n hx hb dX7_link_17 rfl (lv_at hl 2 rfl) ?_
  refine va_iast hx hb hK hP hD hS 1 0 rfl rfl (vp_in_nI (by omega) (by decide)) dX7_link_18 (fun H locs hP hD hS => ?_)
  have hP : va_P D vwCl [(oq 1, .inr (7, [.int (nI pz), .ref (oq 2), .ref (oq 3), .ref (oq 4)])), (oq 4, .inl (cI, 600, .inl (upd fL (Int32.toNatClampNeg (nI x)) z2)))] H := hP
  have hD : va_D A [(oq 1, .inr (7, [.int (nI pz), .ref (oq 2), .ref (oq 3), .ref (oq 4)])), (oq 4, .inl (cI, 600, .inl (upd fL (Int32.toNatClampNeg (nI x)) z2)))] := hD
  rw [show (upd fL (Int32.toNatClampNeg (nI x)) z2) = (upd fL x z2) from by rw [nI_clamp (by omega)]] at hP hD
  exact W.vret hx hb hr (fun t ht hW => ⟨⟨(upd fL x z2), rfl, rfl, by rw [ht]; exact hP.sub [0, 1] rfl, va_K.moved hW.alike (hK.sub [0] rfl), hD.sub [0, 1] (by decide) rfl⟩, hS.F ht⟩) hS.2.2 dX7_link_19

def own_k_pisFor : List Cond := [.fieldLink RX7 21 "ClashFree$Program" "size" "I", .fieldLink RX7 9 "ClashFree$Program" "kinds" "[I"]
def wp_k_pisFor : List Cond := .code yX7_isFor cX7_isFor 2 (some .boolean) :: (own_k_pisFor ++ (wsX70 ++ ([] : List Cond)))
set_option maxRecDepth 20000 in
theorem inown_k_pisFor : ∀ w ∈ own_k_pisFor, w ∈ lw_tbl := mem_places [278, 281] (by decide +kernel)
set_option maxRecDepth 20000 in
theorem in_k_pisFor : ∀ w ∈ wp_k_pisFor, w ∈ lw_tbl := List.forall_mem_cons.mpr ⟨List.mem_of_getElem? (i := 1038) (by decide +kernel), List.forall_mem_append.mpr ⟨inown_k_pisFor, List.forall_mem_append.mpr ⟨lwb_X7, fun _ h => absurd h List.not_mem_nil⟩⟩⟩
set_option maxRecDepth 20000 in
theorem good_k_pisFor : wp_k_pisFor.all goodWord = true := by decide +kernel
set_option maxHeartbeats 4000000 in
set_option maxRecDepth 100000 in
theorem k_pisFor (l : Launch) (D : va_G) (sz : Nat) (oq : Nat → Nat) (cI : ClassId) (pz : Nat) (fK : Nat → Int32) (z1 : Int32) (hpz : pz ≤ 600) : Met l yX7_isFor wp_k_pisFor ({ frames := 0, cells := 0, slots := 0, locals := 0 }) (PcRC D [.ref (oq 1), .int z1] sz [(oq 1, .inr (7, [.int (nI pz), .ref (oq 2), .ref (oq 3), .ref (oq 4)])), (oq 2, .inl (cI, 600, .inl fK))] [(cI, .int)]) (va_Qi (fun (r : Int32) (u : Unit) => (r = 1 ∧ ∃ x, x < pz ∧ z1 = nI x ∧ fK x = 8) ∨ (r = 0 ∧ ∀ x, x < pz → z1 = nI x → ¬ fK x = 8)) (fun (_ : Unit) _ => True) (va_A [] sz)) 0 0 (va_A [] sz) := by
  refine Met.ofW (cc := cX7_isFor) (maxL := 2) (ret := (some .boolean)) (by decide) rfl ?_
  intro p e s m args below meth c s₁ B hml hv
  obtain ⟨rfl, hsz, hP, hK, hN⟩ := hv
  have hx := B.exec
  have hb := B.bytes
  have hr := B.returns
  have hts := atoms_spec (ws := wp_k_pisFor) B.pre
  have hin_X7 : ∀ w ∈ wsX70, w ∈ wp_k_pisFor := fun _ h => (List.mem_cons_of_mem _ (List.mem_append_right _ (List.mem_append_left _ h)))
  have hown : s.vm.findClass RX7 = some m.cls := findClass_of_methodNamed B.named
  have hlocks := B.notSynchronized
  subst hsz
  generalize hAe : va_A [] s.heap.size = A at ⊢
  have hA : ∀ q : Nat, s.heap.size ≤ q → A q := fun q h => by rw [← hAe]; exact Or.inr h
  have hS : va_S A s.heap s.heap [] := va_S.rf
  have hP : va_P D vwCl [(oq 1, .inr (7, [.int (nI pz), .ref (oq 2), .ref (oq 3), .ref (oq 4)])), (oq 2, .inl (cI, 600, .inl fK))] s.heap := hP
  have hl := lv_entry ([.ref (oq 1), .int z1]) (n := 2) (Nat.le_of_ble_eq_true rfl)
  rw [lg_entry_eq]
  generalize (lg_sl ([.ref (oq 1), .int z1]) ++ List.replicate (2 - (lg_sl ([.ref (oq 1), .int z1])).length) Slot.unset).toArray = ls at hl ⊢
  have hl : lv_has ls 2 [(0, .ref (oq 1)), (1, .int z1)] := hl
  refine lv_iload_n hx hb dX7_isFor_0 rfl (lv_at hl 1 rfl) ?_
  refine lv_if_lt (tgt := 27) hx hb dX7_isFor_1 (by decide) (fun hc1 => ?_) (fun hc1 => ?_)
  ·
    refine lv_iconst (v := 0) hx hb dX7_isFor_27 (by decide) ?_
    exact W.zret (v := 0) hx hb hr rfl (fun t ht hW => ⟨⟨0, (), rfl, Or.inr ⟨rfl, fun x hx e => absurd hc1 (by rw [e]; exact Int32.not_lt.mpr (nI_pos' (by omega)))⟩, trivial⟩, hS.F ht⟩) hS.2.2 dX7_isFor_28
  ·
    refine lv_iload_n hx hb dX7_isFor_4 rfl (lv_at hl 1 rfl) ?_
    refine lv_aload_n hx hb dX7_isFor_5 rfl (lv_at hl 0 rfl) ?_
    refine va_get (D := D) (ci := 7) (v := .int (nI pz)) (C := RX7) (T := TX7) (N := 4) hx hb hts hin_X7 hown hK hP 0 rfl rfl 0 (by decide) (hts (.fieldLink RX7 21 "ClashFree$Program" "size" "I") (List.mem_of_getElem? (i := 1) rfl)) (fun _ h9 => h9) rfl dX7_isFor_6 ?_
    refine lv_icmp_ge (tgt := 27) hx hb dX7_isFor_9 (by decide) (fun hc2 => ?_) (fun hc2 => ?_)
    ·
      refine lv_iconst (v := 0) hx hb dX7_isFor_27 (by decide) ?_
      exact W.zret (v := 0) hx hb hr rfl (fun t ht hW => ⟨⟨0, (), rfl, Or.inr ⟨rfl, fun x hx e => absurd (e ▸ nI_lt hx (by omega)) (Int32.not_lt.mpr hc2)⟩, trivial⟩, hS.F ht⟩) hS.2.2 dX7_isFor_28
    ·
      obtain ⟨xj, hxj, rfl⟩ := inz (by omega) hc1 (Int32.not_le.mp hc2)
      refine lv_aload_n hx hb dX7_isFor_12 rfl (lv_at hl 0 rfl) ?_
      refine va_get (D := D) (ci := 7) (v := .ref (oq 2)) (C := RX7) (T := TX7) (N := 4) hx hb hts hin_X7 hown hK hP 0 rfl rfl 1 (by decide) (hts (.fieldLink RX7 9 "ClashFree$Program" "kinds" "[I") (List.mem_of_getElem? (i := 2) rfl)) (fun _ h9 => h9) rfl dX7_isFor_13 ?_
      refine lv_iload_n hx hb dX7_isFor_16 rfl (lv_at hl 1 rfl) ?_
      refine va_iald hx hb hK hP 1 0 rfl rfl (vp_in_nI (by omega) (by decide)) dX7_isFor_17 ?_
      refine lv_topi (fun v3 ev3 => ?_)
      obtain rfl : v3 = fK xj := ev3.trans (by rw [nI_clamp (by omega)])
      refine lv_bipush (v := 8) hx hb dX7_isFor_18 (by decide) ?_
      refine lv_icmp_ne (tgt := 27) hx hb dX7_isFor_20 (by decide) (fun hc4 => ?_) (fun hc4 => ?_)
      ·
        refine lv_iconst (v := 0) hx hb dX7_isFor_27 (by decide) ?_
        exact W.zret (v := 0) hx hb hr rfl (fun t ht hW => ⟨⟨0, (), rfl, Or.inr ⟨rfl, fun x hx e q => hc4 (by rw [(nI_eq (by omega) (by omega)).mp e]; exact q)⟩, trivial⟩, hS.F ht⟩) hS.2.2 dX7_isFor_28
      ·
        refine lv_iconst (v := 1) hx hb dX7_isFor_23 (by decide) ?_
        refine lv_goto (tgt := 28) hx hb dX7_isFor_24 (by decide) ?_
        exact W.zret (v := 1) hx hb hr rfl (fun t ht hW => ⟨⟨1, (), rfl, Or.inl ⟨rfl, xj, hxj, rfl, hc4⟩, trivial⟩, hS.F ht⟩) hS.2.2 dX7_isFor_28

