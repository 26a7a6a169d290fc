theorem dX1_write_0 : decode cX1_write 0 = .ok (.aload_n 1, 1) := by decide +kernel
theorem dX1_write_1 : decode cX1_write 1 = .ok (.getfield 15, 3) := by decide +kernel
theorem dX1_write_4 : decode cX1_write 4 = .ok (.astore_n 2, 1) := by decide +kernel
theorem dX1_write_5 : decode cX1_write 5 = .ok (.aload_n 0, 1) := by decide +kernel
theorem dX1_write_6 : decode cX1_write 6 = .ok (.getfield 9, 3) := by decide +kernel
theorem dX1_write_9 : decode cX1_write 9 = .ok (.iconst 0, 1) := by decide +kernel
theorem dX1_write_10 : decode cX1_write 10 = .ok (.aload_n 1, 1) := by decide +kernel
theorem dX1_write_11 : decode cX1_write 11 = .ok (.getfield 21, 3) := by decide +kernel
theorem dX1_write_14 : decode cX1_write 14 = .ok (.iastore, 1) := by decide +kernel
theorem dX1_write_15 : decode cX1_write 15 = .ok (.aload_n 0, 1) := by decide +kernel
theorem dX1_write_16 : decode cX1_write 16 = .ok (.getfield 9, 3) := by decide +kernel
theorem dX1_write_19 : decode cX1_write 19 = .ok (.iconst 1, 1) := by decide +kernel
theorem dX1_write_20 : decode cX1_write 20 = .ok (.aload_n 1, 1) := by decide +kernel
theorem dX1_write_21 : decode cX1_write 21 = .ok (.getfield 25, 3) := by decide +kernel
theorem dX1_write_24 : decode cX1_write 24 = .ok (.bipush 8, 2) := by decide +kernel
theorem dX1_write_26 : decode cX1_write 26 = .ok (.iushr, 1) := by decide +kernel
theorem dX1_write_27 : decode cX1_write 27 = .ok (.iastore, 1) := by decide +kernel
theorem dX1_write_28 : decode cX1_write 28 = .ok (.aload_n 0, 1) := by decide +kernel
theorem dX1_write_29 : decode cX1_write 29 = .ok (.getfield 9, 3) := by decide +kernel
theorem dX1_write_32 : decode cX1_write 32 = .ok (.iconst 2, 1) := by decide +kernel
theorem dX1_write_33 : decode cX1_write 33 = .ok (.aload_n 1, 1) := by decide +kernel
theorem dX1_write_34 : decode cX1_write 34 = .ok (.getfield 25, 3) := by decide +kernel
theorem dX1_write_37 : decode cX1_write 37 = .ok (.sipush 255, 3) := by decide +kernel
theorem dX1_write_40 : decode cX1_write 40 = .ok (.iand, 1) := by decide +kernel
theorem dX1_write_41 : decode cX1_write 41 = .ok (.iastore, 1) := by decide +kernel
theorem dX1_write_42 : decode cX1_write 42 = .ok (.aload_n 0, 1) := by decide +kernel
theorem dX1_write_43 : decode cX1_write 43 = .ok (.getfield 9, 3) := by decide +kernel
theorem dX1_write_46 : decode cX1_write 46 = .ok (.iconst 3, 1) := by decide +kernel
theorem dX1_write_47 : decode cX1_write 47 = .ok (.aload_n 1, 1) := by decide +kernel
theorem dX1_write_48 : decode cX1_write 48 = .ok (.getfield 28, 3) := by decide +kernel
theorem dX1_write_51 : decode cX1_write 51 = .ok (.iastore, 1) := by decide +kernel
theorem dX1_write_52 : decode cX1_write 52 = .ok (.aload_n 0, 1) := by decide +kernel
theorem dX1_write_53 : decode cX1_write 53 = .ok (.getfield 9, 3) := by decide +kernel
theorem dX1_write_56 : decode cX1_write 56 = .ok (.iconst 4, 1) := by decide +kernel
theorem dX1_write_57 : decode cX1_write 57 = .ok (.aload_n 1, 1) := by decide +kernel
theorem dX1_write_58 : decode cX1_write 58 = .ok (.getfield 31, 3) := by decide +kernel
theorem dX1_write_61 : decode cX1_write 61 = .ok (.getfield 35, 3) := by decide +kernel
theorem dX1_write_64 : decode cX1_write 64 = .ok (.bipush 32, 2) := by decide +kernel
theorem dX1_write_66 : decode cX1_write 66 = .ok (.lushr, 1) := by decide +kernel
theorem dX1_write_67 : decode cX1_write 67 = .ok (.l2i, 1) := by decide +kernel
theorem dX1_write_68 : decode cX1_write 68 = .ok (.invokestatic 41, 3) := by decide +kernel
theorem dX1_write_71 : decode cX1_write 71 = .ok (.aload_n 0, 1) := by decide +kernel
theorem dX1_write_72 : decode cX1_write 72 = .ok (.getfield 9, 3) := by decide +kernel
theorem dX1_write_75 : decode cX1_write 75 = .ok (.bipush 8, 2) := by decide +kernel
theorem dX1_write_77 : decode cX1_write 77 = .ok (.aload_n 1, 1) := by decide +kernel
theorem dX1_write_78 : decode cX1_write 78 = .ok (.getfield 31, 3) := by decide +kernel
theorem dX1_write_81 : decode cX1_write 81 = .ok (.getfield 35, 3) := by decide +kernel
theorem dX1_write_84 : decode cX1_write 84 = .ok (.l2i, 1) := by decide +kernel
theorem dX1_write_85 : decode cX1_write 85 = .ok (.invokestatic 41, 3) := by decide +kernel
theorem dX1_write_88 : decode cX1_write 88 = .ok (.aload_n 0, 1) := by decide +kernel
theorem dX1_write_89 : decode cX1_write 89 = .ok (.getfield 9, 3) := by decide +kernel
theorem dX1_write_92 : decode cX1_write 92 = .ok (.bipush 12, 2) := by decide +kernel
theorem dX1_write_94 : decode cX1_write 94 = .ok (.aload_n 2, 1) := by decide +kernel
theorem dX1_write_95 : decode cX1_write 95 = .ok (.getfield 45, 3) := by decide +kernel
theorem dX1_write_98 : decode cX1_write 98 = .ok (.iastore, 1) := by decide +kernel
theorem dX1_write_99 : decode cX1_write 99 = .ok (.iconst 0, 1) := by decide +kernel
theorem dX1_write_100 : decode cX1_write 100 = .ok (.istore_n 3, 1) := by decide +kernel
theorem dX1_write_101 : decode cX1_write 101 = .ok (.iload_n 3, 1) := by decide +kernel
theorem dX1_write_102 : decode cX1_write 102 = .ok (.aload_n 2, 1) := by decide +kernel
theorem dX1_write_103 : decode cX1_write 103 = .ok (.getfield 45, 3) := by decide +kernel
theorem dX1_write_106 : decode cX1_write 106 = .ok (.if_icmp .ge 48, 3) := by decide +kernel
theorem dX1_write_109 : decode cX1_write 109 = .ok (.bipush 13, 2) := by decide +kernel
theorem dX1_write_111 : decode cX1_write 111 = .ok (.bipush 8, 2) := by decide +kernel
theorem dX1_write_113 : decode cX1_write 113 = .ok (.iload_n 3, 1) := by decide +kernel
theorem dX1_write_114 : decode cX1_write 114 = .ok (.imul, 1) := by decide +kernel
theorem dX1_write_115 : decode cX1_write 115 = .ok (.iadd, 1) := by decide +kernel
theorem dX1_write_116 : decode cX1_write 116 = .ok (.istore 4, 2) := by decide +kernel
theorem dX1_write_118 : decode cX1_write 118 = .ok (.aload_n 0, 1) := by decide +kernel
theorem dX1_write_119 : decode cX1_write 119 = .ok (.getfield 9, 3) := by decide +kernel
theorem dX1_write_122 : decode cX1_write 122 = .ok (.iload 4, 2) := by decide +kernel
theorem dX1_write_124 : decode cX1_write 124 = .ok (.aload_n 2, 1) := by decide +kernel
theorem dX1_write_125 : decode cX1_write 125 = .ok (.iload_n 3, 1) := by decide +kernel
theorem dX1_write_126 : decode cX1_write 126 = .ok (.invokevirtual 50, 3) := by decide +kernel
theorem dX1_write_129 : decode cX1_write 129 = .ok (.invokestatic 41, 3) := by decide +kernel
theorem dX1_write_132 : decode cX1_write 132 = .ok (.aload_n 0, 1) := by decide +kernel
theorem dX1_write_133 : decode cX1_write 133 = .ok (.getfield 9, 3) := by decide +kernel
theorem dX1_write_136 : decode cX1_write 136 = .ok (.iload 4, 2) := by decide +kernel
theorem dX1_write_138 : decode cX1_write 138 = .ok (.iconst 4, 1) := by decide +kernel
theorem dX1_write_139 : decode cX1_write 139 = .ok (.iadd, 1) := by decide +kernel
theorem dX1_write_140 : decode cX1_write 140 = .ok (.aload_n 2, 1) := by decide +kernel
theorem dX1_write_141 : decode cX1_write 141 = .ok (.iload_n 3, 1) := by decide +kernel
theorem dX1_write_142 : decode cX1_write 142 = .ok (.invokevirtual 54, 3) := by decide +kernel
theorem dX1_write_145 : decode cX1_write 145 = .ok (.invokestatic 41, 3) := by decide +kernel
theorem dX1_write_148 : decode cX1_write 148 = .ok (.iinc 3 1, 3) := by decide +kernel
theorem dX1_write_151 : decode cX1_write 151 = .ok (.goto (-50), 3) := by decide +kernel
theorem dX1_write_154 : decode cX1_write 154 = .ok (.bipush 13, 2) := by decide +kernel
theorem dX1_write_156 : decode cX1_write 156 = .ok (.bipush 8, 2) := by decide +kernel
theorem dX1_write_158 : decode cX1_write 158 = .ok (.aload_n 2, 1) := by decide +kernel
theorem dX1_write_159 : decode cX1_write 159 = .ok (.getfield 45, 3) := by decide +kernel
theorem dX1_write_162 : decode cX1_write 162 = .ok (.imul, 1) := by decide +kernel
theorem dX1_write_163 : decode cX1_write 163 = .ok (.iadd, 1) := by decide +kernel
theorem dX1_write_164 : decode cX1_write 164 = .ok (.istore_n 3, 1) := by decide +kernel
theorem dX1_write_165 : decode cX1_write 165 = .ok (.aload_n 0, 1) := by decide +kernel
theorem dX1_write_166 : decode cX1_write 166 = .ok (.getfield 9, 3) := by decide +kernel
theorem dX1_write_169 : decode cX1_write 169 = .ok (.iload_n 3, 1) := by decide +kernel
theorem dX1_write_170 : decode cX1_write 170 = .ok (.aload_n 0, 1) := by decide +kernel
theorem dX1_write_171 : decode cX1_write 171 = .ok (.getfield 9, 3) := by decide +kernel
theorem dX1_write_174 : decode cX1_write 174 = .ok (.iload_n 3, 1) := by decide +kernel
theorem dX1_write_175 : decode cX1_write 175 = .ok (.invokestatic 57, 3) := by decide +kernel
theorem dX1_write_178 : decode cX1_write 178 = .ok (.iastore, 1) := by decide +kernel
theorem dX1_write_179 : decode cX1_write 179 = .ok (.aload_n 0, 1) := by decide +kernel
theorem dX1_write_180 : decode cX1_write 180 = .ok (.iload_n 3, 1) := by decide +kernel
theorem dX1_write_181 : decode cX1_write 181 = .ok (.iconst 1, 1) := by decide +kernel
theorem dX1_write_182 : decode cX1_write 182 = .ok (.iadd, 1) := by decide +kernel
theorem dX1_write_183 : decode cX1_write 183 = .ok (.putfield 61, 3) := by decide +kernel
theorem dX1_write_186 : decode cX1_write 186 = .ok (.return_, 1) := by decide +kernel
theorem dX7_add_0 : decode cX7_add 0 = .ok (.aload_n 0, 1) := by decide +kernel
theorem dX7_add_1 : decode cX7_add 1 = .ok (.getfield 21, 3) := by decide +kernel
theorem dX7_add_4 : decode cX7_add 4 = .ok (.sipush 600, 3) := by decide +kernel
theorem dX7_add_7 : decode cX7_add 7 = .ok (.if_icmp .ge 43, 3) := by decide +kernel
theorem dX7_add_10 : decode cX7_add 10 = .ok (.aload_n 0, 1) := by decide +kernel
theorem dX7_add_11 : decode cX7_add 11 = .ok (.getfield 9, 3) := by decide +kernel
theorem dX7_add_14 : decode cX7_add 14 = .ok (.aload_n 0, 1) := by decide +kernel
theorem dX7_add_15 : decode cX7_add 15 = .ok (.getfield 21, 3) := by decide +kernel
theorem dX7_add_18 : decode cX7_add 18 = .ok (.iload_n 1, 1) := by decide +kernel
theorem dX7_add_19 : decode cX7_add 19 = .ok (.iastore, 1) := by decide +kernel
theorem dX7_add_20 : decode cX7_add 20 = .ok (.aload_n 0, 1) := by decide +kernel
theorem dX7_add_21 : decode cX7_add 21 = .ok (.getfield 15, 3) := by decide +kernel
theorem dX7_add_24 : decode cX7_add 24 = .ok (.aload_n 0, 1) := by decide +kernel
theorem dX7_add_25 : decode cX7_add 25 = .ok (.getfield 21, 3) := by decide +kernel
theorem dX7_add_28 : decode cX7_add 28 = .ok (.iload_n 2, 1) := by decide +kernel
theorem dX7_add_29 : decode cX7_add 29 = .ok (.iastore, 1) := by decide +kernel
theorem dX7_add_30 : decode cX7_add 30 = .ok (.aload_n 0, 1) := by decide +kernel
theorem dX7_add_31 : decode cX7_add 31 = .ok (.getfield 18, 3) := by decide +kernel
theorem dX7_add_34 : decode cX7_add 34 = .ok (.aload_n 0, 1) := by decide +kernel
theorem dX7_add_35 : decode cX7_add 35 = .ok (.getfield 21, 3) := by decide +kernel
theorem dX7_add_38 : decode cX7_add 38 = .ok (.iconst 0, 1) := by decide +kernel
theorem dX7_add_39 : decode cX7_add 39 = .ok (.iastore, 1) := by decide +kernel
theorem dX7_add_40 : decode cX7_add 40 = .ok (.aload_n 0, 1) := by decide +kernel
theorem dX7_add_41 : decode cX7_add 41 = .ok (.dup, 1) := by decide +kernel
theorem dX7_add_42 : decode cX7_add 42 = .ok (.getfield 21, 3) := by decide +kernel
theorem dX7_add_45 : decode cX7_add 45 = .ok (.iconst 1, 1) := by decide +kernel
theorem dX7_add_46 : decode cX7_add 46 = .ok (.iadd, 1) := by decide +kernel
theorem dX7_add_47 : decode cX7_add 47 = .ok (.putfield 21, 3) := by decide +kernel
theorem dX7_add_50 : decode cX7_add 50 = .ok (.return_, 1) := by decide +kernel
theorem dX7_link_0 : decode cX7_link 0 = .ok (.iload_n 1, 1) := by decide +kernel
theorem dX7_link_1 : decode cX7_link 1 = .ok (.ifCond .lt 18, 3) := by decide +kernel
theorem dX7_link_4 : decode cX7_link 4 = .ok (.iload_n 1, 1) := by decide +kernel
theorem dX7_link_5 : decode cX7_link 5 = .ok (.aload_n 0, 1) := by decide +kernel
theorem dX7_link_6 : decode cX7_link 6 = .ok (.getfield 21, 3) := by decide +kernel
theorem dX7_link_9 : decode cX7_link 9 = .ok (.if_icmp .ge 10, 3) := by decide +kernel
theorem dX7_link_12 : decode cX7_link 12 = .ok (.aload_n 0, 1) := by decide +kernel
theorem dX7_link_13 : decode cX7_link 13 = .ok (.getfield 18, 3) := by decide +kernel
theorem dX7_link_16 : decode cX7_link 16 = .ok (.iload_n 1, 1) := by decide +kernel
theorem dX7_link_17 : decode cX7_link 17 = .ok (.iload_n 2, 1) := by decide +kernel
theorem dX7_link_18 : decode cX7_link 18 = .ok (.iastore, 1) := by decide +kernel
theorem dX7_link_19 : decode cX7_link 19 = .ok (.return_, 1) := by decide +kernel
theorem dX7_isFor_0 : decode cX7_isFor 0 = .ok (.iload_n 1, 1) := by decide +kernel
theorem dX7_isFor_1 : decode cX7_isFor 1 = .ok (.ifCond .lt 26, 3) := by decide +kernel
theorem dX7_isFor_4 : decode cX7_isFor 4 = .ok (.iload_n 1, 1) := by decide +kernel
theorem dX7_isFor_5 : decode cX7_isFor 5 = .ok (.aload_n 0, 1) := by decide +kernel
theorem dX7_isFor_6 : decode cX7_isFor 6 = .ok (.getfield 21, 3) := by decide +kernel
theorem dX7_isFor_9 : decode cX7_isFor 9 = .ok (.if_icmp .ge 18, 3) := by decide +kernel
theorem dX7_isFor_12 : decode cX7_isFor 12 = .ok (.aload_n 0, 1) := by decide +kernel
theorem dX7_isFor_13 : decode cX7_isFor 13 = .ok (.getfield 9, 3) := by decide +kernel
theorem dX7_isFor_16 : decode cX7_isFor 16 = .ok (.iload_n 1, 1) := by decide +kernel
theorem dX7_isFor_17 : decode cX7_isFor 17 = .ok (.iaload, 1) := by decide +kernel
theorem dX7_isFor_18 : decode cX7_isFor 18 = .ok (.bipush 8, 2) := by decide +kernel
theorem dX7_isFor_20 : decode cX7_isFor 20 = .ok (.if_icmp .ne 7, 3) := by decide +kernel
theorem dX7_isFor_23 : decode cX7_isFor 23 = .ok (.iconst 1, 1) := by decide +kernel
theorem dX7_isFor_24 : decode cX7_isFor 24 = .ok (.goto 4, 3) := by decide +kernel
theorem dX7_isFor_27 : decode cX7_isFor 27 = .ok (.iconst 0, 1) := by decide +kernel
theorem dX7_isFor_28 : decode cX7_isFor 28 = .ok (.ireturn, 1) := by decide +kernel
theorem dX10_isImage_0 : decode cX10_isImage 0 = .ok (.iload_n 1, 1) := by decide +kernel
theorem dX10_isImage_1 : decode cX10_isImage 1 = .ok (.bipush 14, 2) := by decide +kernel
theorem dX10_isImage_3 : decode cX10_isImage 3 = .ok (.if_icmp .lt 9, 3) := by decide +kernel
theorem dX10_isImage_6 : decode cX10_isImage 6 = .ok (.iload_n 1, 1) := by decide +kernel
theorem dX10_isImage_7 : decode cX10_isImage 7 = .ok (.aload_n 0, 1) := by decide +kernel
theorem dX10_isImage_8 : decode cX10_isImage 8 = .ok (.arraylength, 1) := by decide +kernel
theorem dX10_isImage_9 : decode cX10_isImage 9 = .ok (.if_icmp .le 5, 3) := by decide +kernel
theorem dX10_isImage_12 : decode cX10_isImage 12 = .ok (.iconst 0, 1) := by decide +kernel
theorem dX10_isImage_13 : decode cX10_isImage 13 = .ok (.ireturn, 1) := by decide +kernel
theorem dX10_isImage_14 : decode cX10_isImage 14 = .ok (.aload_n 0, 1) := by decide +kernel
theorem dX10_isImage_15 : decode cX10_isImage 15 = .ok (.bipush 12, 2) := by decide +kernel
theorem dX10_isImage_17 : decode cX10_isImage 17 = .ok (.iaload, 1) := by decide +kernel
theorem dX10_isImage_18 : decode cX10_isImage 18 = .ok (.istore_n 2, 1) := by decide +kernel
theorem dX10_isImage_19 : decode cX10_isImage 19 = .ok (.iload_n 2, 1) := by decide +kernel
theorem dX10_isImage_20 : decode cX10_isImage 20 = .ok (.sipush 160, 3) := by decide +kernel
theorem dX10_isImage_23 : decode cX10_isImage 23 = .ok (.if_icmp .gt 16, 3) := by decide +kernel
theorem dX10_isImage_26 : decode cX10_isImage 26 = .ok (.iload_n 1, 1) := by decide +kernel
theorem dX10_isImage_27 : decode cX10_isImage 27 = .ok (.bipush 13, 2) := by decide +kernel
theorem dX10_isImage_29 : decode cX10_isImage 29 = .ok (.bipush 8, 2) := by decide +kernel
theorem dX10_isImage_31 : decode cX10_isImage 31 = .ok (.iload_n 2, 1) := by decide +kernel
theorem dX10_isImage_32 : decode cX10_isImage 32 = .ok (.imul, 1) := by decide +kernel
theorem dX10_isImage_33 : decode cX10_isImage 33 = .ok (.iadd, 1) := by decide +kernel
theorem dX10_isImage_34 : decode cX10_isImage 34 = .ok (.iconst 1, 1) := by decide +kernel
theorem dX10_isImage_35 : decode cX10_isImage 35 = .ok (.iadd, 1) := by decide +kernel
theorem dX10_isImage_36 : decode cX10_isImage 36 = .ok (.if_icmp .eq 5, 3) := by decide +kernel
theorem dX10_isImage_39 : decode cX10_isImage 39 = .ok (.iconst 0, 1) := by decide +kernel
theorem dX10_isImage_40 : decode cX10_isImage 40 = .ok (.ireturn, 1) := by decide +kernel
theorem dX10_isImage_41 : decode cX10_isImage 41 = .ok (.aload_n 0, 1) := by decide +kernel
theorem dX10_isImage_42 : decode cX10_isImage 42 = .ok (.iconst 0, 1) := by decide +kernel
theorem dX10_isImage_43 : decode cX10_isImage 43 = .ok (.iaload, 1) := by decide +kernel
theorem dX10_isImage_44 : decode cX10_isImage 44 = .ok (.aload_n 0, 1) := by decide +kernel
theorem dX10_isImage_45 : decode cX10_isImage 45 = .ok (.invokestatic 326, 3) := by decide +kernel
theorem dX10_isImage_48 : decode cX10_isImage 48 = .ok (.aload_n 0, 1) := by decide +kernel
theorem dX10_isImage_49 : decode cX10_isImage 49 = .ok (.iconst 3, 1) := by decide +kernel
theorem dX10_isImage_50 : decode cX10_isImage 50 = .ok (.iaload, 1) := by decide +kernel
theorem dX10_isImage_51 : decode cX10_isImage 51 = .ok (.invokestatic 59, 3) := by decide +kernel
theorem dX10_isImage_54 : decode cX10_isImage 54 = .ok (.ifCond .ne 5, 3) := by decide +kernel
theorem dX10_isImage_57 : decode cX10_isImage 57 = .ok (.iconst 0, 1) := by decide +kernel
theorem dX10_isImage_58 : decode cX10_isImage 58 = .ok (.ireturn, 1) := by decide +kernel
theorem dX10_isImage_59 : decode cX10_isImage 59 = .ok (.iconst (-1), 1) := by decide +kernel
theorem dX10_isImage_60 : decode cX10_isImage 60 = .ok (.istore_n 3, 1) := by decide +kernel
theorem dX10_isImage_61 : decode cX10_isImage 61 = .ok (.iconst 0, 1) := by decide +kernel
theorem dX10_isImage_62 : decode cX10_isImage 62 = .ok (.istore 4, 2) := by decide +kernel
theorem dX10_isImage_64 : decode cX10_isImage 64 = .ok (.iload 4, 2) := by decide +kernel
theorem dX10_isImage_66 : decode cX10_isImage 66 = .ok (.iload_n 2, 1) := by decide +kernel
theorem dX10_isImage_67 : decode cX10_isImage 67 = .ok (.if_icmp .ge 42, 3) := by decide +kernel
theorem dX10_isImage_70 : decode cX10_isImage 70 = .ok (.aload_n 0, 1) := by decide +kernel
theorem dX10_isImage_71 : decode cX10_isImage 71 = .ok (.bipush 13, 2) := by decide +kernel
theorem dX10_isImage_73 : decode cX10_isImage 73 = .ok (.bipush 8, 2) := by decide +kernel
theorem dX10_isImage_75 : decode cX10_isImage 75 = .ok (.iload 4, 2) := by decide +kernel
theorem dX10_isImage_77 : decode cX10_isImage 77 = .ok (.imul, 1) := by decide +kernel
theorem dX10_isImage_78 : decode cX10_isImage 78 = .ok (.iadd, 1) := by decide +kernel
theorem dX10_isImage_79 : decode cX10_isImage 79 = .ok (.invokestatic 334, 3) := by decide +kernel
theorem dX10_isImage_82 : decode cX10_isImage 82 = .ok (.istore 5, 2) := by decide +kernel
theorem dX10_isImage_84 : decode cX10_isImage 84 = .ok (.iload 5, 2) := by decide +kernel
theorem dX10_isImage_86 : decode cX10_isImage 86 = .ok (.invokestatic 77, 3) := by decide +kernel
theorem dX10_isImage_89 : decode cX10_isImage 89 = .ok (.ifCond .eq 9, 3) := by decide +kernel
theorem dX10_isImage_92 : decode cX10_isImage 92 = .ok (.iload 5, 2) := by decide +kernel
theorem dX10_isImage_94 : decode cX10_isImage 94 = .ok (.iload_n 3, 1) := by decide +kernel
theorem dX10_isImage_95 : decode cX10_isImage 95 = .ok (.if_icmp .gt 5, 3) := by decide +kernel
theorem dX10_isImage_98 : decode cX10_isImage 98 = .ok (.iconst 0, 1) := by decide +kernel
theorem dX10_isImage_99 : decode cX10_isImage 99 = .ok (.ireturn, 1) := by decide +kernel
theorem dX10_isImage_100 : decode cX10_isImage 100 = .ok (.iload 5, 2) := by decide +kernel
theorem dX10_isImage_102 : decode cX10_isImage 102 = .ok (.istore_n 3, 1) := by decide +kernel
theorem dX10_isImage_103 : decode cX10_isImage 103 = .ok (.iinc 4 1, 3) := by decide +kernel
theorem dX10_isImage_106 : decode cX10_isImage 106 = .ok (.goto (-42), 3) := by decide +kernel
theorem dX10_isImage_109 : decode cX10_isImage 109 = .ok (.aload_n 0, 1) := by decide +kernel
theorem dX10_isImage_110 : decode cX10_isImage 110 = .ok (.iload_n 1, 1) := by decide +kernel
theorem dX10_isImage_111 : decode cX10_isImage 111 = .ok (.iconst 1, 1) := by decide +kernel
theorem dX10_isImage_112 : decode cX10_isImage 112 = .ok (.isub, 1) := by decide +kernel
theorem dX10_isImage_113 : decode cX10_isImage 113 = .ok (.iaload, 1) := by decide +kernel
theorem dX10_isImage_114 : decode cX10_isImage 114 = .ok (.aload_n 0, 1) := by decide +kernel
theorem dX10_isImage_115 : decode cX10_isImage 115 = .ok (.iload_n 1, 1) := by decide +kernel
theorem dX10_isImage_116 : decode cX10_isImage 116 = .ok (.iconst 1, 1) := by decide +kernel
theorem dX10_isImage_117 : decode cX10_isImage 117 = .ok (.isub, 1) := by decide +kernel
theorem dX10_isImage_118 : decode cX10_isImage 118 = .ok (.invokestatic 357, 3) := by decide +kernel
theorem dX10_isImage_121 : decode cX10_isImage 121 = .ok (.if_icmp .ne 7, 3) := by decide +kernel
theorem dX10_isImage_124 : decode cX10_isImage 124 = .ok (.iconst 1, 1) := by decide +kernel
theorem dX10_isImage_125 : decode cX10_isImage 125 = .ok (.goto 4, 3) := by decide +kernel
theorem dX10_isImage_128 : decode cX10_isImage 128 = .ok (.iconst 0, 1) := by decide +kernel
theorem dX10_isImage_129 : decode cX10_isImage 129 = .ok (.ireturn, 1) := by decide +kernel
