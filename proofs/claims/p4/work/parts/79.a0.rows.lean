theorem dX9_begin_0 : decode cX9_begin 0 = .ok (.aload_n 0, 1) := by decide +kernel
theorem dX9_begin_1 : decode cX9_begin 1 = .ok (.iload_n 1, 1) := by decide +kernel
theorem dX9_begin_2 : decode cX9_begin 2 = .ok (.putfield 32, 3) := by decide +kernel
theorem dX9_begin_5 : decode cX9_begin 5 = .ok (.aload_n 0, 1) := by decide +kernel
theorem dX9_begin_6 : decode cX9_begin 6 = .ok (.iload_n 2, 1) := by decide +kernel
theorem dX9_begin_7 : decode cX9_begin 7 = .ok (.putfield 36, 3) := by decide +kernel
theorem dX9_begin_10 : decode cX9_begin 10 = .ok (.aload_n 0, 1) := by decide +kernel
theorem dX9_begin_11 : decode cX9_begin 11 = .ok (.iload_n 3, 1) := by decide +kernel
theorem dX9_begin_12 : decode cX9_begin 12 = .ok (.putfield 39, 3) := by decide +kernel
theorem dX9_begin_15 : decode cX9_begin 15 = .ok (.aload_n 0, 1) := by decide +kernel
theorem dX9_begin_16 : decode cX9_begin 16 = .ok (.iconst 0, 1) := by decide +kernel
theorem dX9_begin_17 : decode cX9_begin 17 = .ok (.putfield 42, 3) := by decide +kernel
theorem dX9_begin_20 : decode cX9_begin 20 = .ok (.aload_n 0, 1) := by decide +kernel
theorem dX9_begin_21 : decode cX9_begin 21 = .ok (.iconst 0, 1) := by decide +kernel
theorem dX9_begin_22 : decode cX9_begin 22 = .ok (.putfield 45, 3) := by decide +kernel
theorem dX9_begin_25 : decode cX9_begin 25 = .ok (.aload_n 0, 1) := by decide +kernel
theorem dX9_begin_26 : decode cX9_begin 26 = .ok (.iconst 0, 1) := by decide +kernel
theorem dX9_begin_27 : decode cX9_begin 27 = .ok (.putfield 48, 3) := by decide +kernel
theorem dX9_begin_30 : decode cX9_begin 30 = .ok (.aload_n 0, 1) := by decide +kernel
theorem dX9_begin_31 : decode cX9_begin 31 = .ok (.iconst 0, 1) := by decide +kernel
theorem dX9_begin_32 : decode cX9_begin 32 = .ok (.putfield 51, 3) := by decide +kernel
theorem dX9_begin_35 : decode cX9_begin 35 = .ok (.aload_n 0, 1) := by decide +kernel
theorem dX9_begin_36 : decode cX9_begin 36 = .ok (.getfield 12, 3) := by decide +kernel
theorem dX9_begin_39 : decode cX9_begin 39 = .ok (.lload 4, 2) := by decide +kernel
theorem dX9_begin_41 : decode cX9_begin 41 = .ok (.invokevirtual 54, 3) := by decide +kernel
theorem dX9_begin_44 : decode cX9_begin 44 = .ok (.aload_n 0, 1) := by decide +kernel
theorem dX9_begin_45 : decode cX9_begin 45 = .ok (.getfield 21, 3) := by decide +kernel
theorem dX9_begin_48 : decode cX9_begin 48 = .ok (.iconst 0, 1) := by decide +kernel
theorem dX9_begin_49 : decode cX9_begin 49 = .ok (.putfield 58, 3) := by decide +kernel
theorem dX9_begin_52 : decode cX9_begin 52 = .ok (.return_, 1) := by decide +kernel
theorem dX9_mostRooms_0 : decode cX9_mostRooms 0 = .ok (.aload_n 0, 1) := by decide +kernel
theorem dX9_mostRooms_1 : decode cX9_mostRooms 1 = .ok (.getfield 32, 3) := by decide +kernel
theorem dX9_mostRooms_4 : decode cX9_mostRooms 4 = .ok (.aload_n 0, 1) := by decide +kernel
theorem dX9_mostRooms_5 : decode cX9_mostRooms 5 = .ok (.getfield 61, 3) := by decide +kernel
theorem dX9_mostRooms_8 : decode cX9_mostRooms 8 = .ok (.imul, 1) := by decide +kernel
theorem dX9_mostRooms_9 : decode cX9_mostRooms 9 = .ok (.ireturn, 1) := by decide +kernel
theorem dX9_buildAll_0 : decode cX9_buildAll 0 = .ok (.aload_n 0, 1) := by decide +kernel
theorem dX9_buildAll_1 : decode cX9_buildAll 1 = .ok (.aload_n 0, 1) := by decide +kernel
theorem dX9_buildAll_2 : decode cX9_buildAll 2 = .ok (.getfield 21, 3) := by decide +kernel
theorem dX9_buildAll_5 : decode cX9_buildAll 5 = .ok (.getfield 58, 3) := by decide +kernel
theorem dX9_buildAll_8 : decode cX9_buildAll 8 = .ok (.aload_n 0, 1) := by decide +kernel
theorem dX9_buildAll_9 : decode cX9_buildAll 9 = .ok (.getfield 21, 3) := by decide +kernel
theorem dX9_buildAll_12 : decode cX9_buildAll 12 = .ok (.getfield 58, 3) := by decide +kernel
theorem dX9_buildAll_15 : decode cX9_buildAll 15 = .ok (.aload_n 0, 1) := by decide +kernel
theorem dX9_buildAll_16 : decode cX9_buildAll 16 = .ok (.getfield 39, 3) := by decide +kernel
theorem dX9_buildAll_19 : decode cX9_buildAll 19 = .ok (.imul, 1) := by decide +kernel
theorem dX9_buildAll_20 : decode cX9_buildAll 20 = .ok (.bipush 100, 2) := by decide +kernel
theorem dX9_buildAll_22 : decode cX9_buildAll 22 = .ok (.idiv, 1) := by decide +kernel
theorem dX9_buildAll_23 : decode cX9_buildAll 23 = .ok (.iadd, 1) := by decide +kernel
theorem dX9_buildAll_24 : decode cX9_buildAll 24 = .ok (.iconst 4, 1) := by decide +kernel
theorem dX9_buildAll_25 : decode cX9_buildAll 25 = .ok (.iadd, 1) := by decide +kernel
theorem dX9_buildAll_26 : decode cX9_buildAll 26 = .ok (.putfield 61, 3) := by decide +kernel
theorem dX9_buildAll_29 : decode cX9_buildAll 29 = .ok (.aload_n 0, 1) := by decide +kernel
theorem dX9_buildAll_30 : decode cX9_buildAll 30 = .ok (.aload_n 0, 1) := by decide +kernel
theorem dX9_buildAll_31 : decode cX9_buildAll 31 = .ok (.getfield 21, 3) := by decide +kernel
theorem dX9_buildAll_34 : decode cX9_buildAll 34 = .ok (.getfield 58, 3) := by decide +kernel
theorem dX9_buildAll_37 : decode cX9_buildAll 37 = .ok (.putfield 64, 3) := by decide +kernel
theorem dX9_buildAll_40 : decode cX9_buildAll 40 = .ok (.aload_n 0, 1) := by decide +kernel
theorem dX9_buildAll_41 : decode cX9_buildAll 41 = .ok (.dup, 1) := by decide +kernel
theorem dX9_buildAll_42 : decode cX9_buildAll 42 = .ok (.getfield 51, 3) := by decide +kernel
theorem dX9_buildAll_45 : decode cX9_buildAll 45 = .ok (.aload_n 0, 1) := by decide +kernel
theorem dX9_buildAll_46 : decode cX9_buildAll 46 = .ok (.getfield 21, 3) := by decide +kernel
theorem dX9_buildAll_49 : decode cX9_buildAll 49 = .ok (.getfield 58, 3) := by decide +kernel
theorem dX9_buildAll_52 : decode cX9_buildAll 52 = .ok (.iadd, 1) := by decide +kernel
theorem dX9_buildAll_53 : decode cX9_buildAll 53 = .ok (.putfield 51, 3) := by decide +kernel
theorem dX9_buildAll_56 : decode cX9_buildAll 56 = .ok (.iconst 1, 1) := by decide +kernel
theorem dX9_buildAll_57 : decode cX9_buildAll 57 = .ok (.aload_n 0, 1) := by decide +kernel
theorem dX9_buildAll_58 : decode cX9_buildAll 58 = .ok (.getfield 36, 3) := by decide +kernel
theorem dX9_buildAll_61 : decode cX9_buildAll 61 = .ok (.aload_n 0, 1) := by decide +kernel
theorem dX9_buildAll_62 : decode cX9_buildAll 62 = .ok (.getfield 61, 3) := by decide +kernel
theorem dX9_buildAll_65 : decode cX9_buildAll 65 = .ok (.imul, 1) := by decide +kernel
theorem dX9_buildAll_66 : decode cX9_buildAll 66 = .ok (.bipush 100, 2) := by decide +kernel
theorem dX9_buildAll_68 : decode cX9_buildAll 68 = .ok (.idiv, 1) := by decide +kernel
theorem dX9_buildAll_69 : decode cX9_buildAll 69 = .ok (.invokestatic 67, 3) := by decide +kernel
theorem dX9_buildAll_72 : decode cX9_buildAll 72 = .ok (.istore_n 1, 1) := by decide +kernel
theorem dX9_buildAll_73 : decode cX9_buildAll 73 = .ok (.iconst 1, 1) := by decide +kernel
theorem dX9_buildAll_74 : decode cX9_buildAll 74 = .ok (.istore_n 2, 1) := by decide +kernel
theorem dX9_buildAll_75 : decode cX9_buildAll 75 = .ok (.iload_n 2, 1) := by decide +kernel
theorem dX9_buildAll_76 : decode cX9_buildAll 76 = .ok (.sipush 400, 3) := by decide +kernel
theorem dX9_buildAll_79 : decode cX9_buildAll 79 = .ok (.if_icmp .gt 73, 3) := by decide +kernel
theorem dX9_buildAll_82 : decode cX9_buildAll 82 = .ok (.aload_n 0, 1) := by decide +kernel
theorem dX9_buildAll_83 : decode cX9_buildAll 83 = .ok (.getfield 12, 3) := by decide +kernel
theorem dX9_buildAll_86 : decode cX9_buildAll 86 = .ok (.invokevirtual 73, 3) := by decide +kernel
theorem dX9_buildAll_89 : decode cX9_buildAll 89 = .ok (.aload_n 0, 1) := by decide +kernel
theorem dX9_buildAll_90 : decode cX9_buildAll 90 = .ok (.getfield 28, 3) := by decide +kernel
theorem dX9_buildAll_93 : decode cX9_buildAll 93 = .ok (.aload_n 0, 1) := by decide +kernel
theorem dX9_buildAll_94 : decode cX9_buildAll 94 = .ok (.getfield 21, 3) := by decide +kernel
theorem dX9_buildAll_97 : decode cX9_buildAll 97 = .ok (.aload_n 0, 1) := by decide +kernel
theorem dX9_buildAll_98 : decode cX9_buildAll 98 = .ok (.getfield 12, 3) := by decide +kernel
theorem dX9_buildAll_101 : decode cX9_buildAll 101 = .ok (.getfield 76, 3) := by decide +kernel
theorem dX9_buildAll_104 : decode cX9_buildAll 104 = .ok (.aload_n 0, 1) := by decide +kernel
theorem dX9_buildAll_105 : decode cX9_buildAll 105 = .ok (.getfield 12, 3) := by decide +kernel
theorem dX9_buildAll_108 : decode cX9_buildAll 108 = .ok (.getfield 79, 3) := by decide +kernel
theorem dX9_buildAll_111 : decode cX9_buildAll 111 = .ok (.iload_n 1, 1) := by decide +kernel
theorem dX9_buildAll_112 : decode cX9_buildAll 112 = .ok (.invokevirtual 82, 3) := by decide +kernel
theorem dX9_buildAll_115 : decode cX9_buildAll 115 = .ok (.istore_n 3, 1) := by decide +kernel
theorem dX9_buildAll_116 : decode cX9_buildAll 116 = .ok (.iconst 4, 1) := by decide +kernel
theorem dX9_buildAll_117 : decode cX9_buildAll 117 = .ok (.iload_n 3, 1) := by decide +kernel
theorem dX9_buildAll_118 : decode cX9_buildAll 118 = .ok (.imul, 1) := by decide +kernel
theorem dX9_buildAll_119 : decode cX9_buildAll 119 = .ok (.aload_n 0, 1) := by decide +kernel
theorem dX9_buildAll_120 : decode cX9_buildAll 120 = .ok (.invokevirtual 86, 3) := by decide +kernel
theorem dX9_buildAll_123 : decode cX9_buildAll 123 = .ok (.if_icmp .gt 6, 3) := by decide +kernel
theorem dX9_buildAll_126 : decode cX9_buildAll 126 = .ok (.goto 26, 3) := by decide +kernel
theorem dX9_buildAll_129 : decode cX9_buildAll 129 = .ok (.iload_n 2, 1) := by decide +kernel
theorem dX9_buildAll_130 : decode cX9_buildAll 130 = .ok (.bipush 20, 2) := by decide +kernel
theorem dX9_buildAll_132 : decode cX9_buildAll 132 = .ok (.irem, 1) := by decide +kernel
theorem dX9_buildAll_133 : decode cX9_buildAll 133 = .ok (.ifCond .ne 13, 3) := by decide +kernel
theorem dX9_buildAll_136 : decode cX9_buildAll 136 = .ok (.sipush 2048, 3) := by decide +kernel
theorem dX9_buildAll_139 : decode cX9_buildAll 139 = .ok (.iconst 2, 1) := by decide +kernel
theorem dX9_buildAll_140 : decode cX9_buildAll 140 = .ok (.iload_n 1, 1) := by decide +kernel
theorem dX9_buildAll_141 : decode cX9_buildAll 141 = .ok (.imul, 1) := by decide +kernel
theorem dX9_buildAll_142 : decode cX9_buildAll 142 = .ok (.invokestatic 90, 3) := by decide +kernel
theorem dX9_buildAll_145 : decode cX9_buildAll 145 = .ok (.istore_n 1, 1) := by decide +kernel
theorem dX9_buildAll_146 : decode cX9_buildAll 146 = .ok (.iinc 2 1, 3) := by decide +kernel
theorem dX9_buildAll_149 : decode cX9_buildAll 149 = .ok (.goto (-74), 3) := by decide +kernel
theorem dX9_buildAll_152 : decode cX9_buildAll 152 = .ok (.aload_n 0, 1) := by decide +kernel
theorem dX9_buildAll_153 : decode cX9_buildAll 153 = .ok (.getfield 28, 3) := by decide +kernel
theorem dX9_buildAll_156 : decode cX9_buildAll 156 = .ok (.iconst 2, 1) := by decide +kernel
theorem dX9_buildAll_157 : decode cX9_buildAll 157 = .ok (.invokevirtual 93, 3) := by decide +kernel
theorem dX9_buildAll_160 : decode cX9_buildAll 160 = .ok (.iconst 0, 1) := by decide +kernel
theorem dX9_buildAll_161 : decode cX9_buildAll 161 = .ok (.istore_n 2, 1) := by decide +kernel
theorem dX9_buildAll_162 : decode cX9_buildAll 162 = .ok (.iload_n 2, 1) := by decide +kernel
theorem dX9_buildAll_163 : decode cX9_buildAll 163 = .ok (.aload_n 0, 1) := by decide +kernel
theorem dX9_buildAll_164 : decode cX9_buildAll 164 = .ok (.getfield 28, 3) := by decide +kernel
theorem dX9_buildAll_167 : decode cX9_buildAll 167 = .ok (.getfield 97, 3) := by decide +kernel
theorem dX9_buildAll_170 : decode cX9_buildAll 170 = .ok (.if_icmp .ge 34, 3) := by decide +kernel
theorem dX9_buildAll_173 : decode cX9_buildAll 173 = .ok (.aload_n 0, 1) := by decide +kernel
theorem dX9_buildAll_174 : decode cX9_buildAll 174 = .ok (.getfield 28, 3) := by decide +kernel
theorem dX9_buildAll_177 : decode cX9_buildAll 177 = .ok (.aload_n 0, 1) := by decide +kernel
theorem dX9_buildAll_178 : decode cX9_buildAll 178 = .ok (.getfield 21, 3) := by decide +kernel
theorem dX9_buildAll_181 : decode cX9_buildAll 181 = .ok (.aload_n 0, 1) := by decide +kernel
theorem dX9_buildAll_182 : decode cX9_buildAll 182 = .ok (.getfield 12, 3) := by decide +kernel
theorem dX9_buildAll_185 : decode cX9_buildAll 185 = .ok (.iload_n 2, 1) := by decide +kernel
theorem dX9_buildAll_186 : decode cX9_buildAll 186 = .ok (.aload_n 0, 1) := by decide +kernel
theorem dX9_buildAll_187 : decode cX9_buildAll 187 = .ok (.getfield 28, 3) := by decide +kernel
theorem dX9_buildAll_190 : decode cX9_buildAll 190 = .ok (.getfield 100, 3) := by decide +kernel
theorem dX9_buildAll_193 : decode cX9_buildAll 193 = .ok (.iload_n 2, 1) := by decide +kernel
theorem dX9_buildAll_194 : decode cX9_buildAll 194 = .ok (.iaload, 1) := by decide +kernel
theorem dX9_buildAll_195 : decode cX9_buildAll 195 = .ok (.invokevirtual 104, 3) := by decide +kernel
theorem dX9_buildAll_198 : decode cX9_buildAll 198 = .ok (.iinc 2 1, 3) := by decide +kernel
theorem dX9_buildAll_201 : decode cX9_buildAll 201 = .ok (.goto (-39), 3) := by decide +kernel
theorem dX9_buildAll_204 : decode cX9_buildAll 204 = .ok (.return_, 1) := by decide +kernel
