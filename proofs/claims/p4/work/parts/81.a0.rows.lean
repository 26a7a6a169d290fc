theorem dX9_lay_0 : decode cX9_lay 0 = .ok (.aload_n 0, 1) := by decide +kernel
theorem dX9_lay_1 : decode cX9_lay 1 = .ok (.iload_n 1, 1) := by decide +kernel
theorem dX9_lay_2 : decode cX9_lay 2 = .ok (.invokevirtual 140, 3) := by decide +kernel
theorem dX9_lay_5 : decode cX9_lay 5 = .ok (.istore_n 3, 1) := by decide +kernel
theorem dX9_lay_6 : decode cX9_lay 6 = .ok (.aload_n 0, 1) := by decide +kernel
theorem dX9_lay_7 : decode cX9_lay 7 = .ok (.getfield 21, 3) := by decide +kernel
theorem dX9_lay_10 : decode cX9_lay 10 = .ok (.iload_n 1, 1) := by decide +kernel
theorem dX9_lay_11 : decode cX9_lay 11 = .ok (.invokevirtual 143, 3) := by decide +kernel
theorem dX9_lay_14 : decode cX9_lay 14 = .ok (.istore 4, 2) := by decide +kernel
theorem dX9_lay_16 : decode cX9_lay 16 = .ok (.iload_n 3, 1) := by decide +kernel
theorem dX9_lay_17 : decode cX9_lay 17 = .ok (.ifCond .ne 16, 3) := by decide +kernel
theorem dX9_lay_20 : decode cX9_lay 20 = .ok (.aload_n 0, 1) := by decide +kernel
theorem dX9_lay_21 : decode cX9_lay 21 = .ok (.getfield 21, 3) := by decide +kernel
theorem dX9_lay_24 : decode cX9_lay 24 = .ok (.getfield 146, 3) := by decide +kernel
theorem dX9_lay_27 : decode cX9_lay 27 = .ok (.iload 4, 2) := by decide +kernel
theorem dX9_lay_29 : decode cX9_lay 29 = .ok (.iload_n 2, 1) := by decide +kernel
theorem dX9_lay_30 : decode cX9_lay 30 = .ok (.iastore, 1) := by decide +kernel
theorem dX9_lay_31 : decode cX9_lay 31 = .ok (.iload_n 3, 1) := by decide +kernel
theorem dX9_lay_32 : decode cX9_lay 32 = .ok (.ireturn, 1) := by decide +kernel
theorem dX9_lay_33 : decode cX9_lay 33 = .ok (.aload_n 0, 1) := by decide +kernel
theorem dX9_lay_34 : decode cX9_lay 34 = .ok (.getfield 28, 3) := by decide +kernel
theorem dX9_lay_37 : decode cX9_lay 37 = .ok (.iload_n 1, 1) := by decide +kernel
theorem dX9_lay_38 : decode cX9_lay 38 = .ok (.invokevirtual 108, 3) := by decide +kernel
theorem dX9_lay_41 : decode cX9_lay 41 = .ok (.istore 5, 2) := by decide +kernel
theorem dX9_lay_43 : decode cX9_lay 43 = .ok (.aload_n 0, 1) := by decide +kernel
theorem dX9_lay_44 : decode cX9_lay 44 = .ok (.getfield 28, 3) := by decide +kernel
theorem dX9_lay_47 : decode cX9_lay 47 = .ok (.iload 4, 2) := by decide +kernel
theorem dX9_lay_49 : decode cX9_lay 49 = .ok (.iload 5, 2) := by decide +kernel
theorem dX9_lay_51 : decode cX9_lay 51 = .ok (.invokevirtual 149, 3) := by decide +kernel
theorem dX9_lay_54 : decode cX9_lay 54 = .ok (.aload_n 0, 1) := by decide +kernel
theorem dX9_lay_55 : decode cX9_lay 55 = .ok (.getfield 21, 3) := by decide +kernel
theorem dX9_lay_58 : decode cX9_lay 58 = .ok (.iload 4, 2) := by decide +kernel
theorem dX9_lay_60 : decode cX9_lay 60 = .ok (.iload_n 1, 1) := by decide +kernel
theorem dX9_lay_61 : decode cX9_lay 61 = .ok (.iload_n 2, 1) := by decide +kernel
theorem dX9_lay_62 : decode cX9_lay 62 = .ok (.invokevirtual 153, 3) := by decide +kernel
theorem dX9_lay_65 : decode cX9_lay 65 = .ok (.aload_n 0, 1) := by decide +kernel
theorem dX9_lay_66 : decode cX9_lay 66 = .ok (.dup, 1) := by decide +kernel
theorem dX9_lay_67 : decode cX9_lay 67 = .ok (.getfield 64, 3) := by decide +kernel
theorem dX9_lay_70 : decode cX9_lay 70 = .ok (.iconst 1, 1) := by decide +kernel
theorem dX9_lay_71 : decode cX9_lay 71 = .ok (.iadd, 1) := by decide +kernel
theorem dX9_lay_72 : decode cX9_lay 72 = .ok (.putfield 64, 3) := by decide +kernel
theorem dX9_lay_75 : decode cX9_lay 75 = .ok (.iload_n 3, 1) := by decide +kernel
theorem dX9_lay_76 : decode cX9_lay 76 = .ok (.iconst 4, 1) := by decide +kernel
theorem dX9_lay_77 : decode cX9_lay 77 = .ok (.if_icmp .ne 20, 3) := by decide +kernel
theorem dX9_lay_80 : decode cX9_lay 80 = .ok (.aload_n 0, 1) := by decide +kernel
theorem dX9_lay_81 : decode cX9_lay 81 = .ok (.invokevirtual 156, 3) := by decide +kernel
theorem dX9_lay_84 : decode cX9_lay 84 = .ok (.aload_n 0, 1) := by decide +kernel
theorem dX9_lay_85 : decode cX9_lay 85 = .ok (.dup, 1) := by decide +kernel
theorem dX9_lay_86 : decode cX9_lay 86 = .ok (.getfield 48, 3) := by decide +kernel
theorem dX9_lay_89 : decode cX9_lay 89 = .ok (.iconst 1, 1) := by decide +kernel
theorem dX9_lay_90 : decode cX9_lay 90 = .ok (.iadd, 1) := by decide +kernel
theorem dX9_lay_91 : decode cX9_lay 91 = .ok (.putfield 48, 3) := by decide +kernel
theorem dX9_lay_94 : decode cX9_lay 94 = .ok (.goto 100, 3) := by decide +kernel
theorem dX9_lay_97 : decode cX9_lay 97 = .ok (.iload_n 3, 1) := by decide +kernel
theorem dX9_lay_98 : decode cX9_lay 98 = .ok (.iconst 1, 1) := by decide +kernel
theorem dX9_lay_99 : decode cX9_lay 99 = .ok (.if_icmp .ne 26, 3) := by decide +kernel
theorem dX9_lay_102 : decode cX9_lay 102 = .ok (.aload_n 0, 1) := by decide +kernel
theorem dX9_lay_103 : decode cX9_lay 103 = .ok (.getfield 28, 3) := by decide +kernel
theorem dX9_lay_106 : decode cX9_lay 106 = .ok (.getfield 159, 3) := by decide +kernel
theorem dX9_lay_109 : decode cX9_lay 109 = .ok (.iload 4, 2) := by decide +kernel
theorem dX9_lay_111 : decode cX9_lay 111 = .ok (.aload_n 0, 1) := by decide +kernel
theorem dX9_lay_112 : decode cX9_lay 112 = .ok (.getfield 28, 3) := by decide +kernel
theorem dX9_lay_115 : decode cX9_lay 115 = .ok (.iload_n 1, 1) := by decide +kernel
theorem dX9_lay_116 : decode cX9_lay 116 = .ok (.iload 5, 2) := by decide +kernel
theorem dX9_lay_118 : decode cX9_lay 118 = .ok (.invokevirtual 128, 3) := by decide +kernel
theorem dX9_lay_121 : decode cX9_lay 121 = .ok (.iastore, 1) := by decide +kernel
theorem dX9_lay_122 : decode cX9_lay 122 = .ok (.goto 72, 3) := by decide +kernel
theorem dX9_lay_125 : decode cX9_lay 125 = .ok (.iload_n 3, 1) := by decide +kernel
theorem dX9_lay_126 : decode cX9_lay 126 = .ok (.iconst 3, 1) := by decide +kernel
theorem dX9_lay_127 : decode cX9_lay 127 = .ok (.if_icmp .ne 12, 3) := by decide +kernel
theorem dX9_lay_130 : decode cX9_lay 130 = .ok (.aload_n 0, 1) := by decide +kernel
theorem dX9_lay_131 : decode cX9_lay 131 = .ok (.getfield 28, 3) := by decide +kernel
theorem dX9_lay_134 : decode cX9_lay 134 = .ok (.iload 5, 2) := by decide +kernel
theorem dX9_lay_136 : decode cX9_lay 136 = .ok (.invokevirtual 162, 3) := by decide +kernel
theorem dX9_lay_139 : decode cX9_lay 139 = .ok (.aload_n 0, 1) := by decide +kernel
theorem dX9_lay_140 : decode cX9_lay 140 = .ok (.getfield 28, 3) := by decide +kernel
theorem dX9_lay_143 : decode cX9_lay 143 = .ok (.aload_n 0, 1) := by decide +kernel
theorem dX9_lay_144 : decode cX9_lay 144 = .ok (.getfield 21, 3) := by decide +kernel
theorem dX9_lay_147 : decode cX9_lay 147 = .ok (.aload_n 0, 1) := by decide +kernel
theorem dX9_lay_148 : decode cX9_lay 148 = .ok (.getfield 12, 3) := by decide +kernel
theorem dX9_lay_151 : decode cX9_lay 151 = .ok (.iload 5, 2) := by decide +kernel
theorem dX9_lay_153 : decode cX9_lay 153 = .ok (.aload_n 0, 1) := by decide +kernel
theorem dX9_lay_154 : decode cX9_lay 154 = .ok (.getfield 28, 3) := by decide +kernel
theorem dX9_lay_157 : decode cX9_lay 157 = .ok (.iload 5, 2) := by decide +kernel
theorem dX9_lay_159 : decode cX9_lay 159 = .ok (.invokevirtual 165, 3) := by decide +kernel
theorem dX9_lay_162 : decode cX9_lay 162 = .ok (.invokevirtual 104, 3) := by decide +kernel
theorem dX9_lay_165 : decode cX9_lay 165 = .ok (.aload_n 0, 1) := by decide +kernel
theorem dX9_lay_166 : decode cX9_lay 166 = .ok (.dup, 1) := by decide +kernel
theorem dX9_lay_167 : decode cX9_lay 167 = .ok (.getfield 45, 3) := by decide +kernel
theorem dX9_lay_170 : decode cX9_lay 170 = .ok (.iconst 1, 1) := by decide +kernel
theorem dX9_lay_171 : decode cX9_lay 171 = .ok (.iadd, 1) := by decide +kernel
theorem dX9_lay_172 : decode cX9_lay 172 = .ok (.putfield 45, 3) := by decide +kernel
theorem dX9_lay_175 : decode cX9_lay 175 = .ok (.aload_n 0, 1) := by decide +kernel
theorem dX9_lay_176 : decode cX9_lay 176 = .ok (.dup, 1) := by decide +kernel
theorem dX9_lay_177 : decode cX9_lay 177 = .ok (.getfield 51, 3) := by decide +kernel
theorem dX9_lay_180 : decode cX9_lay 180 = .ok (.aload_n 0, 1) := by decide +kernel
theorem dX9_lay_181 : decode cX9_lay 181 = .ok (.getfield 28, 3) := by decide +kernel
theorem dX9_lay_184 : decode cX9_lay 184 = .ok (.getfield 122, 3) := by decide +kernel
theorem dX9_lay_187 : decode cX9_lay 187 = .ok (.iload 5, 2) := by decide +kernel
theorem dX9_lay_189 : decode cX9_lay 189 = .ok (.iaload, 1) := by decide +kernel
theorem dX9_lay_190 : decode cX9_lay 190 = .ok (.iadd, 1) := by decide +kernel
theorem dX9_lay_191 : decode cX9_lay 191 = .ok (.putfield 51, 3) := by decide +kernel
theorem dX9_lay_194 : decode cX9_lay 194 = .ok (.iload_n 3, 1) := by decide +kernel
theorem dX9_lay_195 : decode cX9_lay 195 = .ok (.ireturn, 1) := by decide +kernel
theorem dX9_take_0 : decode cX9_take 0 = .ok (.aload_n 0, 1) := by decide +kernel
theorem dX9_take_1 : decode cX9_take 1 = .ok (.getfield 21, 3) := by decide +kernel
theorem dX9_take_4 : decode cX9_take 4 = .ok (.iload_n 1, 1) := by decide +kernel
theorem dX9_take_5 : decode cX9_take 5 = .ok (.invokevirtual 115, 3) := by decide +kernel
theorem dX9_take_8 : decode cX9_take 8 = .ok (.istore_n 2, 1) := by decide +kernel
theorem dX9_take_9 : decode cX9_take 9 = .ok (.iload_n 2, 1) := by decide +kernel
theorem dX9_take_10 : decode cX9_take 10 = .ok (.ifCond .ge 5, 3) := by decide +kernel
theorem dX9_take_13 : decode cX9_take 13 = .ok (.iconst (-1), 1) := by decide +kernel
theorem dX9_take_14 : decode cX9_take 14 = .ok (.ireturn, 1) := by decide +kernel
theorem dX9_take_15 : decode cX9_take 15 = .ok (.aload_n 0, 1) := by decide +kernel
theorem dX9_take_16 : decode cX9_take 16 = .ok (.getfield 28, 3) := by decide +kernel
theorem dX9_take_19 : decode cX9_take 19 = .ok (.iload_n 2, 1) := by decide +kernel
theorem dX9_take_20 : decode cX9_take 20 = .ok (.invokevirtual 168, 3) := by decide +kernel
theorem dX9_take_23 : decode cX9_take 23 = .ok (.aload_n 0, 1) := by decide +kernel
theorem dX9_take_24 : decode cX9_take 24 = .ok (.getfield 21, 3) := by decide +kernel
theorem dX9_take_27 : decode cX9_take 27 = .ok (.iload_n 2, 1) := by decide +kernel
theorem dX9_take_28 : decode cX9_take 28 = .ok (.invokevirtual 171, 3) := by decide +kernel
theorem dX9_take_31 : decode cX9_take 31 = .ok (.aload_n 0, 1) := by decide +kernel
theorem dX9_take_32 : decode cX9_take 32 = .ok (.dup, 1) := by decide +kernel
theorem dX9_take_33 : decode cX9_take 33 = .ok (.getfield 64, 3) := by decide +kernel
theorem dX9_take_36 : decode cX9_take 36 = .ok (.iconst 1, 1) := by decide +kernel
theorem dX9_take_37 : decode cX9_take 37 = .ok (.iadd, 1) := by decide +kernel
theorem dX9_take_38 : decode cX9_take 38 = .ok (.putfield 64, 3) := by decide +kernel
theorem dX9_take_41 : decode cX9_take 41 = .ok (.aload_n 0, 1) := by decide +kernel
theorem dX9_take_42 : decode cX9_take 42 = .ok (.getfield 64, 3) := by decide +kernel
theorem dX9_take_45 : decode cX9_take 45 = .ok (.aload_n 0, 1) := by decide +kernel
theorem dX9_take_46 : decode cX9_take 46 = .ok (.getfield 61, 3) := by decide +kernel
theorem dX9_take_49 : decode cX9_take 49 = .ok (.if_icmp .le 19, 3) := by decide +kernel
theorem dX9_take_52 : decode cX9_take 52 = .ok (.aload_n 0, 1) := by decide +kernel
theorem dX9_take_53 : decode cX9_take 53 = .ok (.invokevirtual 156, 3) := by decide +kernel
theorem dX9_take_56 : decode cX9_take 56 = .ok (.aload_n 0, 1) := by decide +kernel
theorem dX9_take_57 : decode cX9_take 57 = .ok (.dup, 1) := by decide +kernel
theorem dX9_take_58 : decode cX9_take 58 = .ok (.getfield 48, 3) := by decide +kernel
theorem dX9_take_61 : decode cX9_take 61 = .ok (.iconst 1, 1) := by decide +kernel
theorem dX9_take_62 : decode cX9_take 62 = .ok (.iadd, 1) := by decide +kernel
theorem dX9_take_63 : decode cX9_take 63 = .ok (.putfield 48, 3) := by decide +kernel
theorem dX9_take_66 : decode cX9_take 66 = .ok (.iconst 2, 1) := by decide +kernel
theorem dX9_take_67 : decode cX9_take 67 = .ok (.ireturn, 1) := by decide +kernel
theorem dX9_take_68 : decode cX9_take 68 = .ok (.iconst 1, 1) := by decide +kernel
theorem dX9_take_69 : decode cX9_take 69 = .ok (.ireturn, 1) := by decide +kernel
theorem dX9_become_0 : decode cX9_become 0 = .ok (.aload_n 0, 1) := by decide +kernel
theorem dX9_become_1 : decode cX9_become 1 = .ok (.aload_n 1, 1) := by decide +kernel
theorem dX9_become_2 : decode cX9_become 2 = .ok (.getfield 32, 3) := by decide +kernel
theorem dX9_become_5 : decode cX9_become 5 = .ok (.aload_n 1, 1) := by decide +kernel
theorem dX9_become_6 : decode cX9_become 6 = .ok (.getfield 36, 3) := by decide +kernel
theorem dX9_become_9 : decode cX9_become 9 = .ok (.aload_n 1, 1) := by decide +kernel
theorem dX9_become_10 : decode cX9_become 10 = .ok (.getfield 39, 3) := by decide +kernel
theorem dX9_become_13 : decode cX9_become 13 = .ok (.aload_n 1, 1) := by decide +kernel
theorem dX9_become_14 : decode cX9_become 14 = .ok (.getfield 12, 3) := by decide +kernel
theorem dX9_become_17 : decode cX9_become 17 = .ok (.getfield 172, 3) := by decide +kernel
theorem dX9_become_20 : decode cX9_become 20 = .ok (.invokevirtual 176, 3) := by decide +kernel
theorem dX9_become_23 : decode cX9_become 23 = .ok (.aload_n 0, 1) := by decide +kernel
theorem dX9_become_24 : decode cX9_become 24 = .ok (.aload_n 1, 1) := by decide +kernel
theorem dX9_become_25 : decode cX9_become 25 = .ok (.getfield 61, 3) := by decide +kernel
theorem dX9_become_28 : decode cX9_become 28 = .ok (.putfield 61, 3) := by decide +kernel
theorem dX9_become_31 : decode cX9_become 31 = .ok (.aload_n 0, 1) := by decide +kernel
theorem dX9_become_32 : decode cX9_become 32 = .ok (.aload_n 1, 1) := by decide +kernel
theorem dX9_become_33 : decode cX9_become 33 = .ok (.getfield 64, 3) := by decide +kernel
theorem dX9_become_36 : decode cX9_become 36 = .ok (.putfield 64, 3) := by decide +kernel
theorem dX9_become_39 : decode cX9_become 39 = .ok (.aload_n 0, 1) := by decide +kernel
theorem dX9_become_40 : decode cX9_become 40 = .ok (.aload_n 1, 1) := by decide +kernel
theorem dX9_become_41 : decode cX9_become 41 = .ok (.getfield 42, 3) := by decide +kernel
theorem dX9_become_44 : decode cX9_become 44 = .ok (.putfield 42, 3) := by decide +kernel
theorem dX9_become_47 : decode cX9_become 47 = .ok (.aload_n 0, 1) := by decide +kernel
theorem dX9_become_48 : decode cX9_become 48 = .ok (.aload_n 1, 1) := by decide +kernel
theorem dX9_become_49 : decode cX9_become 49 = .ok (.getfield 45, 3) := by decide +kernel
theorem dX9_become_52 : decode cX9_become 52 = .ok (.putfield 45, 3) := by decide +kernel
theorem dX9_become_55 : decode cX9_become 55 = .ok (.aload_n 0, 1) := by decide +kernel
theorem dX9_become_56 : decode cX9_become 56 = .ok (.aload_n 1, 1) := by decide +kernel
theorem dX9_become_57 : decode cX9_become 57 = .ok (.getfield 48, 3) := by decide +kernel
theorem dX9_become_60 : decode cX9_become 60 = .ok (.putfield 48, 3) := by decide +kernel
theorem dX9_become_63 : decode cX9_become 63 = .ok (.aload_n 0, 1) := by decide +kernel
theorem dX9_become_64 : decode cX9_become 64 = .ok (.aload_n 1, 1) := by decide +kernel
theorem dX9_become_65 : decode cX9_become 65 = .ok (.getfield 51, 3) := by decide +kernel
theorem dX9_become_68 : decode cX9_become 68 = .ok (.putfield 51, 3) := by decide +kernel
theorem dX9_become_71 : decode cX9_become 71 = .ok (.aload_n 0, 1) := by decide +kernel
theorem dX9_become_72 : decode cX9_become 72 = .ok (.getfield 12, 3) := by decide +kernel
theorem dX9_become_75 : decode cX9_become 75 = .ok (.aload_n 1, 1) := by decide +kernel
theorem dX9_become_76 : decode cX9_become 76 = .ok (.getfield 12, 3) := by decide +kernel
theorem dX9_become_79 : decode cX9_become 79 = .ok (.getfield 179, 3) := by decide +kernel
theorem dX9_become_82 : decode cX9_become 82 = .ok (.putfield 179, 3) := by decide +kernel
theorem dX9_become_85 : decode cX9_become 85 = .ok (.aload_n 0, 1) := by decide +kernel
theorem dX9_become_86 : decode cX9_become 86 = .ok (.getfield 21, 3) := by decide +kernel
theorem dX9_become_89 : decode cX9_become 89 = .ok (.aload_n 1, 1) := by decide +kernel
theorem dX9_become_90 : decode cX9_become 90 = .ok (.getfield 21, 3) := by decide +kernel
theorem dX9_become_93 : decode cX9_become 93 = .ok (.invokevirtual 182, 3) := by decide +kernel
theorem dX9_become_96 : decode cX9_become 96 = .ok (.aload_n 0, 1) := by decide +kernel
theorem dX9_become_97 : decode cX9_become 97 = .ok (.getfield 28, 3) := by decide +kernel
theorem dX9_become_100 : decode cX9_become 100 = .ok (.aload_n 1, 1) := by decide +kernel
theorem dX9_become_101 : decode cX9_become 101 = .ok (.getfield 28, 3) := by decide +kernel
theorem dX9_become_104 : decode cX9_become 104 = .ok (.invokevirtual 186, 3) := by decide +kernel
theorem dX9_become_107 : decode cX9_become 107 = .ok (.return_, 1) := by decide +kernel
