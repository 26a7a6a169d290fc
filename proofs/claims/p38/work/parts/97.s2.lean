theorem dX10_has_14 : decode cX10_has 14 = .ok (.iload_n 2, 1) := by decide +kernel
theorem dX10_has_15 : decode cX10_has 15 = .ok (.tableswitch 203 0 16 #[81, 90, 96, 102, 111, 120, 126, 135, 144, 150, 159, 165, 171, 177, 185, 191, 197], 81) := by decide +kernel
theorem dX10_has_96 : decode cX10_has 96 = .ok (.aload_n 3, 1) := by decide +kernel
theorem dX10_has_97 : decode cX10_has 97 = .ok (.getfield 93, 3) := by decide +kernel
theorem dX10_has_100 : decode cX10_has 100 = .ok (.getfield 121, 3) := by decide +kernel
theorem dX10_has_103 : decode cX10_has 103 = .ok (.i2l, 1) := by decide +kernel
theorem dX10_has_104 : decode cX10_has 104 = .ok (.lreturn, 1) := by decide +kernel
theorem dX10_has_105 : decode cX10_has 105 = .ok (.aload_n 3, 1) := by decide +kernel
theorem dX10_has_106 : decode cX10_has 106 = .ok (.getfield 124, 3) := by decide +kernel
theorem dX10_has_109 : decode cX10_has 109 = .ok (.i2l, 1) := by decide +kernel
theorem dX10_has_110 : decode cX10_has 110 = .ok (.lreturn, 1) := by decide +kernel
theorem dX10_has_111 : decode cX10_has 111 = .ok (.aload_n 3, 1) := by decide +kernel
theorem dX10_has_112 : decode cX10_has 112 = .ok (.getfield 127, 3) := by decide +kernel
theorem dX10_has_115 : decode cX10_has 115 = .ok (.i2l, 1) := by decide +kernel
theorem dX10_has_116 : decode cX10_has 116 = .ok (.lreturn, 1) := by decide +kernel
theorem dX10_has_117 : decode cX10_has 117 = .ok (.aload_n 3, 1) := by decide +kernel
theorem dX10_has_118 : decode cX10_has 118 = .ok (.getfield 130, 3) := by decide +kernel
theorem dX10_has_121 : decode cX10_has 121 = .ok (.getfield 134, 3) := by decide +kernel
theorem dX10_has_124 : decode cX10_has 124 = .ok (.i2l, 1) := by decide +kernel
theorem dX10_has_125 : decode cX10_has 125 = .ok (.lreturn, 1) := by decide +kernel
theorem dX10_has_126 : decode cX10_has 126 = .ok (.aload_n 3, 1) := by decide +kernel
theorem dX10_has_127 : decode cX10_has 127 = .ok (.getfield 130, 3) := by decide +kernel
theorem dX10_has_130 : decode cX10_has 130 = .ok (.getfield 139, 3) := by decide +kernel
theorem dX10_has_133 : decode cX10_has 133 = .ok (.i2l, 1) := by decide +kernel
theorem dX10_has_134 : decode cX10_has 134 = .ok (.lreturn, 1) := by decide +kernel
theorem dX10_has_135 : decode cX10_has 135 = .ok (.aload_n 3, 1) := by decide +kernel
theorem dX10_has_136 : decode cX10_has 136 = .ok (.invokevirtual 142, 3) := by decide +kernel
theorem dX10_has_139 : decode cX10_has 139 = .ok (.i2l, 1) := by decide +kernel
theorem dX10_has_140 : decode cX10_has 140 = .ok (.lreturn, 1) := by decide +kernel
theorem dX10_has_141 : decode cX10_has 141 = .ok (.aload_n 3, 1) := by decide +kernel
theorem dX10_has_142 : decode cX10_has 142 = .ok (.getfield 130, 3) := by decide +kernel
theorem dX10_has_145 : decode cX10_has 145 = .ok (.getfield 146, 3) := by decide +kernel
theorem dX10_has_148 : decode cX10_has 148 = .ok (.i2l, 1) := by decide +kernel
theorem dX10_has_149 : decode cX10_has 149 = .ok (.lreturn, 1) := by decide +kernel
theorem dX10_has_150 : decode cX10_has 150 = .ok (.aload_n 3, 1) := by decide +kernel
theorem dX10_has_151 : decode cX10_has 151 = .ok (.getfield 130, 3) := by decide +kernel
theorem dX10_has_154 : decode cX10_has 154 = .ok (.getfield 149, 3) := by decide +kernel
theorem dX10_has_157 : decode cX10_has 157 = .ok (.i2l, 1) := by decide +kernel
theorem dX10_has_158 : decode cX10_has 158 = .ok (.lreturn, 1) := by decide +kernel
theorem dX10_has_159 : decode cX10_has 159 = .ok (.aload_n 3, 1) := by decide +kernel
theorem dX10_has_160 : decode cX10_has 160 = .ok (.getfield 152, 3) := by decide +kernel
theorem dX10_has_163 : decode cX10_has 163 = .ok (.i2l, 1) := by decide +kernel
theorem dX10_has_164 : decode cX10_has 164 = .ok (.lreturn, 1) := by decide +kernel
theorem dX10_has_165 : decode cX10_has 165 = .ok (.aload_n 3, 1) := by decide +kernel
theorem dX10_has_166 : decode cX10_has 166 = .ok (.getfield 109, 3) := by decide +kernel
theorem dX10_has_169 : decode cX10_has 169 = .ok (.getfield 113, 3) := by decide +kernel
theorem dX10_has_172 : decode cX10_has 172 = .ok (.i2l, 1) := by decide +kernel
theorem dX10_has_173 : decode cX10_has 173 = .ok (.lreturn, 1) := by decide +kernel
theorem dX10_has_174 : decode cX10_has 174 = .ok (.aload_n 3, 1) := by decide +kernel
theorem dX10_has_175 : decode cX10_has 175 = .ok (.getfield 155, 3) := by decide +kernel
theorem dX10_has_178 : decode cX10_has 178 = .ok (.i2l, 1) := by decide +kernel
theorem dX10_has_179 : decode cX10_has 179 = .ok (.lreturn, 1) := by decide +kernel
theorem dX10_has_180 : decode cX10_has 180 = .ok (.aload_n 3, 1) := by decide +kernel
theorem dX10_has_181 : decode cX10_has 181 = .ok (.getfield 118, 3) := by decide +kernel
theorem dX10_has_184 : decode cX10_has 184 = .ok (.i2l, 1) := by decide +kernel
theorem dX10_has_185 : decode cX10_has 185 = .ok (.lreturn, 1) := by decide +kernel
theorem dX10_has_186 : decode cX10_has 186 = .ok (.aload_n 3, 1) := by decide +kernel
theorem dX10_has_187 : decode cX10_has 187 = .ok (.getfield 158, 3) := by decide +kernel
theorem dX10_has_190 : decode cX10_has 190 = .ok (.i2l, 1) := by decide +kernel
theorem dX10_has_191 : decode cX10_has 191 = .ok (.lreturn, 1) := by decide +kernel
theorem dX10_has_192 : decode cX10_has 192 = .ok (.aload_n 3, 1) := by decide +kernel
theorem dX10_has_193 : decode cX10_has 193 = .ok (.getfield 109, 3) := by decide +kernel
theorem dX10_has_196 : decode cX10_has 196 = .ok (.getfield 161, 3) := by decide +kernel
theorem dX10_has_199 : decode cX10_has 199 = .ok (.lreturn, 1) := by decide +kernel
theorem dX10_has_200 : decode cX10_has 200 = .ok (.aload_n 3, 1) := by decide +kernel
theorem dX10_has_201 : decode cX10_has 201 = .ok (.getfield 165, 3) := by decide +kernel
theorem dX10_has_204 : decode cX10_has 204 = .ok (.i2l, 1) := by decide +kernel
theorem dX10_has_205 : decode cX10_has 205 = .ok (.lreturn, 1) := by decide +kernel
theorem dX10_has_206 : decode cX10_has 206 = .ok (.aload_n 3, 1) := by decide +kernel
theorem dX10_has_207 : decode cX10_has 207 = .ok (.getfield 168, 3) := by decide +kernel
theorem dX10_has_210 : decode cX10_has 210 = .ok (.i2l, 1) := by decide +kernel
theorem dX10_has_211 : decode cX10_has 211 = .ok (.lreturn, 1) := by decide +kernel
theorem dX10_has_212 : decode cX10_has 212 = .ok (.aload_n 3, 1) := by decide +kernel
theorem dX10_has_213 : decode cX10_has 213 = .ok (.getfield 171, 3) := by decide +kernel
theorem dX10_has_216 : decode cX10_has 216 = .ok (.i2l, 1) := by decide +kernel
theorem dX10_has_217 : decode cX10_has 217 = .ok (.lreturn, 1) := by decide +kernel
theorem dX10_has_218 : decode cX10_has 218 = .ok (.ldc2_w 91, 3) := by decide +kernel
theorem dX10_has_221 : decode cX10_has 221 = .ok (.lreturn, 1) := by decide +kernel
theorem dX10_bucket_12 : decode cX10_bucket 12 = .ok (.aload 4, 2) := by decide +kernel
theorem dX10_bucket_14 : decode cX10_bucket 14 = .ok (.getfield 130, 3) := by decide +kernel
theorem dX10_bucket_17 : decode cX10_bucket 17 = .ok (.iload_n 2, 1) := by decide +kernel
theorem dX10_bucket_18 : decode cX10_bucket 18 = .ok (.invokevirtual 174, 3) := by decide +kernel
theorem dX10_bucket_21 : decode cX10_bucket 21 = .ok (.ifCond .ne 7, 3) := by decide +kernel
theorem dX10_bucket_28 : decode cX10_bucket 28 = .ok (.aload 4, 2) := by decide +kernel
theorem dX10_bucket_30 : decode cX10_bucket 30 = .ok (.getfield 130, 3) := by decide +kernel
theorem dX10_bucket_33 : decode cX10_bucket 33 = .ok (.astore 5, 2) := by decide +kernel
theorem dX10_bucket_35 : decode cX10_bucket 35 = .ok (.iload_n 3, 1) := by decide +kernel
theorem dX10_bucket_36 : decode cX10_bucket 36 = .ok (.tableswitch 100 0 3 #[32, 41, 50, 75], 32) := by decide +kernel
theorem dX10_bucket_68 : decode cX10_bucket 68 = .ok (.aload 5, 2) := by decide +kernel
theorem dX10_bucket_70 : decode cX10_bucket 70 = .ok (.getfield 177, 3) := by decide +kernel
theorem dX10_bucket_73 : decode cX10_bucket 73 = .ok (.iload_n 2, 1) := by decide +kernel
theorem dX10_bucket_74 : decode cX10_bucket 74 = .ok (.iaload, 1) := by decide +kernel
theorem dX10_bucket_75 : decode cX10_bucket 75 = .ok (.i2l, 1) := by decide +kernel
theorem dX10_bucket_76 : decode cX10_bucket 76 = .ok (.lreturn, 1) := by decide +kernel
theorem dX10_bucket_77 : decode cX10_bucket 77 = .ok (.aload 5, 2) := by decide +kernel
theorem dX10_bucket_79 : decode cX10_bucket 79 = .ok (.getfield 180, 3) := by decide +kernel
theorem dX10_bucket_82 : decode cX10_bucket 82 = .ok (.iload_n 2, 1) := by decide +kernel
theorem dX10_bucket_83 : decode cX10_bucket 83 = .ok (.iaload, 1) := by decide +kernel
theorem dX10_bucket_84 : decode cX10_bucket 84 = .ok (.i2l, 1) := by decide +kernel
theorem dX10_bucket_85 : decode cX10_bucket 85 = .ok (.lreturn, 1) := by decide +kernel
theorem dX10_bucket_86 : decode cX10_bucket 86 = .ok (.aload 5, 2) := by decide +kernel
theorem dX10_bucket_88 : decode cX10_bucket 88 = .ok (.getfield 180, 3) := by decide +kernel
theorem dX10_bucket_91 : decode cX10_bucket 91 = .ok (.iload_n 2, 1) := by decide +kernel
theorem dX10_bucket_92 : decode cX10_bucket 92 = .ok (.iaload, 1) := by decide +kernel
theorem dX10_bucket_93 : decode cX10_bucket 93 = .ok (.ifCond .ne 9, 3) := by decide +kernel
theorem dX10_bucket_96 : decode cX10_bucket 96 = .ok (.ldc2_w 183, 3) := by decide +kernel
theorem dX10_bucket_99 : decode cX10_bucket 99 = .ok (.goto 11, 3) := by decide +kernel
theorem dX10_bucket_102 : decode cX10_bucket 102 = .ok (.aload 5, 2) := by decide +kernel
theorem dX10_bucket_104 : decode cX10_bucket 104 = .ok (.getfield 185, 3) := by decide +kernel
theorem dX10_bucket_107 : decode cX10_bucket 107 = .ok (.iload_n 2, 1) := by decide +kernel
theorem dX10_bucket_108 : decode cX10_bucket 108 = .ok (.iaload, 1) := by decide +kernel
theorem dX10_bucket_109 : decode cX10_bucket 109 = .ok (.i2l, 1) := by decide +kernel
theorem dX10_bucket_110 : decode cX10_bucket 110 = .ok (.lreturn, 1) := by decide +kernel
theorem dX10_bucket_111 : decode cX10_bucket 111 = .ok (.aload 5, 2) := by decide +kernel
theorem dX10_bucket_113 : decode cX10_bucket 113 = .ok (.getfield 180, 3) := by decide +kernel
theorem dX10_bucket_116 : decode cX10_bucket 116 = .ok (.iload_n 2, 1) := by decide +kernel
theorem dX10_bucket_117 : decode cX10_bucket 117 = .ok (.iaload, 1) := by decide +kernel
theorem dX10_bucket_118 : decode cX10_bucket 118 = .ok (.ifCond .ne 9, 3) := by decide +kernel
theorem dX10_bucket_121 : decode cX10_bucket 121 = .ok (.ldc2_w 183, 3) := by decide +kernel
theorem dX10_bucket_124 : decode cX10_bucket 124 = .ok (.goto 11, 3) := by decide +kernel
theorem dX10_bucket_127 : decode cX10_bucket 127 = .ok (.aload 5, 2) := by decide +kernel
theorem dX10_bucket_129 : decode cX10_bucket 129 = .ok (.getfield 188, 3) := by decide +kernel
theorem dX10_bucket_132 : decode cX10_bucket 132 = .ok (.iload_n 2, 1) := by decide +kernel
theorem dX10_bucket_133 : decode cX10_bucket 133 = .ok (.iaload, 1) := by decide +kernel
theorem dX10_bucket_134 : decode cX10_bucket 134 = .ok (.i2l, 1) := by decide +kernel
theorem dX10_bucket_135 : decode cX10_bucket 135 = .ok (.lreturn, 1) := by decide +kernel
theorem dX10_bucket_136 : decode cX10_bucket 136 = .ok (.ldc2_w 91, 3) := by decide +kernel
theorem dX10_bucket_139 : decode cX10_bucket 139 = .ok (.lreturn, 1) := by decide +kernel
theorem dX10_room_12 : decode cX10_room 12 = .ok (.aload 4, 2) := by decide +kernel
theorem dX10_room_14 : decode cX10_room 14 = .ok (.getfield 130, 3) := by decide +kernel
theorem dX10_room_17 : decode cX10_room 17 = .ok (.iload_n 2, 1) := by decide +kernel
theorem dX10_room_18 : decode cX10_room 18 = .ok (.invokevirtual 174, 3) := by decide +kernel
theorem dX10_room_21 : decode cX10_room 21 = .ok (.ifCond .ne 6, 3) := by decide +kernel
theorem dX10_room_27 : decode cX10_room 27 = .ok (.iload_n 3, 1) := by decide +kernel
theorem dX10_room_28 : decode cX10_room 28 = .ok (.ifCond .lt 16, 3) := by decide +kernel
theorem dX10_room_31 : decode cX10_room 31 = .ok (.iload_n 3, 1) := by decide +kernel
theorem dX10_room_32 : decode cX10_room 32 = .ok (.aload 4, 2) := by decide +kernel
theorem dX10_room_34 : decode cX10_room 34 = .ok (.getfield 130, 3) := by decide +kernel
theorem dX10_room_37 : decode cX10_room 37 = .ok (.iload_n 2, 1) := by decide +kernel
theorem dX10_room_38 : decode cX10_room 38 = .ok (.invokevirtual 191, 3) := by decide +kernel
theorem dX10_room_41 : decode cX10_room 41 = .ok (.if_icmp .lt 6, 3) := by decide +kernel
theorem dX10_room_44 : decode cX10_room 44 = .ok (.bipush (-2), 2) := by decide +kernel
theorem dX10_room_46 : decode cX10_room 46 = .ok (.ireturn, 1) := by decide +kernel
theorem dX10_room_47 : decode cX10_room 47 = .ok (.aload 4, 2) := by decide +kernel
theorem dX10_room_49 : decode cX10_room 49 = .ok (.getfield 130, 3) := by decide +kernel
theorem dX10_room_52 : decode cX10_room 52 = .ok (.iload_n 2, 1) := by decide +kernel
theorem dX10_room_53 : decode cX10_room 53 = .ok (.iload_n 3, 1) := by decide +kernel
theorem dX10_room_54 : decode cX10_room 54 = .ok (.invokevirtual 194, 3) := by decide +kernel
theorem dX10_room_57 : decode cX10_room 57 = .ok (.istore 5, 2) := by decide +kernel
theorem dX10_room_59 : decode cX10_room 59 = .ok (.iload 5, 2) := by decide +kernel
theorem dX10_room_61 : decode cX10_room 61 = .ok (.ifCond .ge 7, 3) := by decide +kernel
theorem dX10_room_64 : decode cX10_room 64 = .ok (.iconst (-1), 1) := by decide +kernel
theorem dX10_room_65 : decode cX10_room 65 = .ok (.goto 13, 3) := by decide +kernel
theorem dX10_room_68 : decode cX10_room 68 = .ok (.aload 4, 2) := by decide +kernel
theorem dX10_room_70 : decode cX10_room 70 = .ok (.getfield 93, 3) := by decide +kernel
theorem dX10_room_73 : decode cX10_room 73 = .ok (.iload 5, 2) := by decide +kernel
theorem dX10_room_75 : decode cX10_room 75 = .ok (.invokevirtual 197, 3) := by decide +kernel
theorem dX10_room_78 : decode cX10_room 78 = .ok (.ireturn, 1) := by decide +kernel
theorem dX10_place_12 : decode cX10_place 12 = .ok (.iload_n 2, 1) := by decide +kernel
theorem dX10_place_13 : decode cX10_place 13 = .ok (.invokestatic 77, 3) := by decide +kernel
theorem dX10_place_16 : decode cX10_place 16 = .ok (.ifCond .eq 12, 3) := by decide +kernel
theorem dX10_place_19 : decode cX10_place 19 = .ok (.iload_n 3, 1) := by decide +kernel
theorem dX10_place_20 : decode cX10_place 20 = .ok (.ifCond .lt 8, 3) := by decide +kernel
theorem dX10_place_23 : decode cX10_place 23 = .ok (.iload_n 3, 1) := by decide +kernel
theorem dX10_place_24 : decode cX10_place 24 = .ok (.iconst 1, 1) := by decide +kernel
theorem dX10_place_25 : decode cX10_place 25 = .ok (.if_icmp .le 6, 3) := by decide +kernel
theorem dX10_place_31 : decode cX10_place 31 = .ok (.aload 4, 2) := by decide +kernel
theorem dX10_place_33 : decode cX10_place 33 = .ok (.getfield 130, 3) := by decide +kernel
theorem dX10_place_36 : decode cX10_place 36 = .ok (.iload_n 2, 1) := by decide +kernel
theorem dX10_place_37 : decode cX10_place 37 = .ok (.invokevirtual 200, 3) := by decide +kernel
theorem dX10_place_40 : decode cX10_place 40 = .ok (.istore 5, 2) := by decide +kernel
theorem dX10_place_42 : decode cX10_place 42 = .ok (.iload_n 3, 1) := by decide +kernel
theorem dX10_place_43 : decode cX10_place 43 = .ok (.ifCond .ne 8, 3) := by decide +kernel
theorem dX10_place_46 : decode cX10_place 46 = .ok (.iload 5, 2) := by decide +kernel
theorem dX10_place_48 : decode cX10_place 48 = .ok (.goto 14, 3) := by decide +kernel
theorem dX10_place_51 : decode cX10_place 51 = .ok (.aload 4, 2) := by decide +kernel
theorem dX10_place_53 : decode cX10_place 53 = .ok (.getfield 130, 3) := by decide +kernel
theorem dX10_place_56 : decode cX10_place 56 = .ok (.iload_n 2, 1) := by decide +kernel
theorem dX10_place_57 : decode cX10_place 57 = .ok (.iload 5, 2) := by decide +kernel
theorem dX10_place_59 : decode cX10_place 59 = .ok (.invokevirtual 203, 3) := by decide +kernel
theorem dX10_place_62 : decode cX10_place 62 = .ok (.ireturn, 1) := by decide +kernel
theorem dX10_key_10 : decode cX10_key 10 = .ok (.iload_n 2, 1) := by decide +kernel
theorem dX10_key_11 : decode cX10_key 11 = .ok (.ifCond .lt 14, 3) := by decide +kernel
theorem dX10_key_14 : decode cX10_key 14 = .ok (.iload_n 2, 1) := by decide +kernel
theorem dX10_key_15 : decode cX10_key 15 = .ok (.aload_n 3, 1) := by decide +kernel
theorem dX10_key_16 : decode cX10_key 16 = .ok (.getfield 93, 3) := by decide +kernel
theorem dX10_key_19 : decode cX10_key 19 = .ok (.getfield 121, 3) := by decide +kernel
theorem dX10_key_22 : decode cX10_key 22 = .ok (.if_icmp .lt 5, 3) := by decide +kernel
theorem dX10_key_27 : decode cX10_key 27 = .ok (.aload_n 3, 1) := by decide +kernel
theorem dX10_key_28 : decode cX10_key 28 = .ok (.getfield 93, 3) := by decide +kernel
theorem dX10_key_31 : decode cX10_key 31 = .ok (.iload_n 2, 1) := by decide +kernel
theorem dX10_key_32 : decode cX10_key 32 = .ok (.invokevirtual 197, 3) := by decide +kernel
theorem dX10_key_35 : decode cX10_key 35 = .ok (.ireturn, 1) := by decide +kernel
theorem dX10_walk_10 : decode cX10_walk 10 = .ok (.iload_n 2, 1) := by decide +kernel
theorem dX10_walk_11 : decode cX10_walk 11 = .ok (.ifCond .lt 14, 3) := by decide +kernel
theorem dX10_walk_14 : decode cX10_walk 14 = .ok (.iload_n 2, 1) := by decide +kernel
theorem dX10_walk_15 : decode cX10_walk 15 = .ok (.aload_n 3, 1) := by decide +kernel
theorem dX10_walk_16 : decode cX10_walk 16 = .ok (.getfield 93, 3) := by decide +kernel
theorem dX10_walk_19 : decode cX10_walk 19 = .ok (.getfield 121, 3) := by decide +kernel
theorem dX10_walk_22 : decode cX10_walk 22 = .ok (.if_icmp .lt 5, 3) := by decide +kernel
theorem dX10_walk_27 : decode cX10_walk 27 = .ok (.aload_n 3, 1) := by decide +kernel
theorem dX10_walk_28 : decode cX10_walk 28 = .ok (.getfield 130, 3) := by decide +kernel
theorem dX10_walk_31 : decode cX10_walk 31 = .ok (.iload_n 2, 1) := by decide +kernel
theorem dX10_walk_32 : decode cX10_walk 32 = .ok (.invokevirtual 206, 3) := by decide +kernel
theorem dX10_walk_35 : decode cX10_walk 35 = .ok (.istore 4, 2) := by decide +kernel
theorem dX10_walk_37 : decode cX10_walk 37 = .ok (.iload 4, 2) := by decide +kernel
theorem dX10_walk_39 : decode cX10_walk 39 = .ok (.ifCond .ge 7, 3) := by decide +kernel
theorem dX10_walk_42 : decode cX10_walk 42 = .ok (.iconst (-1), 1) := by decide +kernel
theorem dX10_walk_43 : decode cX10_walk 43 = .ok (.goto 12, 3) := by decide +kernel
theorem dX10_walk_46 : decode cX10_walk 46 = .ok (.aload_n 3, 1) := by decide +kernel
theorem dX10_walk_47 : decode cX10_walk 47 = .ok (.getfield 93, 3) := by decide +kernel
theorem dX10_walk_50 : decode cX10_walk 50 = .ok (.iload 4, 2) := by decide +kernel
theorem dX10_walk_52 : decode cX10_walk 52 = .ok (.invokevirtual 197, 3) := by decide +kernel
theorem dX10_walk_55 : decode cX10_walk 55 = .ok (.ireturn, 1) := by decide +kernel
theorem dX10_below_10 : decode cX10_below 10 = .ok (.iload_n 2, 1) := by decide +kernel
theorem dX10_below_11 : decode cX10_below 11 = .ok (.ifCond .ge 5, 3) := by decide +kernel
theorem dX10_below_16 : decode cX10_below 16 = .ok (.aload_n 3, 1) := by decide +kernel
theorem dX10_below_17 : decode cX10_below 17 = .ok (.getfield 93, 3) := by decide +kernel
theorem dX10_below_20 : decode cX10_below 20 = .ok (.iload_n 2, 1) := by decide +kernel
theorem dX10_below_21 : decode cX10_below 21 = .ok (.invokevirtual 209, 3) := by decide +kernel
theorem dX10_below_24 : decode cX10_below 24 = .ok (.ireturn, 1) := by decide +kernel
theorem dX10_nearest_10 : decode cX10_nearest 10 = .ok (.iload_n 2, 1) := by decide +kernel
theorem dX10_nearest_11 : decode cX10_nearest 11 = .ok (.invokestatic 77, 3) := by decide +kernel
theorem dX10_nearest_14 : decode cX10_nearest 14 = .ok (.ifCond .ne 5, 3) := by decide +kernel
theorem dX10_nearest_19 : decode cX10_nearest 19 = .ok (.aload_n 3, 1) := by decide +kernel
theorem dX10_nearest_20 : decode cX10_nearest 20 = .ok (.getfield 93, 3) := by decide +kernel
theorem dX10_nearest_23 : decode cX10_nearest 23 = .ok (.iload_n 2, 1) := by decide +kernel
theorem dX10_nearest_24 : decode cX10_nearest 24 = .ok (.invokevirtual 212, 3) := by decide +kernel
theorem dX10_nearest_27 : decode cX10_nearest 27 = .ok (.ireturn, 1) := by decide +kernel
theorem dX10_many_10 : decode cX10_many 10 = .ok (.iload_n 2, 1) := by decide +kernel
theorem dX10_many_11 : decode cX10_many 11 = .ok (.ifCond .ge 5, 3) := by decide +kernel
theorem dX10_many_16 : decode cX10_many 16 = .ok (.aload_n 3, 1) := by decide +kernel
theorem dX10_many_17 : decode cX10_many 17 = .ok (.getfield 130, 3) := by decide +kernel
theorem dX10_many_20 : decode cX10_many 20 = .ok (.iload_n 2, 1) := by decide +kernel
theorem dX10_many_21 : decode cX10_many 21 = .ok (.invokevirtual 215, 3) := by decide +kernel
theorem dX10_many_24 : decode cX10_many 24 = .ok (.ireturn, 1) := by decide +kernel
theorem dX10_crowd_12 : decode cX10_crowd 12 = .ok (.aload_n 3, 1) := by decide +kernel
theorem dX10_crowd_13 : decode cX10_crowd 13 = .ok (.getfield 130, 3) := by decide +kernel
theorem dX10_crowd_16 : decode cX10_crowd 16 = .ok (.astore 4, 2) := by decide +kernel
theorem dX10_crowd_18 : decode cX10_crowd 18 = .ok (.iload_n 2, 1) := by decide +kernel
theorem dX10_crowd_19 : decode cX10_crowd 19 = .ok (.tableswitch 68 0 3 #[29, 35, 47, 62], 29) := by decide +kernel
theorem dX10_crowd_48 : decode cX10_crowd 48 = .ok (.aload 4, 2) := by decide +kernel
theorem dX10_crowd_50 : decode cX10_crowd 50 = .ok (.invokevirtual 218, 3) := by decide +kernel
theorem dX10_crowd_53 : decode cX10_crowd 53 = .ok (.ireturn, 1) := by decide +kernel
theorem dX10_crowd_54 : decode cX10_crowd 54 = .ok (.aload 4, 2) := by decide +kernel
theorem dX10_crowd_56 : decode cX10_crowd 56 = .ok (.getfield 177, 3) := by decide +kernel
theorem dX10_crowd_59 : decode cX10_crowd 59 = .ok (.aload 4, 2) := by decide +kernel
theorem dX10_crowd_61 : decode cX10_crowd 61 = .ok (.invokevirtual 218, 3) := by decide +kernel
theorem dX10_crowd_64 : decode cX10_crowd 64 = .ok (.iaload, 1) := by decide +kernel
theorem dX10_crowd_65 : decode cX10_crowd 65 = .ok (.ireturn, 1) := by decide +kernel
theorem dX10_crowd_66 : decode cX10_crowd 66 = .ok (.aload_n 3, 1) := by decide +kernel
theorem dX10_crowd_67 : decode cX10_crowd 67 = .ok (.getfield 93, 3) := by decide +kernel
theorem dX10_crowd_70 : decode cX10_crowd 70 = .ok (.getfield 121, 3) := by decide +kernel
theorem dX10_crowd_73 : decode cX10_crowd 73 = .ok (.aload 4, 2) := by decide +kernel
theorem dX10_crowd_75 : decode cX10_crowd 75 = .ok (.iconst 1, 1) := by decide +kernel
theorem dX10_crowd_76 : decode cX10_crowd 76 = .ok (.invokevirtual 215, 3) := by decide +kernel
theorem dX10_crowd_79 : decode cX10_crowd 79 = .ok (.isub, 1) := by decide +kernel
theorem dX10_crowd_80 : decode cX10_crowd 80 = .ok (.ireturn, 1) := by decide +kernel
theorem dX10_crowd_81 : decode cX10_crowd 81 = .ok (.aload 4, 2) := by decide +kernel
theorem dX10_crowd_83 : decode cX10_crowd 83 = .ok (.invokevirtual 221, 3) := by decide +kernel
theorem dX10_crowd_86 : decode cX10_crowd 86 = .ok (.ireturn, 1) := by decide +kernel
theorem dX10_crowd_87 : decode cX10_crowd 87 = .ok (.iconst (-1), 1) := by decide +kernel
theorem dX10_crowd_88 : decode cX10_crowd 88 = .ok (.ireturn, 1) := by decide +kernel
theorem dX10_empty_14 : decode cX10_empty 14 = .ok (.aload_n 2, 1) := by decide +kernel
theorem dX10_empty_15 : decode cX10_empty 15 = .ok (.getfield 130, 3) := by decide +kernel
theorem dX10_empty_18 : decode cX10_empty 18 = .ok (.getfield 139, 3) := by decide +kernel
theorem dX10_empty_21 : decode cX10_empty 21 = .ok (.aload_n 2, 1) := by decide +kernel
theorem dX10_empty_22 : decode cX10_empty 22 = .ok (.getfield 93, 3) := by decide +kernel
theorem dX10_empty_25 : decode cX10_empty 25 = .ok (.getfield 121, 3) := by decide +kernel
theorem dX10_empty_28 : decode cX10_empty 28 = .ok (.isub, 1) := by decide +kernel
theorem dX10_left_14 : decode cX10_left 14 = .ok (.aload_n 2, 1) := by decide +kernel
theorem dX10_left_15 : decode cX10_left 15 = .ok (.getfield 124, 3) := by decide +kernel
theorem dX10_left_18 : decode cX10_left 18 = .ok (.aload_n 2, 1) := by decide +kernel
theorem dX10_left_19 : decode cX10_left 19 = .ok (.getfield 127, 3) := by decide +kernel
theorem dX10_left_22 : decode cX10_left 22 = .ok (.isub, 1) := by decide +kernel
theorem dX10_left_23 : decode cX10_left 23 = .ok (.iconst 1, 1) := by decide +kernel
theorem dX10_left_24 : decode cX10_left 24 = .ok (.iadd, 1) := by decide +kernel
theorem dX10_would_10 : decode cX10_would 10 = .ok (.iload_n 2, 1) := by decide +kernel
theorem dX10_would_11 : decode cX10_would 11 = .ok (.invokestatic 77, 3) := by decide +kernel
theorem dX10_would_14 : decode cX10_would 14 = .ok (.ifCond .ne 6, 3) := by decide +kernel
theorem dX10_would_20 : decode cX10_would 20 = .ok (.aload_n 3, 1) := by decide +kernel
theorem dX10_would_21 : decode cX10_would 21 = .ok (.iload_n 2, 1) := by decide +kernel
theorem dX10_would_22 : decode cX10_would 22 = .ok (.invokevirtual 80, 3) := by decide +kernel
theorem dX10_would_25 : decode cX10_would 25 = .ok (.ifCond .eq 8, 3) := by decide +kernel
theorem dX10_would_28 : decode cX10_would 28 = .ok (.bipush (-3), 2) := by decide +kernel
theorem dX10_would_30 : decode cX10_would 30 = .ok (.goto 8, 3) := by decide +kernel
theorem dX10_would_33 : decode cX10_would 33 = .ok (.aload_n 3, 1) := by decide +kernel
theorem dX10_would_34 : decode cX10_would 34 = .ok (.iload_n 2, 1) := by decide +kernel
theorem dX10_would_35 : decode cX10_would 35 = .ok (.invokevirtual 244, 3) := by decide +kernel
theorem dX10_would_38 : decode cX10_would 38 = .ok (.ireturn, 1) := by decide +kernel
theorem dX10_values_14 : decode cX10_values 14 = .ok (.aload_n 3, 1) := by decide +kernel
theorem dX10_values_15 : decode cX10_values 15 = .ok (.getfield 93, 3) := by decide +kernel
theorem dX10_values_18 : decode cX10_values 18 = .ok (.invokevirtual 269, 3) := by decide +kernel
theorem dX10_values_21 : decode cX10_values 21 = .ok (.istore 4, 2) := by decide +kernel
theorem dX10_values_23 : decode cX10_values 23 = .ok (.iload_n 2, 1) := by decide +kernel
theorem dX10_values_24 : decode cX10_values 24 = .ok (.tableswitch 80 0 2 #[28, 50, 72], 28) := by decide +kernel
theorem dX10_values_52 : decode cX10_values 52 = .ok (.iload 4, 2) := by decide +kernel
theorem dX10_values_54 : decode cX10_values 54 = .ok (.ifCond .ge 9, 3) := by decide +kernel
theorem dX10_values_57 : decode cX10_values 57 = .ok (.ldc2_w 183, 3) := by decide +kernel
theorem dX10_values_60 : decode cX10_values 60 = .ok (.goto 13, 3) := by decide +kernel
theorem dX10_values_63 : decode cX10_values 63 = .ok (.aload_n 3, 1) := by decide +kernel
theorem dX10_values_64 : decode cX10_values 64 = .ok (.getfield 93, 3) := by decide +kernel
theorem dX10_values_67 : decode cX10_values 67 = .ok (.iload 4, 2) := by decide +kernel
theorem dX10_values_69 : decode cX10_values 69 = .ok (.invokevirtual 197, 3) := by decide +kernel
theorem dX10_values_72 : decode cX10_values 72 = .ok (.i2l, 1) := by decide +kernel
theorem dX10_values_73 : decode cX10_values 73 = .ok (.lreturn, 1) := by decide +kernel
theorem dX10_values_74 : decode cX10_values 74 = .ok (.iload 4, 2) := by decide +kernel
theorem dX10_values_76 : decode cX10_values 76 = .ok (.ifCond .ge 9, 3) := by decide +kernel
theorem dX10_values_79 : decode cX10_values 79 = .ok (.ldc2_w 91, 3) := by decide +kernel
theorem dX10_values_82 : decode cX10_values 82 = .ok (.goto 13, 3) := by decide +kernel
theorem dX10_values_85 : decode cX10_values 85 = .ok (.aload_n 3, 1) := by decide +kernel
theorem dX10_values_86 : decode cX10_values 86 = .ok (.getfield 93, 3) := by decide +kernel
theorem dX10_values_89 : decode cX10_values 89 = .ok (.iload 4, 2) := by decide +kernel
theorem dX10_values_91 : decode cX10_values 91 = .ok (.invokevirtual 103, 3) := by decide +kernel
theorem dX10_values_94 : decode cX10_values 94 = .ok (.i2l, 1) := by decide +kernel
theorem dX10_values_95 : decode cX10_values 95 = .ok (.lreturn, 1) := by decide +kernel
theorem dX10_values_96 : decode cX10_values 96 = .ok (.aload_n 3, 1) := by decide +kernel
theorem dX10_values_97 : decode cX10_values 97 = .ok (.getfield 93, 3) := by decide +kernel
theorem dX10_values_100 : decode cX10_values 100 = .ok (.invokevirtual 272, 3) := by decide +kernel
theorem dX10_values_103 : decode cX10_values 103 = .ok (.lreturn, 1) := by decide +kernel
theorem dX10_values_104 : decode cX10_values 104 = .ok (.ldc2_w 91, 3) := by decide +kernel
theorem dX10_values_107 : decode cX10_values 107 = .ok (.lreturn, 1) := by decide +kernel
def own_s_has : List Cond := [.methodLink RX10 74 yX10_tableAt, .instanceMethod yX10_tableAt, .selects RX10 yX10_tableAt yX10_tableAt, .initialized RX10, .fieldLink RX10 93 "ClashFree$Table" "keys" "LClashFree$Keys;", .fieldLink RX10 121 "ClashFree$Keys" "size" "I", .fieldLink RX10 124 "ClashFree$Table" "limit" "I", .fieldLink RX10 127 "ClashFree$Table" "count" "I", .fieldLink RX10 130 "ClashFree$Table" "layout" "LClashFree$Layout;", .fieldLink RX10 134 "ClashFree$Layout" "buckets" "I", .fieldLink RX10 139 "ClashFree$Layout" "sum" "I", .methodLink RX10 142 yX9_mostRooms, .instanceMethod yX9_mostRooms, .selects RX9 yX9_mostRooms yX9_mostRooms, .initialized RX9, .fieldLink RX10 146 "ClashFree$Layout" "a" "I", .fieldLink RX10 149 "ClashFree$Layout" "b" "I", .fieldLink RX10 152 "ClashFree$Table" "reads" "I", .fieldLink RX10 109 "ClashFree$Table" "draw" "LClashFree$Draw;", .fieldLink RX10 113 "ClashFree$Draw" "pairs" "I", .fieldLink RX10 155 "ClashFree$Table" "bucketsBuilt" "I", .fieldLink RX10 118 "ClashFree$Table" "allBuilt" "I", .fieldLink RX10 158 "ClashFree$Table" "laid" "I", .fieldLink RX10 161 "ClashFree$Draw" "s" "J", .fieldLink RX10 165 "ClashFree$Table" "bound" "I", .fieldLink RX10 168 "ClashFree$Table" "spread" "I", .fieldLink RX10 171 "ClashFree$Table" "growth" "I", .constantLong RX10 91 (-1000000000000000)]
def wp_s_has : List Cond := .code yX10_has cX10_has 4 (some .long) :: (own_s_has ++ (wp_k_tabS ++ (wp_k_mostRooms ++ (wsX90 ++ (wsX20 ++ (wsX30 ++ (wsX00 ++ ([] : List Cond))))))))
set_option maxRecDepth 20000 in
theorem inown_s_has : ∀ w ∈ own_s_has, w ∈ lw_tbl := mem_places [610, 612, 2, 106, 518, 476, 501, 503, 522, 181, 187, 721, 588, 589, 116, 183, 185, 505, 514, 160, 507, 509, 511, 148, 493, 496, 499, 691] (by decide +kernel)
set_option maxRecDepth 20000 in
theorem in_s_has : ∀ w ∈ wp_s_has, w ∈ lw_tbl := List.forall_mem_cons.mpr ⟨List.mem_of_getElem? (i := 720) (by decide +kernel), List.forall_mem_append.mpr ⟨inown_s_has, List.forall_mem_append.mpr ⟨in_k_tabS, List.forall_mem_append.mpr ⟨in_k_mostRooms, List.forall_mem_append.mpr ⟨lwb_X9, List.forall_mem_append.mpr ⟨lwb_X2, List.forall_mem_append.mpr ⟨lwb_X3, List.forall_mem_append.mpr ⟨lwb_X0, fun _ h => absurd h List.not_mem_nil⟩⟩⟩⟩⟩⟩⟩⟩
set_option maxRecDepth 20000 in
theorem good_s_has : wp_s_has.all goodWord = true := by decide +kernel
set_option maxRecDepth 20000 in
theorem g_s_has_k_tabS_74 : GoodIn wp_s_has (wsV RX10 74 RX10 yX10_tableAt wp_k_tabS) := goodIn_sub (List.forall_mem_append.mpr ⟨List.forall_mem_cons.mpr ⟨(List.mem_of_getElem? (i := 1) rfl), List.forall_mem_cons.mpr ⟨(List.mem_of_getElem? (i := 2) rfl), List.forall_mem_cons.mpr ⟨(List.mem_of_getElem? (i := 3) rfl), List.forall_mem_cons.mpr ⟨(List.mem_of_getElem? (i := 4) rfl), fun _ h => absurd h List.not_mem_nil⟩⟩⟩⟩, (fun _ h => (List.mem_cons_of_mem _ (List.mem_append_right _ (List.mem_append_left _ h))))⟩) (by decide +kernel)
set_option maxRecDepth 20000 in
theorem g_s_has_k_mostRooms_142 : GoodIn wp_s_has (wsV RX10 142 RX9 yX9_mostRooms wp_k_mostRooms) := goodIn_sub (List.forall_mem_append.mpr ⟨List.forall_mem_cons.mpr ⟨(List.mem_of_getElem? (i := 12) rfl), List.forall_mem_cons.mpr ⟨(List.mem_of_getElem? (i := 13) rfl), List.forall_mem_cons.mpr ⟨(List.mem_of_getElem? (i := 14) rfl), List.forall_mem_cons.mpr ⟨(List.mem_of_getElem? (i := 15) rfl), fun _ h => absurd h List.not_mem_nil⟩⟩⟩⟩, (fun _ h => (List.mem_cons_of_mem _ (List.mem_append_right _ (List.mem_append_right _ (List.mem_append_left _ h)))))⟩) (by decide +kernel)
set_option maxHeartbeats 4000000 in
set_option maxRecDepth 100000 in
theorem s_has (l : Launch) (D : va_G) (sz : Nat) (ox : Nat → Nat) (ob3 : Nat → Nat) (og : Nat → Nat) (oq : Nat → Nat) (ow : Nat → Nat) (ob : Nat → Nat) (cI : ClassId) (cT : ClassId) (tp : Nat) (ft : Nat → Option Nat) (tb : Int32) (ts : Int32) (tg : Int32) (tl : Int32) (tc : Int32) (tr : Int32) (tu : Int32) (tv : Int32) (tw : Int32) (sd : Int64) (da : Nat) (db : Nat) (pr : Int32) (cn : Nat) (fk : Nat → Int32) (fv : Nat → Int32) (nb : Nat) (ka : Nat) (kb : Nat) (sm : Int32) (ln : Nat) (fh : Nat → Int32) (ff : Nat → Int32) (fa : Nat → Int32) (fs : Nat → Int32) (fj : Nat → Int32) (fr : Nat → Int32) (fo : Nat → Int32) (fx : Nat → Int32) (k : Nat) (z2 : Int32) (hk : k < 4) (hft : ft k = some (ob 0)) (hTb : TbI fk fj fh fo cn nb ka kb ln da db) : Met l yX10_has wp_s_has ({ frames := 2, cells := 0, slots := 0, locals := 41 }) (PcRC D [.ref (ox 0), .int (nI k), .int z2] sz [(ox 0, .inr (10, [.ref (ox 1), .ref (ox 2), .int (nI tp), .ref (ob3 0), .ref (og 0), .ref (oq 0), .ref (ow 0)])), (ox 1, .inl (cT, 4, .inr (.inr (.inr (.inr ft))))), (ob 0, .inr (9, gT ob tb ts tg tl tc tr tu tv tw)), (ob 1, .inr (0, [.long sd, .int (nI da), .int (nI db), .int pr])), (ob 2, .inr (2, [.int (nI cn), .ref (ob 3), .ref (ob 4)])), (ob 3, .inl (cI, 160, .inl fk)), (ob 4, .inl (cI, 160, .inl fv)), (ob 5, .inr (3, gY ob (nI nb) (nI ka) (nI kb) sm (nI ln))), (ob 6, .inl (cI, 2048, .inl fh)), (ob 7, .inl (cI, 2048, .inl ff)), (ob 8, .inl (cI, 2048, .inl fa)), (ob 9, .inl (cI, 2048, .inl fs)), (ob 10, .inl (cI, 160, .inl fj)), (ob 11, .inl (cI, 160, .inl fr)), (ob 12, .inl (cI, 160, .inl fo)), (ob 13, .inl (cI, 2048, .inl fx))] [(cI, .int), (cT, .object RX9)]) (va_Ql (fun (r : Int64) (u : Unit) => True) (fun (_ : Unit) _ => True) (va_A [] sz)) 0 0 (va_A [] sz) := by
  refine Met.ofW (cc := cX10_has) (maxL := 4) (ret := (some .long)) (by decide) rfl ?_
  intro p e s m args below meth c s₁ B hml hv
  obtain ⟨rfl, hsz, hP, hK, hN⟩ := hv
  have hx := B.exec
  have hb := B.bytes
  have hr := B.returns
  have hts := atoms_spec (ws := wp_s_has) B.pre
  have hin_X9 : ∀ w ∈ wsX90, w ∈ wp_s_has := fun _ h => (List.mem_cons_of_mem _ (List.mem_append_right _ (List.mem_append_right _ (List.mem_append_right _ (List.mem_append_left _ h)))))
  have hin_X2 : ∀ w ∈ wsX20, w ∈ wp_s_has := fun _ h => (List.mem_cons_of_mem _ (List.mem_append_right _ (List.mem_append_right _ (List.mem_append_right _ (List.mem_append_right _ (List.mem_append_left _ h))))))
  have hin_X3 : ∀ w ∈ wsX30, w ∈ wp_s_has := fun _ h => (List.mem_cons_of_mem _ (List.mem_append_right _ (List.mem_append_right _ (List.mem_append_right _ (List.mem_append_right _ (List.mem_append_right _ (List.mem_append_left _ h)))))))
  have hin_X0 : ∀ w ∈ wsX00, w ∈ wp_s_has := fun _ h => (List.mem_cons_of_mem _ (List.mem_append_right _ (List.mem_append_right _ (List.mem_append_right _ (List.mem_append_right _ (List.mem_append_right _ (List.mem_append_right _ (List.mem_append_left _ h))))))))
  have hown : s.vm.findClass RX10 = some m.cls := findClass_of_methodNamed B.named
  have hlocks := B.notSynchronized
  subst hsz
  generalize hAe : va_A [] s.heap.size = A at ⊢
  have hA : ∀ q : Nat, s.heap.size ≤ q → A q := fun q h => by rw [← hAe]; exact Or.inr h
  have hS : va_S A s.heap s.heap [] := va_S.rf
  have hP : va_P D vwCl [(ox 0, .inr (10, [.ref (ox 1), .ref (ox 2), .int (nI tp), .ref (ob3 0), .ref (og 0), .ref (oq 0), .ref (ow 0)])), (ox 1, .inl (cT, 4, .inr (.inr (.inr (.inr ft))))), (ob 0, .inr (9, gT ob tb ts tg tl tc tr tu tv tw)), (ob 1, .inr (0, [.long sd, .int (nI da), .int (nI db), .int pr])), (ob 2, .inr (2, [.int (nI cn), .ref (ob 3), .ref (ob 4)])), (ob 3, .inl (cI, 160, .inl fk)), (ob 4, .inl (cI, 160, .inl fv)), (ob 5, .inr (3, gY ob (nI nb) (nI ka) (nI kb) sm (nI ln))), (ob 6, .inl (cI, 2048, .inl fh)), (ob 7, .inl (cI, 2048, .inl ff)), (ob 8, .inl (cI, 2048, .inl fa)), (ob 9, .inl (cI, 2048, .inl fs)), (ob 10, .inl (cI, 160, .inl fj)), (ob 11, .inl (cI, 160, .inl fr)), (ob 12, .inl (cI, 160, .inl fo)), (ob 13, .inl (cI, 2048, .inl fx))] s.heap := hP
  have hl := lv_entry ([.ref (ox 0), .int (nI k), .int z2]) (n := 4) (Nat.le_of_ble_eq_true rfl)
  rw [lg_entry_eq]
  generalize (lg_sl ([.ref (ox 0), .int (nI k), .int z2]) ++ List.replicate (4 - (lg_sl ([.ref (ox 0), .int (nI k), .int z2])).length) Slot.unset).toArray = ls at hl ⊢
  have hl : lv_has ls 4 [(0, .ref (ox 0)), (1, .int (nI k)), (2, .int z2)] := hl
  obtain ⟨hky, hL, hO, hn1, hka, hkb, hda, hdb⟩ := id hTb
  have hnb := hL.1
  have hln := hL.2.1
  have hc := hky.1
  have hcz := hky.1
  refine lv_aload_n hx hb dX10_has_0 rfl (lv_at hl 0 rfl) ?_
  refine lv_iload_n hx hb dX10_has_1 rfl (lv_at hl 1 rfl) ?_
  have hPc := hP.sub (ws' := [(ox 0, .inr (10, [.ref (ox 1), .ref (ox 2), .int (nI tp), .ref (ob3 0), .ref (og 0), .ref (oq 0), .ref (ow 0)])), (ox 1, .inl (cT, 4, .inr (.inr (.inr (.inr ft)))))]) [0, 1] rfl
  have hKc := hK.sub (tys' := [(cT, .object RX9)]) [1] rfl
  have hFc := va_free0 hS hA
  refine va_callq (va_runV (As := [.int (nI k)]) (rest := []) ⟨hx, hb, hml, hown, hts⟩ (k_tabS l D _ ox ob3 og oq ow cI cT tp ft k (ob 0) hk hft) (cwV 1 hts g_s_has_k_tabS_74 rfl rfl rfl (by decide +kernel) ⟨(Nat.le_of_ble_eq_true rfl), (Nat.le_of_ble_eq_true rfl)⟩) (PcRC_V (q0 := 0) hPc hKc hN rfl rfl) rfl rfl hl.1 rfl (lv_room (Nat.le_of_ble_eq_true rfl)) dX10_has_2 ⟨(Nat.le_of_ble_eq_true rfl), (Nat.le_of_ble_eq_true rfl)⟩) hS (fun q _ h => hFc q h) hFc (fun r1 uu tt H locs htt hvm hw hB hz1 hk1 hS => ?_)
  have hP := va_keep hP hk1
  try dsimp only at hw
  clear hB hz1 hk1 hFc hPc hKc
  obtain rfl : r1 = some (ob 0) := hw
  refine W.eq (g2 := F0 m 5 ls [.ref (ob 0)]) rfl ?_
  refine lv_astore_n (lv' := [(3, .ref (ob 0)), (0, .ref (ox 0)), (1, .int (nI k)), (2, .int z2)]) hx hb dX10_has_5 rfl hl (by decide) rfl (fun ls hl => ?_)
  refine lv_aload_n hx hb dX10_has_6 rfl (lv_at hl 0 rfl) ?_
  refine lv_ifnonnull (tgt := 14) hx hb dX10_has_7 (by decide) ?_
  refine lv_iload_n hx hb dX10_has_14 rfl (lv_at hl 3 rfl) ?_
  by_cases hs2 : z2 = 0
  ·
    subst hs2
    refine lv_tableIn (off := 81) (tgt := 96) hx hb dX10_has_15 (by decide) (by decide) (by decide +kernel) (by decide) ?_
    refine lv_aload_n hx hb dX10_has_96 rfl (lv_at hl 0 rfl) ?_
    refine va_get (D := D) (ci := 9) (v := .ref (ob 2)) (C := RX9) (T := TX9) (N := 12) hx hb hts hin_X9 hown hK hP 2 rfl rfl 10 (by decide) (hts (.fieldLink RX10 93 "ClashFree$Table" "keys" "LClashFree$Keys;") (List.mem_of_getElem? (i := 5) rfl)) (fun _ h9 => h9) rfl dX10_has_97 ?_
    refine va_get (D := D) (ci := 2) (v := .int (nI cn)) (C := RX2) (T := TX2) (N := 3) hx hb hts hin_X2 hown hK hP 4 rfl rfl 0 (by decide) (hts (.fieldLink RX10 121 "ClashFree$Keys" "size" "I") (List.mem_of_getElem? (i := 6) rfl)) (fun _ h9 => h9) rfl dX10_has_100 ?_
    refine lv_i2l hx hb dX10_has_103 rfl ?_
    exact W.lret (v := Int32.toInt64 (nI cn)) hx hb hr (fun t ht hW => ⟨⟨Int32.toInt64 (nI cn), (), rfl, trivial, trivial⟩, hS.F ht⟩) hS.2.2 dX10_has_104
  by_cases hs3 : z2 = 1
  ·
    subst hs3
    refine lv_tableIn (off := 90) (tgt := 105) hx hb dX10_has_15 (by decide) (by decide) (by decide +kernel) (by decide) ?_
    refine lv_aload_n hx hb dX10_has_105 rfl (lv_at hl 0 rfl) ?_
    refine va_get (D := D) (ci := 9) (v := .int tl) (C := RX9) (T := TX9) (N := 12) hx hb hts hin_X9 hown hK hP 2 rfl rfl 3 (by decide) (hts (.fieldLink RX10 124 "ClashFree$Table" "limit" "I") (List.mem_of_getElem? (i := 7) rfl)) (fun _ h9 => h9) rfl dX10_has_106 ?_
    refine lv_i2l hx hb dX10_has_109 rfl ?_
    exact W.lret (v := Int32.toInt64 tl) hx hb hr (fun t ht hW => ⟨⟨Int32.toInt64 tl, (), rfl, trivial, trivial⟩, hS.F ht⟩) hS.2.2 dX10_has_110
  by_cases hs4 : z2 = 2
  ·
    subst hs4
    refine lv_tableIn (off := 96) (tgt := 111) hx hb dX10_has_15 (by decide) (by decide) (by decide +kernel) (by decide) ?_
    refine lv_aload_n hx hb dX10_has_111 rfl (lv_at hl 0 rfl) ?_
    refine va_get (D := D) (ci := 9) (v := .int tc) (C := RX9) (T := TX9) (N := 12) hx hb hts hin_X9 hown hK hP 2 rfl rfl 4 (by decide) (hts (.fieldLink RX10 127 "ClashFree$Table" "count" "I") (List.mem_of_getElem? (i := 8) rfl)) (fun _ h9 => h9) rfl dX10_has_112 ?_
    refine lv_i2l hx hb dX10_has_115 rfl ?_
    exact W.lret (v := Int32.toInt64 tc) hx hb hr (fun t ht hW => ⟨⟨Int32.toInt64 tc, (), rfl, trivial, trivial⟩, hS.F ht⟩) hS.2.2 dX10_has_116
  by_cases hs5 : z2 = 3
  ·
    subst hs5
    refine lv_tableIn (off := 102) (tgt := 117) hx hb dX10_has_15 (by decide) (by decide) (by decide +kernel) (by decide) ?_
    refine lv_aload_n hx hb dX10_has_117 rfl (lv_at hl 0 rfl) ?_
    refine va_get (D := D) (ci := 9) (v := .ref (ob 5)) (C := RX9) (T := TX9) (N := 12) hx hb hts hin_X9 hown hK hP 2 rfl rfl 11 (by decide) (hts (.fieldLink RX10 130 "ClashFree$Table" "layout" "LClashFree$Layout;") (List.mem_of_getElem? (i := 9) rfl)) (fun _ h9 => h9) rfl dX10_has_118 ?_
    refine va_get (D := D) (ci := 3) (v := .int (nI nb)) (C := RX3) (T := TX3) (N := 13) hx hb hts hin_X3 hown hK hP 7 rfl rfl 0 (by decide) (hts (.fieldLink RX10 134 "ClashFree$Layout" "buckets" "I") (List.mem_of_getElem? (i := 10) rfl)) (fun _ h9 => h9) rfl dX10_has_121 ?_
    refine lv_i2l hx hb dX10_has_124 rfl ?_
    exact W.lret (v := Int32.toInt64 (nI nb)) hx hb hr (fun t ht hW => ⟨⟨Int32.toInt64 (nI nb), (), rfl, trivial, trivial⟩, hS.F ht⟩) hS.2.2 dX10_has_125
  by_cases hs6 : z2 = 4
  ·
    subst hs6
    refine lv_tableIn (off := 111) (tgt := 126) hx hb dX10_has_15 (by decide) (by decide) (by decide +kernel) (by decide) ?_
    refine lv_aload_n hx hb dX10_has_126 rfl (lv_at hl 0 rfl) ?_
    refine va_get (D := D) (ci := 9) (v := .ref (ob 5)) (C := RX9) (T := TX9) (N := 12) hx hb hts hin_X9 hown hK hP 2 rfl rfl 11 (by decide) (hts (.fieldLink RX10 130 "ClashFree$Table" "layout" "LClashFree$Layout;") (List.mem_of_getElem? (i := 9) rfl)) (fun _ h9 => h9) rfl dX10_has_127 ?_
    refine va_get (D := D) (ci := 3) (v := .int sm) (C := RX3) (T := TX3) (N := 13) hx hb hts hin_X3 hown hK hP 7 rfl rfl 3 (by decide) (hts (.fieldLink RX10 139 "ClashFree$Layout" "sum" "I") (List.mem_of_getElem? (i := 11) rfl)) (fun _ h9 => h9) rfl dX10_has_130 ?_
    refine lv_i2l hx hb dX10_has_133 rfl ?_
    exact W.lret (v := Int32.toInt64 sm) hx hb hr (fun t ht hW => ⟨⟨Int32.toInt64 sm, (), rfl, trivial, trivial⟩, hS.F ht⟩) hS.2.2 dX10_has_134
  by_cases hs7 : z2 = 5
  ·
    subst hs7
    refine lv_tableIn (off := 120) (tgt := 135) hx hb dX10_has_15 (by decide) (by decide) (by decide +kernel) (by decide) ?_
    refine lv_aload_n hx hb dX10_has_135 rfl (lv_at hl 0 rfl) ?_
    have hPc := hP.sub (ws' := [(ob 0, .inr (9, gT ob tb ts tg tl tc tr tu tv tw))]) [2] rfl
    have hKc := hK.sub (tys' := []) [] rfl
    have hFc := va_free0 hS hA
    refine va_calli (va_runV (As := []) (rest := []) ⟨hx, hb, hml, hown, hts⟩ (k_mostRooms l D _ ob cI tb ts tg tl tc tr tu tv tw) (cwV 0 hts g_s_has_k_mostRooms_142 rfl rfl rfl (by decide +kernel) ⟨(Nat.le_of_ble_eq_true rfl), (Nat.le_of_ble_eq_true rfl)⟩) (PcRC_V (q0 := 0) hPc hKc hN rfl rfl) rfl rfl hl.1 rfl (lv_room (Nat.le_of_ble_eq_true rfl)) dX10_has_136 ⟨(Nat.le_of_ble_eq_true rfl), (Nat.le_of_ble_eq_true rfl)⟩) hS (fun q _ h => hFc q h) hFc (fun r8 uu tt H locs htt hvm hw hB hz1 hk1 hS => ?_)
    have hP := va_keep hP hk1
    try dsimp only at hw
    clear hB hz1 hk1 hFc hPc hKc
    refine lv_i2l hx hb dX10_has_139 rfl ?_
    exact W.lret (v := Int32.toInt64 r8) hx hb hr (fun t ht hW => ⟨⟨Int32.toInt64 r8, (), rfl, trivial, trivial⟩, hS.F ht⟩) hS.2.2 dX10_has_140
  by_cases hs9 : z2 = 6
  ·
    subst hs9
    refine lv_tableIn (off := 126) (tgt := 141) hx hb dX10_has_15 (by decide) (by decide) (by decide +kernel) (by decide) ?_
    refine lv_aload_n hx hb dX10_has_141 rfl (lv_at hl 0 rfl) ?_
    refine va_get (D := D) (ci := 9) (v := .ref (ob 5)) (C := RX9) (T := TX9) (N := 12) hx hb hts hin_X9 hown hK hP 2 rfl rfl 11 (by decide) (hts (.fieldLink RX10 130 "ClashFree$Table" "layout" "LClashFree$Layout;") (List.mem_of_getElem? (i := 9) rfl)) (fun _ h9 => h9) rfl dX10_has_142 ?_
    refine va_get (D := D) (ci := 3) (v := .int (nI ka)) (C := RX3) (T := TX3) (N := 13) hx hb hts hin_X3 hown hK hP 7 rfl rfl 1 (by decide) (hts (.fieldLink RX10 146 "ClashFree$Layout" "a" "I") (List.mem_of_getElem? (i := 16) rfl)) (fun _ h9 => h9) rfl dX10_has_145 ?_
    refine lv_i2l hx hb dX10_has_148 rfl ?_
    exact W.lret (v := Int32.toInt64 (nI ka)) hx hb hr (fun t ht hW => ⟨⟨Int32.toInt64 (nI ka), (), rfl, trivial, trivial⟩, hS.F ht⟩) hS.2.2 dX10_has_149
  by_cases hs10 : z2 = 7
  ·
    subst hs10
    refine lv_tableIn (off := 135) (tgt := 150) hx hb dX10_has_15 (by decide) (by decide) (by decide +kernel) (by decide) ?_
    refine lv_aload_n hx hb dX10_has_150 rfl (lv_at hl 0 rfl) ?_
    refine va_get (D := D) (ci := 9) (v := .ref (ob 5)) (C := RX9) (T := TX9) (N := 12) hx hb hts hin_X9 hown hK hP 2 rfl rfl 11 (by decide) (hts (.fieldLink RX10 130 "ClashFree$Table" "layout" "LClashFree$Layout;") (List.mem_of_getElem? (i := 9) rfl)) (fun _ h9 => h9) rfl dX10_has_151 ?_
    refine va_get (D := D) (ci := 3) (v := .int (nI kb)) (C := RX3) (T := TX3) (N := 13) hx hb hts hin_X3 hown hK hP 7 rfl rfl 2 (by decide) (hts (.fieldLink RX10 149 "ClashFree$Layout" "b" "I") (List.mem_of_getElem? (i := 17) rfl)) (fun _ h9 => h9) rfl dX10_has_154 ?_
    refine lv_i2l hx hb dX10_has_157 rfl ?_
    exact W.lret (v := Int32.toInt64 (nI kb)) hx hb hr (fun t ht hW => ⟨⟨Int32.toInt64 (nI kb), (), rfl, trivial, trivial⟩, hS.F ht⟩) hS.2.2 dX10_has_158
  by_cases hs11 : z2 = 8
  ·
    subst hs11
    refine lv_tableIn (off := 144) (tgt := 159) hx hb dX10_has_15 (by decide) (by decide) (by decide +kernel) (by decide) ?_
    refine lv_aload_n hx hb dX10_has_159 rfl (lv_at hl 0 rfl) ?_
    refine va_get (D := D) (ci := 9) (v := .int tr) (C := RX9) (T := TX9) (N := 12) hx hb hts hin_X9 hown hK hP 2 rfl rfl 5 (by decide) (hts (.fieldLink RX10 152 "ClashFree$Table" "reads" "I") (List.mem_of_getElem? (i := 18) rfl)) (fun _ h9 => h9) rfl dX10_has_160 ?_
    refine lv_i2l hx hb dX10_has_163 rfl ?_
    exact W.lret (v := Int32.toInt64 tr) hx hb hr (fun t ht hW => ⟨⟨Int32.toInt64 tr, (), rfl, trivial, trivial⟩, hS.F ht⟩) hS.2.2 dX10_has_164
  by_cases hs12 : z2 = 9
  ·
    subst hs12
    refine lv_tableIn (off := 150) (tgt := 165) hx hb dX10_has_15 (by decide) (by decide) (by decide +kernel) (by decide) ?_
    refine lv_aload_n hx hb dX10_has_165 rfl (lv_at hl 0 rfl) ?_
    refine va_get (D := D) (ci := 9) (v := .ref (ob 1)) (C := RX9) (T := TX9) (N := 12) hx hb hts hin_X9 hown hK hP 2 rfl rfl 9 (by decide) (hts (.fieldLink RX10 109 "ClashFree$Table" "draw" "LClashFree$Draw;") (List.mem_of_getElem? (i := 19) rfl)) (fun _ h9 => h9) rfl dX10_has_166 ?_
    refine va_get (D := D) (ci := 0) (v := .int pr) (C := RX0) (T := TX0) (N := 4) hx hb hts hin_X0 hown hK hP 3 rfl rfl 3 (by decide) (hts (.fieldLink RX10 113 "ClashFree$Draw" "pairs" "I") (List.mem_of_getElem? (i := 20) rfl)) (fun _ h9 => h9) rfl dX10_has_169 ?_
    refine lv_i2l hx hb dX10_has_172 rfl ?_
    exact W.lret (v := Int32.toInt64 pr) hx hb hr (fun t ht hW => ⟨⟨Int32.toInt64 pr, (), rfl, trivial, trivial⟩, hS.F ht⟩) hS.2.2 dX10_has_173
  by_cases hs13 : z2 = 10
  ·
    subst hs13
    refine lv_tableIn (off := 159) (tgt := 174) hx hb dX10_has_15 (by decide) (by decide) (by decide +kernel) (by decide) ?_
    refine lv_aload_n hx hb dX10_has_174 rfl (lv_at hl 0 rfl) ?_
    refine va_get (D := D) (ci := 9) (v := .int tu) (C := RX9) (T := TX9) (N := 12) hx hb hts hin_X9 hown hK hP 2 rfl rfl 6 (by decide) (hts (.fieldLink RX10 155 "ClashFree$Table" "bucketsBuilt" "I") (List.mem_of_getElem? (i := 21) rfl)) (fun _ h9 => h9) rfl dX10_has_175 ?_
    refine lv_i2l hx hb dX10_has_178 rfl ?_
    exact W.lret (v := Int32.toInt64 tu) hx hb hr (fun t ht hW => ⟨⟨Int32.toInt64 tu, (), rfl, trivial, trivial⟩, hS.F ht⟩) hS.2.2 dX10_has_179
  by_cases hs14 : z2 = 11
  ·
    subst hs14
    refine lv_tableIn (off := 165) (tgt := 180) hx hb dX10_has_15 (by decide) (by decide) (by decide +kernel) (by decide) ?_
    refine lv_aload_n hx hb dX10_has_180 rfl (lv_at hl 0 rfl) ?_
    refine va_get (D := D) (ci := 9) (v := .int tv) (C := RX9) (T := TX9) (N := 12) hx hb hts hin_X9 hown hK hP 2 rfl rfl 7 (by decide) (hts (.fieldLink RX10 118 "ClashFree$Table" "allBuilt" "I") (List.mem_of_getElem? (i := 22) rfl)) (fun _ h9 => h9) rfl dX10_has_181 ?_
    refine lv_i2l hx hb dX10_has_184 rfl ?_
    exact W.lret (v := Int32.toInt64 tv) hx hb hr (fun t ht hW => ⟨⟨Int32.toInt64 tv, (), rfl, trivial, trivial⟩, hS.F ht⟩) hS.2.2 dX10_has_185
  by_cases hs15 : z2 = 12
  ·
    subst hs15
    refine lv_tableIn (off := 171) (tgt := 186) hx hb dX10_has_15 (by decide) (by decide) (by decide +kernel) (by decide) ?_
    refine lv_aload_n hx hb dX10_has_186 rfl (lv_at hl 0 rfl) ?_
    refine va_get (D := D) (ci := 9) (v := .int tw) (C := RX9) (T := TX9) (N := 12) hx hb hts hin_X9 hown hK hP 2 rfl rfl 8 (by decide) (hts (.fieldLink RX10 158 "ClashFree$Table" "laid" "I") (List.mem_of_getElem? (i := 23) rfl)) (fun _ h9 => h9) rfl dX10_has_187 ?_
    refine lv_i2l hx hb dX10_has_190 rfl ?_
    exact W.lret (v := Int32.toInt64 tw) hx hb hr (fun t ht hW => ⟨⟨Int32.toInt64 tw, (), rfl, trivial, trivial⟩, hS.F ht⟩) hS.2.2 dX10_has_191
  by_cases hs16 : z2 = 13
  ·
    subst hs16
    refine lv_tableIn (off := 177) (tgt := 192) hx hb dX10_has_15 (by decide) (by decide) (by decide +kernel) (by decide) ?_
    refine lv_aload_n hx hb dX10_has_192 rfl (lv_at hl 0 rfl) ?_
    refine va_get (D := D) (ci := 9) (v := .ref (ob 1)) (C := RX9) (T := TX9) (N := 12) hx hb hts hin_X9 hown hK hP 2 rfl rfl 9 (by decide) (hts (.fieldLink RX10 109 "ClashFree$Table" "draw" "LClashFree$Draw;") (List.mem_of_getElem? (i := 19) rfl)) (fun _ h9 => h9) rfl dX10_has_193 ?_
    refine va_get (D := D) (ci := 0) (v := .long sd) (C := RX0) (T := TX0) (N := 4) hx hb hts hin_X0 hown hK hP 3 rfl rfl 0 (by decide) (hts (.fieldLink RX10 161 "ClashFree$Draw" "s" "J") (List.mem_of_getElem? (i := 24) rfl)) (fun _ h9 => h9) rfl dX10_has_196 ?_
    exact W.lret (v := sd) hx hb hr (fun t ht hW => ⟨⟨sd, (), rfl, trivial, trivial⟩, hS.F ht⟩) hS.2.2 dX10_has_199
  by_cases hs17 : z2 = 14
  ·
    subst hs17
    refine lv_tableIn (off := 185) (tgt := 200) hx hb dX10_has_15 (by decide) (by decide) (by decide +kernel) (by decide) ?_
    refine lv_aload_n hx hb dX10_has_200 rfl (lv_at hl 0 rfl) ?_
    refine va_get (D := D) (ci := 9) (v := .int tb) (C := RX9) (T := TX9) (N := 12) hx hb hts hin_X9 hown hK hP 2 rfl rfl 0 (by decide) (hts (.fieldLink RX10 165 "ClashFree$Table" "bound" "I") (List.mem_of_getElem? (i := 25) rfl)) (fun _ h9 => h9) rfl dX10_has_201 ?_
    refine lv_i2l hx hb dX10_has_204 rfl ?_
    exact W.lret (v := Int32.toInt64 tb) hx hb hr (fun t ht hW => ⟨⟨Int32.toInt64 tb, (), rfl, trivial, trivial⟩, hS.F ht⟩) hS.2.2 dX10_has_205
  by_cases hs18 : z2 = 15
  ·
    subst hs18
    refine lv_tableIn (off := 191) (tgt := 206) hx hb dX10_has_15 (by decide) (by decide) (by decide +kernel) (by decide) ?_
    refine lv_aload_n hx hb dX10_has_206 rfl (lv_at hl 0 rfl) ?_
    refine va_get (D := D) (ci := 9) (v := .int ts) (C := RX9) (T := TX9) (N := 12) hx hb hts hin_X9 hown hK hP 2 rfl rfl 1 (by decide) (hts (.fieldLink RX10 168 "ClashFree$Table" "spread" "I") (List.mem_of_getElem? (i := 26) rfl)) (fun _ h9 => h9) rfl dX10_has_207 ?_
    refine lv_i2l hx hb dX10_has_210 rfl ?_
    exact W.lret (v := Int32.toInt64 ts) hx hb hr (fun t ht hW => ⟨⟨Int32.toInt64 ts, (), rfl, trivial, trivial⟩, hS.F ht⟩) hS.2.2 dX10_has_211
  by_cases hs19 : z2 = 16
  ·
    subst hs19
    refine lv_tableIn (off := 197) (tgt := 212) hx hb dX10_has_15 (by decide) (by decide) (by decide +kernel) (by decide) ?_
    refine lv_aload_n hx hb dX10_has_212 rfl (lv_at hl 0 rfl) ?_
    refine va_get (D := D) (ci := 9) (v := .int tg) (C := RX9) (T := TX9) (N := 12) hx hb hts hin_X9 hown hK hP 2 rfl rfl 2 (by decide) (hts (.fieldLink RX10 171 "ClashFree$Table" "growth" "I") (List.mem_of_getElem? (i := 27) rfl)) (fun _ h9 => h9) rfl dX10_has_213 ?_
    refine lv_i2l hx hb dX10_has_216 rfl ?_
    exact W.lret (v := Int32.toInt64 tg) hx hb hr (fun t ht hW => ⟨⟨Int32.toInt64 tg, (), rfl, trivial, trivial⟩, hS.F ht⟩) hS.2.2 dX10_has_217
  refine lv_tableOut (tgt := 218) hx hb dX10_has_15 (by have a0 := sw_ne (n := 0) hs2 (by decide) (by decide); have a1 := sw_ne (n := 1) hs3 (by decide) (by decide); have a2 := sw_ne (n := 2) hs4 (by decide) (by decide); have a3 := sw_ne (n := 3) hs5 (by decide) (by decide); have a4 := sw_ne (n := 4) hs6 (by decide) (by decide); have a5 := sw_ne (n := 5) hs7 (by decide) (by decide); have a6 := sw_ne (n := 6) hs9 (by decide) (by decide); have a7 := sw_ne (n := 7) hs10 (by decide) (by decide); have a8 := sw_ne (n := 8) hs11 (by decide) (by decide); have a9 := sw_ne (n := 9) hs12 (by decide) (by decide); have a10 := sw_ne (n := 10) hs13 (by decide) (by decide); have a11 := sw_ne (n := 11) hs14 (by decide) (by decide); have a12 := sw_ne (n := 12) hs15 (by decide) (by decide); have a13 := sw_ne (n := 13) hs16 (by decide) (by decide); have a14 := sw_ne (n := 14) hs17 (by decide) (by decide); have a15 := sw_ne (n := 15) hs18 (by decide) (by decide); have a16 := sw_ne (n := 16) hs19 (by decide) (by decide); omega) (by decide) ?_
  refine lv_ldc2 (v := (-1000000000000000)) hx hb hown (hts (.constantLong RX10 91 (-1000000000000000)) (List.mem_of_getElem? (i := 28) rfl)) dX10_has_218 ?_
  exact W.lret (v := (-1000000000000000)) hx hb hr (fun t ht hW => ⟨⟨(-1000000000000000), (), rfl, trivial, trivial⟩, hS.F ht⟩) hS.2.2 dX10_has_221

def own_s_bucket : List Cond := [.methodLink RX10 74 yX10_tableAt, .instanceMethod yX10_tableAt, .selects RX10 yX10_tableAt yX10_tableAt, .initialized RX10, .fieldLink RX10 130 "ClashFree$Table" "layout" "LClashFree$Layout;", .methodLink RX10 174 yX3_isBucket, .instanceMethod yX3_isBucket, .selects RX3 yX3_isBucket yX3_isBucket, .initialized RX3, .fieldLink RX10 177 "ClashFree$Layout" "held" "[I", .fieldLink RX10 180 "ClashFree$Layout" "roof" "[I", .fieldLink RX10 185 "ClashFree$Layout" "pairA" "[I", .constantLong RX10 183 (-1), .fieldLink RX10 188 "ClashFree$Layout" "pairB" "[I", .constantLong RX10 91 (-1000000000000000)]
def wp_s_bucket : List Cond := .code yX10_bucket cX10_bucket 6 (some .long) :: (own_s_bucket ++ (wp_k_tabS ++ (wp_k_isBucket ++ (wsX90 ++ (wsX30 ++ ([] : List Cond))))))
set_option maxRecDepth 20000 in
theorem inown_s_bucket : ∀ w ∈ own_s_bucket, w ∈ lw_tbl := mem_places [610, 612, 2, 106, 522, 726, 648, 649, 109, 194, 197, 199, 727, 201, 691] (by decide +kernel)
set_option maxRecDepth 20000 in
theorem in_s_bucket : ∀ w ∈ wp_s_bucket, w ∈ lw_tbl := List.forall_mem_cons.mpr ⟨List.mem_of_getElem? (i := 725) (by decide +kernel), List.forall_mem_append.mpr ⟨inown_s_bucket, List.forall_mem_append.mpr ⟨in_k_tabS, List.forall_mem_append.mpr ⟨in_k_isBucket, List.forall_mem_append.mpr ⟨lwb_X9, List.forall_mem_append.mpr ⟨lwb_X3, fun _ h => absurd h List.not_mem_nil⟩⟩⟩⟩⟩⟩
set_option maxRecDepth 20000 in
theorem good_s_bucket : wp_s_bucket.all goodWord = true := by decide +kernel
set_option maxRecDepth 20000 in
theorem g_s_bucket_k_tabS_74 : GoodIn wp_s_bucket (wsV RX10 74 RX10 yX10_tableAt wp_k_tabS) := goodIn_sub (List.forall_mem_append.mpr ⟨List.forall_mem_cons.mpr ⟨(List.mem_of_getElem? (i := 1) rfl), List.forall_mem_cons.mpr ⟨(List.mem_of_getElem? (i := 2) rfl), List.forall_mem_cons.mpr ⟨(List.mem_of_getElem? (i := 3) rfl), List.forall_mem_cons.mpr ⟨(List.mem_of_getElem? (i := 4) rfl), fun _ h => absurd h List.not_mem_nil⟩⟩⟩⟩, (fun _ h => (List.mem_cons_of_mem _ (List.mem_append_right _ (List.mem_append_left _ h))))⟩) (by decide +kernel)
set_option maxRecDepth 20000 in
theorem g_s_bucket_k_isBucket_174 : GoodIn wp_s_bucket (wsV RX10 174 RX3 yX3_isBucket wp_k_isBucket) := goodIn_sub (List.forall_mem_append.mpr ⟨List.forall_mem_cons.mpr ⟨(List.mem_of_getElem? (i := 6) rfl), List.forall_mem_cons.mpr ⟨(List.mem_of_getElem? (i := 7) rfl), List.forall_mem_cons.mpr ⟨(List.mem_of_getElem? (i := 8) rfl), List.forall_mem_cons.mpr ⟨(List.mem_of_getElem? (i := 9) rfl), fun _ h => absurd h List.not_mem_nil⟩⟩⟩⟩, (fun _ h => (List.mem_cons_of_mem _ (List.mem_append_right _ (List.mem_append_right _ (List.mem_append_left _ h)))))⟩) (by decide +kernel)
set_option maxHeartbeats 4000000 in
set_option maxRecDepth 100000 in
theorem s_bucket (l : Launch) (D : va_G) (sz : Nat) (ox : Nat → Nat) (ob3 : Nat → Nat) (og : Nat → Nat) (oq : Nat → Nat) (ow : Nat → Nat) (ob : Nat → Nat) (cI : ClassId) (cT : ClassId) (tp : Nat) (ft : Nat → Option Nat) (tb : Int32) (ts : Int32) (tg : Int32) (tl : Int32) (tc : Int32) (tr : Int32) (tu : Int32) (tv : Int32) (tw : Int32) (sd : Int64) (da : Nat) (db : Nat) (pr : Int32) (cn : Nat) (fk : Nat → Int32) (fv : Nat → Int32) (nb : Nat) (ka : Nat) (kb : Nat) (sm : Int32) (ln : Nat) (fh : Nat → Int32) (ff : Nat → Int32) (fa : Nat → Int32) (fs : Nat → Int32) (fj : Nat → Int32) (fr : Nat → Int32) (fo : Nat → Int32) (fx : Nat → Int32) (k : Nat) (z2 : Int32) (z3 : Int32) (hk : k < 4) (hft : ft k = some (ob 0)) (hTb : TbI fk fj fh fo cn nb ka kb ln da db) : Met l yX10_bucket wp_s_bucket ({ frames := 2, cells := 0, slots := 0, locals := 41 }) (PcRC D [.ref (ox 0), .int (nI k), .int z2, .int z3] sz [(ox 0, .inr (10, [.ref (ox 1), .ref (ox 2), .int (nI tp), .ref (ob3 0), .ref (og 0), .ref (oq 0), .ref (ow 0)])), (ox 1, .inl (cT, 4, .inr (.inr (.inr (.inr ft))))), (ob 0, .inr (9, gT ob tb ts tg tl tc tr tu tv tw)), (ob 1, .inr (0, [.long sd, .int (nI da), .int (nI db), .int pr])), (ob 2, .inr (2, [.int (nI cn), .ref (ob 3), .ref (ob 4)])), (ob 3, .inl (cI, 160, .inl fk)), (ob 4, .inl (cI, 160, .inl fv)), (ob 5, .inr (3, gY ob (nI nb) (nI ka) (nI kb) sm (nI ln))), (ob 6, .inl (cI, 2048, .inl fh)), (ob 7, .inl (cI, 2048, .inl ff)), (ob 8, .inl (cI, 2048, .inl fa)), (ob 9, .inl (cI, 2048, .inl fs)), (ob 10, .inl (cI, 160, .inl fj)), (ob 11, .inl (cI, 160, .inl fr)), (ob 12, .inl (cI, 160, .inl fo)), (ob 13, .inl (cI, 2048, .inl fx))] [(cI, .int), (cT, .object RX9)]) (va_Ql (fun (r : Int64) (u : Unit) => True) (fun (_ : Unit) _ => True) (va_A [] sz)) 0 0 (va_A [] sz) := by
  refine Met.ofW (cc := cX10_bucket) (maxL := 6) (ret := (some .long)) (by decide) rfl ?_
  intro p e s m args below meth c s₁ B hml hv
  obtain ⟨rfl, hsz, hP, hK, hN⟩ := hv
  have hx := B.exec
  have hb := B.bytes
  have hr := B.returns
  have hts := atoms_spec (ws := wp_s_bucket) B.pre
  have hin_X9 : ∀ w ∈ wsX90, w ∈ wp_s_bucket := fun _ h => (List.mem_cons_of_mem _ (List.mem_append_right _ (List.mem_append_right _ (List.mem_append_right _ (List.mem_append_left _ h)))))
  have hin_X3 : ∀ w ∈ wsX30, w ∈ wp_s_bucket := fun _ h => (List.mem_cons_of_mem _ (List.mem_append_right _ (List.mem_append_right _ (List.mem_append_right _ (List.mem_append_right _ (List.mem_append_left _ h))))))
  have hown : s.vm.findClass RX10 = some m.cls := findClass_of_methodNamed B.named
  have hlocks := B.notSynchronized
  subst hsz
  generalize hAe : va_A [] s.heap.size = A at ⊢
  have hA : ∀ q : Nat, s.heap.size ≤ q → A q := fun q h => by rw [← hAe]; exact Or.inr h
  have hS : va_S A s.heap s.heap [] := va_S.rf
  have hP : va_P D vwCl [(ox 0, .inr (10, [.ref (ox 1), .ref (ox 2), .int (nI tp), .ref (ob3 0), .ref (og 0), .ref (oq 0), .ref (ow 0)])), (ox 1, .inl (cT, 4, .inr (.inr (.inr (.inr ft))))), (ob 0, .inr (9, gT ob tb ts tg tl tc tr tu tv tw)), (ob 1, .inr (0, [.long sd, .int (nI da), .int (nI db), .int pr])), (ob 2, .inr (2, [.int (nI cn), .ref (ob 3), .ref (ob 4)])), (ob 3, .inl (cI, 160, .inl fk)), (ob 4, .inl (cI, 160, .inl fv)), (ob 5, .inr (3, gY ob (nI nb) (nI ka) (nI kb) sm (nI ln))), (ob 6, .inl (cI, 2048, .inl fh)), (ob 7, .inl (cI, 2048, .inl ff)), (ob 8, .inl (cI, 2048, .inl fa)), (ob 9, .inl (cI, 2048, .inl fs)), (ob 10, .inl (cI, 160, .inl fj)), (ob 11, .inl (cI, 160, .inl fr)), (ob 12, .inl (cI, 160, .inl fo)), (ob 13, .inl (cI, 2048, .inl fx))] s.heap := hP
  have hl := lv_entry ([.ref (ox 0), .int (nI k), .int z2, .int z3]) (n := 6) (Nat.le_of_ble_eq_true rfl)
  rw [lg_entry_eq]
  generalize (lg_sl ([.ref (ox 0), .int (nI k), .int z2, .int z3]) ++ List.replicate (6 - (lg_sl ([.ref (ox 0), .int (nI k), .int z2, .int z3])).length) Slot.unset).toArray = ls at hl ⊢
  have hl : lv_has ls 6 [(0, .ref (ox 0)), (1, .int (nI k)), (2, .int z2), (3, .int z3)] := hl
  obtain ⟨hky, hL, hO, hn1, hka, hkb, hda, hdb⟩ := id hTb
  have hnb := hL.1
  have hln := hL.2.1
  have hc := hky.1
  have hcz := hky.1
  refine lv_aload_n hx hb dX10_bucket_0 rfl (lv_at hl 0 rfl) ?_
  refine lv_iload_n hx hb dX10_bucket_1 rfl (lv_at hl 1 rfl) ?_
  have hPc := hP.sub (ws' := [(ox 0, .inr (10, [.ref (ox 1), .ref (ox 2), .int (nI tp), .ref (ob3 0), .ref (og 0), .ref (oq 0), .ref (ow 0)])), (ox 1, .inl (cT, 4, .inr (.inr (.inr (.inr ft)))))]) [0, 1] rfl
  have hKc := hK.sub (tys' := [(cT, .object RX9)]) [1] rfl
  have hFc := va_free0 hS hA
  refine va_callq (va_runV (As := [.int (nI k)]) (rest := []) ⟨hx, hb, hml, hown, hts⟩ (k_tabS l D _ ox ob3 og oq ow cI cT tp ft k (ob 0) hk hft) (cwV 1 hts g_s_bucket_k_tabS_74 rfl rfl rfl (by decide +kernel) ⟨(Nat.le_of_ble_eq_true rfl), (Nat.le_of_ble_eq_true rfl)⟩) (PcRC_V (q0 := 0) hPc hKc hN rfl rfl) rfl rfl hl.1 rfl (lv_room (Nat.le_of_ble_eq_true rfl)) dX10_bucket_2 ⟨(Nat.le_of_ble_eq_true rfl), (Nat.le_of_ble_eq_true rfl)⟩) hS (fun q _ h => hFc q h) hFc (fun r1 uu tt H locs htt hvm hw hB hz1 hk1 hS => ?_)
  have hP := va_keep hP hk1
  try dsimp only at hw
  clear hB hz1 hk1 hFc hPc hKc
  obtain rfl : r1 = some (ob 0) := hw
  refine W.eq (g2 := F0 m 5 ls [.ref (ob 0)]) rfl ?_
  refine lv_astore (lv' := [(4, .ref (ob 0)), (0, .ref (ox 0)), (1, .int (nI k)), (2, .int z2), (3, .int z3)]) hx hb dX10_bucket_5 hl (by decide) rfl (fun ls hl => ?_)
  refine lv_aload hx hb dX10_bucket_7 (lv_at hl 0 rfl) ?_
  refine lv_ifnull hx hb dX10_bucket_9 ?_
  refine lv_aload hx hb dX10_bucket_12 (lv_at hl 0 rfl) ?_
  refine va_get (D := D) (ci := 9) (v := .ref (ob 5)) (C := RX9) (T := TX9) (N := 12) hx hb hts hin_X9 hown hK hP 2 rfl rfl 11 (by decide) (hts (.fieldLink RX10 130 "ClashFree$Table" "layout" "LClashFree$Layout;") (List.mem_of_getElem? (i := 5) rfl)) (fun _ h9 => h9) rfl dX10_bucket_14 ?_
  refine lv_iload_n hx hb dX10_bucket_17 rfl (lv_at hl 3 rfl) ?_
  have hPc := hP.sub (ws' := [(ob 5, .inr (3, gY ob (nI nb) (nI ka) (nI kb) sm (nI ln)))]) [7] rfl
  have hKc := hK.sub (tys' := []) [] rfl
  have hFc := va_free0 hS hA
  refine va_calli (va_runV (As := [.int z2]) (rest := []) ⟨hx, hb, hml, hown, hts⟩ (k_isBucket l D _ ob cI nb ka kb sm ln z2 hnb) (cwV 1 hts g_s_bucket_k_isBucket_174 rfl rfl rfl (by decide +kernel) ⟨(Nat.le_of_ble_eq_true rfl), (Nat.le_of_ble_eq_true rfl)⟩) (PcRC_V (q0 := 0) hPc hKc hN rfl rfl) rfl rfl hl.1 rfl (lv_room (Nat.le_of_ble_eq_true rfl)) dX10_bucket_18 ⟨(Nat.le_of_ble_eq_true rfl), (Nat.le_of_ble_eq_true rfl)⟩) hS (fun q _ h => hFc q h) hFc (fun r2 uu tt H locs htt hvm hw hB hz1 hk1 hS => ?_)
  have hP := va_keep hP hk1
  try dsimp only at hw
  clear hB hz1 hk1 hFc hPc hKc
  rcases hw with ⟨rfl, hA_r2⟩ | ⟨rfl, hA_r2⟩
  ·
    obtain ⟨xj, hxj, rfl⟩ := hA_r2
    refine lv_if_ne (tgt := 28) hx hb dX10_bucket_21 (by decide) (fun hc => ?_) (fun hc => absurd hc (by decide))
    refine lv_aload hx hb dX10_bucket_28 (lv_at hl 0 rfl) ?_
    refine va_get (D := D) (ci := 9) (v := .ref (ob 5)) (C := RX9) (T := TX9) (N := 12) hx hb hts hin_X9 hown hK hP 2 rfl rfl 11 (by decide) (hts (.fieldLink RX10 130 "ClashFree$Table" "layout" "LClashFree$Layout;") (List.mem_of_getElem? (i := 5) rfl)) (fun _ h9 => h9) rfl dX10_bucket_30 ?_
    refine lv_astore (lv' := [(5, .ref (ob 5)), (4, .ref (ob 0)), (0, .ref (ox 0)), (1, .int (nI k)), (2, .int (nI xj)), (3, .int z3)]) hx hb dX10_bucket_33 hl (by decide) rfl (fun ls hl => ?_)
    refine lv_iload_n hx hb dX10_bucket_35 rfl (lv_at hl 5 rfl) ?_
    by_cases hs3 : z3 = 0
    ·
      subst hs3
      refine lv_tableIn (off := 32) (tgt := 68) hx hb dX10_bucket_36 (by decide) (by decide) (by decide +kernel) (by decide) ?_
      refine lv_aload hx hb dX10_bucket_68 (lv_at hl 0 rfl) ?_
      refine va_get (D := D) (ci := 3) (v := .ref (ob 6)) (C := RX3) (T := TX3) (N := 13) hx hb hts hin_X3 hown hK hP 7 rfl rfl 5 (by decide) (hts (.fieldLink RX10 177 "ClashFree$Layout" "held" "[I") (List.mem_of_getElem? (i := 10) rfl)) (fun _ h9 => h9) rfl dX10_bucket_70 ?_
      refine lv_iload_n hx hb dX10_bucket_73 rfl (lv_at hl 4 rfl) ?_
      refine va_iald hx hb hK hP 8 0 rfl rfl (vp_in_nI (by omega) (by decide)) dX10_bucket_74 ?_
      refine lv_topi (fun v4 ev4 => ?_)
      refine lv_i2l hx hb dX10_bucket_75 rfl ?_
      exact W.lret (v := Int32.toInt64 v4) hx hb hr (fun t ht hW => ⟨⟨Int32.toInt64 v4, (), rfl, trivial, trivial⟩, hS.F ht⟩) hS.2.2 dX10_bucket_76
    by_cases hs5 : z3 = 1
    ·
      subst hs5
      refine lv_tableIn (off := 41) (tgt := 77) hx hb dX10_bucket_36 (by decide) (by decide) (by decide +kernel) (by decide) ?_
      refine lv_aload hx hb dX10_bucket_77 (lv_at hl 0 rfl) ?_
      refine va_get (D := D) (ci := 3) (v := .ref (ob 7)) (C := RX3) (T := TX3) (N := 13) hx hb hts hin_X3 hown hK hP 7 rfl rfl 6 (by decide) (hts (.fieldLink RX10 180 "ClashFree$Layout" "roof" "[I") (List.mem_of_getElem? (i := 11) rfl)) (fun _ h9 => h9) rfl dX10_bucket_79 ?_
      refine lv_iload_n hx hb dX10_bucket_82 rfl (lv_at hl 4 rfl) ?_
      refine va_iald hx hb hK hP 9 0 rfl rfl (vp_in_nI (by omega) (by decide)) dX10_bucket_83 ?_
      refine lv_topi (fun v6 ev6 => ?_)
      refine lv_i2l hx hb dX10_bucket_84 rfl ?_
      exact W.lret (v := Int32.toInt64 v6) hx hb hr (fun t ht hW => ⟨⟨Int32.toInt64 v6, (), rfl, trivial, trivial⟩, hS.F ht⟩) hS.2.2 dX10_bucket_85
    by_cases hs7 : z3 = 2
    ·
      subst hs7
      refine lv_tableIn (off := 50) (tgt := 86) hx hb dX10_bucket_36 (by decide) (by decide) (by decide +kernel) (by decide) ?_
      refine lv_aload hx hb dX10_bucket_86 (lv_at hl 0 rfl) ?_
      refine va_get (D := D) (ci := 3) (v := .ref (ob 7)) (C := RX3) (T := TX3) (N := 13) hx hb hts hin_X3 hown hK hP 7 rfl rfl 6 (by decide) (hts (.fieldLink RX10 180 "ClashFree$Layout" "roof" "[I") (List.mem_of_getElem? (i := 11) rfl)) (fun _ h9 => h9) rfl dX10_bucket_88 ?_
      refine lv_iload_n hx hb dX10_bucket_91 rfl (lv_at hl 4 rfl) ?_
      refine va_iald hx hb hK hP 9 0 rfl rfl (vp_in_nI (by omega) (by decide)) dX10_bucket_92 ?_
      refine lv_topi (fun v8 ev8 => ?_)
      refine lv_if_ne (tgt := 102) hx hb dX10_bucket_93 (by decide) (fun hc9 => ?_) (fun hc9 => ?_)
      ·
        refine lv_aload hx hb dX10_bucket_102 (lv_at hl 0 rfl) ?_
        refine va_get (D := D) (ci := 3) (v := .ref (ob 8)) (C := RX3) (T := TX3) (N := 13) hx hb hts hin_X3 hown hK hP 7 rfl rfl 7 (by decide) (hts (.fieldLink RX10 185 "ClashFree$Layout" "pairA" "[I") (List.mem_of_getElem? (i := 12) rfl)) (fun _ h9 => h9) rfl dX10_bucket_104 ?_
        refine lv_iload_n hx hb dX10_bucket_107 rfl (lv_at hl 4 rfl) ?_
        refine va_iald hx hb hK hP 10 0 rfl rfl (vp_in_nI (by omega) (by decide)) dX10_bucket_108 ?_
        refine lv_topi (fun v10 ev10 => ?_)
        refine lv_i2l hx hb dX10_bucket_109 rfl ?_
        exact W.lret (v := Int32.toInt64 v10) hx hb hr (fun t ht hW => ⟨⟨Int32.toInt64 v10, (), rfl, trivial, trivial⟩, hS.F ht⟩) hS.2.2 dX10_bucket_110
      ·
        refine lv_ldc2 (v := (-1)) hx hb hown (hts (.constantLong RX10 183 (-1)) (List.mem_of_getElem? (i := 13) rfl)) dX10_bucket_96 ?_
        refine lv_goto (tgt := 110) hx hb dX10_bucket_99 (by decide) ?_
        exact W.lret (v := (-1)) hx hb hr (fun t ht hW => ⟨⟨(-1), (), rfl, trivial, trivial⟩, hS.F ht⟩) hS.2.2 dX10_bucket_110
    by_cases hs11 : z3 = 3
    ·
      subst hs11
      refine lv_tableIn (off := 75) (tgt := 111) hx hb dX10_bucket_36 (by decide) (by decide) (by decide +kernel) (by decide) ?_
      refine lv_aload hx hb dX10_bucket_111 (lv_at hl 0 rfl) ?_
      refine va_get (D := D) (ci := 3) (v := .ref (ob 7)) (C := RX3) (T := TX3) (N := 13) hx hb hts hin_X3 hown hK hP 7 rfl rfl 6 (by decide) (hts (.fieldLink RX10 180 "ClashFree$Layout" "roof" "[I") (List.mem_of_getElem? (i := 11) rfl)) (fun _ h9 => h9) rfl dX10_bucket_113 ?_
      refine lv_iload_n hx hb dX10_bucket_116 rfl (lv_at hl 4 rfl) ?_
      refine va_iald hx hb hK hP 9 0 rfl rfl (vp_in_nI (by omega) (by decide)) dX10_bucket_117 ?_
      refine lv_topi (fun v12 ev12 => ?_)
      refine lv_if_ne (tgt := 127) hx hb dX10_bucket_118 (by decide) (fun hc13 => ?_) (fun hc13 => ?_)
      ·
        refine lv_aload hx hb dX10_bucket_127 (lv_at hl 0 rfl) ?_
        refine va_get (D := D) (ci := 3) (v := .ref (ob 9)) (C := RX3) (T := TX3) (N := 13) hx hb hts hin_X3 hown hK hP 7 rfl rfl 8 (by decide) (hts (.fieldLink RX10 188 "ClashFree$Layout" "pairB" "[I") (List.mem_of_getElem? (i := 14) rfl)) (fun _ h9 => h9) rfl dX10_bucket_129 ?_
        refine lv_iload_n hx hb dX10_bucket_132 rfl (lv_at hl 4 rfl) ?_
        refine va_iald hx hb hK hP 11 0 rfl rfl (vp_in_nI (by omega) (by decide)) dX10_bucket_133 ?_
        refine lv_topi (fun v14 ev14 => ?_)
        refine lv_i2l hx hb dX10_bucket_134 rfl ?_
        exact W.lret (v := Int32.toInt64 v14) hx hb hr (fun t ht hW => ⟨⟨Int32.toInt64 v14, (), rfl, trivial, trivial⟩, hS.F ht⟩) hS.2.2 dX10_bucket_135
      ·
        refine lv_ldc2 (v := (-1)) hx hb hown (hts (.constantLong RX10 183 (-1)) (List.mem_of_getElem? (i := 13) rfl)) dX10_bucket_121 ?_
        refine lv_goto (tgt := 135) hx hb dX10_bucket_124 (by decide) ?_
        exact W.lret (v := (-1)) hx hb hr (fun t ht hW => ⟨⟨(-1), (), rfl, trivial, trivial⟩, hS.F ht⟩) hS.2.2 dX10_bucket_135
    refine lv_tableOut (tgt := 136) hx hb dX10_bucket_36 (by have a0 := sw_ne (n := 0) hs3 (by decide) (by decide); have a1 := sw_ne (n := 1) hs5 (by decide) (by decide); have a2 := sw_ne (n := 2) hs7 (by decide) (by decide); have a3 := sw_ne (n := 3) hs11 (by decide) (by decide); omega) (by decide) ?_
    refine lv_ldc2 (v := (-1000000000000000)) hx hb hown (hts (.constantLong RX10 91 (-1000000000000000)) (List.mem_of_getElem? (i := 15) rfl)) dX10_bucket_136 ?_
    exact W.lret (v := (-1000000000000000)) hx hb hr (fun t ht hW => ⟨⟨(-1000000000000000), (), rfl, trivial, trivial⟩, hS.F ht⟩) hS.2.2 dX10_bucket_139
  ·
    refine lv_if_ne (tgt := 28) hx hb dX10_bucket_21 (by decide) (fun hc => absurd (by decide) hc) (fun hc => ?_)
    refine lv_ldc2 (v := (-1000000000000000)) hx hb hown (hts (.constantLong RX10 91 (-1000000000000000)) (List.mem_of_getElem? (i := 15) rfl)) dX10_bucket_24 ?_
    exact W.lret (v := (-1000000000000000)) hx hb hr (fun t ht hW => ⟨⟨(-1000000000000000), (), rfl, trivial, trivial⟩, hS.F ht⟩) hS.2.2 dX10_bucket_27

def own_s_room : List Cond := [.methodLink RX10 74 yX10_tableAt, .instanceMethod yX10_tableAt, .selects RX10 yX10_tableAt yX10_tableAt, .initialized RX10, .fieldLink RX10 130 "ClashFree$Table" "layout" "LClashFree$Layout;", .methodLink RX10 174 yX3_isBucket, .instanceMethod yX3_isBucket, .selects RX3 yX3_isBucket yX3_isBucket, .initialized RX3, .methodLink RX10 191 yX3_roomsOf, .instanceMethod yX3_roomsOf, .selects RX3 yX3_roomsOf yX3_roomsOf, .methodLink RX10 194 yX3_tenant, .instanceMethod yX3_tenant, .selects RX3 yX3_tenant yX3_tenant, .fieldLink RX10 93 "ClashFree$Table" "keys" "LClashFree$Keys;", .methodLink RX10 197 yX2_keyAt, .instanceMethod yX2_keyAt, .selects RX2 yX2_keyAt yX2_keyAt, .initialized RX2]
def wp_s_room : List Cond := .code yX10_room cX10_room 6 (some .int) :: (own_s_room ++ (wp_k_tabS ++ (wp_k_isBucket ++ (wp_k_roomsOf ++ (wp_k_tenant ++ (wp_k_keyAt ++ (wsX90 ++ ([] : List Cond))))))))
set_option maxRecDepth 20000 in
theorem inown_s_room : ∀ w ∈ own_s_room, w ∈ lw_tbl := mem_places [610, 612, 2, 106, 522, 726, 648, 649, 109, 732, 601, 602, 733, 656, 657, 518, 734, 735, 736, 117] (by decide +kernel)
set_option maxRecDepth 20000 in
theorem in_s_room : ∀ w ∈ wp_s_room, w ∈ lw_tbl := List.forall_mem_cons.mpr ⟨List.mem_of_getElem? (i := 731) (by decide +kernel), List.forall_mem_append.mpr ⟨inown_s_room, List.forall_mem_append.mpr ⟨in_k_tabS, List.forall_mem_append.mpr ⟨in_k_isBucket, List.forall_mem_append.mpr ⟨in_k_roomsOf, List.forall_mem_append.mpr ⟨in_k_tenant, List.forall_mem_append.mpr ⟨in_k_keyAt, List.forall_mem_append.mpr ⟨lwb_X9, fun _ h => absurd h List.not_mem_nil⟩⟩⟩⟩⟩⟩⟩⟩
set_option maxRecDepth 20000 in
theorem good_s_room : wp_s_room.all goodWord = true := by decide +kernel
set_option maxRecDepth 20000 in
theorem g_s_room_k_tabS_74 : GoodIn wp_s_room (wsV RX10 74 RX10 yX10_tableAt wp_k_tabS) := goodIn_sub (List.forall_mem_append.mpr ⟨List.forall_mem_cons.mpr ⟨(List.mem_of_getElem? (i := 1) rfl), List.forall_mem_cons.mpr ⟨(List.mem_of_getElem? (i := 2) rfl), List.forall_mem_cons.mpr ⟨(List.mem_of_getElem? (i := 3) rfl), List.forall_mem_cons.mpr ⟨(List.mem_of_getElem? (i := 4) rfl), fun _ h => absurd h List.not_mem_nil⟩⟩⟩⟩, (fun _ h => (List.mem_cons_of_mem _ (List.mem_append_right _ (List.mem_append_left _ h))))⟩) (by decide +kernel)
set_option maxRecDepth 20000 in
theorem g_s_room_k_isBucket_174 : GoodIn wp_s_room (wsV RX10 174 RX3 yX3_isBucket wp_k_isBucket) := goodIn_sub (List.forall_mem_append.mpr ⟨List.forall_mem_cons.mpr ⟨(List.mem_of_getElem? (i := 6) rfl), List.forall_mem_cons.mpr ⟨(List.mem_of_getElem? (i := 7) rfl), List.forall_mem_cons.mpr ⟨(List.mem_of_getElem? (i := 8) rfl), List.forall_mem_cons.mpr ⟨(List.mem_of_getElem? (i := 9) rfl), fun _ h => absurd h List.not_mem_nil⟩⟩⟩⟩, (fun _ h => (List.mem_cons_of_mem _ (List.mem_append_right _ (List.mem_append_right _ (List.mem_append_left _ h)))))⟩) (by decide +kernel)
set_option maxRecDepth 20000 in
theorem g_s_room_k_roomsOf_191 : GoodIn wp_s_room (wsV RX10 191 RX3 yX3_roomsOf wp_k_roomsOf) := goodIn_sub (List.forall_mem_append.mpr ⟨List.forall_mem_cons.mpr ⟨(List.mem_of_getElem? (i := 10) rfl), List.forall_mem_cons.mpr ⟨(List.mem_of_getElem? (i := 11) rfl), List.forall_mem_cons.mpr ⟨(List.mem_of_getElem? (i := 12) rfl), List.forall_mem_cons.mpr ⟨(List.mem_of_getElem? (i := 9) rfl), fun _ h => absurd h List.not_mem_nil⟩⟩⟩⟩, (fun _ h => (List.mem_cons_of_mem _ (List.mem_append_right _ (List.mem_append_right _ (List.mem_append_right _ (List.mem_append_left _ h))))))⟩) (by decide +kernel)
set_option maxRecDepth 20000 in
theorem g_s_room_k_tenant_194 : GoodIn wp_s_room (wsV RX10 194 RX3 yX3_tenant wp_k_tenant) := goodIn_sub (List.forall_mem_append.mpr ⟨List.forall_mem_cons.mpr ⟨(List.mem_of_getElem? (i := 13) rfl), List.forall_mem_cons.mpr ⟨(List.mem_of_getElem? (i := 14) rfl), List.forall_mem_cons.mpr ⟨(List.mem_of_getElem? (i := 15) rfl), List.forall_mem_cons.mpr ⟨(List.mem_of_getElem? (i := 9) rfl), fun _ h => absurd h List.not_mem_nil⟩⟩⟩⟩, (fun _ h => (List.mem_cons_of_mem _ (List.mem_append_right _ (List.mem_append_right _ (List.mem_append_right _ (List.mem_append_right _ (List.mem_append_left _ h)))))))⟩) (by decide +kernel)
set_option maxRecDepth 20000 in
theorem g_s_room_k_keyAt_197 : GoodIn wp_s_room (wsV RX10 197 RX2 yX2_keyAt wp_k_keyAt) := goodIn_sub (List.forall_mem_append.mpr ⟨List.forall_mem_cons.mpr ⟨(List.mem_of_getElem? (i := 17) rfl), List.forall_mem_cons.mpr ⟨(List.mem_of_getElem? (i := 18) rfl), List.forall_mem_cons.mpr ⟨(List.mem_of_getElem? (i := 19) rfl), List.forall_mem_cons.mpr ⟨(List.mem_of_getElem? (i := 20) rfl), fun _ h => absurd h List.not_mem_nil⟩⟩⟩⟩, (fun _ h => (List.mem_cons_of_mem _ (List.mem_append_right _ (List.mem_append_right _ (List.mem_append_right _ (List.mem_append_right _ (List.mem_append_right _ (List.mem_append_left _ h))))))))⟩) (by decide +kernel)
set_option maxHeartbeats 4000000 in
set_option maxRecDepth 100000 in
theorem s_room (l : Launch) (D : va_G) (sz : Nat) (ox : Nat → Nat) (ob3 : Nat → Nat) (og : Nat → Nat) (oq : Nat → Nat) (ow : Nat → Nat) (ob : Nat → Nat) (cI : ClassId) (cT : ClassId) (tp : Nat) (ft : Nat → Option Nat) (tb : Int32) (ts : Int32) (tg : Int32) (tl : Int32) (tc : Int32) (tr : Int32) (tu : Int32) (tv : Int32) (tw : Int32) (sd : Int64) (da : Nat) (db : Nat) (pr : Int32) (cn : Nat) (fk : Nat → Int32) (fv : Nat → Int32) (nb : Nat) (ka : Nat) (kb : Nat) (sm : Int32) (ln : Nat) (fh : Nat → Int32) (ff : Nat → Int32) (fa : Nat → Int32) (fs : Nat → Int32) (fj : Nat → Int32) (fr : Nat → Int32) (fo : Nat → Int32) (fx : Nat → Int32) (k : Nat) (z2 : Int32) (z3 : Int32) (hk : k < 4) (hft : ft k = some (ob 0)) (hTb : TbI fk fj fh fo cn nb ka kb ln da db) : Met l yX10_room wp_s_room ({ frames := 2, cells := 0, slots := 0, locals := 41 }) (PcRC D [.ref (ox 0), .int (nI k), .int z2, .int z3] sz [(ox 0, .inr (10, [.ref (ox 1), .ref (ox 2), .int (nI tp), .ref (ob3 0), .ref (og 0), .ref (oq 0), .ref (ow 0)])), (ox 1, .inl (cT, 4, .inr (.inr (.inr (.inr ft))))), (ob 0, .inr (9, gT ob tb ts tg tl tc tr tu tv tw)), (ob 1, .inr (0, [.long sd, .int (nI da), .int (nI db), .int pr])), (ob 2, .inr (2, [.int (nI cn), .ref (ob 3), .ref (ob 4)])), (ob 3, .inl (cI, 160, .inl fk)), (ob 4, .inl (cI, 160, .inl fv)), (ob 5, .inr (3, gY ob (nI nb) (nI ka) (nI kb) sm (nI ln))), (ob 6, .inl (cI, 2048, .inl fh)), (ob 7, .inl (cI, 2048, .inl ff)), (ob 8, .inl (cI, 2048, .inl fa)), (ob 9, .inl (cI, 2048, .inl fs)), (ob 10, .inl (cI, 160, .inl fj)), (ob 11, .inl (cI, 160, .inl fr)), (ob 12, .inl (cI, 160, .inl fo)), (ob 13, .inl (cI, 2048, .inl fx))] [(cI, .int), (cT, .object RX9)]) (va_Qi (fun (r : Int32) (u : Unit) => True) (fun (_ : Unit) _ => True) (va_A [] sz)) 0 0 (va_A [] sz) := by
  refine Met.ofW (cc := cX10_room) (maxL := 6) (ret := (some .int)) (by decide) rfl ?_
  intro p e s m args below meth c s₁ B hml hv
  obtain ⟨rfl, hsz, hP, hK, hN⟩ := hv
  have hx := B.exec
  have hb := B.bytes
  have hr := B.returns
  have hts := atoms_spec (ws := wp_s_room) B.pre
  have hin_X9 : ∀ w ∈ wsX90, w ∈ wp_s_room := fun _ h => (List.mem_cons_of_mem _ (List.mem_append_right _ (List.mem_append_right _ (List.mem_append_right _ (List.mem_append_right _ (List.mem_append_right _ (List.mem_append_right _ (List.mem_append_left _ h))))))))
  have hown : s.vm.findClass RX10 = some m.cls := findClass_of_methodNamed B.named
  have hlocks := B.notSynchronized
  subst hsz
  generalize hAe : va_A [] s.heap.size = A at ⊢
  have hA : ∀ q : Nat, s.heap.size ≤ q → A q := fun q h => by rw [← hAe]; exact Or.inr h
  have hS : va_S A s.heap s.heap [] := va_S.rf
  have hP : va_P D vwCl [(ox 0, .inr (10, [.ref (ox 1), .ref (ox 2), .int (nI tp), .ref (ob3 0), .ref (og 0), .ref (oq 0), .ref (ow 0)])), (ox 1, .inl (cT, 4, .inr (.inr (.inr (.inr ft))))), (ob 0, .inr (9, gT ob tb ts tg tl tc tr tu tv tw)), (ob 1, .inr (0, [.long sd, .int (nI da), .int (nI db), .int pr])), (ob 2, .inr (2, [.int (nI cn), .ref (ob 3), .ref (ob 4)])), (ob 3, .inl (cI, 160, .inl fk)), (ob 4, .inl (cI, 160, .inl fv)), (ob 5, .inr (3, gY ob (nI nb) (nI ka) (nI kb) sm (nI ln))), (ob 6, .inl (cI, 2048, .inl fh)), (ob 7, .inl (cI, 2048, .inl ff)), (ob 8, .inl (cI, 2048, .inl fa)), (ob 9, .inl (cI, 2048, .inl fs)), (ob 10, .inl (cI, 160, .inl fj)), (ob 11, .inl (cI, 160, .inl fr)), (ob 12, .inl (cI, 160, .inl fo)), (ob 13, .inl (cI, 2048, .inl fx))] s.heap := hP
  have hl := lv_entry ([.ref (ox 0), .int (nI k), .int z2, .int z3]) (n := 6) (Nat.le_of_ble_eq_true rfl)
  rw [lg_entry_eq]
  generalize (lg_sl ([.ref (ox 0), .int (nI k), .int z2, .int z3]) ++ List.replicate (6 - (lg_sl ([.ref (ox 0), .int (nI k), .int z2, .int z3])).length) Slot.unset).toArray = ls at hl ⊢
  have hl : lv_has ls 6 [(0, .ref (ox 0)), (1, .int (nI k)), (2, .int z2), (3, .int z3)] := hl
  obtain ⟨hky, hL, hO, hn1, hka, hkb, hda, hdb⟩ := id hTb
  have hnb := hL.1
  have hln := hL.2.1
  have hc := hky.1
  have hcz := hky.1
  refine lv_aload_n hx hb dX10_room_0 rfl (lv_at hl 0 rfl) ?_
  refine lv_iload_n hx hb dX10_room_1 rfl (lv_at hl 1 rfl) ?_
  have hPc := hP.sub (ws' := [(ox 0, .inr (10, [.ref (ox 1), .ref (ox 2), .int (nI tp), .ref (ob3 0), .ref (og 0), .ref (oq 0), .ref (ow 0)])), (ox 1, .inl (cT, 4, .inr (.inr (.inr (.inr ft)))))]) [0, 1] rfl
  have hKc := hK.sub (tys' := [(cT, .object RX9)]) [1] rfl
  have hFc := va_free0 hS hA
  refine va_callq (va_runV (As := [.int (nI k)]) (rest := []) ⟨hx, hb, hml, hown, hts⟩ (k_tabS l D _ ox ob3 og oq ow cI cT tp ft k (ob 0) hk hft) (cwV 1 hts g_s_room_k_tabS_74 rfl rfl rfl (by decide +kernel) ⟨(Nat.le_of_ble_eq_true rfl), (Nat.le_of_ble_eq_true rfl)⟩) (PcRC_V (q0 := 0) hPc hKc hN rfl rfl) rfl rfl hl.1 rfl (lv_room (Nat.le_of_ble_eq_true rfl)) dX10_room_2 ⟨(Nat.le_of_ble_eq_true rfl), (Nat.le_of_ble_eq_true rfl)⟩) hS (fun q _ h => hFc q h) hFc (fun r1 uu tt H locs htt hvm hw hB hz1 hk1 hS => ?_)
  have hP := va_keep hP hk1
  try dsimp only at hw
  clear hB hz1 hk1 hFc hPc hKc
  obtain rfl : r1 = some (ob 0) := hw
  refine W.eq (g2 := F0 m 5 ls [.ref (ob 0)]) rfl ?_
  refine lv_astore (lv' := [(4, .ref (ob 0)), (0, .ref (ox 0)), (1, .int (nI k)), (2, .int z2), (3, .int z3)]) hx hb dX10_room_5 hl (by decide) rfl (fun ls hl => ?_)
  refine lv_aload hx hb dX10_room_7 (lv_at hl 0 rfl) ?_
  refine lv_ifnull hx hb dX10_room_9 ?_
  refine lv_aload hx hb dX10_room_12 (lv_at hl 0 rfl) ?_
  refine va_get (D := D) (ci := 9) (v := .ref (ob 5)) (C := RX9) (T := TX9) (N := 12) hx hb hts hin_X9 hown hK hP 2 rfl rfl 11 (by decide) (hts (.fieldLink RX10 130 "ClashFree$Table" "layout" "LClashFree$Layout;") (List.mem_of_getElem? (i := 5) rfl)) (fun _ h9 => h9) rfl dX10_room_14 ?_
  refine lv_iload_n hx hb dX10_room_17 rfl (lv_at hl 3 rfl) ?_
  have hPc := hP.sub (ws' := [(ob 5, .inr (3, gY ob (nI nb) (nI ka) (nI kb) sm (nI ln)))]) [7] rfl
  have hKc := hK.sub (tys' := []) [] rfl
  have hFc := va_free0 hS hA
  refine va_calli (va_runV (As := [.int z2]) (rest := []) ⟨hx, hb, hml, hown, hts⟩ (k_isBucket l D _ ob cI nb ka kb sm ln z2 hnb) (cwV 1 hts g_s_room_k_isBucket_174 rfl rfl rfl (by decide +kernel) ⟨(Nat.le_of_ble_eq_true rfl), (Nat.le_of_ble_eq_true rfl)⟩) (PcRC_V (q0 := 0) hPc hKc hN rfl rfl) rfl rfl hl.1 rfl (lv_room (Nat.le_of_ble_eq_true rfl)) dX10_room_18 ⟨(Nat.le_of_ble_eq_true rfl), (Nat.le_of_ble_eq_true rfl)⟩) hS (fun q _ h => hFc q h) hFc (fun r2 uu tt H locs htt hvm hw hB hz1 hk1 hS => ?_)
  have hP := va_keep hP hk1
  try dsimp only at hw
  clear hB hz1 hk1 hFc hPc hKc
  rcases hw with ⟨rfl, hA_r2⟩ | ⟨rfl, hA_r2⟩
  ·
    refine lv_if_ne (tgt := 27) hx hb dX10_room_21 (by decide) (fun hc => ?_) (fun hc => absurd hc (by decide))
    refine lv_iload_n hx hb dX10_room_27 rfl (lv_at hl 4 rfl) ?_
    refine lv_if_lt (tgt := 44) hx hb dX10_room_28 (by decide) (fun hc3 => ?_) (fun hc3 => ?_)
    ·
      refine lv_bipush (v := (-2)) hx hb dX10_room_44 (by decide) ?_
      exact W.iret (v := (-2)) hx hb hr (fun t ht hW => ⟨⟨(-2), (), rfl, trivial, trivial⟩, hS.F ht⟩) hS.2.2 dX10_room_46
    ·
      refine lv_iload_n hx hb dX10_room_31 rfl (lv_at hl 4 rfl) ?_
      refine lv_aload hx hb dX10_room_32 (lv_at hl 0 rfl) ?_
      refine va_get (D := D) (ci := 9) (v := .ref (ob 5)) (C := RX9) (T := TX9) (N := 12) hx hb hts hin_X9 hown hK hP 2 rfl rfl 11 (by decide) (hts (.fieldLink RX10 130 "ClashFree$Table" "layout" "LClashFree$Layout;") (List.mem_of_getElem? (i := 5) rfl)) (fun _ h9 => h9) rfl dX10_room_34 ?_
      refine lv_iload_n hx hb dX10_room_37 rfl (lv_at hl 3 rfl) ?_
      have hPc := hP.sub (ws' := [(ob 5, .inr (3, gY ob (nI nb) (nI ka) (nI kb) sm (nI ln))), (ob 7, .inl (cI, 2048, .inl ff))]) [7, 9] rfl
      have hKc := hK.sub (tys' := [(cI, .int)]) [0] rfl
      have hFc := va_free0 hS hA
      refine va_calli (va_runV (As := [.int z2]) (rest := [.int z3]) ⟨hx, hb, hml, hown, hts⟩ (k_roomsOf l D _ ob cI nb ka kb sm ln ff z2 hnb) (cwV 1 hts g_s_room_k_roomsOf_191 rfl rfl rfl (by decide +kernel) ⟨(Nat.le_of_ble_eq_true rfl), (Nat.le_of_ble_eq_true rfl)⟩) (PcRC_V (q0 := 0) hPc hKc hN rfl rfl) rfl rfl hl.1 rfl (lv_room (Nat.le_of_ble_eq_true rfl)) dX10_room_38 ⟨(Nat.le_of_ble_eq_true rfl), (Nat.le_of_ble_eq_true rfl)⟩) hS (fun q _ h => hFc q h) hFc (fun r4 uu tt H locs htt hvm hw hB hz1 hk1 hS => ?_)
      have hP := va_keep hP hk1
      try dsimp only at hw
      clear hB hz1 hk1 hFc hPc hKc
      have hro_r4 := hw
      refine lv_icmp_lt (tgt := 47) hx hb dX10_room_41 (by decide) (fun hc5 => ?_) (fun hc5 => ?_)
      ·
        refine lv_aload hx hb dX10_room_47 (lv_at hl 0 rfl) ?_
        refine va_get (D := D) (ci := 9) (v := .ref (ob 5)) (C := RX9) (T := TX9) (N := 12) hx hb hts hin_X9 hown hK hP 2 rfl rfl 11 (by decide) (hts (.fieldLink RX10 130 "ClashFree$Table" "layout" "LClashFree$Layout;") (List.mem_of_getElem? (i := 5) rfl)) (fun _ h9 => h9) rfl dX10_room_49 ?_
        refine lv_iload_n hx hb dX10_room_52 rfl (lv_at hl 3 rfl) ?_
        refine lv_iload_n hx hb dX10_room_53 rfl (lv_at hl 4 rfl) ?_
        have hPc := hP.sub (ws' := [(ob 5, .inr (3, gY ob (nI nb) (nI ka) (nI kb) sm (nI ln))), (ob 10, .inl (cI, 160, .inl fj)), (ob 11, .inl (cI, 160, .inl fr))]) [7, 12, 13] rfl
        have hKc := hK.sub (tys' := [(cI, .int)]) [0] rfl
        have hFc := va_free0 hS hA
        refine va_calli (va_runV (As := [.int z2, .int z3]) (rest := []) ⟨hx, hb, hml, hown, hts⟩ (k_tenant l D _ ob cI nb ka kb sm ln fj fr z2 z3 hln) (cwV 2 hts g_s_room_k_tenant_194 rfl rfl rfl (by decide +kernel) ⟨(Nat.le_of_ble_eq_true rfl), (Nat.le_of_ble_eq_true rfl)⟩) (PcRC_V (q0 := 0) hPc hKc hN rfl rfl) rfl rfl hl.1 rfl (lv_room (Nat.le_of_ble_eq_true rfl)) dX10_room_54 ⟨(Nat.le_of_ble_eq_true rfl), (Nat.le_of_ble_eq_true rfl)⟩) hS (fun q _ h => hFc q h) hFc (fun r6 uu tt H locs htt hvm hw hB hz1 hk1 hS => ?_)
        have hP := va_keep hP hk1
        try dsimp only at hw
        clear hB hz1 hk1 hFc hPc hKc
        refine lv_istore (lv' := [(5, .int r6), (4, .ref (ob 0)), (0, .ref (ox 0)), (1, .int (nI k)), (2, .int z2), (3, .int z3)]) hx hb dX10_room_57 hl (by decide) rfl (fun ls hl => ?_)
        refine lv_iload hx hb dX10_room_59 (lv_at hl 0 rfl) ?_
        refine lv_if_ge (tgt := 68) hx hb dX10_room_61 (by decide) (fun hc7 => ?_) (fun hc7 => ?_)
        ·
          refine lv_aload hx hb dX10_room_68 (lv_at hl 1 rfl) ?_
          refine va_get (D := D) (ci := 9) (v := .ref (ob 2)) (C := RX9) (T := TX9) (N := 12) hx hb hts hin_X9 hown hK hP 2 rfl rfl 10 (by decide) (hts (.fieldLink RX10 93 "ClashFree$Table" "keys" "LClashFree$Keys;") (List.mem_of_getElem? (i := 16) rfl)) (fun _ h9 => h9) rfl dX10_room_70 ?_
          refine lv_iload hx hb dX10_room_73 (lv_at hl 0 rfl) ?_
          have hPc := hP.sub (ws' := [(ob 2, .inr (2, [.int (nI cn), .ref (ob 3), .ref (ob 4)])), (ob 3, .inl (cI, 160, .inl fk))]) [4, 5] rfl
          have hKc := hK.sub (tys' := [(cI, .int)]) [0] rfl
          have hFc := va_free0 hS hA
          refine va_calli (va_runV (As := [.int r6]) (rest := []) ⟨hx, hb, hml, hown, hts⟩ (k_keyAt l D _ ob cI cn fk r6 hcz) (cwV 1 hts g_s_room_k_keyAt_197 rfl rfl rfl (by decide +kernel) ⟨(Nat.le_of_ble_eq_true rfl), (Nat.le_of_ble_eq_true rfl)⟩) (PcRC_V (q0 := 0) hPc hKc hN rfl rfl) rfl rfl hl.1 rfl (lv_room (Nat.le_of_ble_eq_true rfl)) dX10_room_75 ⟨(Nat.le_of_ble_eq_true rfl), (Nat.le_of_ble_eq_true rfl)⟩) hS (fun q _ h => hFc q h) hFc (fun r8 uu tt H locs htt hvm hw hB hz1 hk1 hS => ?_)
          have hP := va_keep hP hk1
          try dsimp only at hw
          clear hB hz1 hk1 hFc hPc hKc
          obtain ⟨hka_r8, hkb_r8⟩ := hw
          exact W.iret (v := r8) hx hb hr (fun t ht hW => ⟨⟨r8, (), rfl, trivial, trivial⟩, hS.F ht⟩) hS.2.2 dX10_room_78
        ·
          refine lv_iconst (v := (-1)) hx hb dX10_room_64 (by decide) ?_
          refine lv_goto (tgt := 78) hx hb dX10_room_65 (by decide) ?_
          exact W.iret (v := (-1)) hx hb hr (fun t ht hW => ⟨⟨(-1), (), rfl, trivial, trivial⟩, hS.F ht⟩) hS.2.2 dX10_room_78
      ·
        refine lv_bipush (v := (-2)) hx hb dX10_room_44 (by decide) ?_
        exact W.iret (v := (-2)) hx hb hr (fun t ht hW => ⟨⟨(-2), (), rfl, trivial, trivial⟩, hS.F ht⟩) hS.2.2 dX10_room_46
  ·
    refine lv_if_ne (tgt := 27) hx hb dX10_room_21 (by decide) (fun hc => absurd (by decide) hc) (fun hc => ?_)
    refine lv_bipush (v := (-2)) hx hb dX10_room_24 (by decide) ?_
    exact W.iret (v := (-2)) hx hb hr (fun t ht hW => ⟨⟨(-2), (), rfl, trivial, trivial⟩, hS.F ht⟩) hS.2.2 dX10_room_26

def own_s_place : List Cond := [.methodLink RX10 74 yX10_tableAt, .instanceMethod yX10_tableAt, .selects RX10 yX10_tableAt yX10_tableAt, .initialized RX10, .methodLink RX10 77 yX10_isKey, .static yX10_isKey, .fieldLink RX10 130 "ClashFree$Table" "layout" "LClashFree$Layout;", .methodLink RX10 200 yX3_homeOf, .instanceMethod yX3_homeOf, .selects RX3 yX3_homeOf yX3_homeOf, .initialized RX3, .methodLink RX10 203 yX3_roomOf, .instanceMethod yX3_roomOf, .selects RX3 yX3_roomOf yX3_roomOf]
def wp_s_place : List Cond := .code yX10_place cX10_place 6 (some .int) :: (own_s_place ++ (wp_k_tabS ++ (wp_k_isKey ++ (wp_k_homeOf ++ (wp_k_roomOf ++ (wsX90 ++ ([] : List Cond)))))))
set_option maxRecDepth 20000 in
theorem inown_s_place : ∀ w ∈ own_s_place, w ∈ lw_tbl := mem_places [610, 612, 2, 106, 614, 615, 522, 742, 635, 636, 109, 743, 652, 653] (by decide +kernel)
set_option maxRecDepth 20000 in
theorem in_s_place : ∀ w ∈ wp_s_place, w ∈ lw_tbl := List.forall_mem_cons.mpr ⟨List.mem_of_getElem? (i := 741) (by decide +kernel), List.forall_mem_append.mpr ⟨inown_s_place, List.forall_mem_append.mpr ⟨in_k_tabS, List.forall_mem_append.mpr ⟨in_k_isKey, List.forall_mem_append.mpr ⟨in_k_homeOf, List.forall_mem_append.mpr ⟨in_k_roomOf, List.forall_mem_append.mpr ⟨lwb_X9, fun _ h => absurd h List.not_mem_nil⟩⟩⟩⟩⟩⟩⟩
set_option maxRecDepth 20000 in
theorem good_s_place : wp_s_place.all goodWord = true := by decide +kernel
set_option maxRecDepth 20000 in
theorem g_s_place_k_tabS_74 : GoodIn wp_s_place (wsV RX10 74 RX10 yX10_tableAt wp_k_tabS) := goodIn_sub (List.forall_mem_append.mpr ⟨List.forall_mem_cons.mpr ⟨(List.mem_of_getElem? (i := 1) rfl), List.forall_mem_cons.mpr ⟨(List.mem_of_getElem? (i := 2) rfl), List.forall_mem_cons.mpr ⟨(List.mem_of_getElem? (i := 3) rfl), List.forall_mem_cons.mpr ⟨(List.mem_of_getElem? (i := 4) rfl), fun _ h => absurd h List.not_mem_nil⟩⟩⟩⟩, (fun _ h => (List.mem_cons_of_mem _ (List.mem_append_right _ (List.mem_append_left _ h))))⟩) (by decide +kernel)
set_option maxRecDepth 20000 in
theorem g_s_place_k_isKey_77 : GoodIn wp_s_place (va_wsS RX10 77 yX10_isKey wp_k_isKey) := goodIn_sub (List.forall_mem_append.mpr ⟨List.forall_mem_cons.mpr ⟨(List.mem_of_getElem? (i := 5) rfl), List.forall_mem_cons.mpr ⟨(List.mem_of_getElem? (i := 6) rfl), List.forall_mem_cons.mpr ⟨(List.mem_of_getElem? (i := 4) rfl), fun _ h => absurd h List.not_mem_nil⟩⟩⟩, (fun _ h => (List.mem_cons_of_mem _ (List.mem_append_right _ (List.mem_append_right _ (List.mem_append_left _ h)))))⟩) (by decide +kernel)
set_option maxRecDepth 20000 in
theorem g_s_place_k_homeOf_200 : GoodIn wp_s_place (wsV RX10 200 RX3 yX3_homeOf wp_k_homeOf) := goodIn_sub (List.forall_mem_append.mpr ⟨List.forall_mem_cons.mpr ⟨(List.mem_of_getElem? (i := 8) rfl), List.forall_mem_cons.mpr ⟨(List.mem_of_getElem? (i := 9) rfl), List.forall_mem_cons.mpr ⟨(List.mem_of_getElem? (i := 10) rfl), List.forall_mem_cons.mpr ⟨(List.mem_of_getElem? (i := 11) rfl), fun _ h => absurd h List.not_mem_nil⟩⟩⟩⟩, (fun _ h => (List.mem_cons_of_mem _ (List.mem_append_right _ (List.mem_append_right _ (List.mem_append_right _ (List.mem_append_left _ h))))))⟩) (by decide +kernel)
set_option maxRecDepth 20000 in
theorem g_s_place_k_roomOf_203 : GoodIn wp_s_place (wsV RX10 203 RX3 yX3_roomOf wp_k_roomOf) := goodIn_sub (List.forall_mem_append.mpr ⟨List.forall_mem_cons.mpr ⟨(List.mem_of_getElem? (i := 12) rfl), List.forall_mem_cons.mpr ⟨(List.mem_of_getElem? (i := 13) rfl), List.forall_mem_cons.mpr ⟨(List.mem_of_getElem? (i := 14) rfl), List.forall_mem_cons.mpr ⟨(List.mem_of_getElem? (i := 11) rfl), fun _ h => absurd h List.not_mem_nil⟩⟩⟩⟩, (fun _ h => (List.mem_cons_of_mem _ (List.mem_append_right _ (List.mem_append_right _ (List.mem_append_right _ (List.mem_append_right _ (List.mem_append_left _ h)))))))⟩) (by decide +kernel)
set_option maxHeartbeats 4000000 in
set_option maxRecDepth 100000 in
theorem s_place (l : Launch) (D : va_G) (sz : Nat) (ox : Nat → Nat) (ob3 : Nat → Nat) (og : Nat → Nat) (oq : Nat → Nat) (ow : Nat → Nat) (ob : Nat → Nat) (cI : ClassId) (cT : ClassId) (tp : Nat) (ft : Nat → Option Nat) (tb : Int32) (ts : Int32) (tg : Int32) (tl : Int32) (tc : Int32) (tr : Int32) (tu : Int32) (tv : Int32) (tw : Int32) (sd : Int64) (da : Nat) (db : Nat) (pr : Int32) (cn : Nat) (fk : Nat → Int32) (fv : Nat → Int32) (nb : Nat) (ka : Nat) (kb : Nat) (sm : Int32) (ln : Nat) (fh : Nat → Int32) (ff : Nat → Int32) (fa : Nat → Int32) (fs : Nat → Int32) (fj : Nat → Int32) (fr : Nat → Int32) (fo : Nat → Int32) (fx : Nat → Int32) (k : Nat) (z2 : Int32) (z3 : Int32) (hk : k < 4) (hft : ft k = some (ob 0)) (hTb : TbI fk fj fh fo cn nb ka kb ln da db) : Met l yX10_place wp_s_place ({ frames := 2, cells := 0, slots := 0, locals := 46 }) (PcRC D [.ref (ox 0), .int (nI k), .int z2, .int z3] sz [(ox 0, .inr (10, [.ref (ox 1), .ref (ox 2), .int (nI tp), .ref (ob3 0), .ref (og 0), .ref (oq 0), .ref (ow 0)])), (ox 1, .inl (cT, 4, .inr (.inr (.inr (.inr ft))))), (ob 0, .inr (9, gT ob tb ts tg tl tc tr tu tv tw)), (ob 1, .inr (0, [.long sd, .int (nI da), .int (nI db), .int pr])), (ob 2, .inr (2, [.int (nI cn), .ref (ob 3), .ref (ob 4)])), (ob 3, .inl (cI, 160, .inl fk)), (ob 4, .inl (cI, 160, .inl fv)), (ob 5, .inr (3, gY ob (nI nb) (nI ka) (nI kb) sm (nI ln))), (ob 6, .inl (cI, 2048, .inl fh)), (ob 7, .inl (cI, 2048, .inl ff)), (ob 8, .inl (cI, 2048, .inl fa)), (ob 9, .inl (cI, 2048, .inl fs)), (ob 10, .inl (cI, 160, .inl fj)), (ob 11, .inl (cI, 160, .inl fr)), (ob 12, .inl (cI, 160, .inl fo)), (ob 13, .inl (cI, 2048, .inl fx))] [(cI, .int), (cT, .object RX9)]) (va_Qi (fun (r : Int32) (u : Unit) => True) (fun (_ : Unit) _ => True) (va_A [] sz)) 0 0 (va_A [] sz) := by
  refine Met.ofW (cc := cX10_place) (maxL := 6) (ret := (some .int)) (by decide) rfl ?_
  intro p e s m args below meth c s₁ B hml hv
  obtain ⟨rfl, hsz, hP, hK, hN⟩ := hv
  have hx := B.exec
  have hb := B.bytes
  have hr := B.returns
  have hts := atoms_spec (ws := wp_s_place) B.pre
  have hin_X9 : ∀ w ∈ wsX90, w ∈ wp_s_place := fun _ h => (List.mem_cons_of_mem _ (List.mem_append_right _ (List.mem_append_right _ (List.mem_append_right _ (List.mem_append_right _ (List.mem_append_right _ (List.mem_append_left _ h)))))))
  have hown : s.vm.findClass RX10 = some m.cls := findClass_of_methodNamed B.named
  have hlocks := B.notSynchronized
  subst hsz
  generalize hAe : va_A [] s.heap.size = A at ⊢
  have hA : ∀ q : Nat, s.heap.size ≤ q → A q := fun q h => by rw [← hAe]; exact Or.inr h
  have hS : va_S A s.heap s.heap [] := va_S.rf
  have hP : va_P D vwCl [(ox 0, .inr (10, [.ref (ox 1), .ref (ox 2), .int (nI tp), .ref (ob3 0), .ref (og 0), .ref (oq 0), .ref (ow 0)])), (ox 1, .inl (cT, 4, .inr (.inr (.inr (.inr ft))))), (ob 0, .inr (9, gT ob tb ts tg tl tc tr tu tv tw)), (ob 1, .inr (0, [.long sd, .int (nI da), .int (nI db), .int pr])), (ob 2, .inr (2, [.int (nI cn), .ref (ob 3), .ref (ob 4)])), (ob 3, .inl (cI, 160, .inl fk)), (ob 4, .inl (cI, 160, .inl fv)), (ob 5, .inr (3, gY ob (nI nb) (nI ka) (nI kb) sm (nI ln))), (ob 6, .inl (cI, 2048, .inl fh)), (ob 7, .inl (cI, 2048, .inl ff)), (ob 8, .inl (cI, 2048, .inl fa)), (ob 9, .inl (cI, 2048, .inl fs)), (ob 10, .inl (cI, 160, .inl fj)), (ob 11, .inl (cI, 160, .inl fr)), (ob 12, .inl (cI, 160, .inl fo)), (ob 13, .inl (cI, 2048, .inl fx))] s.heap := hP
  have hl := lv_entry ([.ref (ox 0), .int (nI k), .int z2, .int z3]) (n := 6) (Nat.le_of_ble_eq_true rfl)
  rw [lg_entry_eq]
  generalize (lg_sl ([.ref (ox 0), .int (nI k), .int z2, .int z3]) ++ List.replicate (6 - (lg_sl ([.ref (ox 0), .int (nI k), .int z2, .int z3])).length) Slot.unset).toArray = ls at hl ⊢
  have hl : lv_has ls 6 [(0, .ref (ox 0)), (1, .int (nI k)), (2, .int z2), (3, .int z3)] := hl
  obtain ⟨hky, hL, hO, hn1, hka, hkb, hda, hdb⟩ := id hTb
  have hnb := hL.1
  have hln := hL.2.1
  have hc := hky.1
  have hcz := hky.1
  refine lv_aload_n hx hb dX10_place_0 rfl (lv_at hl 0 rfl) ?_
  refine lv_iload_n hx hb dX10_place_1 rfl (lv_at hl 1 rfl) ?_
  have hPc := hP.sub (ws' := [(ox 0, .inr (10, [.ref (ox 1), .ref (ox 2), .int (nI tp), .ref (ob3 0), .ref (og 0), .ref (oq 0), .ref (ow 0)])), (ox 1, .inl (cT, 4, .inr (.inr (.inr (.inr ft)))))]) [0, 1] rfl
  have hKc := hK.sub (tys' := [(cT, .object RX9)]) [1] rfl
  have hFc := va_free0 hS hA
  refine va_callq (va_runV (As := [.int (nI k)]) (rest := []) ⟨hx, hb, hml, hown, hts⟩ (k_tabS l D _ ox ob3 og oq ow cI cT tp ft k (ob 0) hk hft) (cwV 1 hts g_s_place_k_tabS_74 rfl rfl rfl (by decide +kernel) ⟨(Nat.le_of_ble_eq_true rfl), (Nat.le_of_ble_eq_true rfl)⟩) (PcRC_V (q0 := 0) hPc hKc hN rfl rfl) rfl rfl hl.1 rfl (lv_room (Nat.le_of_ble_eq_true rfl)) dX10_place_2 ⟨(Nat.le_of_ble_eq_true rfl), (Nat.le_of_ble_eq_true rfl)⟩) hS (fun q _ h => hFc q h) hFc (fun r1 uu tt H locs htt hvm hw hB hz1 hk1 hS => ?_)
  have hP := va_keep hP hk1
  try dsimp only at hw
  clear hB hz1 hk1 hFc hPc hKc
  obtain rfl : r1 = some (ob 0) := hw
  refine W.eq (g2 := F0 m 5 ls [.ref (ob 0)]) rfl ?_
  refine lv_astore (lv' := [(4, .ref (ob 0)), (0, .ref (ox 0)), (1, .int (nI k)), (2, .int z2), (3, .int z3)]) hx hb dX10_place_5 hl (by decide) rfl (fun ls hl => ?_)
  refine lv_aload hx hb dX10_place_7 (lv_at hl 0 rfl) ?_
  refine lv_ifnull hx hb dX10_place_9 ?_
  refine lv_iload_n hx hb dX10_place_12 rfl (lv_at hl 3 rfl) ?_
  have hPc := hP.sub (ws' := []) [] rfl
  have hKc := hK.sub (tys' := []) [] rfl
  have hFc := va_free0 hS hA
  refine va_calli (va_runS (As := [.int z2]) (rest := []) ⟨hx, hb, hml, hown, hts⟩ (k_isKey l D _ cI z2) (va_cwS 1 hts g_s_place_k_isKey_77 rfl rfl rfl (by decide +kernel) ⟨(Nat.le_of_ble_eq_true rfl), (Nat.le_of_ble_eq_true rfl)⟩) (PcRC_S hPc hKc hN) rfl rfl hl.1 rfl (lv_room (Nat.le_of_ble_eq_true rfl)) dX10_place_13 ⟨(Nat.le_of_ble_eq_true rfl), (Nat.le_of_ble_eq_true rfl)⟩) hS (fun q _ h => hFc q h) hFc (fun r2 uu tt H locs htt hvm hw hB hz1 hk1 hS => ?_)
  have hP := va_keep hP hk1
  try dsimp only at hw
  clear hB hz1 hk1 hFc hPc hKc
  rcases hw with ⟨rfl, hA_r2⟩ | ⟨rfl, hA_r2⟩
  ·
    obtain ⟨kx, hkx, rfl⟩ := hA_r2
    refine lv_if_eq (tgt := 28) hx hb dX10_place_16 (by decide) (fun hc => absurd hc (by decide)) (fun hc => ?_)
    refine lv_iload_n hx hb dX10_place_19 rfl (lv_at hl 4 rfl) ?_
    refine lv_if_lt (tgt := 28) hx hb dX10_place_20 (by decide) (fun hc3 => ?_) (fun hc3 => ?_)
    ·
      refine lv_bipush (v := (-2)) hx hb dX10_place_28 (by decide) ?_
      exact W.iret (v := (-2)) hx hb hr (fun t ht hW => ⟨⟨(-2), (), rfl, trivial, trivial⟩, hS.F ht⟩) hS.2.2 dX10_place_30
    ·
      refine lv_iload_n hx hb dX10_place_23 rfl (lv_at hl 4 rfl) ?_
      refine lv_iconst (v := 1) hx hb dX10_place_24 (by decide) ?_
      refine lv_icmp_le (tgt := 31) hx hb dX10_place_25 (by decide) (fun hc4 => ?_) (fun hc4 => ?_)
      ·
        refine lv_aload hx hb dX10_place_31 (lv_at hl 0 rfl) ?_
        refine va_get (D := D) (ci := 9) (v := .ref (ob 5)) (C := RX9) (T := TX9) (N := 12) hx hb hts hin_X9 hown hK hP 2 rfl rfl 11 (by decide) (hts (.fieldLink RX10 130 "ClashFree$Table" "layout" "LClashFree$Layout;") (List.mem_of_getElem? (i := 7) rfl)) (fun _ h9 => h9) rfl dX10_place_33 ?_
        refine lv_iload_n hx hb dX10_place_36 rfl (lv_at hl 3 rfl) ?_
        have hPc := hP.sub (ws' := [(ob 5, .inr (3, gY ob (nI nb) (nI ka) (nI kb) sm (nI ln)))]) [7] rfl
        have hKc := hK.sub (tys' := []) [] rfl
        have hFc := va_free0 hS hA
        refine va_calli (va_runV (As := [.int (nI kx)]) (rest := []) ⟨hx, hb, hml, hown, hts⟩ (k_homeOf l D _ ob cI nb ka kb sm ln kx hnb hn1 hka hkb hkx) (cwV 1 hts g_s_place_k_homeOf_200 rfl rfl rfl (by decide +kernel) ⟨(Nat.le_of_ble_eq_true rfl), (Nat.le_of_ble_eq_true rfl)⟩) (PcRC_V (q0 := 0) hPc hKc hN rfl rfl) rfl rfl hl.1 rfl (lv_room (Nat.le_of_ble_eq_true rfl)) dX10_place_37 ⟨(Nat.le_of_ble_eq_true rfl), (Nat.le_of_ble_eq_true rfl)⟩) hS (fun q _ h => hFc q h) hFc (fun r5 uu tt H locs htt hvm hw hB hz1 hk1 hS => ?_)
        have hP := va_keep hP hk1
        try dsimp only at hw
        clear hB hz1 hk1 hFc hPc hKc
        obtain ⟨ho6, eho6, rfl⟩ : ∃ q, q = ((ka * kx + kb) % 2147483647 % nb) ∧ r5 = nI q := ⟨_, rfl, hw⟩
        have hho6 : ho6 < nb := by rw [eho6]; exact Nat.mod_lt _ hn1
        refine lv_istore (lv' := [(5, .int (nI ho6)), (4, .ref (ob 0)), (0, .ref (ox 0)), (1, .int (nI k)), (2, .int (nI kx)), (3, .int z3)]) hx hb dX10_place_40 hl (by decide) rfl (fun ls hl => ?_)
        refine lv_iload_n hx hb dX10_place_42 rfl (lv_at hl 5 rfl) ?_
        refine lv_if_ne (tgt := 51) hx hb dX10_place_43 (by decide) (fun hc7 => ?_) (fun hc7 => ?_)
        ·
          refine lv_aload hx hb dX10_place_51 (lv_at hl 1 rfl) ?_
          refine va_get (D := D) (ci := 9) (v := .ref (ob 5)) (C := RX9) (T := TX9) (N := 12) hx hb hts hin_X9 hown hK hP 2 rfl rfl 11 (by decide) (hts (.fieldLink RX10 130 "ClashFree$Table" "layout" "LClashFree$Layout;") (List.mem_of_getElem? (i := 7) rfl)) (fun _ h9 => h9) rfl dX10_place_53 ?_
          refine lv_iload_n hx hb dX10_place_56 rfl (lv_at hl 4 rfl) ?_
          refine lv_iload hx hb dX10_place_57 (lv_at hl 0 rfl) ?_
          have hPc := hP.sub (ws' := [(ob 5, .inr (3, gY ob (nI nb) (nI ka) (nI kb) sm (nI ln))), (ob 7, .inl (cI, 2048, .inl ff)), (ob 8, .inl (cI, 2048, .inl fa)), (ob 9, .inl (cI, 2048, .inl fs))]) [7, 9, 10, 11] rfl
          have hKc := hK.sub (tys' := [(cI, .int)]) [0] rfl
          have hFc := va_free0 hS hA
          refine va_calli (va_runV (As := [.int (nI kx), .int (nI ho6)]) (rest := []) ⟨hx, hb, hml, hown, hts⟩ (k_roomOf l D _ ob cI nb ka kb sm ln ff fa fs (nI kx) (nI ho6) hnb) (cwV 2 hts g_s_place_k_roomOf_203 rfl rfl rfl (by decide +kernel) ⟨(Nat.le_of_ble_eq_true rfl), (Nat.le_of_ble_eq_true rfl)⟩) (PcRC_V (q0 := 0) hPc hKc hN rfl rfl) rfl rfl hl.1 rfl (lv_room (Nat.le_of_ble_eq_true rfl)) dX10_place_59 ⟨(Nat.le_of_ble_eq_true rfl), (Nat.le_of_ble_eq_true rfl)⟩) hS (fun q _ h => hFc q h) hFc (fun r8 uu tt H locs htt hvm hw hB hz1 hk1 hS => ?_)
          have hP := va_keep hP hk1
          try dsimp only at hw
          clear hB hz1 hk1 hFc hPc hKc
          exact W.iret (v := r8) hx hb hr (fun t ht hW => ⟨⟨r8, (), rfl, trivial, trivial⟩, hS.F ht⟩) hS.2.2 dX10_place_62
        ·
          refine lv_iload hx hb dX10_place_46 (lv_at hl 0 rfl) ?_
          refine lv_goto (tgt := 62) hx hb dX10_place_48 (by decide) ?_
          exact W.iret (v := nI ho6) hx hb hr (fun t ht hW => ⟨⟨nI ho6, (), rfl, trivial, trivial⟩, hS.F ht⟩) hS.2.2 dX10_place_62
      ·
        refine lv_bipush (v := (-2)) hx hb dX10_place_28 (by decide) ?_
        exact W.iret (v := (-2)) hx hb hr (fun t ht hW => ⟨⟨(-2), (), rfl, trivial, trivial⟩, hS.F ht⟩) hS.2.2 dX10_place_30
  ·
    refine lv_if_eq (tgt := 28) hx hb dX10_place_16 (by decide) (fun hc => ?_) (fun hc => absurd (by decide) hc)
    refine lv_bipush (v := (-2)) hx hb dX10_place_28 (by decide) ?_
    exact W.iret (v := (-2)) hx hb hr (fun t ht hW => ⟨⟨(-2), (), rfl, trivial, trivial⟩, hS.F ht⟩) hS.2.2 dX10_place_30

def own_s_key : List Cond := [.methodLink RX10 74 yX10_tableAt, .instanceMethod yX10_tableAt, .selects RX10 yX10_tableAt yX10_tableAt, .initialized RX10, .fieldLink RX10 93 "ClashFree$Table" "keys" "LClashFree$Keys;", .fieldLink RX10 121 "ClashFree$Keys" "size" "I", .methodLink RX10 197 yX2_keyAt, .instanceMethod yX2_keyAt, .selects RX2 yX2_keyAt yX2_keyAt, .initialized RX2]
def wp_s_key : List Cond := .code yX10_key cX10_key 4 (some .int) :: (own_s_key ++ (wp_k_tabS ++ (wp_k_keyAt ++ (wsX90 ++ (wsX20 ++ ([] : List Cond))))))
set_option maxRecDepth 20000 in
theorem inown_s_key : ∀ w ∈ own_s_key, w ∈ lw_tbl := mem_places [610, 612, 2, 106, 518, 476, 734, 735, 736, 117] (by decide +kernel)
set_option maxRecDepth 20000 in
theorem in_s_key : ∀ w ∈ wp_s_key, w ∈ lw_tbl := List.forall_mem_cons.mpr ⟨List.mem_of_getElem? (i := 747) (by decide +kernel), List.forall_mem_append.mpr ⟨inown_s_key, List.forall_mem_append.mpr ⟨in_k_tabS, List.forall_mem_append.mpr ⟨in_k_keyAt, List.forall_mem_append.mpr ⟨lwb_X9, List.forall_mem_append.mpr ⟨lwb_X2, fun _ h => absurd h List.not_mem_nil⟩⟩⟩⟩⟩⟩
set_option maxRecDepth 20000 in
theorem good_s_key : wp_s_key.all goodWord = true := by decide +kernel
set_option maxRecDepth 20000 in
theorem g_s_key_k_tabS_74 : GoodIn wp_s_key (wsV RX10 74 RX10 yX10_tableAt wp_k_tabS) := goodIn_sub (List.forall_mem_append.mpr ⟨List.forall_mem_cons.mpr ⟨(List.mem_of_getElem? (i := 1) rfl), List.forall_mem_cons.mpr ⟨(List.mem_of_getElem? (i := 2) rfl), List.forall_mem_cons.mpr ⟨(List.mem_of_getElem? (i := 3) rfl), List.forall_mem_cons.mpr ⟨(List.mem_of_getElem? (i := 4) rfl), fun _ h => absurd h List.not_mem_nil⟩⟩⟩⟩, (fun _ h => (List.mem_cons_of_mem _ (List.mem_append_right _ (List.mem_append_left _ h))))⟩) (by decide +kernel)
set_option maxRecDepth 20000 in
theorem g_s_key_k_keyAt_197 : GoodIn wp_s_key (wsV RX10 197 RX2 yX2_keyAt wp_k_keyAt) := goodIn_sub (List.forall_mem_append.mpr ⟨List.forall_mem_cons.mpr ⟨(List.mem_of_getElem? (i := 7) rfl), List.forall_mem_cons.mpr ⟨(List.mem_of_getElem? (i := 8) rfl), List.forall_mem_cons.mpr ⟨(List.mem_of_getElem? (i := 9) rfl), List.forall_mem_cons.mpr ⟨(List.mem_of_getElem? (i := 10) rfl), fun _ h => absurd h List.not_mem_nil⟩⟩⟩⟩, (fun _ h => (List.mem_cons_of_mem _ (List.mem_append_right _ (List.mem_append_right _ (List.mem_append_left _ h)))))⟩) (by decide +kernel)
set_option maxHeartbeats 4000000 in
set_option maxRecDepth 100000 in
theorem s_key (l : Launch) (D : va_G) (sz : Nat) (ox : Nat → Nat) (ob3 : Nat → Nat) (og : Nat → Nat) (oq : Nat → Nat) (ow : Nat → Nat) (ob : Nat → Nat) (cI : ClassId) (cT : ClassId) (tp : Nat) (ft : Nat → Option Nat) (tb : Int32) (ts : Int32) (tg : Int32) (tl : Int32) (tc : Int32) (tr : Int32) (tu : Int32) (tv : Int32) (tw : Int32) (sd : Int64) (da : Nat) (db : Nat) (pr : Int32) (cn : Nat) (fk : Nat → Int32) (fv : Nat → Int32) (nb : Nat) (ka : Nat) (kb : Nat) (sm : Int32) (ln : Nat) (fh : Nat → Int32) (ff : Nat → Int32) (fa : Nat → Int32) (fs : Nat → Int32) (fj : Nat → Int32) (fr : Nat → Int32) (fo : Nat → Int32) (fx : Nat → Int32) (k : Nat) (z2 : Int32) (L : List (Nat × Int32)) (hk : k < 4) (hft : ft k = some (ob 0)) (hTb : TbI fk fj fh fo cn nb ka kb ln da db) (hKv : KvT fk fv cn L) : Met l yX10_key wp_s_key ({ frames := 2, cells := 0, slots := 0, locals := 41 }) (PcRC D [.ref (ox 0), .int (nI k), .int z2] sz [(ox 0, .inr (10, [.ref (ox 1), .ref (ox 2), .int (nI tp), .ref (ob3 0), .ref (og 0), .ref (oq 0), .ref (ow 0)])), (ox 1, .inl (cT, 4, .inr (.inr (.inr (.inr ft))))), (ob 0, .inr (9, gT ob tb ts tg tl tc tr tu tv tw)), (ob 1, .inr (0, [.long sd, .int (nI da), .int (nI db), .int pr])), (ob 2, .inr (2, [.int (nI cn), .ref (ob 3), .ref (ob 4)])), (ob 3, .inl (cI, 160, .inl fk)), (ob 4, .inl (cI, 160, .inl fv)), (ob 5, .inr (3, gY ob (nI nb) (nI ka) (nI kb) sm (nI ln))), (ob 6, .inl (cI, 2048, .inl fh)), (ob 7, .inl (cI, 2048, .inl ff)), (ob 8, .inl (cI, 2048, .inl fa)), (ob 9, .inl (cI, 2048, .inl fs)), (ob 10, .inl (cI, 160, .inl fj)), (ob 11, .inl (cI, 160, .inl fr)), (ob 12, .inl (cI, 160, .inl fo)), (ob 13, .inl (cI, 2048, .inl fx))] [(cI, .int), (cT, .object RX9)]) (va_Qi (fun (r : Int32) (u : Unit) => r = keyA True (fun _ => L) (nI k) z2) (fun (_ : Unit) _ => True) (va_A [] sz)) 0 0 (va_A [] sz) := by
  refine Met.ofW (cc := cX10_key) (maxL := 4) (ret := (some .int)) (by decide) rfl ?_
  intro p e s m args below meth c s₁ B hml hv
  obtain ⟨rfl, hsz, hP, hK, hN⟩ := hv
  have hx := B.exec
  have hb := B.bytes
  have hr := B.returns
  have hts := atoms_spec (ws := wp_s_key) B.pre
  have hin_X9 : ∀ w ∈ wsX90, w ∈ wp_s_key := fun _ h => (List.mem_cons_of_mem _ (List.mem_append_right _ (List.mem_append_right _ (List.mem_append_right _ (List.mem_append_left _ h)))))
  have hin_X2 : ∀ w ∈ wsX20, w ∈ wp_s_key := fun _ h => (List.mem_cons_of_mem _ (List.mem_append_right _ (List.mem_append_right _ (List.mem_append_right _ (List.mem_append_right _ (List.mem_append_left _ h))))))
  have hown : s.vm.findClass RX10 = some m.cls := findClass_of_methodNamed B.named
  have hlocks := B.notSynchronized
  subst hsz
  generalize hAe : va_A [] s.heap.size = A at ⊢
  have hA : ∀ q : Nat, s.heap.size ≤ q → A q := fun q h => by rw [← hAe]; exact Or.inr h
  have hS : va_S A s.heap s.heap [] := va_S.rf
  have hP : va_P D vwCl [(ox 0, .inr (10, [.ref (ox 1), .ref (ox 2), .int (nI tp), .ref (ob3 0), .ref (og 0), .ref (oq 0), .ref (ow 0)])), (ox 1, .inl (cT, 4, .inr (.inr (.inr (.inr ft))))), (ob 0, .inr (9, gT ob tb ts tg tl tc tr tu tv tw)), (ob 1, .inr (0, [.long sd, .int (nI da), .int (nI db), .int pr])), (ob 2, .inr (2, [.int (nI cn), .ref (ob 3), .ref (ob 4)])), (ob 3, .inl (cI, 160, .inl fk)), (ob 4, .inl (cI, 160, .inl fv)), (ob 5, .inr (3, gY ob (nI nb) (nI ka) (nI kb) sm (nI ln))), (ob 6, .inl (cI, 2048, .inl fh)), (ob 7, .inl (cI, 2048, .inl ff)), (ob 8, .inl (cI, 2048, .inl fa)), (ob 9, .inl (cI, 2048, .inl fs)), (ob 10, .inl (cI, 160, .inl fj)), (ob 11, .inl (cI, 160, .inl fr)), (ob 12, .inl (cI, 160, .inl fo)), (ob 13, .inl (cI, 2048, .inl fx))] s.heap := hP
  have hl := lv_entry ([.ref (ox 0), .int (nI k), .int z2]) (n := 4) (Nat.le_of_ble_eq_true rfl)
  rw [lg_entry_eq]
  generalize (lg_sl ([.ref (ox 0), .int (nI k), .int z2]) ++ List.replicate (4 - (lg_sl ([.ref (ox 0), .int (nI k), .int z2])).length) Slot.unset).toArray = ls at hl ⊢
  have hl : lv_has ls 4 [(0, .ref (ox 0)), (1, .int (nI k)), (2, .int z2)] := hl
  obtain ⟨hky, hL, hO, hn1, hka, hkb, hda, hdb⟩ := id hTb
  have hnb := hL.1
  have hln := hL.2.1
  have hc := hky.1
  have hcz := hky.1
  obtain ⟨-, K, hK1, hK2, rfl⟩ := id hKv
  have hKT : KyT fk cn K := ⟨hcz, hK1, hK2⟩
  refine lv_aload_n hx hb dX10_key_0 rfl (lv_at hl 0 rfl) ?_
  refine lv_iload_n hx hb dX10_key_1 rfl (lv_at hl 1 rfl) ?_
  have hPc := hP.sub (ws' := [(ox 0, .inr (10, [.ref (ox 1), .ref (ox 2), .int (nI tp), .ref (ob3 0), .ref (og 0), .ref (oq 0), .ref (ow 0)])), (ox 1, .inl (cT, 4, .inr (.inr (.inr (.inr ft)))))]) [0, 1] rfl
  have hKc := hK.sub (tys' := [(cT, .object RX9)]) [1] rfl
  have hFc := va_free0 hS hA
  refine va_callq (va_runV (As := [.int (nI k)]) (rest := []) ⟨hx, hb, hml, hown, hts⟩ (k_tabS l D _ ox ob3 og oq ow cI cT tp ft k (ob 0) hk hft) (cwV 1 hts g_s_key_k_tabS_74 rfl rfl rfl (by decide +kernel) ⟨(Nat.le_of_ble_eq_true rfl), (Nat.le_of_ble_eq_true rfl)⟩) (PcRC_V (q0 := 0) hPc hKc hN rfl rfl) rfl rfl hl.1 rfl (lv_room (Nat.le_of_ble_eq_true rfl)) dX10_key_2 ⟨(Nat.le_of_ble_eq_true rfl), (Nat.le_of_ble_eq_true rfl)⟩) hS (fun q _ h => hFc q h) hFc (fun r1 uu tt H locs htt hvm hw hB hz1 hk1 hS => ?_)
  have hP := va_keep hP hk1
  try dsimp only at hw
  clear hB hz1 hk1 hFc hPc hKc
  obtain rfl : r1 = some (ob 0) := hw
  refine W.eq (g2 := F0 m 5 ls [.ref (ob 0)]) rfl ?_
  refine lv_astore_n (lv' := [(3, .ref (ob 0)), (0, .ref (ox 0)), (1, .int (nI k)), (2, .int z2)]) hx hb dX10_key_5 rfl hl (by decide) rfl (fun ls hl => ?_)
  refine lv_aload_n hx hb dX10_key_6 rfl (lv_at hl 0 rfl) ?_
  refine lv_ifnull hx hb dX10_key_7 ?_
  refine lv_iload_n hx hb dX10_key_10 rfl (lv_at hl 3 rfl) ?_
  refine lv_if_lt (tgt := 25) hx hb dX10_key_11 (by decide) (fun hc2 => ?_) (fun hc2 => ?_)
  ·
    refine lv_iconst (v := (-1)) hx hb dX10_key_25 (by decide) ?_
    exact W.iret (v := (-1)) hx hb hr (fun t ht hW => ⟨⟨(-1), (), rfl, (keyA_n hk (fun ⟨j, hj, e⟩ => absurd hc2 (by rw [e]; exact Int32.not_lt.mpr (nI_pos' (by have hj : j < (tabl cn K fv).length := hj; rw [tabl_len] at hj; omega))))).symm, trivial⟩, hS.F ht⟩) hS.2.2 dX10_key_26
  ·
    refine lv_iload_n hx hb dX10_key_14 rfl (lv_at hl 3 rfl) ?_
    refine lv_aload_n hx hb dX10_key_15 rfl (lv_at hl 0 rfl) ?_
    refine va_get (D := D) (ci := 9) (v := .ref (ob 2)) (C := RX9) (T := TX9) (N := 12) hx hb hts hin_X9 hown hK hP 2 rfl rfl 10 (by decide) (hts (.fieldLink RX10 93 "ClashFree$Table" "keys" "LClashFree$Keys;") (List.mem_of_getElem? (i := 5) rfl)) (fun _ h9 => h9) rfl dX10_key_16 ?_
    refine va_get (D := D) (ci := 2) (v := .int (nI cn)) (C := RX2) (T := TX2) (N := 3) hx hb hts hin_X2 hown hK hP 4 rfl rfl 0 (by decide) (hts (.fieldLink RX10 121 "ClashFree$Keys" "size" "I") (List.mem_of_getElem? (i := 6) rfl)) (fun _ h9 => h9) rfl dX10_key_19 ?_
    refine lv_icmp_lt (tgt := 27) hx hb dX10_key_22 (by decide) (fun hc3 => ?_) (fun hc3 => ?_)
    ·
      obtain ⟨jx, hjx, rfl⟩ := inz (by omega) hc2 hc3
      refine lv_aload_n hx hb dX10_key_27 rfl (lv_at hl 0 rfl) ?_
      refine va_get (D := D) (ci := 9) (v := .ref (ob 2)) (C := RX9) (T := TX9) (N := 12) hx hb hts hin_X9 hown hK hP 2 rfl rfl 10 (by decide) (hts (.fieldLink RX10 93 "ClashFree$Table" "keys" "LClashFree$Keys;") (List.mem_of_getElem? (i := 5) rfl)) (fun _ h9 => h9) rfl dX10_key_28 ?_
      refine lv_iload_n hx hb dX10_key_31 rfl (lv_at hl 3 rfl) ?_
      have hPc := hP.sub (ws' := [(ob 2, .inr (2, [.int (nI cn), .ref (ob 3), .ref (ob 4)])), (ob 3, .inl (cI, 160, .inl fk))]) [4, 5] rfl
      have hKc := hK.sub (tys' := [(cI, .int)]) [0] rfl
      have hFc := va_free0 hS hA
      refine va_calli (va_runV (As := [.int (nI jx)]) (rest := []) ⟨hx, hb, hml, hown, hts⟩ (k_keyAt l D _ ob cI cn fk (nI jx) hcz) (cwV 1 hts g_s_key_k_keyAt_197 rfl rfl rfl (by decide +kernel) ⟨(Nat.le_of_ble_eq_true rfl), (Nat.le_of_ble_eq_true rfl)⟩) (PcRC_V (q0 := 0) hPc hKc hN rfl rfl) rfl rfl hl.1 rfl (lv_room (Nat.le_of_ble_eq_true rfl)) dX10_key_32 ⟨(Nat.le_of_ble_eq_true rfl), (Nat.le_of_ble_eq_true rfl)⟩) hS (fun q _ h => hFc q h) hFc (fun r4 uu tt H locs htt hvm hw hB hz1 hk1 hS => ?_)
      have hP := va_keep hP hk1
      try dsimp only at hw
      clear hB hz1 hk1 hFc hPc hKc
      obtain ⟨hka_r4, hkb_r4⟩ := hw
      exact W.iret (v := r4) hx hb hr (fun t ht hW => ⟨⟨r4, (), rfl, by rw [keyA_1 hk (by rw [tabl_len]; exact hjx) (by rw [tabl_len]; exact hcz) trivial, tabl_getD _ _ hjx, hka_r4 jx hjx rfl]; exact (hK1 jx hjx).1, trivial⟩, hS.F ht⟩) hS.2.2 dX10_key_35
    ·
      refine lv_iconst (v := (-1)) hx hb dX10_key_25 (by decide) ?_
      exact W.iret (v := (-1)) hx hb hr (fun t ht hW => ⟨⟨(-1), (), rfl, (keyA_n hk (fun ⟨j, hj, e⟩ => absurd (by have hj : j < (tabl cn K fv).length := hj; rw [tabl_len] at hj; rw [e]; exact nI_lt hj (by omega)) hc3)).symm, trivial⟩, hS.F ht⟩) hS.2.2 dX10_key_26

def own_s_below : List Cond := [.methodLink RX10 74 yX10_tableAt, .instanceMethod yX10_tableAt, .selects RX10 yX10_tableAt yX10_tableAt, .initialized RX10, .fieldLink RX10 93 "ClashFree$Table" "keys" "LClashFree$Keys;", .methodLink RX10 209 yX2_rank, .instanceMethod yX2_rank, .selects RX2 yX2_rank yX2_rank, .initialized RX2]
def wp_s_below : List Cond := .code yX10_below cX10_below 4 (some .int) :: (own_s_below ++ (wp_k_tabS ++ (wp_k_rank ++ (wsX90 ++ ([] : List Cond)))))
set_option maxRecDepth 20000 in
theorem inown_s_below : ∀ w ∈ own_s_below, w ∈ lw_tbl := mem_places [610, 612, 2, 106, 518, 761, 627, 628, 117] (by decide +kernel)
set_option maxRecDepth 20000 in
theorem in_s_below : ∀ w ∈ wp_s_below, w ∈ lw_tbl := List.forall_mem_cons.mpr ⟨List.mem_of_getElem? (i := 760) (by decide +kernel), List.forall_mem_append.mpr ⟨inown_s_below, List.forall_mem_append.mpr ⟨in_k_tabS, List.forall_mem_append.mpr ⟨in_k_rank, List.forall_mem_append.mpr ⟨lwb_X9, fun _ h => absurd h List.not_mem_nil⟩⟩⟩⟩⟩
set_option maxRecDepth 20000 in
theorem good_s_below : wp_s_below.all goodWord = true := by decide +kernel
set_option maxRecDepth 20000 in
theorem g_s_below_k_tabS_74 : GoodIn wp_s_below (wsV RX10 74 RX10 yX10_tableAt wp_k_tabS) := goodIn_sub (List.forall_mem_append.mpr ⟨List.forall_mem_cons.mpr ⟨(List.mem_of_getElem? (i := 1) rfl), List.forall_mem_cons.mpr ⟨(List.mem_of_getElem? (i := 2) rfl), List.forall_mem_cons.mpr ⟨(List.mem_of_getElem? (i := 3) rfl), List.forall_mem_cons.mpr ⟨(List.mem_of_getElem? (i := 4) rfl), fun _ h => absurd h List.not_mem_nil⟩⟩⟩⟩, (fun _ h => (List.mem_cons_of_mem _ (List.mem_append_right _ (List.mem_append_left _ h))))⟩) (by decide +kernel)
set_option maxRecDepth 20000 in
theorem g_s_below_k_rank_209 : GoodIn wp_s_below (wsV RX10 209 RX2 yX2_rank wp_k_rank) := goodIn_sub (List.forall_mem_append.mpr ⟨List.forall_mem_cons.mpr ⟨(List.mem_of_getElem? (i := 6) rfl), List.forall_mem_cons.mpr ⟨(List.mem_of_getElem? (i := 7) rfl), List.forall_mem_cons.mpr ⟨(List.mem_of_getElem? (i := 8) rfl), List.forall_mem_cons.mpr ⟨(List.mem_of_getElem? (i := 9) rfl), fun _ h => absurd h List.not_mem_nil⟩⟩⟩⟩, (fun _ h => (List.mem_cons_of_mem _ (List.mem_append_right _ (List.mem_append_right _ (List.mem_append_left _ h)))))⟩) (by decide +kernel)
set_option maxHeartbeats 4000000 in
set_option maxRecDepth 100000 in
theorem s_below (l : Launch) (D : va_G) (sz : Nat) (ox : Nat → Nat) (ob3 : Nat → Nat) (og : Nat → Nat) (oq : Nat → Nat) (ow : Nat → Nat) (ob : Nat → Nat) (cI : ClassId) (cT : ClassId) (tp : Nat) (ft : Nat → Option Nat) (tb : Int32) (ts : Int32) (tg : Int32) (tl : Int32) (tc : Int32) (tr : Int32) (tu : Int32) (tv : Int32) (tw : Int32) (sd : Int64) (da : Nat) (db : Nat) (pr : Int32) (cn : Nat) (fk : Nat → Int32) (fv : Nat → Int32) (nb : Nat) (ka : Nat) (kb : Nat) (sm : Int32) (ln : Nat) (fh : Nat → Int32) (ff : Nat → Int32) (fa : Nat → Int32) (fs : Nat → Int32) (fj : Nat → Int32) (fr : Nat → Int32) (fo : Nat → Int32) (fx : Nat → Int32) (k : Nat) (z2 : Int32) (L : List (Nat × Int32)) (hk : k < 4) (hft : ft k = some (ob 0)) (hTb : TbI fk fj fh fo cn nb ka kb ln da db) (hKv : KvT fk fv cn L) : Met l yX10_below wp_s_below ({ frames := 2, cells := 0, slots := 0, locals := 41 }) (PcRC D [.ref (ox 0), .int (nI k), .int z2] sz [(ox 0, .inr (10, [.ref (ox 1), .ref (ox 2), .int (nI tp), .ref (ob3 0), .ref (og 0), .ref (oq 0), .ref (ow 0)])), (ox 1, .inl (cT, 4, .inr (.inr (.inr (.inr ft))))), (ob 0, .inr (9, gT ob tb ts tg tl tc tr tu tv tw)), (ob 1, .inr (0, [.long sd, .int (nI da), .int (nI db), .int pr])), (ob 2, .inr (2, [.int (nI cn), .ref (ob 3), .ref (ob 4)])), (ob 3, .inl (cI, 160, .inl fk)), (ob 4, .inl (cI, 160, .inl fv)), (ob 5, .inr (3, gY ob (nI nb) (nI ka) (nI kb) sm (nI ln))), (ob 6, .inl (cI, 2048, .inl fh)), (ob 7, .inl (cI, 2048, .inl ff)), (ob 8, .inl (cI, 2048, .inl fa)), (ob 9, .inl (cI, 2048, .inl fs)), (ob 10, .inl (cI, 160, .inl fj)), (ob 11, .inl (cI, 160, .inl fr)), (ob 12, .inl (cI, 160, .inl fo)), (ob 13, .inl (cI, 2048, .inl fx))] [(cI, .int), (cT, .object RX9)]) (va_Qi (fun (r : Int32) (u : Unit) => r = belA True (fun _ => L) (nI k) z2) (fun (_ : Unit) _ => True) (va_A [] sz)) 0 0 (va_A [] sz) := by
  refine Met.ofW (cc := cX10_below) (maxL := 4) (ret := (some .int)) (by decide) rfl ?_
  intro p e s m args below meth c s₁ B hml hv
  obtain ⟨rfl, hsz, hP, hK, hN⟩ := hv
  have hx := B.exec
  have hb := B.bytes
  have hr := B.returns
  have hts := atoms_spec (ws := wp_s_below) B.pre
  have hin_X9 : ∀ w ∈ wsX90, w ∈ wp_s_below := fun _ h => (List.mem_cons_of_mem _ (List.mem_append_right _ (List.mem_append_right _ (List.mem_append_right _ (List.mem_append_left _ h)))))
  have hown : s.vm.findClass RX10 = some m.cls := findClass_of_methodNamed B.named
  have hlocks := B.notSynchronized
  subst hsz
  generalize hAe : va_A [] s.heap.size = A at ⊢
  have hA : ∀ q : Nat, s.heap.size ≤ q → A q := fun q h => by rw [← hAe]; exact Or.inr h
  have hS : va_S A s.heap s.heap [] := va_S.rf
  have hP : va_P D vwCl [(ox 0, .inr (10, [.ref (ox 1), .ref (ox 2), .int (nI tp), .ref (ob3 0), .ref (og 0), .ref (oq 0), .ref (ow 0)])), (ox 1, .inl (cT, 4, .inr (.inr (.inr (.inr ft))))), (ob 0, .inr (9, gT ob tb ts tg tl tc tr tu tv tw)), (ob 1, .inr (0, [.long sd, .int (nI da), .int (nI db), .int pr])), (ob 2, .inr (2, [.int (nI cn), .ref (ob 3), .ref (ob 4)])), (ob 3, .inl (cI, 160, .inl fk)), (ob 4, .inl (cI, 160, .inl fv)), (ob 5, .inr (3, gY ob (nI nb) (nI ka) (nI kb) sm (nI ln))), (ob 6, .inl (cI, 2048, .inl fh)), (ob 7, .inl (cI, 2048, .inl ff)), (ob 8, .inl (cI, 2048, .inl fa)), (ob 9, .inl (cI, 2048, .inl fs)), (ob 10, .inl (cI, 160, .inl fj)), (ob 11, .inl (cI, 160, .inl fr)), (ob 12, .inl (cI, 160, .inl fo)), (ob 13, .inl (cI, 2048, .inl fx))] s.heap := hP
  have hl := lv_entry ([.ref (ox 0), .int (nI k), .int z2]) (n := 4) (Nat.le_of_ble_eq_true rfl)
  rw [lg_entry_eq]
  generalize (lg_sl ([.ref (ox 0), .int (nI k), .int z2]) ++ List.replicate (4 - (lg_sl ([.ref (ox 0), .int (nI k), .int z2])).length) Slot.unset).toArray = ls at hl ⊢
  have hl : lv_has ls 4 [(0, .ref (ox 0)), (1, .int (nI k)), (2, .int z2)] := hl
  obtain ⟨hky, hL, hO, hn1, hka, hkb, hda, hdb⟩ := id hTb
  have hnb := hL.1
  have hln := hL.2.1
  have hc := hky.1
  have hcz := hky.1
  obtain ⟨-, K, hK1, hK2, rfl⟩ := id hKv
  have hKT : KyT fk cn K := ⟨hcz, hK1, hK2⟩
  refine lv_aload_n hx hb dX10_below_0 rfl (lv_at hl 0 rfl) ?_
  refine lv_iload_n hx hb dX10_below_1 rfl (lv_at hl 1 rfl) ?_
  have hPc := hP.sub (ws' := [(ox 0, .inr (10, [.ref (ox 1), .ref (ox 2), .int (nI tp), .ref (ob3 0), .ref (og 0), .ref (oq 0), .ref (ow 0)])), (ox 1, .inl (cT, 4, .inr (.inr (.inr (.inr ft)))))]) [0, 1] rfl
  have hKc := hK.sub (tys' := [(cT, .object RX9)]) [1] rfl
  have hFc := va_free0 hS hA
  refine va_callq (va_runV (As := [.int (nI k)]) (rest := []) ⟨hx, hb, hml, hown, hts⟩ (k_tabS l D _ ox ob3 og oq ow cI cT tp ft k (ob 0) hk hft) (cwV 1 hts g_s_below_k_tabS_74 rfl rfl rfl (by decide +kernel) ⟨(Nat.le_of_ble_eq_true rfl), (Nat.le_of_ble_eq_true rfl)⟩) (PcRC_V (q0 := 0) hPc hKc hN rfl rfl) rfl rfl hl.1 rfl (lv_room (Nat.le_of_ble_eq_true rfl)) dX10_below_2 ⟨(Nat.le_of_ble_eq_true rfl), (Nat.le_of_ble_eq_true rfl)⟩) hS (fun q _ h => hFc q h) hFc (fun r1 uu tt H locs htt hvm hw hB hz1 hk1 hS => ?_)
  have hP := va_keep hP hk1
  try dsimp only at hw
  clear hB hz1 hk1 hFc hPc hKc
  obtain rfl : r1 = some (ob 0) := hw
  refine W.eq (g2 := F0 m 5 ls [.ref (ob 0)]) rfl ?_
  refine lv_astore_n (lv' := [(3, .ref (ob 0)), (0, .ref (ox 0)), (1, .int (nI k)), (2, .int z2)]) hx hb dX10_below_5 rfl hl (by decide) rfl (fun ls hl => ?_)
  refine lv_aload_n hx hb dX10_below_6 rfl (lv_at hl 0 rfl) ?_
  refine lv_ifnull hx hb dX10_below_7 ?_
  refine lv_iload_n hx hb dX10_below_10 rfl (lv_at hl 3 rfl) ?_
  refine lv_if_ge (tgt := 16) hx hb dX10_below_11 (by decide) (fun hc2 => ?_) (fun hc2 => ?_)
  ·
    obtain ⟨xv, hxv, rfl⟩ := isK0_of hc2
    refine lv_aload_n hx hb dX10_below_16 rfl (lv_at hl 0 rfl) ?_
    refine va_get (D := D) (ci := 9) (v := .ref (ob 2)) (C := RX9) (T := TX9) (N := 12) hx hb hts hin_X9 hown hK hP 2 rfl rfl 10 (by decide) (hts (.fieldLink RX10 93 "ClashFree$Table" "keys" "LClashFree$Keys;") (List.mem_of_getElem? (i := 5) rfl)) (fun _ h9 => h9) rfl dX10_below_17 ?_
    refine lv_iload_n hx hb dX10_below_20 rfl (lv_at hl 3 rfl) ?_
    have hPc := hP.sub (ws' := [(ob 2, .inr (2, [.int (nI cn), .ref (ob 3), .ref (ob 4)])), (ob 3, .inl (cI, 160, .inl fk))]) [4, 5] rfl
    have hKc := hK.sub (tys' := [(cI, .int)]) [0] rfl
    have hFc := va_free0 hS hA
    refine va_calli (va_runV (As := [.int (nI xv)]) (rest := []) ⟨hx, hb, hml, hown, hts⟩ (k_rank l D _ ob cI cn fk (nI xv) hcz) (cwV 1 hts g_s_below_k_rank_209 rfl rfl rfl (by decide +kernel) ⟨(Nat.le_of_ble_eq_true rfl), (Nat.le_of_ble_eq_true rfl)⟩) (PcRC_V (q0 := 0) hPc hKc hN rfl rfl) rfl rfl hl.1 rfl (lv_room (Nat.le_of_ble_eq_true rfl)) dX10_below_21 ⟨(Nat.le_of_ble_eq_true rfl), (Nat.le_of_ble_eq_true rfl)⟩) hS (fun q _ h => hFc q h) hFc (fun r3 uu tt H locs htt hvm hw hB hz1 hk1 hS => ?_)
    have hP := va_keep hP hk1
    try dsimp only at hw
    clear hB hz1 hk1 hFc hPc hKc
    obtain ⟨rk4, erk4, rfl⟩ : ∃ q, q = (rkF fk cn (nI xv)) ∧ r3 = nI q := ⟨_, rfl, hw⟩
    have hrk4 : rk4 ≤ cn := by rw [erk4]; exact rkF_le _ _ _
    exact W.iret (v := nI rk4) hx hb hr (fun t ht hW => ⟨⟨nI rk4, (), rfl, by rw [belA_1 hk hxv trivial, hKT.rkl hxv fv, ← erk4], trivial⟩, hS.F ht⟩) hS.2.2 dX10_below_24
  ·
    refine lv_iconst (v := (-1)) hx hb dX10_below_14 (by decide) ?_
    exact W.iret (v := (-1)) hx hb hr (fun t ht hW => ⟨⟨(-1), (), rfl, (belA_0 (fun ⟨_, x, hx, e⟩ => hc2 (by rw [e]; exact nI_pos' hx))).symm, trivial⟩, hS.F ht⟩) hS.2.2 dX10_below_15

def own_s_nearest : List Cond := [.methodLink RX10 74 yX10_tableAt, .instanceMethod yX10_tableAt, .selects RX10 yX10_tableAt yX10_tableAt, .initialized RX10, .methodLink RX10 77 yX10_isKey, .static yX10_isKey, .fieldLink RX10 93 "ClashFree$Table" "keys" "LClashFree$Keys;", .methodLink RX10 212 yX2_closest, .instanceMethod yX2_closest, .selects RX2 yX2_closest yX2_closest, .initialized RX2]
def wp_s_nearest : List Cond := .code yX10_nearest cX10_nearest 4 (some .int) :: (own_s_nearest ++ (wp_k_tabS ++ (wp_k_isKey ++ (wp_k_closest ++ (wsX90 ++ ([] : List Cond))))))
set_option maxRecDepth 20000 in
theorem inown_s_nearest : ∀ w ∈ own_s_nearest, w ∈ lw_tbl := mem_places [610, 612, 2, 106, 614, 615, 518, 766, 767, 768, 117] (by decide +kernel)
set_option maxRecDepth 20000 in
theorem in_s_nearest : ∀ w ∈ wp_s_nearest, w ∈ lw_tbl := List.forall_mem_cons.mpr ⟨List.mem_of_getElem? (i := 765) (by decide +kernel), List.forall_mem_append.mpr ⟨inown_s_nearest, List.forall_mem_append.mpr ⟨in_k_tabS, List.forall_mem_append.mpr ⟨in_k_isKey, List.forall_mem_append.mpr ⟨in_k_closest, List.forall_mem_append.mpr ⟨lwb_X9, fun _ h => absurd h List.not_mem_nil⟩⟩⟩⟩⟩⟩
set_option maxRecDepth 20000 in
theorem good_s_nearest : wp_s_nearest.all goodWord = true := by decide +kernel
set_option maxRecDepth 20000 in
theorem g_s_nearest_k_tabS_74 : GoodIn wp_s_nearest (wsV RX10 74 RX10 yX10_tableAt wp_k_tabS) := goodIn_sub (List.forall_mem_append.mpr ⟨List.forall_mem_cons.mpr ⟨(List.mem_of_getElem? (i := 1) rfl), List.forall_mem_cons.mpr ⟨(List.mem_of_getElem? (i := 2) rfl), List.forall_mem_cons.mpr ⟨(List.mem_of_getElem? (i := 3) rfl), List.forall_mem_cons.mpr ⟨(List.mem_of_getElem? (i := 4) rfl), fun _ h => absurd h List.not_mem_nil⟩⟩⟩⟩, (fun _ h => (List.mem_cons_of_mem _ (List.mem_append_right _ (List.mem_append_left _ h))))⟩) (by decide +kernel)
set_option maxRecDepth 20000 in
theorem g_s_nearest_k_isKey_77 : GoodIn wp_s_nearest (va_wsS RX10 77 yX10_isKey wp_k_isKey) := goodIn_sub (List.forall_mem_append.mpr ⟨List.forall_mem_cons.mpr ⟨(List.mem_of_getElem? (i := 5) rfl), List.forall_mem_cons.mpr ⟨(List.mem_of_getElem? (i := 6) rfl), List.forall_mem_cons.mpr ⟨(List.mem_of_getElem? (i := 4) rfl), fun _ h => absurd h List.not_mem_nil⟩⟩⟩, (fun _ h => (List.mem_cons_of_mem _ (List.mem_append_right _ (List.mem_append_right _ (List.mem_append_left _ h)))))⟩) (by decide +kernel)
set_option maxRecDepth 20000 in
theorem g_s_nearest_k_closest_212 : GoodIn wp_s_nearest (wsV RX10 212 RX2 yX2_closest wp_k_closest) := goodIn_sub (List.forall_mem_append.mpr ⟨List.forall_mem_cons.mpr ⟨(List.mem_of_getElem? (i := 8) rfl), List.forall_mem_cons.mpr ⟨(List.mem_of_getElem? (i := 9) rfl), List.forall_mem_cons.mpr ⟨(List.mem_of_getElem? (i := 10) rfl), List.forall_mem_cons.mpr ⟨(List.mem_of_getElem? (i := 11) rfl), fun _ h => absurd h List.not_mem_nil⟩⟩⟩⟩, (fun _ h => (List.mem_cons_of_mem _ (List.mem_append_right _ (List.mem_append_right _ (List.mem_append_right _ (List.mem_append_left _ h))))))⟩) (by decide +kernel)
set_option maxHeartbeats 4000000 in
set_option maxRecDepth 100000 in
theorem s_nearest (l : Launch) (D : va_G) (sz : Nat) (ox : Nat → Nat) (ob3 : Nat → Nat) (og : Nat → Nat) (oq : Nat → Nat) (ow : Nat → Nat) (ob : Nat → Nat) (cI : ClassId) (cT : ClassId) (tp : Nat) (ft : Nat → Option Nat) (tb : Int32) (ts : Int32) (tg : Int32) (tl : Int32) (tc : Int32) (tr : Int32) (tu : Int32) (tv : Int32) (tw : Int32) (sd : Int64) (da : Nat) (db : Nat) (pr : Int32) (cn : Nat) (fk : Nat → Int32) (fv : Nat → Int32) (nb : Nat) (ka : Nat) (kb : Nat) (sm : Int32) (ln : Nat) (fh : Nat → Int32) (ff : Nat → Int32) (fa : Nat → Int32) (fs : Nat → Int32) (fj : Nat → Int32) (fr : Nat → Int32) (fo : Nat → Int32) (fx : Nat → Int32) (k : Nat) (z2 : Int32) (L : List (Nat × Int32)) (hk : k < 4) (hft : ft k = some (ob 0)) (hTb : TbI fk fj fh fo cn nb ka kb ln da db) (hKv : KvT fk fv cn L) : Met l yX10_nearest wp_s_nearest ({ frames := 2, cells := 0, slots := 0, locals := 45 }) (PcRC D [.ref (ox 0), .int (nI k), .int z2] sz [(ox 0, .inr (10, [.ref (ox 1), .ref (ox 2), .int (nI tp), .ref (ob3 0), .ref (og 0), .ref (oq 0), .ref (ow 0)])), (ox 1, .inl (cT, 4, .inr (.inr (.inr (.inr ft))))), (ob 0, .inr (9, gT ob tb ts tg tl tc tr tu tv tw)), (ob 1, .inr (0, [.long sd, .int (nI da), .int (nI db), .int pr])), (ob 2, .inr (2, [.int (nI cn), .ref (ob 3), .ref (ob 4)])), (ob 3, .inl (cI, 160, .inl fk)), (ob 4, .inl (cI, 160, .inl fv)), (ob 5, .inr (3, gY ob (nI nb) (nI ka) (nI kb) sm (nI ln))), (ob 6, .inl (cI, 2048, .inl fh)), (ob 7, .inl (cI, 2048, .inl ff)), (ob 8, .inl (cI, 2048, .inl fa)), (ob 9, .inl (cI, 2048, .inl fs)), (ob 10, .inl (cI, 160, .inl fj)), (ob 11, .inl (cI, 160, .inl fr)), (ob 12, .inl (cI, 160, .inl fo)), (ob 13, .inl (cI, 2048, .inl fx))] [(cI, .int), (cT, .object RX9)]) (va_Qi (fun (r : Int32) (u : Unit) => r = nrA True (fun _ => L) (nI k) z2) (fun (_ : Unit) _ => True) (va_A [] sz)) 0 0 (va_A [] sz) := by
  refine Met.ofW (cc := cX10_nearest) (maxL := 4) (ret := (some .int)) (by decide) rfl ?_
  intro p e s m args below meth c s₁ B hml hv
  obtain ⟨rfl, hsz, hP, hK, hN⟩ := hv
  have hx := B.exec
  have hb := B.bytes
  have hr := B.returns
  have hts := atoms_spec (ws := wp_s_nearest) B.pre
  have hin_X9 : ∀ w ∈ wsX90, w ∈ wp_s_nearest := fun _ h => (List.mem_cons_of_mem _ (List.mem_append_right _ (List.mem_append_right _ (List.mem_append_right _ (List.mem_append_right _ (List.mem_append_left _ h))))))
  have hown : s.vm.findClass RX10 = some m.cls := findClass_of_methodNamed B.named
  have hlocks := B.notSynchronized
  subst hsz
  generalize hAe : va_A [] s.heap.size = A at ⊢
  have hA : ∀ q : Nat, s.heap.size ≤ q → A q := fun q h => by rw [← hAe]; exact Or.inr h
  have hS : va_S A s.heap s.heap [] := va_S.rf
  have hP : va_P D vwCl [(ox 0, .inr (10, [.ref (ox 1), .ref (ox 2), .int (nI tp), .ref (ob3 0), .ref (og 0), .ref (oq 0), .ref (ow 0)])), (ox 1, .inl (cT, 4, .inr (.inr (.inr (.inr ft))))), (ob 0, .inr (9, gT ob tb ts tg tl tc tr tu tv tw)), (ob 1, .inr (0, [.long sd, .int (nI da), .int (nI db), .int pr])), (ob 2, .inr (2, [.int (nI cn), .ref (ob 3), .ref (ob 4)])), (ob 3, .inl (cI, 160, .inl fk)), (ob 4, .inl (cI, 160, .inl fv)), (ob 5, .inr (3, gY ob (nI nb) (nI ka) (nI kb) sm (nI ln))), (ob 6, .inl (cI, 2048, .inl fh)), (ob 7, .inl (cI, 2048, .inl ff)), (ob 8, .inl (cI, 2048, .inl fa)), (ob 9, .inl (cI, 2048, .inl fs)), (ob 10, .inl (cI, 160, .inl fj)), (ob 11, .inl (cI, 160, .inl fr)), (ob 12, .inl (cI, 160, .inl fo)), (ob 13, .inl (cI, 2048, .inl fx))] s.heap := hP
  have hl := lv_entry ([.ref (ox 0), .int (nI k), .int z2]) (n := 4) (Nat.le_of_ble_eq_true rfl)
  rw [lg_entry_eq]
  generalize (lg_sl ([.ref (ox 0), .int (nI k), .int z2]) ++ List.replicate (4 - (lg_sl ([.ref (ox 0), .int (nI k), .int z2])).length) Slot.unset).toArray = ls at hl ⊢
  have hl : lv_has ls 4 [(0, .ref (ox 0)), (1, .int (nI k)), (2, .int z2)] := hl
  obtain ⟨hky, hL, hO, hn1, hka, hkb, hda, hdb⟩ := id hTb
  have hnb := hL.1
  have hln := hL.2.1
  have hc := hky.1
  have hcz := hky.1
  obtain ⟨-, K, hK1, hK2, rfl⟩ := id hKv
  have hKT : KyT fk cn K := ⟨hcz, hK1, hK2⟩
  refine lv_aload_n hx hb dX10_nearest_0 rfl (lv_at hl 0 rfl) ?_
  refine lv_iload_n hx hb dX10_nearest_1 rfl (lv_at hl 1 rfl) ?_
  have hPc := hP.sub (ws' := [(ox 0, .inr (10, [.ref (ox 1), .ref (ox 2), .int (nI tp), .ref (ob3 0), .ref (og 0), .ref (oq 0), .ref (ow 0)])), (ox 1, .inl (cT, 4, .inr (.inr (.inr (.inr ft)))))]) [0, 1] rfl
  have hKc := hK.sub (tys' := [(cT, .object RX9)]) [1] rfl
  have hFc := va_free0 hS hA
  refine va_callq (va_runV (As := [.int (nI k)]) (rest := []) ⟨hx, hb, hml, hown, hts⟩ (k_tabS l D _ ox ob3 og oq ow cI cT tp ft k (ob 0) hk hft) (cwV 1 hts g_s_nearest_k_tabS_74 rfl rfl rfl (by decide +kernel) ⟨(Nat.le_of_ble_eq_true rfl), (Nat.le_of_ble_eq_true rfl)⟩) (PcRC_V (q0 := 0) hPc hKc hN rfl rfl) rfl rfl hl.1 rfl (lv_room (Nat.le_of_ble_eq_true rfl)) dX10_nearest_2 ⟨(Nat.le_of_ble_eq_true rfl), (Nat.le_of_ble_eq_true rfl)⟩) hS (fun q _ h => hFc q h) hFc (fun r1 uu tt H locs htt hvm hw hB hz1 hk1 hS => ?_)
  have hP := va_keep hP hk1
  try dsimp only at hw
  clear hB hz1 hk1 hFc hPc hKc
  obtain rfl : r1 = some (ob 0) := hw
  refine W.eq (g2 := F0 m 5 ls [.ref (ob 0)]) rfl ?_
  refine lv_astore_n (lv' := [(3, .ref (ob 0)), (0, .ref (ox 0)), (1, .int (nI k)), (2, .int z2)]) hx hb dX10_nearest_5 rfl hl (by decide) rfl (fun ls hl => ?_)
  refine lv_aload_n hx hb dX10_nearest_6 rfl (lv_at hl 0 rfl) ?_
  refine lv_ifnull hx hb dX10_nearest_7 ?_
  refine lv_iload_n hx hb dX10_nearest_10 rfl (lv_at hl 3 rfl) ?_
  have hPc := hP.sub (ws' := []) [] rfl
  have hKc := hK.sub (tys' := []) [] rfl
  have hFc := va_free0 hS hA
  refine va_calli (va_runS (As := [.int z2]) (rest := []) ⟨hx, hb, hml, hown, hts⟩ (k_isKey l D _ cI z2) (va_cwS 1 hts g_s_nearest_k_isKey_77 rfl rfl rfl (by decide +kernel) ⟨(Nat.le_of_ble_eq_true rfl), (Nat.le_of_ble_eq_true rfl)⟩) (PcRC_S hPc hKc hN) rfl rfl hl.1 rfl (lv_room (Nat.le_of_ble_eq_true rfl)) dX10_nearest_11 ⟨(Nat.le_of_ble_eq_true rfl), (Nat.le_of_ble_eq_true rfl)⟩) hS (fun q _ h => hFc q h) hFc (fun r2 uu tt H locs htt hvm hw hB hz1 hk1 hS => ?_)
  have hP := va_keep hP hk1
  try dsimp only at hw
  clear hB hz1 hk1 hFc hPc hKc
  rcases hw with ⟨rfl, hA_r2⟩ | ⟨rfl, hA_r2⟩
  ·
    obtain ⟨kx, hkx, rfl⟩ := hA_r2
    refine lv_if_ne (tgt := 19) hx hb dX10_nearest_14 (by decide) (fun hc => ?_) (fun hc => absurd hc (by decide))
    refine lv_aload_n hx hb dX10_nearest_19 rfl (lv_at hl 0 rfl) ?_
    refine va_get (D := D) (ci := 9) (v := .ref (ob 2)) (C := RX9) (T := TX9) (N := 12) hx hb hts hin_X9 hown hK hP 2 rfl rfl 10 (by decide) (hts (.fieldLink RX10 93 "ClashFree$Table" "keys" "LClashFree$Keys;") (List.mem_of_getElem? (i := 7) rfl)) (fun _ h9 => h9) rfl dX10_nearest_20 ?_
    refine lv_iload_n hx hb dX10_nearest_23 rfl (lv_at hl 3 rfl) ?_
    have hPc := hP.sub (ws' := [(ob 2, .inr (2, [.int (nI cn), .ref (ob 3), .ref (ob 4)])), (ob 3, .inl (cI, 160, .inl fk))]) [4, 5] rfl
    have hKc := hK.sub (tys' := [(cI, .int)]) [0] rfl
    have hFc := va_free0 hS hA
    refine va_calli (va_runV (As := [.int (nI kx)]) (rest := []) ⟨hx, hb, hml, hown, hts⟩ (k_closest l D _ ob cI cn fk (nI kx) hcz) (cwV 1 hts g_s_nearest_k_closest_212 rfl rfl rfl (by decide +kernel) ⟨(Nat.le_of_ble_eq_true rfl), (Nat.le_of_ble_eq_true rfl)⟩) (PcRC_V (q0 := 0) hPc hKc hN rfl rfl) rfl rfl hl.1 rfl (lv_room (Nat.le_of_ble_eq_true rfl)) dX10_nearest_24 ⟨(Nat.le_of_ble_eq_true rfl), (Nat.le_of_ble_eq_true rfl)⟩) hS (fun q _ h => hFc q h) hFc (fun r3 uu tt H locs htt hvm hw hB hz1 hk1 hS => ?_)
    have hP := va_keep hP hk1
    try dsimp only at hw
    clear hB hz1 hk1 hFc hPc hKc
    have hcs4 := hw
    exact W.iret (v := r3) hx hb hr (fun t ht hW => ⟨⟨r3, (), rfl, (Nat.eq_zero_or_pos cn).elim (fun z => (hcs4.1 z).trans (nrA_n hk (by subst z; rfl)).symm) (fun z => by rw [nrA_1 hk hkx trivial (tabl_ne z), hcs4.2 K kx hKT z hkx rfl, nrL_t (hKT.rkl (by omega) fv) z (rkF_le _ _ _)]; rfl), trivial⟩, hS.F ht⟩) hS.2.2 dX10_nearest_27
  ·
    refine lv_if_ne (tgt := 19) hx hb dX10_nearest_14 (by decide) (fun hc => absurd (by decide) hc) (fun hc => ?_)
    refine lv_iconst (v := (-1)) hx hb dX10_nearest_17 (by decide) ?_
    exact W.iret (v := (-1)) hx hb hr (fun t ht hW => ⟨⟨(-1), (), rfl, (nrA_0 (fun q => hA_r2 q.2.1)).symm, trivial⟩, hS.F ht⟩) hS.2.2 dX10_nearest_18

def own_s_many : List Cond := [.methodLink RX10 74 yX10_tableAt, .instanceMethod yX10_tableAt, .selects RX10 yX10_tableAt yX10_tableAt, .initialized RX10, .fieldLink RX10 130 "ClashFree$Table" "layout" "LClashFree$Layout;", .methodLink RX10 215 yX3_bucketsWith, .instanceMethod yX3_bucketsWith, .selects RX3 yX3_bucketsWith yX3_bucketsWith, .initialized RX3]
def wp_s_many : List Cond := .code yX10_many cX10_many 4 (some .int) :: (own_s_many ++ (wp_k_tabS ++ (wp_k_bucketsWith ++ (wsX90 ++ ([] : List Cond)))))
set_option maxRecDepth 20000 in
theorem inown_s_many : ∀ w ∈ own_s_many, w ∈ lw_tbl := mem_places [610, 612, 2, 106, 522, 775, 776, 777, 109] (by decide +kernel)
set_option maxRecDepth 20000 in
theorem in_s_many : ∀ w ∈ wp_s_many, w ∈ lw_tbl := List.forall_mem_cons.mpr ⟨List.mem_of_getElem? (i := 774) (by decide +kernel), List.forall_mem_append.mpr ⟨inown_s_many, List.forall_mem_append.mpr ⟨in_k_tabS, List.forall_mem_append.mpr ⟨in_k_bucketsWith, List.forall_mem_append.mpr ⟨lwb_X9, fun _ h => absurd h List.not_mem_nil⟩⟩⟩⟩⟩
set_option maxRecDepth 20000 in
theorem good_s_many : wp_s_many.all goodWord = true := by decide +kernel
set_option maxRecDepth 20000 in
theorem g_s_many_k_tabS_74 : GoodIn wp_s_many (wsV RX10 74 RX10 yX10_tableAt wp_k_tabS) := goodIn_sub (List.forall_mem_append.mpr ⟨List.forall_mem_cons.mpr ⟨(List.mem_of_getElem? (i := 1) rfl), List.forall_mem_cons.mpr ⟨(List.mem_of_getElem? (i := 2) rfl), List.forall_mem_cons.mpr ⟨(List.mem_of_getElem? (i := 3) rfl), List.forall_mem_cons.mpr ⟨(List.mem_of_getElem? (i := 4) rfl), fun _ h => absurd h List.not_mem_nil⟩⟩⟩⟩, (fun _ h => (List.mem_cons_of_mem _ (List.mem_append_right _ (List.mem_append_left _ h))))⟩) (by decide +kernel)
set_option maxRecDepth 20000 in
theorem g_s_many_k_bucketsWith_215 : GoodIn wp_s_many (wsV RX10 215 RX3 yX3_bucketsWith wp_k_bucketsWith) := goodIn_sub (List.forall_mem_append.mpr ⟨List.forall_mem_cons.mpr ⟨(List.mem_of_getElem? (i := 6) rfl), List.forall_mem_cons.mpr ⟨(List.mem_of_getElem? (i := 7) rfl), List.forall_mem_cons.mpr ⟨(List.mem_of_getElem? (i := 8) rfl), List.forall_mem_cons.mpr ⟨(List.mem_of_getElem? (i := 9) rfl), fun _ h => absurd h List.not_mem_nil⟩⟩⟩⟩, (fun _ h => (List.mem_cons_of_mem _ (List.mem_append_right _ (List.mem_append_right _ (List.mem_append_left _ h)))))⟩) (by decide +kernel)
set_option maxHeartbeats 4000000 in
set_option maxRecDepth 100000 in
theorem s_many (l : Launch) (D : va_G) (sz : Nat) (ox : Nat → Nat) (ob3 : Nat → Nat) (og : Nat → Nat) (oq : Nat → Nat) (ow : Nat → Nat) (ob : Nat → Nat) (cI : ClassId) (cT : ClassId) (tp : Nat) (ft : Nat → Option Nat) (tb : Int32) (ts : Int32) (tg : Int32) (tl : Int32) (tc : Int32) (tr : Int32) (tu : Int32) (tv : Int32) (tw : Int32) (sd : Int64) (da : Nat) (db : Nat) (pr : Int32) (cn : Nat) (fk : Nat → Int32) (fv : Nat → Int32) (nb : Nat) (ka : Nat) (kb : Nat) (sm : Int32) (ln : Nat) (fh : Nat → Int32) (ff : Nat → Int32) (fa : Nat → Int32) (fs : Nat → Int32) (fj : Nat → Int32) (fr : Nat → Int32) (fo : Nat → Int32) (fx : Nat → Int32) (k : Nat) (z2 : Int32) (hk : k < 4) (hft : ft k = some (ob 0)) (hTb : TbI fk fj fh fo cn nb ka kb ln da db) : Met l yX10_many wp_s_many ({ frames := 2, cells := 0, slots := 0, locals := 41 }) (PcRC D [.ref (ox 0), .int (nI k), .int z2] sz [(ox 0, .inr (10, [.ref (ox 1), .ref (ox 2), .int (nI tp), .ref (ob3 0), .ref (og 0), .ref (oq 0), .ref (ow 0)])), (ox 1, .inl (cT, 4, .inr (.inr (.inr (.inr ft))))), (ob 0, .inr (9, gT ob tb ts tg tl tc tr tu tv tw)), (ob 1, .inr (0, [.long sd, .int (nI da), .int (nI db), .int pr])), (ob 2, .inr (2, [.int (nI cn), .ref (ob 3), .ref (ob 4)])), (ob 3, .inl (cI, 160, .inl fk)), (ob 4, .inl (cI, 160, .inl fv)), (ob 5, .inr (3, gY ob (nI nb) (nI ka) (nI kb) sm (nI ln))), (ob 6, .inl (cI, 2048, .inl fh)), (ob 7, .inl (cI, 2048, .inl ff)), (ob 8, .inl (cI, 2048, .inl fa)), (ob 9, .inl (cI, 2048, .inl fs)), (ob 10, .inl (cI, 160, .inl fj)), (ob 11, .inl (cI, 160, .inl fr)), (ob 12, .inl (cI, 160, .inl fo)), (ob 13, .inl (cI, 2048, .inl fx))] [(cI, .int), (cT, .object RX9)]) (va_Qi (fun (r : Int32) (u : Unit) => True) (fun (_ : Unit) _ => True) (va_A [] sz)) 0 0 (va_A [] sz) := by
  refine Met.ofW (cc := cX10_many) (maxL := 4) (ret := (some .int)) (by decide) rfl ?_
  intro p e s m args below meth c s₁ B hml hv
  obtain ⟨rfl, hsz, hP, hK, hN⟩ := hv
  have hx := B.exec
  have hb := B.bytes
  have hr := B.returns
  have hts := atoms_spec (ws := wp_s_many) B.pre
  have hin_X9 : ∀ w ∈ wsX90, w ∈ wp_s_many := fun _ h => (List.mem_cons_of_mem _ (List.mem_append_right _ (List.mem_append_right _ (List.mem_append_right _ (List.mem_append_left _ h)))))
  have hown : s.vm.findClass RX10 = some m.cls := findClass_of_methodNamed B.named
  have hlocks := B.notSynchronized
  subst hsz
  generalize hAe : va_A [] s.heap.size = A at ⊢
  have hA : ∀ q : Nat, s.heap.size ≤ q → A q := fun q h => by rw [← hAe]; exact Or.inr h
  have hS : va_S A s.heap s.heap [] := va_S.rf
  have hP : va_P D vwCl [(ox 0, .inr (10, [.ref (ox 1), .ref (ox 2), .int (nI tp), .ref (ob3 0), .ref (og 0), .ref (oq 0), .ref (ow 0)])), (ox 1, .inl (cT, 4, .inr (.inr (.inr (.inr ft))))), (ob 0, .inr (9, gT ob tb ts tg tl tc tr tu tv tw)), (ob 1, .inr (0, [.long sd, .int (nI da), .int (nI db), .int pr])), (ob 2, .inr (2, [.int (nI cn), .ref (ob 3), .ref (ob 4)])), (ob 3, .inl (cI, 160, .inl fk)), (ob 4, .inl (cI, 160, .inl fv)), (ob 5, .inr (3, gY ob (nI nb) (nI ka) (nI kb) sm (nI ln))), (ob 6, .inl (cI, 2048, .inl fh)), (ob 7, .inl (cI, 2048, .inl ff)), (ob 8, .inl (cI, 2048, .inl fa)), (ob 9, .inl (cI, 2048, .inl fs)), (ob 10, .inl (cI, 160, .inl fj)), (ob 11, .inl (cI, 160, .inl fr)), (ob 12, .inl (cI, 160, .inl fo)), (ob 13, .inl (cI, 2048, .inl fx))] s.heap := hP
  have hl := lv_entry ([.ref (ox 0), .int (nI k), .int z2]) (n := 4) (Nat.le_of_ble_eq_true rfl)
  rw [lg_entry_eq]
  generalize (lg_sl ([.ref (ox 0), .int (nI k), .int z2]) ++ List.replicate (4 - (lg_sl ([.ref (ox 0), .int (nI k), .int z2])).length) Slot.unset).toArray = ls at hl ⊢
  have hl : lv_has ls 4 [(0, .ref (ox 0)), (1, .int (nI k)), (2, .int z2)] := hl
  obtain ⟨hky, hL, hO, hn1, hka, hkb, hda, hdb⟩ := id hTb
  have hnb := hL.1
  have hln := hL.2.1
  have hc := hky.1
  have hcz := hky.1
  refine lv_aload_n hx hb dX10_many_0 rfl (lv_at hl 0 rfl) ?_
  refine lv_iload_n hx hb dX10_many_1 rfl (lv_at hl 1 rfl) ?_
  have hPc := hP.sub (ws' := [(ox 0, .inr (10, [.ref (ox 1), .ref (ox 2), .int (nI tp), .ref (ob3 0), .ref (og 0), .ref (oq 0), .ref (ow 0)])), (ox 1, .inl (cT, 4, .inr (.inr (.inr (.inr ft)))))]) [0, 1] rfl
  have hKc := hK.sub (tys' := [(cT, .object RX9)]) [1] rfl
  have hFc := va_free0 hS hA
  refine va_callq (va_runV (As := [.int (nI k)]) (rest := []) ⟨hx, hb, hml, hown, hts⟩ (k_tabS l D _ ox ob3 og oq ow cI cT tp ft k (ob 0) hk hft) (cwV 1 hts g_s_many_k_tabS_74 rfl rfl rfl (by decide +kernel) ⟨(Nat.le_of_ble_eq_true rfl), (Nat.le_of_ble_eq_true rfl)⟩) (PcRC_V (q0 := 0) hPc hKc hN rfl rfl) rfl rfl hl.1 rfl (lv_room (Nat.le_of_ble_eq_true rfl)) dX10_many_2 ⟨(Nat.le_of_ble_eq_true rfl), (Nat.le_of_ble_eq_true rfl)⟩) hS (fun q _ h => hFc q h) hFc (fun r1 uu tt H locs htt hvm hw hB hz1 hk1 hS => ?_)
  have hP := va_keep hP hk1
  try dsimp only at hw
  clear hB hz1 hk1 hFc hPc hKc
  obtain rfl : r1 = some (ob 0) := hw
  refine W.eq (g2 := F0 m 5 ls [.ref (ob 0)]) rfl ?_
  refine lv_astore_n (lv' := [(3, .ref (ob 0)), (0, .ref (ox 0)), (1, .int (nI k)), (2, .int z2)]) hx hb dX10_many_5 rfl hl (by decide) rfl (fun ls hl => ?_)
  refine lv_aload_n hx hb dX10_many_6 rfl (lv_at hl 0 rfl) ?_
  refine lv_ifnull hx hb dX10_many_7 ?_
  refine lv_iload_n hx hb dX10_many_10 rfl (lv_at hl 3 rfl) ?_
  refine lv_if_ge (tgt := 16) hx hb dX10_many_11 (by decide) (fun hc2 => ?_) (fun hc2 => ?_)
  ·
    refine lv_aload_n hx hb dX10_many_16 rfl (lv_at hl 0 rfl) ?_
    refine va_get (D := D) (ci := 9) (v := .ref (ob 5)) (C := RX9) (T := TX9) (N := 12) hx hb hts hin_X9 hown hK hP 2 rfl rfl 11 (by decide) (hts (.fieldLink RX10 130 "ClashFree$Table" "layout" "LClashFree$Layout;") (List.mem_of_getElem? (i := 5) rfl)) (fun _ h9 => h9) rfl dX10_many_17 ?_
    refine lv_iload_n hx hb dX10_many_20 rfl (lv_at hl 3 rfl) ?_
    have hPc := hP.sub (ws' := [(ob 5, .inr (3, gY ob (nI nb) (nI ka) (nI kb) sm (nI ln))), (ob 6, .inl (cI, 2048, .inl fh))]) [7, 8] rfl
    have hKc := hK.sub (tys' := [(cI, .int)]) [0] rfl
    have hFc := va_free0 hS hA
    refine va_calli (va_runV (As := [.int z2]) (rest := []) ⟨hx, hb, hml, hown, hts⟩ (k_bucketsWith l D _ ob cI nb ka kb sm ln fh z2 hnb) (cwV 1 hts g_s_many_k_bucketsWith_215 rfl rfl rfl (by decide +kernel) ⟨(Nat.le_of_ble_eq_true rfl), (Nat.le_of_ble_eq_true rfl)⟩) (PcRC_V (q0 := 0) hPc hKc hN rfl rfl) rfl rfl hl.1 rfl (lv_room (Nat.le_of_ble_eq_true rfl)) dX10_many_21 ⟨(Nat.le_of_ble_eq_true rfl), (Nat.le_of_ble_eq_true rfl)⟩) hS (fun q _ h => hFc q h) hFc (fun r3 uu tt H locs htt hvm hw hB hz1 hk1 hS => ?_)
    have hP := va_keep hP hk1
    try dsimp only at hw
    clear hB hz1 hk1 hFc hPc hKc
    exact W.iret (v := r3) hx hb hr (fun t ht hW => ⟨⟨r3, (), rfl, trivial, trivial⟩, hS.F ht⟩) hS.2.2 dX10_many_24
  ·
    refine lv_iconst (v := (-1)) hx hb dX10_many_14 (by decide) ?_
    exact W.iret (v := (-1)) hx hb hr (fun t ht hW => ⟨⟨(-1), (), rfl, trivial, trivial⟩, hS.F ht⟩) hS.2.2 dX10_many_15

def own_s_crowd : List Cond := [.methodLink RX10 74 yX10_tableAt, .instanceMethod yX10_tableAt, .selects RX10 yX10_tableAt yX10_tableAt, .initialized RX10, .fieldLink RX10 130 "ClashFree$Table" "layout" "LClashFree$Layout;", .methodLink RX10 218 yX3_fullest, .instanceMethod yX3_fullest, .selects RX3 yX3_fullest yX3_fullest, .initialized RX3, .fieldLink RX10 177 "ClashFree$Layout" "held" "[I", .fieldLink RX10 93 "ClashFree$Table" "keys" "LClashFree$Keys;", .fieldLink RX10 121 "ClashFree$Keys" "size" "I", .methodLink RX10 215 yX3_bucketsWith, .instanceMethod yX3_bucketsWith, .selects RX3 yX3_bucketsWith yX3_bucketsWith, .methodLink RX10 221 yX3_twos, .instanceMethod yX3_twos, .selects RX3 yX3_twos yX3_twos]
def wp_s_crowd : List Cond := .code yX10_crowd cX10_crowd 5 (some .int) :: (own_s_crowd ++ (wp_k_tabS ++ (wp_k_fullest ++ (wp_k_bucketsWith ++ (wp_k_twos ++ (wsX90 ++ (wsX30 ++ (wsX20 ++ ([] : List Cond)))))))))
set_option maxRecDepth 20000 in
theorem inown_s_crowd : ∀ w ∈ own_s_crowd, w ∈ lw_tbl := mem_places [610, 612, 2, 106, 522, 783, 784, 785, 109, 194, 518, 476, 775, 776, 777, 787, 788, 789] (by decide +kernel)
set_option maxRecDepth 20000 in
theorem in_s_crowd : ∀ w ∈ wp_s_crowd, w ∈ lw_tbl := List.forall_mem_cons.mpr ⟨List.mem_of_getElem? (i := 782) (by decide +kernel), List.forall_mem_append.mpr ⟨inown_s_crowd, List.forall_mem_append.mpr ⟨in_k_tabS, List.forall_mem_append.mpr ⟨in_k_fullest, List.forall_mem_append.mpr ⟨in_k_bucketsWith, List.forall_mem_append.mpr ⟨in_k_twos, List.forall_mem_append.mpr ⟨lwb_X9, List.forall_mem_append.mpr ⟨lwb_X3, List.forall_mem_append.mpr ⟨lwb_X2, fun _ h => absurd h List.not_mem_nil⟩⟩⟩⟩⟩⟩⟩⟩⟩
set_option maxRecDepth 20000 in
theorem good_s_crowd : wp_s_crowd.all goodWord = true := by decide +kernel
set_option maxRecDepth 20000 in
theorem g_s_crowd_k_tabS_74 : GoodIn wp_s_crowd (wsV RX10 74 RX10 yX10_tableAt wp_k_tabS) := goodIn_sub (List.forall_mem_append.mpr ⟨List.forall_mem_cons.mpr ⟨(List.mem_of_getElem? (i := 1) rfl), List.forall_mem_cons.mpr ⟨(List.mem_of_getElem? (i := 2) rfl), List.forall_mem_cons.mpr ⟨(List.mem_of_getElem? (i := 3) rfl), List.forall_mem_cons.mpr ⟨(List.mem_of_getElem? (i := 4) rfl), fun _ h => absurd h List.not_mem_nil⟩⟩⟩⟩, (fun _ h => (List.mem_cons_of_mem _ (List.mem_append_right _ (List.mem_append_left _ h))))⟩) (by decide +kernel)
set_option maxRecDepth 20000 in
theorem g_s_crowd_k_fullest_218 : GoodIn wp_s_crowd (wsV RX10 218 RX3 yX3_fullest wp_k_fullest) := goodIn_sub (List.forall_mem_append.mpr ⟨List.forall_mem_cons.mpr ⟨(List.mem_of_getElem? (i := 6) rfl), List.forall_mem_cons.mpr ⟨(List.mem_of_getElem? (i := 7) rfl), List.forall_mem_cons.mpr ⟨(List.mem_of_getElem? (i := 8) rfl), List.forall_mem_cons.mpr ⟨(List.mem_of_getElem? (i := 9) rfl), fun _ h => absurd h List.not_mem_nil⟩⟩⟩⟩, (fun _ h => (List.mem_cons_of_mem _ (List.mem_append_right _ (List.mem_append_right _ (List.mem_append_left _ h)))))⟩) (by decide +kernel)
set_option maxRecDepth 20000 in
theorem g_s_crowd_k_bucketsWith_215 : GoodIn wp_s_crowd (wsV RX10 215 RX3 yX3_bucketsWith wp_k_bucketsWith) := goodIn_sub (List.forall_mem_append.mpr ⟨List.forall_mem_cons.mpr ⟨(List.mem_of_getElem? (i := 13) rfl), List.forall_mem_cons.mpr ⟨(List.mem_of_getElem? (i := 14) rfl), List.forall_mem_cons.mpr ⟨(List.mem_of_getElem? (i := 15) rfl), List.forall_mem_cons.mpr ⟨(List.mem_of_getElem? (i := 9) rfl), fun _ h => absurd h List.not_mem_nil⟩⟩⟩⟩, (fun _ h => (List.mem_cons_of_mem _ (List.mem_append_right _ (List.mem_append_right _ (List.mem_append_right _ (List.mem_append_left _ h))))))⟩) (by decide +kernel)
set_option maxRecDepth 20000 in
theorem g_s_crowd_k_twos_221 : GoodIn wp_s_crowd (wsV RX10 221 RX3 yX3_twos wp_k_twos) := goodIn_sub (List.forall_mem_append.mpr ⟨List.forall_mem_cons.mpr ⟨(List.mem_of_getElem? (i := 16) rfl), List.forall_mem_cons.mpr ⟨(List.mem_of_getElem? (i := 17) rfl), List.forall_mem_cons.mpr ⟨(List.mem_of_getElem? (i := 18) rfl), List.forall_mem_cons.mpr ⟨(List.mem_of_getElem? (i := 9) rfl), fun _ h => absurd h List.not_mem_nil⟩⟩⟩⟩, (fun _ h => (List.mem_cons_of_mem _ (List.mem_append_right _ (List.mem_append_right _ (List.mem_append_right _ (List.mem_append_right _ (List.mem_append_left _ h)))))))⟩) (by decide +kernel)
set_option maxHeartbeats 4000000 in
set_option maxRecDepth 100000 in
theorem s_crowd (l : Launch) (D : va_G) (sz : Nat) (ox : Nat → Nat) (ob3 : Nat → Nat) (og : Nat → Nat) (oq : Nat → Nat) (ow : Nat → Nat) (ob : Nat → Nat) (cI : ClassId) (cT : ClassId) (tp : Nat) (ft : Nat → Option Nat) (tb : Int32) (ts : Int32) (tg : Int32) (tl : Int32) (tc : Int32) (tr : Int32) (tu : Int32) (tv : Int32) (tw : Int32) (sd : Int64) (da : Nat) (db : Nat) (pr : Int32) (cn : Nat) (fk : Nat → Int32) (fv : Nat → Int32) (nb : Nat) (ka : Nat) (kb : Nat) (sm : Int32) (ln : Nat) (fh : Nat → Int32) (ff : Nat → Int32) (fa : Nat → Int32) (fs : Nat → Int32) (fj : Nat → Int32) (fr : Nat → Int32) (fo : Nat → Int32) (fx : Nat → Int32) (k : Nat) (z2 : Int32) (hk : k < 4) (hft : ft k = some (ob 0)) (hTb : TbI fk fj fh fo cn nb ka kb ln da db) : Met l yX10_crowd wp_s_crowd ({ frames := 2, cells := 0, slots := 0, locals := 41 }) (PcRC D [.ref (ox 0), .int (nI k), .int z2] sz [(ox 0, .inr (10, [.ref (ox 1), .ref (ox 2), .int (nI tp), .ref (ob3 0), .ref (og 0), .ref (oq 0), .ref (ow 0)])), (ox 1, .inl (cT, 4, .inr (.inr (.inr (.inr ft))))), (ob 0, .inr (9, gT ob tb ts tg tl tc tr tu tv tw)), (ob 1, .inr (0, [.long sd, .int (nI da), .int (nI db), .int pr])), (ob 2, .inr (2, [.int (nI cn), .ref (ob 3), .ref (ob 4)])), (ob 3, .inl (cI, 160, .inl fk)), (ob 4, .inl (cI, 160, .inl fv)), (ob 5, .inr (3, gY ob (nI nb) (nI ka) (nI kb) sm (nI ln))), (ob 6, .inl (cI, 2048, .inl fh)), (ob 7, .inl (cI, 2048, .inl ff)), (ob 8, .inl (cI, 2048, .inl fa)), (ob 9, .inl (cI, 2048, .inl fs)), (ob 10, .inl (cI, 160, .inl fj)), (ob 11, .inl (cI, 160, .inl fr)), (ob 12, .inl (cI, 160, .inl fo)), (ob 13, .inl (cI, 2048, .inl fx))] [(cI, .int), (cT, .object RX9)]) (va_Qi (fun (r : Int32) (u : Unit) => True) (fun (_ : Unit) _ => True) (va_A [] sz)) 0 0 (va_A [] sz) := by
  refine Met.ofW (cc := cX10_crowd) (maxL := 5) (ret := (some .int)) (by decide) rfl ?_
  intro p e s m args below meth c s₁ B hml hv
  obtain ⟨rfl, hsz, hP, hK, hN⟩ := hv
  have hx := B.exec
  have hb := B.bytes
  have hr := B.returns
  have hts := atoms_spec (ws := wp_s_crowd) B.pre
  have hin_X9 : ∀ w ∈ wsX90, w ∈ wp_s_crowd := fun _ h => (List.mem_cons_of_mem _ (List.mem_append_right _ (List.mem_append_right _ (List.mem_append_right _ (List.mem_append_right _ (List.mem_append_right _ (List.mem_append_left _ h)))))))
  have hin_X3 : ∀ w ∈ wsX30, w ∈ wp_s_crowd := fun _ h => (List.mem_cons_of_mem _ (List.mem_append_right _ (List.mem_append_right _ (List.mem_append_right _ (List.mem_append_right _ (List.mem_append_right _ (List.mem_append_right _ (List.mem_append_left _ h))))))))
  have hin_X2 : ∀ w ∈ wsX20, w ∈ wp_s_crowd := fun _ h => (List.mem_cons_of_mem _ (List.mem_append_right _ (List.mem_append_right _ (List.mem_append_right _ (List.mem_append_right _ (List.mem_append_right _ (List.mem_append_right _ (List.mem_append_right _ (List.mem_append_left _ h)))))))))
  have hown : s.vm.findClass RX10 = some m.cls := findClass_of_methodNamed B.named
  have hlocks := B.notSynchronized
  subst hsz
  generalize hAe : va_A [] s.heap.size = A at ⊢
  have hA : ∀ q : Nat, s.heap.size ≤ q → A q := fun q h => by rw [← hAe]; exact Or.inr h
  have hS : va_S A s.heap s.heap [] := va_S.rf
  have hP : va_P D vwCl [(ox 0, .inr (10, [.ref (ox 1), .ref (ox 2), .int (nI tp), .ref (ob3 0), .ref (og 0), .ref (oq 0), .ref (ow 0)])), (ox 1, .inl (cT, 4, .inr (.inr (.inr (.inr ft))))), (ob 0, .inr (9, gT ob tb ts tg tl tc tr tu tv tw)), (ob 1, .inr (0, [.long sd, .int (nI da), .int (nI db), .int pr])), (ob 2, .inr (2, [.int (nI cn), .ref (ob 3), .ref (ob 4)])), (ob 3, .inl (cI, 160, .inl fk)), (ob 4, .inl (cI, 160, .inl fv)), (ob 5, .inr (3, gY ob (nI nb) (nI ka) (nI kb) sm (nI ln))), (ob 6, .inl (cI, 2048, .inl fh)), (ob 7, .inl (cI, 2048, .inl ff)), (ob 8, .inl (cI, 2048, .inl fa)), (ob 9, .inl (cI, 2048, .inl fs)), (ob 10, .inl (cI, 160, .inl fj)), (ob 11, .inl (cI, 160, .inl fr)), (ob 12, .inl (cI, 160, .inl fo)), (ob 13, .inl (cI, 2048, .inl fx))] s.heap := hP
  have hl := lv_entry ([.ref (ox 0), .int (nI k), .int z2]) (n := 5) (Nat.le_of_ble_eq_true rfl)
  rw [lg_entry_eq]
  generalize (lg_sl ([.ref (ox 0), .int (nI k), .int z2]) ++ List.replicate (5 - (lg_sl ([.ref (ox 0), .int (nI k), .int z2])).length) Slot.unset).toArray = ls at hl ⊢
  have hl : lv_has ls 5 [(0, .ref (ox 0)), (1, .int (nI k)), (2, .int z2)] := hl
  obtain ⟨hky, hL, hO, hn1, hka, hkb, hda, hdb⟩ := id hTb
  have hnb := hL.1
  have hln := hL.2.1
  have hc := hky.1
  have hcz := hky.1
  refine lv_aload_n hx hb dX10_crowd_0 rfl (lv_at hl 0 rfl) ?_
  refine lv_iload_n hx hb dX10_crowd_1 rfl (lv_at hl 1 rfl) ?_
  have hPc := hP.sub (ws' := [(ox 0, .inr (10, [.ref (ox 1), .ref (ox 2), .int (nI tp), .ref (ob3 0), .ref (og 0), .ref (oq 0), .ref (ow 0)])), (ox 1, .inl (cT, 4, .inr (.inr (.inr (.inr ft)))))]) [0, 1] rfl
  have hKc := hK.sub (tys' := [(cT, .object RX9)]) [1] rfl
  have hFc := va_free0 hS hA
  refine va_callq (va_runV (As := [.int (nI k)]) (rest := []) ⟨hx, hb, hml, hown, hts⟩ (k_tabS l D _ ox ob3 og oq ow cI cT tp ft k (ob 0) hk hft) (cwV 1 hts g_s_crowd_k_tabS_74 rfl rfl rfl (by decide +kernel) ⟨(Nat.le_of_ble_eq_true rfl), (Nat.le_of_ble_eq_true rfl)⟩) (PcRC_V (q0 := 0) hPc hKc hN rfl rfl) rfl rfl hl.1 rfl (lv_room (Nat.le_of_ble_eq_true rfl)) dX10_crowd_2 ⟨(Nat.le_of_ble_eq_true rfl), (Nat.le_of_ble_eq_true rfl)⟩) hS (fun q _ h => hFc q h) hFc (fun r1 uu tt H locs htt hvm hw hB hz1 hk1 hS => ?_)
  have hP := va_keep hP hk1
  try dsimp only at hw
  clear hB hz1 hk1 hFc hPc hKc
  obtain rfl : r1 = some (ob 0) := hw
  refine W.eq (g2 := F0 m 5 ls [.ref (ob 0)]) rfl ?_
  refine lv_astore_n (lv' := [(3, .ref (ob 0)), (0, .ref (ox 0)), (1, .int (nI k)), (2, .int z2)]) hx hb dX10_crowd_5 rfl hl (by decide) rfl (fun ls hl => ?_)
  refine lv_aload_n hx hb dX10_crowd_6 rfl (lv_at hl 0 rfl) ?_
  refine lv_ifnonnull (tgt := 12) hx hb dX10_crowd_7 (by decide) ?_
  refine lv_aload_n hx hb dX10_crowd_12 rfl (lv_at hl 0 rfl) ?_
  refine va_get (D := D) (ci := 9) (v := .ref (ob 5)) (C := RX9) (T := TX9) (N := 12) hx hb hts hin_X9 hown hK hP 2 rfl rfl 11 (by decide) (hts (.fieldLink RX10 130 "ClashFree$Table" "layout" "LClashFree$Layout;") (List.mem_of_getElem? (i := 5) rfl)) (fun _ h9 => h9) rfl dX10_crowd_13 ?_
  refine lv_astore (lv' := [(4, .ref (ob 5)), (3, .ref (ob 0)), (0, .ref (ox 0)), (1, .int (nI k)), (2, .int z2)]) hx hb dX10_crowd_16 hl (by decide) rfl (fun ls hl => ?_)
  refine lv_iload_n hx hb dX10_crowd_18 rfl (lv_at hl 4 rfl) ?_
  by_cases hs2 : z2 = 0
  ·
    subst hs2
    refine lv_tableIn (off := 29) (tgt := 48) hx hb dX10_crowd_19 (by decide) (by decide) (by decide +kernel) (by decide) ?_
    refine lv_aload hx hb dX10_crowd_48 (lv_at hl 0 rfl) ?_
    have hPc := hP.sub (ws' := [(ob 5, .inr (3, gY ob (nI nb) (nI ka) (nI kb) sm (nI ln))), (ob 6, .inl (cI, 2048, .inl fh))]) [7, 8] rfl
    have hKc := hK.sub (tys' := [(cI, .int)]) [0] rfl
    have hFc := va_free0 hS hA
    refine va_calli (va_runV (As := []) (rest := []) ⟨hx, hb, hml, hown, hts⟩ (k_fullest l D _ ob cI nb ka kb sm ln fh hnb) (cwV 0 hts g_s_crowd_k_fullest_218 rfl rfl rfl (by decide +kernel) ⟨(Nat.le_of_ble_eq_true rfl), (Nat.le_of_ble_eq_true rfl)⟩) (PcRC_V (q0 := 0) hPc hKc hN rfl rfl) rfl rfl hl.1 rfl (lv_room (Nat.le_of_ble_eq_true rfl)) dX10_crowd_50 ⟨(Nat.le_of_ble_eq_true rfl), (Nat.le_of_ble_eq_true rfl)⟩) hS (fun q _ h => hFc q h) hFc (fun r3 uu tt H locs htt hvm hw hB hz1 hk1 hS => ?_)
    have hP := va_keep hP hk1
    try dsimp only at hw
    clear hB hz1 hk1 hFc hPc hKc
    obtain ⟨fu4, hfu4, rfl⟩ := hw
    exact W.iret (v := nI fu4) hx hb hr (fun t ht hW => ⟨⟨nI fu4, (), rfl, trivial, trivial⟩, hS.F ht⟩) hS.2.2 dX10_crowd_53
  by_cases hs5 : z2 = 1
  ·
    subst hs5
    refine lv_tableIn (off := 35) (tgt := 54) hx hb dX10_crowd_19 (by decide) (by decide) (by decide +kernel) (by decide) ?_
    refine lv_aload hx hb dX10_crowd_54 (lv_at hl 0 rfl) ?_
    refine va_get (D := D) (ci := 3) (v := .ref (ob 6)) (C := RX3) (T := TX3) (N := 13) hx hb hts hin_X3 hown hK hP 7 rfl rfl 5 (by decide) (hts (.fieldLink RX10 177 "ClashFree$Layout" "held" "[I") (List.mem_of_getElem? (i := 10) rfl)) (fun _ h9 => h9) rfl dX10_crowd_56 ?_
    refine lv_aload hx hb dX10_crowd_59 (lv_at hl 0 rfl) ?_
    have hPc := hP.sub (ws' := [(ob 5, .inr (3, gY ob (nI nb) (nI ka) (nI kb) sm (nI ln))), (ob 6, .inl (cI, 2048, .inl fh))]) [7, 8] rfl
    have hKc := hK.sub (tys' := [(cI, .int)]) [0] rfl
    have hFc := va_free0 hS hA
    refine va_calli (va_runV (As := []) (rest := [.ref (ob 6)]) ⟨hx, hb, hml, hown, hts⟩ (k_fullest l D _ ob cI nb ka kb sm ln fh hnb) (cwV 0 hts g_s_crowd_k_fullest_218 rfl rfl rfl (by decide +kernel) ⟨(Nat.le_of_ble_eq_true rfl), (Nat.le_of_ble_eq_true rfl)⟩) (PcRC_V (q0 := 0) hPc hKc hN rfl rfl) rfl rfl hl.1 rfl (lv_room (Nat.le_of_ble_eq_true rfl)) dX10_crowd_61 ⟨(Nat.le_of_ble_eq_true rfl), (Nat.le_of_ble_eq_true rfl)⟩) hS (fun q _ h => hFc q h) hFc (fun r6 uu tt H locs htt hvm hw hB hz1 hk1 hS => ?_)
    have hP := va_keep hP hk1
    try dsimp only at hw
    clear hB hz1 hk1 hFc hPc hKc
    obtain ⟨fu7, hfu7, rfl⟩ := hw
    refine va_iald hx hb hK hP 8 0 rfl rfl (vp_in_nI (by omega) (by decide)) dX10_crowd_64 ?_
    refine lv_topi (fun v8 ev8 => ?_)
    exact W.iret (v := v8) hx hb hr (fun t ht hW => ⟨⟨v8, (), rfl, trivial, trivial⟩, hS.F ht⟩) hS.2.2 dX10_crowd_65
  by_cases hs9 : z2 = 2
  ·
    subst hs9
    refine lv_tableIn (off := 47) (tgt := 66) hx hb dX10_crowd_19 (by decide) (by decide) (by decide +kernel) (by decide) ?_
    refine lv_aload_n hx hb dX10_crowd_66 rfl (lv_at hl 1 rfl) ?_
    refine va_get (D := D) (ci := 9) (v := .ref (ob 2)) (C := RX9) (T := TX9) (N := 12) hx hb hts hin_X9 hown hK hP 2 rfl rfl 10 (by decide) (hts (.fieldLink RX10 93 "ClashFree$Table" "keys" "LClashFree$Keys;") (List.mem_of_getElem? (i := 11) rfl)) (fun _ h9 => h9) rfl dX10_crowd_67 ?_
    refine va_get (D := D) (ci := 2) (v := .int (nI cn)) (C := RX2) (T := TX2) (N := 3) hx hb hts hin_X2 hown hK hP 4 rfl rfl 0 (by decide) (hts (.fieldLink RX10 121 "ClashFree$Keys" "size" "I") (List.mem_of_getElem? (i := 12) rfl)) (fun _ h9 => h9) rfl dX10_crowd_70 ?_
    refine lv_aload hx hb dX10_crowd_73 (lv_at hl 0 rfl) ?_
    refine lv_iconst (v := 1) hx hb dX10_crowd_75 (by decide) ?_
    have hPc := hP.sub (ws' := [(ob 5, .inr (3, gY ob (nI nb) (nI ka) (nI kb) sm (nI ln))), (ob 6, .inl (cI, 2048, .inl fh))]) [7, 8] rfl
    have hKc := hK.sub (tys' := [(cI, .int)]) [0] rfl
    have hFc := va_free0 hS hA
    refine va_calli (va_runV (As := [.int 1]) (rest := [.int (nI cn)]) ⟨hx, hb, hml, hown, hts⟩ (k_bucketsWith l D _ ob cI nb ka kb sm ln fh 1 hnb) (cwV 1 hts g_s_crowd_k_bucketsWith_215 rfl rfl rfl (by decide +kernel) ⟨(Nat.le_of_ble_eq_true rfl), (Nat.le_of_ble_eq_true rfl)⟩) (PcRC_V (q0 := 0) hPc hKc hN rfl rfl) rfl rfl hl.1 rfl (lv_room (Nat.le_of_ble_eq_true rfl)) dX10_crowd_76 ⟨(Nat.le_of_ble_eq_true rfl), (Nat.le_of_ble_eq_true rfl)⟩) hS (fun q _ h => hFc q h) hFc (fun r10 uu tt H locs htt hvm hw hB hz1 hk1 hS => ?_)
    have hP := va_keep hP hk1
    try dsimp only at hw
    clear hB hz1 hk1 hFc hPc hKc
    refine lv_isub hx hb dX10_crowd_79 ?_
    refine lv_topi (fun v11 ev11 => ?_)
    exact W.iret (v := v11) hx hb hr (fun t ht hW => ⟨⟨v11, (), rfl, trivial, trivial⟩, hS.F ht⟩) hS.2.2 dX10_crowd_80
  by_cases hs12 : z2 = 3
  ·
    subst hs12
    refine lv_tableIn (off := 62) (tgt := 81) hx hb dX10_crowd_19 (by decide) (by decide) (by decide +kernel) (by decide) ?_
    refine lv_aload hx hb dX10_crowd_81 (lv_at hl 0 rfl) ?_
    have hPc := hP.sub (ws' := [(ob 5, .inr (3, gY ob (nI nb) (nI ka) (nI kb) sm (nI ln))), (ob 6, .inl (cI, 2048, .inl fh))]) [7, 8] rfl
    have hKc := hK.sub (tys' := [(cI, .int)]) [0] rfl
    have hFc := va_free0 hS hA
    refine va_calli (va_runV (As := []) (rest := []) ⟨hx, hb, hml, hown, hts⟩ (k_twos l D _ ob cI nb ka kb sm ln fh hnb) (cwV 0 hts g_s_crowd_k_twos_221 rfl rfl rfl (by decide +kernel) ⟨(Nat.le_of_ble_eq_true rfl), (Nat.le_of_ble_eq_true rfl)⟩) (PcRC_V (q0 := 0) hPc hKc hN rfl rfl) rfl rfl hl.1 rfl (lv_room (Nat.le_of_ble_eq_true rfl)) dX10_crowd_83 ⟨(Nat.le_of_ble_eq_true rfl), (Nat.le_of_ble_eq_true rfl)⟩) hS (fun q _ h => hFc q h) hFc (fun r13 uu tt H locs htt hvm hw hB hz1 hk1 hS => ?_)
    have hP := va_keep hP hk1
    try dsimp only at hw
    clear hB hz1 hk1 hFc hPc hKc
    exact W.iret (v := r13) hx hb hr (fun t ht hW => ⟨⟨r13, (), rfl, trivial, trivial⟩, hS.F ht⟩) hS.2.2 dX10_crowd_86
  refine lv_tableOut (tgt := 87) hx hb dX10_crowd_19 (by have a0 := sw_ne (n := 0) hs2 (by decide) (by decide); have a1 := sw_ne (n := 1) hs5 (by decide) (by decide); have a2 := sw_ne (n := 2) hs9 (by decide) (by decide); have a3 := sw_ne (n := 3) hs12 (by decide) (by decide); omega) (by decide) ?_
  refine lv_iconst (v := (-1)) hx hb dX10_crowd_87 (by decide) ?_
  exact W.iret (v := (-1)) hx hb hr (fun t ht hW => ⟨⟨(-1), (), rfl, trivial, trivial⟩, hS.F ht⟩) hS.2.2 dX10_crowd_88

def own_s_empty : List Cond := [.methodLink RX10 74 yX10_tableAt, .instanceMethod yX10_tableAt, .selects RX10 yX10_tableAt yX10_tableAt, .initialized RX10, .fieldLink RX10 130 "ClashFree$Table" "layout" "LClashFree$Layout;", .fieldLink RX10 139 "ClashFree$Layout" "sum" "I", .fieldLink RX10 93 "ClashFree$Table" "keys" "LClashFree$Keys;", .fieldLink RX10 121 "ClashFree$Keys" "size" "I"]
def wp_s_empty : List Cond := .code yX10_empty cX10_empty 3 (some .int) :: (own_s_empty ++ (wp_k_tabS ++ (wsX90 ++ (wsX30 ++ (wsX20 ++ ([] : List Cond))))))
set_option maxRecDepth 20000 in
theorem inown_s_empty : ∀ w ∈ own_s_empty, w ∈ lw_tbl := mem_places [610, 612, 2, 106, 522, 187, 518, 476] (by decide +kernel)
set_option maxRecDepth 20000 in
theorem in_s_empty : ∀ w ∈ wp_s_empty, w ∈ lw_tbl := List.forall_mem_cons.mpr ⟨List.mem_of_getElem? (i := 794) (by decide +kernel), List.forall_mem_append.mpr ⟨inown_s_empty, List.forall_mem_append.mpr ⟨in_k_tabS, List.forall_mem_append.mpr ⟨lwb_X9, List.forall_mem_append.mpr ⟨lwb_X3, List.forall_mem_append.mpr ⟨lwb_X2, fun _ h => absurd h List.not_mem_nil⟩⟩⟩⟩⟩⟩
set_option maxRecDepth 20000 in
theorem good_s_empty : wp_s_empty.all goodWord = true := by decide +kernel
set_option maxRecDepth 20000 in
theorem g_s_empty_k_tabS_74 : GoodIn wp_s_empty (wsV RX10 74 RX10 yX10_tableAt wp_k_tabS) := goodIn_sub (List.forall_mem_append.mpr ⟨List.forall_mem_cons.mpr ⟨(List.mem_of_getElem? (i := 1) rfl), List.forall_mem_cons.mpr ⟨(List.mem_of_getElem? (i := 2) rfl), List.forall_mem_cons.mpr ⟨(List.mem_of_getElem? (i := 3) rfl), List.forall_mem_cons.mpr ⟨(List.mem_of_getElem? (i := 4) rfl), fun _ h => absurd h List.not_mem_nil⟩⟩⟩⟩, (fun _ h => (List.mem_cons_of_mem _ (List.mem_append_right _ (List.mem_append_left _ h))))⟩) (by decide +kernel)
set_option maxHeartbeats 4000000 in
set_option maxRecDepth 100000 in
theorem s_empty (l : Launch) (D : va_G) (sz : Nat) (ox : Nat → Nat) (ob3 : Nat → Nat) (og : Nat → Nat) (oq : Nat → Nat) (ow : Nat → Nat) (ob : Nat → Nat) (cI : ClassId) (cT : ClassId) (tp : Nat) (ft : Nat → Option Nat) (tb : Int32) (ts : Int32) (tg : Int32) (tl : Int32) (tc : Int32) (tr : Int32) (tu : Int32) (tv : Int32) (tw : Int32) (sd : Int64) (da : Nat) (db : Nat) (pr : Int32) (cn : Nat) (fk : Nat → Int32) (fv : Nat → Int32) (nb : Nat) (ka : Nat) (kb : Nat) (sm : Int32) (ln : Nat) (fh : Nat → Int32) (ff : Nat → Int32) (fa : Nat → Int32) (fs : Nat → Int32) (fj : Nat → Int32) (fr : Nat → Int32) (fo : Nat → Int32) (fx : Nat → Int32) (k : Nat) (hk : k < 4) (hft : ft k = some (ob 0)) (hTb : TbI fk fj fh fo cn nb ka kb ln da db) : Met l yX10_empty wp_s_empty ({ frames := 2, cells := 0, slots := 0, locals := 41 }) (PcRC D [.ref (ox 0), .int (nI k)] sz [(ox 0, .inr (10, [.ref (ox 1), .ref (ox 2), .int (nI tp), .ref (ob3 0), .ref (og 0), .ref (oq 0), .ref (ow 0)])), (ox 1, .inl (cT, 4, .inr (.inr (.inr (.inr ft))))), (ob 0, .inr (9, gT ob tb ts tg tl tc tr tu tv tw)), (ob 1, .inr (0, [.long sd, .int (nI da), .int (nI db), .int pr])), (ob 2, .inr (2, [.int (nI cn), .ref (ob 3), .ref (ob 4)])), (ob 3, .inl (cI, 160, .inl fk)), (ob 4, .inl (cI, 160, .inl fv)), (ob 5, .inr (3, gY ob (nI nb) (nI ka) (nI kb) sm (nI ln))), (ob 6, .inl (cI, 2048, .inl fh)), (ob 7, .inl (cI, 2048, .inl ff)), (ob 8, .inl (cI, 2048, .inl fa)), (ob 9, .inl (cI, 2048, .inl fs)), (ob 10, .inl (cI, 160, .inl fj)), (ob 11, .inl (cI, 160, .inl fr)), (ob 12, .inl (cI, 160, .inl fo)), (ob 13, .inl (cI, 2048, .inl fx))] [(cI, .int), (cT, .object RX9)]) (va_Qi (fun (r : Int32) (u : Unit) => True) (fun (_ : Unit) _ => True) (va_A [] sz)) 0 0 (va_A [] sz) := by
  refine Met.ofW (cc := cX10_empty) (maxL := 3) (ret := (some .int)) (by decide) rfl ?_
  intro p e s m args below meth c s₁ B hml hv
  obtain ⟨rfl, hsz, hP, hK, hN⟩ := hv
  have hx := B.exec
  have hb := B.bytes
  have hr := B.returns
  have hts := atoms_spec (ws := wp_s_empty) B.pre
  have hin_X9 : ∀ w ∈ wsX90, w ∈ wp_s_empty := fun _ h => (List.mem_cons_of_mem _ (List.mem_append_right _ (List.mem_append_right _ (List.mem_append_left _ h))))
  have hin_X3 : ∀ w ∈ wsX30, w ∈ wp_s_empty := fun _ h => (List.mem_cons_of_mem _ (List.mem_append_right _ (List.mem_append_right _ (List.mem_append_right _ (List.mem_append_left _ h)))))
  have hin_X2 : ∀ w ∈ wsX20, w ∈ wp_s_empty := fun _ h => (List.mem_cons_of_mem _ (List.mem_append_right _ (List.mem_append_right _ (List.mem_append_right _ (List.mem_append_right _ (List.mem_append_left _ h))))))
  have hown : s.vm.findClass RX10 = some m.cls := findClass_of_methodNamed B.named
  have hlocks := B.notSynchronized
  subst hsz
  generalize hAe : va_A [] s.heap.size = A at ⊢
  have hA : ∀ q : Nat, s.heap.size ≤ q → A q := fun q h => by rw [← hAe]; exact Or.inr h
  have hS : va_S A s.heap s.heap [] := va_S.rf
  have hP : va_P D vwCl [(ox 0, .inr (10, [.ref (ox 1), .ref (ox 2), .int (nI tp), .ref (ob3 0), .ref (og 0), .ref (oq 0), .ref (ow 0)])), (ox 1, .inl (cT, 4, .inr (.inr (.inr (.inr ft))))), (ob 0, .inr (9, gT ob tb ts tg tl tc tr tu tv tw)), (ob 1, .inr (0, [.long sd, .int (nI da), .int (nI db), .int pr])), (ob 2, .inr (2, [.int (nI cn), .ref (ob 3), .ref (ob 4)])), (ob 3, .inl (cI, 160, .inl fk)), (ob 4, .inl (cI, 160, .inl fv)), (ob 5, .inr (3, gY ob (nI nb) (nI ka) (nI kb) sm (nI ln))), (ob 6, .inl (cI, 2048, .inl fh)), (ob 7, .inl (cI, 2048, .inl ff)), (ob 8, .inl (cI, 2048, .inl fa)), (ob 9, .inl (cI, 2048, .inl fs)), (ob 10, .inl (cI, 160, .inl fj)), (ob 11, .inl (cI, 160, .inl fr)), (ob 12, .inl (cI, 160, .inl fo)), (ob 13, .inl (cI, 2048, .inl fx))] s.heap := hP
  have hl := lv_entry ([.ref (ox 0), .int (nI k)]) (n := 3) (Nat.le_of_ble_eq_true rfl)
  rw [lg_entry_eq]
  generalize (lg_sl ([.ref (ox 0), .int (nI k)]) ++ List.replicate (3 - (lg_sl ([.ref (ox 0), .int (nI k)])).length) Slot.unset).toArray = ls at hl ⊢
  have hl : lv_has ls 3 [(0, .ref (ox 0)), (1, .int (nI k))] := hl
  obtain ⟨hky, hL, hO, hn1, hka, hkb, hda, hdb⟩ := id hTb
  have hnb := hL.1
  have hln := hL.2.1
  have hc := hky.1
  have hcz := hky.1
  refine lv_aload_n hx hb dX10_empty_0 rfl (lv_at hl 0 rfl) ?_
  refine lv_iload_n hx hb dX10_empty_1 rfl (lv_at hl 1 rfl) ?_
  have hPc := hP.sub (ws' := [(ox 0, .inr (10, [.ref (ox 1), .ref (ox 2), .int (nI tp), .ref (ob3 0), .ref (og 0), .ref (oq 0), .ref (ow 0)])), (ox 1, .inl (cT, 4, .inr (.inr (.inr (.inr ft)))))]) [0, 1] rfl
  have hKc := hK.sub (tys' := [(cT, .object RX9)]) [1] rfl
  have hFc := va_free0 hS hA
  refine va_callq (va_runV (As := [.int (nI k)]) (rest := []) ⟨hx, hb, hml, hown, hts⟩ (k_tabS l D _ ox ob3 og oq ow cI cT tp ft k (ob 0) hk hft) (cwV 1 hts g_s_empty_k_tabS_74 rfl rfl rfl (by decide +kernel) ⟨(Nat.le_of_ble_eq_true rfl), (Nat.le_of_ble_eq_true rfl)⟩) (PcRC_V (q0 := 0) hPc hKc hN rfl rfl) rfl rfl hl.1 rfl (lv_room (Nat.le_of_ble_eq_true rfl)) dX10_empty_2 ⟨(Nat.le_of_ble_eq_true rfl), (Nat.le_of_ble_eq_true rfl)⟩) hS (fun q _ h => hFc q h) hFc (fun r1 uu tt H locs htt hvm hw hB hz1 hk1 hS => ?_)
  have hP := va_keep hP hk1
  try dsimp only at hw
  clear hB hz1 hk1 hFc hPc hKc
  obtain rfl : r1 = some (ob 0) := hw
  refine W.eq (g2 := F0 m 5 ls [.ref (ob 0)]) rfl ?_
  refine lv_astore_n (lv' := [(2, .ref (ob 0)), (0, .ref (ox 0)), (1, .int (nI k))]) hx hb dX10_empty_5 rfl hl (by decide) rfl (fun ls hl => ?_)
  refine lv_aload_n hx hb dX10_empty_6 rfl (lv_at hl 0 rfl) ?_
  refine lv_ifnonnull (tgt := 14) hx hb dX10_empty_7 (by decide) ?_
  refine lv_aload_n hx hb dX10_empty_14 rfl (lv_at hl 0 rfl) ?_
  refine va_get (D := D) (ci := 9) (v := .ref (ob 5)) (C := RX9) (T := TX9) (N := 12) hx hb hts hin_X9 hown hK hP 2 rfl rfl 11 (by decide) (hts (.fieldLink RX10 130 "ClashFree$Table" "layout" "LClashFree$Layout;") (List.mem_of_getElem? (i := 5) rfl)) (fun _ h9 => h9) rfl dX10_empty_15 ?_
  refine va_get (D := D) (ci := 3) (v := .int sm) (C := RX3) (T := TX3) (N := 13) hx hb hts hin_X3 hown hK hP 7 rfl rfl 3 (by decide) (hts (.fieldLink RX10 139 "ClashFree$Layout" "sum" "I") (List.mem_of_getElem? (i := 6) rfl)) (fun _ h9 => h9) rfl dX10_empty_18 ?_
  refine lv_aload_n hx hb dX10_empty_21 rfl (lv_at hl 0 rfl) ?_
  refine va_get (D := D) (ci := 9) (v := .ref (ob 2)) (C := RX9) (T := TX9) (N := 12) hx hb hts hin_X9 hown hK hP 2 rfl rfl 10 (by decide) (hts (.fieldLink RX10 93 "ClashFree$Table" "keys" "LClashFree$Keys;") (List.mem_of_getElem? (i := 7) rfl)) (fun _ h9 => h9) rfl dX10_empty_22 ?_
  refine va_get (D := D) (ci := 2) (v := .int (nI cn)) (C := RX2) (T := TX2) (N := 3) hx hb hts hin_X2 hown hK hP 4 rfl rfl 0 (by decide) (hts (.fieldLink RX10 121 "ClashFree$Keys" "size" "I") (List.mem_of_getElem? (i := 8) rfl)) (fun _ h9 => h9) rfl dX10_empty_25 ?_
  refine lv_isub hx hb dX10_empty_28 ?_
  refine lv_topi (fun v2 ev2 => ?_)
  exact W.iret (v := v2) hx hb hr (fun t ht hW => ⟨⟨v2, (), rfl, trivial, trivial⟩, hS.F ht⟩) hS.2.2 dX10_empty_29

def own_s_left : List Cond := [.methodLink RX10 74 yX10_tableAt, .instanceMethod yX10_tableAt, .selects RX10 yX10_tableAt yX10_tableAt, .initialized RX10, .fieldLink RX10 124 "ClashFree$Table" "limit" "I", .fieldLink RX10 127 "ClashFree$Table" "count" "I"]
def wp_s_left : List Cond := .code yX10_left cX10_left 3 (some .int) :: (own_s_left ++ (wp_k_tabS ++ (wsX90 ++ ([] : List Cond))))
set_option maxRecDepth 20000 in
theorem inown_s_left : ∀ w ∈ own_s_left, w ∈ lw_tbl := mem_places [610, 612, 2, 106, 501, 503] (by decide +kernel)
set_option maxRecDepth 20000 in
theorem in_s_left : ∀ w ∈ wp_s_left, w ∈ lw_tbl := List.forall_mem_cons.mpr ⟨List.mem_of_getElem? (i := 798) (by decide +kernel), List.forall_mem_append.mpr ⟨inown_s_left, List.forall_mem_append.mpr ⟨in_k_tabS, List.forall_mem_append.mpr ⟨lwb_X9, fun _ h => absurd h List.not_mem_nil⟩⟩⟩⟩
set_option maxRecDepth 20000 in
theorem good_s_left : wp_s_left.all goodWord = true := by decide +kernel
set_option maxRecDepth 20000 in
theorem g_s_left_k_tabS_74 : GoodIn wp_s_left (wsV RX10 74 RX10 yX10_tableAt wp_k_tabS) := goodIn_sub (List.forall_mem_append.mpr ⟨List.forall_mem_cons.mpr ⟨(List.mem_of_getElem? (i := 1) rfl), List.forall_mem_cons.mpr ⟨(List.mem_of_getElem? (i := 2) rfl), List.forall_mem_cons.mpr ⟨(List.mem_of_getElem? (i := 3) rfl), List.forall_mem_cons.mpr ⟨(List.mem_of_getElem? (i := 4) rfl), fun _ h => absurd h List.not_mem_nil⟩⟩⟩⟩, (fun _ h => (List.mem_cons_of_mem _ (List.mem_append_right _ (List.mem_append_left _ h))))⟩) (by decide +kernel)
set_option maxHeartbeats 4000000 in
set_option maxRecDepth 100000 in
theorem s_left (l : Launch) (D : va_G) (sz : Nat) (ox : Nat → Nat) (ob3 : Nat → Nat) (og : Nat → Nat) (oq : Nat → Nat) (ow : Nat → Nat) (ob : Nat → Nat) (cI : ClassId) (cT : ClassId) (tp : Nat) (ft : Nat → Option Nat) (tb : Int32) (ts : Int32) (tg : Int32) (tl : Int32) (tc : Int32) (tr : Int32) (tu : Int32) (tv : Int32) (tw : Int32) (sd : Int64) (da : Nat) (db : Nat) (pr : Int32) (cn : Nat) (fk : Nat → Int32) (fv : Nat → Int32) (nb : Nat) (ka : Nat) (kb : Nat) (sm : Int32) (ln : Nat) (fh : Nat → Int32) (ff : Nat → Int32) (fa : Nat → Int32) (fs : Nat → Int32) (fj : Nat → Int32) (fr : Nat → Int32) (fo : Nat → Int32) (fx : Nat → Int32) (k : Nat) (hk : k < 4) (hft : ft k = some (ob 0)) (hTb : TbI fk fj fh fo cn nb ka kb ln da db) : Met l yX10_left wp_s_left ({ frames := 2, cells := 0, slots := 0, locals := 41 }) (PcRC D [.ref (ox 0), .int (nI k)] sz [(ox 0, .inr (10, [.ref (ox 1), .ref (ox 2), .int (nI tp), .ref (ob3 0), .ref (og 0), .ref (oq 0), .ref (ow 0)])), (ox 1, .inl (cT, 4, .inr (.inr (.inr (.inr ft))))), (ob 0, .inr (9, gT ob tb ts tg tl tc tr tu tv tw)), (ob 1, .inr (0, [.long sd, .int (nI da), .int (nI db), .int pr])), (ob 2, .inr (2, [.int (nI cn), .ref (ob 3), .ref (ob 4)])), (ob 3, .inl (cI, 160, .inl fk)), (ob 4, .inl (cI, 160, .inl fv)), (ob 5, .inr (3, gY ob (nI nb) (nI ka) (nI kb) sm (nI ln))), (ob 6, .inl (cI, 2048, .inl fh)), (ob 7, .inl (cI, 2048, .inl ff)), (ob 8, .inl (cI, 2048, .inl fa)), (ob 9, .inl (cI, 2048, .inl fs)), (ob 10, .inl (cI, 160, .inl fj)), (ob 11, .inl (cI, 160, .inl fr)), (ob 12, .inl (cI, 160, .inl fo)), (ob 13, .inl (cI, 2048, .inl fx))] [(cI, .int), (cT, .object RX9)]) (va_Qi (fun (r : Int32) (u : Unit) => True) (fun (_ : Unit) _ => True) (va_A [] sz)) 0 0 (va_A [] sz) := by
  refine Met.ofW (cc := cX10_left) (maxL := 3) (ret := (some .int)) (by decide) rfl ?_
  intro p e s m args below meth c s₁ B hml hv
  obtain ⟨rfl, hsz, hP, hK, hN⟩ := hv
  have hx := B.exec
  have hb := B.bytes
  have hr := B.returns
  have hts := atoms_spec (ws := wp_s_left) B.pre
  have hin_X9 : ∀ w ∈ wsX90, w ∈ wp_s_left := fun _ h => (List.mem_cons_of_mem _ (List.mem_append_right _ (List.mem_append_right _ (List.mem_append_left _ h))))
  have hown : s.vm.findClass RX10 = some m.cls := findClass_of_methodNamed B.named
  have hlocks := B.notSynchronized
  subst hsz
  generalize hAe : va_A [] s.heap.size = A at ⊢
  have hA : ∀ q : Nat, s.heap.size ≤ q → A q := fun q h => by rw [← hAe]; exact Or.inr h
  have hS : va_S A s.heap s.heap [] := va_S.rf
  have hP : va_P D vwCl [(ox 0, .inr (10, [.ref (ox 1), .ref (ox 2), .int (nI tp), .ref (ob3 0), .ref (og 0), .ref (oq 0), .ref (ow 0)])), (ox 1, .inl (cT, 4, .inr (.inr (.inr (.inr ft))))), (ob 0, .inr (9, gT ob tb ts tg tl tc tr tu tv tw)), (ob 1, .inr (0, [.long sd, .int (nI da), .int (nI db), .int pr])), (ob 2, .inr (2, [.int (nI cn), .ref (ob 3), .ref (ob 4)])), (ob 3, .inl (cI, 160, .inl fk)), (ob 4, .inl (cI, 160, .inl fv)), (ob 5, .inr (3, gY ob (nI nb) (nI ka) (nI kb) sm (nI ln))), (ob 6, .inl (cI, 2048, .inl fh)), (ob 7, .inl (cI, 2048, .inl ff)), (ob 8, .inl (cI, 2048, .inl fa)), (ob 9, .inl (cI, 2048, .inl fs)), (ob 10, .inl (cI, 160, .inl fj)), (ob 11, .inl (cI, 160, .inl fr)), (ob 12, .inl (cI, 160, .inl fo)), (ob 13, .inl (cI, 2048, .inl fx))] s.heap := hP
  have hl := lv_entry ([.ref (ox 0), .int (nI k)]) (n := 3) (Nat.le_of_ble_eq_true rfl)
  rw [lg_entry_eq]
  generalize (lg_sl ([.ref (ox 0), .int (nI k)]) ++ List.replicate (3 - (lg_sl ([.ref (ox 0), .int (nI k)])).length) Slot.unset).toArray = ls at hl ⊢
  have hl : lv_has ls 3 [(0, .ref (ox 0)), (1, .int (nI k))] := hl
  obtain ⟨hky, hL, hO, hn1, hka, hkb, hda, hdb⟩ := id hTb
  have hnb := hL.1
  have hln := hL.2.1
  have hc := hky.1
  have hcz := hky.1
  refine lv_aload_n hx hb dX10_left_0 rfl (lv_at hl 0 rfl) ?_
  refine lv_iload_n hx hb dX10_left_1 rfl (lv_at hl 1 rfl) ?_
  have hPc := hP.sub (ws' := [(ox 0, .inr (10, [.ref (ox 1), .ref (ox 2), .int (nI tp), .ref (ob3 0), .ref (og 0), .ref (oq 0), .ref (ow 0)])), (ox 1, .inl (cT, 4, .inr (.inr (.inr (.inr ft)))))]) [0, 1] rfl
  have hKc := hK.sub (tys' := [(cT, .object RX9)]) [1] rfl
  have hFc := va_free0 hS hA
  refine va_callq (va_runV (As := [.int (nI k)]) (rest := []) ⟨hx, hb, hml, hown, hts⟩ (k_tabS l D _ ox ob3 og oq ow cI cT tp ft k (ob 0) hk hft) (cwV 1 hts g_s_left_k_tabS_74 rfl rfl rfl (by decide +kernel) ⟨(Nat.le_of_ble_eq_true rfl), (Nat.le_of_ble_eq_true rfl)⟩) (PcRC_V (q0 := 0) hPc hKc hN rfl rfl) rfl rfl hl.1 rfl (lv_room (Nat.le_of_ble_eq_true rfl)) dX10_left_2 ⟨(Nat.le_of_ble_eq_true rfl), (Nat.le_of_ble_eq_true rfl)⟩) hS (fun q _ h => hFc q h) hFc (fun r1 uu tt H locs htt hvm hw hB hz1 hk1 hS => ?_)
  have hP := va_keep hP hk1
  try dsimp only at hw
  clear hB hz1 hk1 hFc hPc hKc
  obtain rfl : r1 = some (ob 0) := hw
  refine W.eq (g2 := F0 m 5 ls [.ref (ob 0)]) rfl ?_
  refine lv_astore_n (lv' := [(2, .ref (ob 0)), (0, .ref (ox 0)), (1, .int (nI k))]) hx hb dX10_left_5 rfl hl (by decide) rfl (fun ls hl => ?_)
  refine lv_aload_n hx hb dX10_left_6 rfl (lv_at hl 0 rfl) ?_
  refine lv_ifnonnull (tgt := 14) hx hb dX10_left_7 (by decide) ?_
  refine lv_aload_n hx hb dX10_left_14 rfl (lv_at hl 0 rfl) ?_
  refine va_get (D := D) (ci := 9) (v := .int tl) (C := RX9) (T := TX9) (N := 12) hx hb hts hin_X9 hown hK hP 2 rfl rfl 3 (by decide) (hts (.fieldLink RX10 124 "ClashFree$Table" "limit" "I") (List.mem_of_getElem? (i := 5) rfl)) (fun _ h9 => h9) rfl dX10_left_15 ?_
  refine lv_aload_n hx hb dX10_left_18 rfl (lv_at hl 0 rfl) ?_
  refine va_get (D := D) (ci := 9) (v := .int tc) (C := RX9) (T := TX9) (N := 12) hx hb hts hin_X9 hown hK hP 2 rfl rfl 4 (by decide) (hts (.fieldLink RX10 127 "ClashFree$Table" "count" "I") (List.mem_of_getElem? (i := 6) rfl)) (fun _ h9 => h9) rfl dX10_left_19 ?_
  refine lv_isub hx hb dX10_left_22 ?_
  refine lv_topi (fun v2 ev2 => ?_)
  refine lv_iconst (v := 1) hx hb dX10_left_23 (by decide) ?_
  refine lv_iadd hx hb dX10_left_24 ?_
  refine lv_topi (fun v3 ev3 => ?_)
  exact W.iret (v := v3) hx hb hr (fun t ht hW => ⟨⟨v3, (), rfl, trivial, trivial⟩, hS.F ht⟩) hS.2.2 dX10_left_25

def own_s_would : List Cond := [.methodLink RX10 74 yX10_tableAt, .instanceMethod yX10_tableAt, .selects RX10 yX10_tableAt yX10_tableAt, .initialized RX10, .methodLink RX10 77 yX10_isKey, .static yX10_isKey, .methodLink RX10 80 yX9_isFullFor, .instanceMethod yX9_isFullFor, .selects RX9 yX9_isFullFor yX9_isFullFor, .initialized RX9, .methodLink RX10 244 yX9_foretell, .instanceMethod yX9_foretell, .selects RX9 yX9_foretell yX9_foretell]
def wp_s_would : List Cond := .code yX10_would cX10_would 4 (some .int) :: (own_s_would ++ (wp_k_tabS ++ (wp_k_isKey ++ (wp_k_isFullFor ++ (wp_k_foretell ++ ([] : List Cond))))))
set_option maxRecDepth 20000 in
theorem inown_s_would : ∀ w ∈ own_s_would, w ∈ lw_tbl := mem_places [610, 612, 2, 106, 614, 615, 618, 619, 620, 116, 852, 644, 645] (by decide +kernel)
set_option maxRecDepth 20000 in
theorem in_s_would : ∀ w ∈ wp_s_would, w ∈ lw_tbl := List.forall_mem_cons.mpr ⟨List.mem_of_getElem? (i := 851) (by decide +kernel), List.forall_mem_append.mpr ⟨inown_s_would, List.forall_mem_append.mpr ⟨in_k_tabS, List.forall_mem_append.mpr ⟨in_k_isKey, List.forall_mem_append.mpr ⟨in_k_isFullFor, List.forall_mem_append.mpr ⟨in_k_foretell, fun _ h => absurd h List.not_mem_nil⟩⟩⟩⟩⟩⟩
set_option maxRecDepth 20000 in
theorem good_s_would : wp_s_would.all goodWord = true := by decide +kernel
set_option maxRecDepth 20000 in
theorem g_s_would_k_tabS_74 : GoodIn wp_s_would (wsV RX10 74 RX10 yX10_tableAt wp_k_tabS) := goodIn_sub (List.forall_mem_append.mpr ⟨List.forall_mem_cons.mpr ⟨(List.mem_of_getElem? (i := 1) rfl), List.forall_mem_cons.mpr ⟨(List.mem_of_getElem? (i := 2) rfl), List.forall_mem_cons.mpr ⟨(List.mem_of_getElem? (i := 3) rfl), List.forall_mem_cons.mpr ⟨(List.mem_of_getElem? (i := 4) rfl), fun _ h => absurd h List.not_mem_nil⟩⟩⟩⟩, (fun _ h => (List.mem_cons_of_mem _ (List.mem_append_right _ (List.mem_append_left _ h))))⟩) (by decide +kernel)
set_option maxRecDepth 20000 in
theorem g_s_would_k_isKey_77 : GoodIn wp_s_would (va_wsS RX10 77 yX10_isKey wp_k_isKey) := goodIn_sub (List.forall_mem_append.mpr ⟨List.forall_mem_cons.mpr ⟨(List.mem_of_getElem? (i := 5) rfl), List.forall_mem_cons.mpr ⟨(List.mem_of_getElem? (i := 6) rfl), List.forall_mem_cons.mpr ⟨(List.mem_of_getElem? (i := 4) rfl), fun _ h => absurd h List.not_mem_nil⟩⟩⟩, (fun _ h => (List.mem_cons_of_mem _ (List.mem_append_right _ (List.mem_append_right _ (List.mem_append_left _ h)))))⟩) (by decide +kernel)
set_option maxRecDepth 20000 in
theorem g_s_would_k_isFullFor_80 : GoodIn wp_s_would (wsV RX10 80 RX9 yX9_isFullFor wp_k_isFullFor) := goodIn_sub (List.forall_mem_append.mpr ⟨List.forall_mem_cons.mpr ⟨(List.mem_of_getElem? (i := 7) rfl), List.forall_mem_cons.mpr ⟨(List.mem_of_getElem? (i := 8) rfl), List.forall_mem_cons.mpr ⟨(List.mem_of_getElem? (i := 9) rfl), List.forall_mem_cons.mpr ⟨(List.mem_of_getElem? (i := 10) rfl), fun _ h => absurd h List.not_mem_nil⟩⟩⟩⟩, (fun _ h => (List.mem_cons_of_mem _ (List.mem_append_right _ (List.mem_append_right _ (List.mem_append_right _ (List.mem_append_left _ h))))))⟩) (by decide +kernel)
set_option maxRecDepth 20000 in
theorem g_s_would_k_foretell_244 : GoodIn wp_s_would (wsV RX10 244 RX9 yX9_foretell wp_k_foretell) := goodIn_sub (List.forall_mem_append.mpr ⟨List.forall_mem_cons.mpr ⟨(List.mem_of_getElem? (i := 11) rfl), List.forall_mem_cons.mpr ⟨(List.mem_of_getElem? (i := 12) rfl), List.forall_mem_cons.mpr ⟨(List.mem_of_getElem? (i := 13) rfl), List.forall_mem_cons.mpr ⟨(List.mem_of_getElem? (i := 10) rfl), fun _ h => absurd h List.not_mem_nil⟩⟩⟩⟩, (fun _ h => (List.mem_cons_of_mem _ (List.mem_append_right _ (List.mem_append_right _ (List.mem_append_right _ (List.mem_append_right _ (List.mem_append_left _ h)))))))⟩) (by decide +kernel)
set_option maxHeartbeats 4000000 in
set_option maxRecDepth 100000 in
theorem s_would (l : Launch) (D : va_G) (sz : Nat) (ox : Nat → Nat) (ob3 : Nat → Nat) (og : Nat → Nat) (oq : Nat → Nat) (ow : Nat → Nat) (ob : Nat → Nat) (cI : ClassId) (cT : ClassId) (tp : Nat) (ft : Nat → Option Nat) (tb : Int32) (ts : Int32) (tg : Int32) (tl : Int32) (tc : Int32) (tr : Int32) (tu : Int32) (tv : Int32) (tw : Int32) (sd : Int64) (da : Nat) (db : Nat) (pr : Int32) (cn : Nat) (fk : Nat → Int32) (fv : Nat → Int32) (nb : Nat) (ka : Nat) (kb : Nat) (sm : Int32) (ln : Nat) (fh : Nat → Int32) (ff : Nat → Int32) (fa : Nat → Int32) (fs : Nat → Int32) (fj : Nat → Int32) (fr : Nat → Int32) (fo : Nat → Int32) (fx : Nat → Int32) (k : Nat) (z2 : Int32) (hk : k < 4) (hft : ft k = some (ob 0)) (hTb : TbI fk fj fh fo cn nb ka kb ln da db) : Met l yX10_would wp_s_would ({ frames := 3, cells := 0, slots := 0, locals := 70 }) (PcRC D [.ref (ox 0), .int (nI k), .int z2] sz [(ox 0, .inr (10, [.ref (ox 1), .ref (ox 2), .int (nI tp), .ref (ob3 0), .ref (og 0), .ref (oq 0), .ref (ow 0)])), (ox 1, .inl (cT, 4, .inr (.inr (.inr (.inr ft))))), (ob 0, .inr (9, gT ob tb ts tg tl tc tr tu tv tw)), (ob 1, .inr (0, [.long sd, .int (nI da), .int (nI db), .int pr])), (ob 2, .inr (2, [.int (nI cn), .ref (ob 3), .ref (ob 4)])), (ob 3, .inl (cI, 160, .inl fk)), (ob 4, .inl (cI, 160, .inl fv)), (ob 5, .inr (3, gY ob (nI nb) (nI ka) (nI kb) sm (nI ln))), (ob 6, .inl (cI, 2048, .inl fh)), (ob 7, .inl (cI, 2048, .inl ff)), (ob 8, .inl (cI, 2048, .inl fa)), (ob 9, .inl (cI, 2048, .inl fs)), (ob 10, .inl (cI, 160, .inl fj)), (ob 11, .inl (cI, 160, .inl fr)), (ob 12, .inl (cI, 160, .inl fo)), (ob 13, .inl (cI, 2048, .inl fx))] [(cI, .int), (cT, .object RX9)]) (va_Qi (fun (r : Int32) (u : Unit) => True) (fun (_ : Unit) _ => True) (va_A [] sz)) 0 0 (va_A [] sz) := by
  refine Met.ofW (cc := cX10_would) (maxL := 4) (ret := (some .int)) (by decide) rfl ?_
  intro p e s m args below meth c s₁ B hml hv
  obtain ⟨rfl, hsz, hP, hK, hN⟩ := hv
  have hx := B.exec
  have hb := B.bytes
  have hr := B.returns
  have hts := atoms_spec (ws := wp_s_would) B.pre
  have hown : s.vm.findClass RX10 = some m.cls := findClass_of_methodNamed B.named
  have hlocks := B.notSynchronized
  subst hsz
  generalize hAe : va_A [] s.heap.size = A at ⊢
  have hA : ∀ q : Nat, s.heap.size ≤ q → A q := fun q h => by rw [← hAe]; exact Or.inr h
  have hS : va_S A s.heap s.heap [] := va_S.rf
  have hP : va_P D vwCl [(ox 0, .inr (10, [.ref (ox 1), .ref (ox 2), .int (nI tp), .ref (ob3 0), .ref (og 0), .ref (oq 0), .ref (ow 0)])), (ox 1, .inl (cT, 4, .inr (.inr (.inr (.inr ft))))), (ob 0, .inr (9, gT ob tb ts tg tl tc tr tu tv tw)), (ob 1, .inr (0, [.long sd, .int (nI da), .int (nI db), .int pr])), (ob 2, .inr (2, [.int (nI cn), .ref (ob 3), .ref (ob 4)])), (ob 3, .inl (cI, 160, .inl fk)), (ob 4, .inl (cI, 160, .inl fv)), (ob 5, .inr (3, gY ob (nI nb) (nI ka) (nI kb) sm (nI ln))), (ob 6, .inl (cI, 2048, .inl fh)), (ob 7, .inl (cI, 2048, .inl ff)), (ob 8, .inl (cI, 2048, .inl fa)), (ob 9, .inl (cI, 2048, .inl fs)), (ob 10, .inl (cI, 160, .inl fj)), (ob 11, .inl (cI, 160, .inl fr)), (ob 12, .inl (cI, 160, .inl fo)), (ob 13, .inl (cI, 2048, .inl fx))] s.heap := hP
  have hl := lv_entry ([.ref (ox 0), .int (nI k), .int z2]) (n := 4) (Nat.le_of_ble_eq_true rfl)
  rw [lg_entry_eq]
  generalize (lg_sl ([.ref (ox 0), .int (nI k), .int z2]) ++ List.replicate (4 - (lg_sl ([.ref (ox 0), .int (nI k), .int z2])).length) Slot.unset).toArray = ls at hl ⊢
  have hl : lv_has ls 4 [(0, .ref (ox 0)), (1, .int (nI k)), (2, .int z2)] := hl
  obtain ⟨hky, hL, hO, hn1, hka, hkb, hda, hdb⟩ := id hTb
  have hnb := hL.1
  have hln := hL.2.1
  have hc := hky.1
  have hcz := hky.1
  refine lv_aload_n hx hb dX10_would_0 rfl (lv_at hl 0 rfl) ?_
  refine lv_iload_n hx hb dX10_would_1 rfl (lv_at hl 1 rfl) ?_
  have hPc := hP.sub (ws' := [(ox 0, .inr (10, [.ref (ox 1), .ref (ox 2), .int (nI tp), .ref (ob3 0), .ref (og 0), .ref (oq 0), .ref (ow 0)])), (ox 1, .inl (cT, 4, .inr (.inr (.inr (.inr ft)))))]) [0, 1] rfl
  have hKc := hK.sub (tys' := [(cT, .object RX9)]) [1] rfl
  have hFc := va_free0 hS hA
  refine va_callq (va_runV (As := [.int (nI k)]) (rest := []) ⟨hx, hb, hml, hown, hts⟩ (k_tabS l D _ ox ob3 og oq ow cI cT tp ft k (ob 0) hk hft) (cwV 1 hts g_s_would_k_tabS_74 rfl rfl rfl (by decide +kernel) ⟨(Nat.le_of_ble_eq_true rfl), (Nat.le_of_ble_eq_true rfl)⟩) (PcRC_V (q0 := 0) hPc hKc hN rfl rfl) rfl rfl hl.1 rfl (lv_room (Nat.le_of_ble_eq_true rfl)) dX10_would_2 ⟨(Nat.le_of_ble_eq_true rfl), (Nat.le_of_ble_eq_true rfl)⟩) hS (fun q _ h => hFc q h) hFc (fun r1 uu tt H locs htt hvm hw hB hz1 hk1 hS => ?_)
  have hP := va_keep hP hk1
  try dsimp only at hw
  clear hB hz1 hk1 hFc hPc hKc
  obtain rfl : r1 = some (ob 0) := hw
  refine W.eq (g2 := F0 m 5 ls [.ref (ob 0)]) rfl ?_
  refine lv_astore_n (lv' := [(3, .ref (ob 0)), (0, .ref (ox 0)), (1, .int (nI k)), (2, .int z2)]) hx hb dX10_would_5 rfl hl (by decide) rfl (fun ls hl => ?_)
  refine lv_aload_n hx hb dX10_would_6 rfl (lv_at hl 0 rfl) ?_
  refine lv_ifnull hx hb dX10_would_7 ?_
  refine lv_iload_n hx hb dX10_would_10 rfl (lv_at hl 3 rfl) ?_
  have hPc := hP.sub (ws' := []) [] rfl
  have hKc := hK.sub (tys' := []) [] rfl
  have hFc := va_free0 hS hA
  refine va_calli (va_runS (As := [.int z2]) (rest := []) ⟨hx, hb, hml, hown, hts⟩ (k_isKey l D _ cI z2) (va_cwS 1 hts g_s_would_k_isKey_77 rfl rfl rfl (by decide +kernel) ⟨(Nat.le_of_ble_eq_true rfl), (Nat.le_of_ble_eq_true rfl)⟩) (PcRC_S hPc hKc hN) rfl rfl hl.1 rfl (lv_room (Nat.le_of_ble_eq_true rfl)) dX10_would_11 ⟨(Nat.le_of_ble_eq_true rfl), (Nat.le_of_ble_eq_true rfl)⟩) hS (fun q _ h => hFc q h) hFc (fun r2 uu tt H locs htt hvm hw hB hz1 hk1 hS => ?_)
  have hP := va_keep hP hk1
  try dsimp only at hw
  clear hB hz1 hk1 hFc hPc hKc
  rcases hw with ⟨rfl, hA_r2⟩ | ⟨rfl, hA_r2⟩
  ·
    obtain ⟨kx, hkx, rfl⟩ := hA_r2
    refine lv_if_ne (tgt := 20) hx hb dX10_would_14 (by decide) (fun hc => ?_) (fun hc => absurd hc (by decide))
    refine lv_aload_n hx hb dX10_would_20 rfl (lv_at hl 0 rfl) ?_
    refine lv_iload_n hx hb dX10_would_21 rfl (lv_at hl 3 rfl) ?_
    have hPc := hP.sub (ws' := [(ob 0, .inr (9, gT ob tb ts tg tl tc tr tu tv tw)), (ob 2, .inr (2, [.int (nI cn), .ref (ob 3), .ref (ob 4)])), (ob 3, .inl (cI, 160, .inl fk))]) [2, 4, 5] rfl
    have hKc := hK.sub (tys' := [(cI, .int)]) [0] rfl
    have hFc := va_free0 hS hA
    refine va_calli (va_runV (As := [.int (nI kx)]) (rest := []) ⟨hx, hb, hml, hown, hts⟩ (k_isFullFor l D _ ob cI tb ts tg tl tc tr tu tv tw cn fk kx hcz) (cwV 1 hts g_s_would_k_isFullFor_80 rfl rfl rfl (by decide +kernel) ⟨(Nat.le_of_ble_eq_true rfl), (Nat.le_of_ble_eq_true rfl)⟩) (PcRC_V (q0 := 0) hPc hKc hN rfl rfl) rfl rfl hl.1 rfl (lv_room (Nat.le_of_ble_eq_true rfl)) dX10_would_22 ⟨(Nat.le_of_ble_eq_true rfl), (Nat.le_of_ble_eq_true rfl)⟩) hS (fun q _ h => hFc q h) hFc (fun r3 uu tt H locs htt hvm hw hB hz1 hk1 hS => ?_)
    have hP := va_keep hP hk1
    try dsimp only at hw
    clear hB hz1 hk1 hFc hPc hKc
    rcases hw with ⟨rfl, hA_r3⟩ | ⟨rfl, hA_r3⟩
    ·
      refine lv_if_eq (tgt := 33) hx hb dX10_would_25 (by decide) (fun hc => absurd hc (by decide)) (fun hc => ?_)
      refine lv_bipush (v := (-3)) hx hb dX10_would_28 (by decide) ?_
      refine lv_goto (tgt := 38) hx hb dX10_would_30 (by decide) ?_
      exact W.iret (v := (-3)) hx hb hr (fun t ht hW => ⟨⟨(-3), (), rfl, trivial, trivial⟩, hS.F ht⟩) hS.2.2 dX10_would_38
    ·
      refine lv_if_eq (tgt := 33) hx hb dX10_would_25 (by decide) (fun hc => ?_) (fun hc => absurd (by decide) hc)
      refine lv_aload_n hx hb dX10_would_33 rfl (lv_at hl 0 rfl) ?_
      refine lv_iload_n hx hb dX10_would_34 rfl (lv_at hl 3 rfl) ?_
      have hPc := hP.sub (ws' := [(ob 0, .inr (9, gT ob tb ts tg tl tc tr tu tv tw)), (ob 2, .inr (2, [.int (nI cn), .ref (ob 3), .ref (ob 4)])), (ob 3, .inl (cI, 160, .inl fk)), (ob 5, .inr (3, gY ob (nI nb) (nI ka) (nI kb) sm (nI ln))), (ob 6, .inl (cI, 2048, .inl fh)), (ob 7, .inl (cI, 2048, .inl ff)), (ob 8, .inl (cI, 2048, .inl fa)), (ob 9, .inl (cI, 2048, .inl fs)), (ob 10, .inl (cI, 160, .inl fj)), (ob 11, .inl (cI, 160, .inl fr))]) [2, 4, 5, 7, 8, 9, 10, 11, 12, 13] rfl
      have hKc := hK.sub (tys' := [(cI, .int)]) [0] rfl
      have hFc := va_free0 hS hA
      refine va_calli (va_runV (As := [.int (nI kx)]) (rest := []) ⟨hx, hb, hml, hown, hts⟩ (k_foretell l D _ ob cI tb ts tg tl tc tr tu tv tw cn fk nb ka kb sm ln fh ff fa fs fj fr kx hcz hnb hln hn1 hka hkb hkx) (cwV 1 hts g_s_would_k_foretell_244 rfl rfl rfl (by decide +kernel) ⟨(Nat.le_of_ble_eq_true rfl), (Nat.le_of_ble_eq_true rfl)⟩) (PcRC_V (q0 := 0) hPc hKc hN rfl rfl) rfl rfl hl.1 rfl (lv_room (Nat.le_of_ble_eq_true rfl)) dX10_would_35 ⟨(Nat.le_of_ble_eq_true rfl), (Nat.le_of_ble_eq_true rfl)⟩) hS (fun q _ h => hFc q h) hFc (fun r4 uu tt H locs htt hvm hw hB hz1 hk1 hS => ?_)
      have hP := va_keep hP hk1
      try dsimp only at hw
      clear hB hz1 hk1 hFc hPc hKc
      rcases hw with ⟨rfl, hA_r4⟩ | ⟨rfl, hA_r4⟩ | ⟨rfl, hA_r4⟩ | ⟨rfl, hA_r4⟩ | ⟨rfl, hA_r4⟩
      ·
        exact W.iret (v := 0) hx hb hr (fun t ht hW => ⟨⟨0, (), rfl, trivial, trivial⟩, hS.F ht⟩) hS.2.2 dX10_would_38
      ·
        exact W.iret (v := 1) hx hb hr (fun t ht hW => ⟨⟨1, (), rfl, trivial, trivial⟩, hS.F ht⟩) hS.2.2 dX10_would_38
      ·
        exact W.iret (v := 2) hx hb hr (fun t ht hW => ⟨⟨2, (), rfl, trivial, trivial⟩, hS.F ht⟩) hS.2.2 dX10_would_38
      ·
        exact W.iret (v := 3) hx hb hr (fun t ht hW => ⟨⟨3, (), rfl, trivial, trivial⟩, hS.F ht⟩) hS.2.2 dX10_would_38
      ·
        exact W.iret (v := 4) hx hb hr (fun t ht hW => ⟨⟨4, (), rfl, trivial, trivial⟩, hS.F ht⟩) hS.2.2 dX10_would_38
  ·
    refine lv_if_ne (tgt := 20) hx hb dX10_would_14 (by decide) (fun hc => absurd (by decide) hc) (fun hc => ?_)
    refine lv_bipush (v := (-2)) hx hb dX10_would_17 (by decide) ?_
    exact W.iret (v := (-2)) hx hb hr (fun t ht hW => ⟨⟨(-2), (), rfl, trivial, trivial⟩, hS.F ht⟩) hS.2.2 dX10_would_19

def own_s_values : List Cond := [.methodLink RX10 74 yX10_tableAt, .instanceMethod yX10_tableAt, .selects RX10 yX10_tableAt yX10_tableAt, .initialized RX10, .fieldLink RX10 93 "ClashFree$Table" "keys" "LClashFree$Keys;", .methodLink RX10 269 yX2_greatest, .instanceMethod yX2_greatest, .selects RX2 yX2_greatest yX2_greatest, .initialized RX2, .methodLink RX10 197 yX2_keyAt, .instanceMethod yX2_keyAt, .selects RX2 yX2_keyAt yX2_keyAt, .constantLong RX10 183 (-1), .methodLink RX10 103 yX2_valueAt, .instanceMethod yX2_valueAt, .selects RX2 yX2_valueAt yX2_valueAt, .constantLong RX10 91 (-1000000000000000), .methodLink RX10 272 yX2_valueSum, .instanceMethod yX2_valueSum, .selects RX2 yX2_valueSum yX2_valueSum]
def wp_s_values : List Cond := .code yX10_values cX10_values 5 (some .long) :: (own_s_values ++ (wp_k_tabS ++ (wp_k_greatest ++ (wp_k_keyAt ++ (wp_k_valueAt ++ (wp_k_valueSum ++ (wsX90 ++ ([] : List Cond))))))))
set_option maxRecDepth 20000 in
theorem inown_s_values : ∀ w ∈ own_s_values, w ∈ lw_tbl := mem_places [610, 612, 2, 106, 518, 899, 900, 901, 117, 734, 735, 736, 727, 693, 694, 695, 691, 903, 904, 905] (by decide +kernel)
set_option maxRecDepth 20000 in
theorem in_s_values : ∀ w ∈ wp_s_values, w ∈ lw_tbl := List.forall_mem_cons.mpr ⟨List.mem_of_getElem? (i := 898) (by decide +kernel), List.forall_mem_append.mpr ⟨inown_s_values, List.forall_mem_append.mpr ⟨in_k_tabS, List.forall_mem_append.mpr ⟨in_k_greatest, List.forall_mem_append.mpr ⟨in_k_keyAt, List.forall_mem_append.mpr ⟨in_k_valueAt, List.forall_mem_append.mpr ⟨in_k_valueSum, List.forall_mem_append.mpr ⟨lwb_X9, fun _ h => absurd h List.not_mem_nil⟩⟩⟩⟩⟩⟩⟩⟩
set_option maxRecDepth 20000 in
theorem good_s_values : wp_s_values.all goodWord = true := by decide +kernel
set_option maxRecDepth 20000 in
theorem g_s_values_k_tabS_74 : GoodIn wp_s_values (wsV RX10 74 RX10 yX10_tableAt wp_k_tabS) := goodIn_sub (List.forall_mem_append.mpr ⟨List.forall_mem_cons.mpr ⟨(List.mem_of_getElem? (i := 1) rfl), List.forall_mem_cons.mpr ⟨(List.mem_of_getElem? (i := 2) rfl), List.forall_mem_cons.mpr ⟨(List.mem_of_getElem? (i := 3) rfl), List.forall_mem_cons.mpr ⟨(List.mem_of_getElem? (i := 4) rfl), fun _ h => absurd h List.not_mem_nil⟩⟩⟩⟩, (fun _ h => (List.mem_cons_of_mem _ (List.mem_append_right _ (List.mem_append_left _ h))))⟩) (by decide +kernel)
set_option maxRecDepth 20000 in
theorem g_s_values_k_greatest_269 : GoodIn wp_s_values (wsV RX10 269 RX2 yX2_greatest wp_k_greatest) := goodIn_sub (List.forall_mem_append.mpr ⟨List.forall_mem_cons.mpr ⟨(List.mem_of_getElem? (i := 6) rfl), List.forall_mem_cons.mpr ⟨(List.mem_of_getElem? (i := 7) rfl), List.forall_mem_cons.mpr ⟨(List.mem_of_getElem? (i := 8) rfl), List.forall_mem_cons.mpr ⟨(List.mem_of_getElem? (i := 9) rfl), fun _ h => absurd h List.not_mem_nil⟩⟩⟩⟩, (fun _ h => (List.mem_cons_of_mem _ (List.mem_append_right _ (List.mem_append_right _ (List.mem_append_left _ h)))))⟩) (by decide +kernel)
set_option maxRecDepth 20000 in
theorem g_s_values_k_keyAt_197 : GoodIn wp_s_values (wsV RX10 197 RX2 yX2_keyAt wp_k_keyAt) := goodIn_sub (List.forall_mem_append.mpr ⟨List.forall_mem_cons.mpr ⟨(List.mem_of_getElem? (i := 10) rfl), List.forall_mem_cons.mpr ⟨(List.mem_of_getElem? (i := 11) rfl), List.forall_mem_cons.mpr ⟨(List.mem_of_getElem? (i := 12) rfl), List.forall_mem_cons.mpr ⟨(List.mem_of_getElem? (i := 9) rfl), fun _ h => absurd h List.not_mem_nil⟩⟩⟩⟩, (fun _ h => (List.mem_cons_of_mem _ (List.mem_append_right _ (List.mem_append_right _ (List.mem_append_right _ (List.mem_append_left _ h))))))⟩) (by decide +kernel)
set_option maxRecDepth 20000 in
theorem g_s_values_k_valueAt_103 : GoodIn wp_s_values (wsV RX10 103 RX2 yX2_valueAt wp_k_valueAt) := goodIn_sub (List.forall_mem_append.mpr ⟨List.forall_mem_cons.mpr ⟨(List.mem_of_getElem? (i := 14) rfl), List.forall_mem_cons.mpr ⟨(List.mem_of_getElem? (i := 15) rfl), List.forall_mem_cons.mpr ⟨(List.mem_of_getElem? (i := 16) rfl), List.forall_mem_cons.mpr ⟨(List.mem_of_getElem? (i := 9) rfl), fun _ h => absurd h List.not_mem_nil⟩⟩⟩⟩, (fun _ h => (List.mem_cons_of_mem _ (List.mem_append_right _ (List.mem_append_right _ (List.mem_append_right _ (List.mem_append_right _ (List.mem_append_left _ h)))))))⟩) (by decide +kernel)
set_option maxRecDepth 20000 in
theorem g_s_values_k_valueSum_272 : GoodIn wp_s_values (wsV RX10 272 RX2 yX2_valueSum wp_k_valueSum) := goodIn_sub (List.forall_mem_append.mpr ⟨List.forall_mem_cons.mpr ⟨(List.mem_of_getElem? (i := 18) rfl), List.forall_mem_cons.mpr ⟨(List.mem_of_getElem? (i := 19) rfl), List.forall_mem_cons.mpr ⟨(List.mem_of_getElem? (i := 20) rfl), List.forall_mem_cons.mpr ⟨(List.mem_of_getElem? (i := 9) rfl), fun _ h => absurd h List.not_mem_nil⟩⟩⟩⟩, (fun _ h => (List.mem_cons_of_mem _ (List.mem_append_right _ (List.mem_append_right _ (List.mem_append_right _ (List.mem_append_right _ (List.mem_append_right _ (List.mem_append_left _ h))))))))⟩) (by decide +kernel)
set_option maxHeartbeats 4000000 in
set_option maxRecDepth 100000 in
theorem s_values (l : Launch) (D : va_G) (sz : Nat) (ox : Nat → Nat) (ob3 : Nat → Nat) (og : Nat → Nat) (oq : Nat → Nat) (ow : Nat → Nat) (ob : Nat → Nat) (cI : ClassId) (cT : ClassId) (tp : Nat) (ft : Nat → Option Nat) (tb : Int32) (ts : Int32) (tg : Int32) (tl : Int32) (tc : Int32) (tr : Int32) (tu : Int32) (tv : Int32) (tw : Int32) (sd : Int64) (da : Nat) (db : Nat) (pr : Int32) (cn : Nat) (fk : Nat → Int32) (fv : Nat → Int32) (nb : Nat) (ka : Nat) (kb : Nat) (sm : Int32) (ln : Nat) (fh : Nat → Int32) (ff : Nat → Int32) (fa : Nat → Int32) (fs : Nat → Int32) (fj : Nat → Int32) (fr : Nat → Int32) (fo : Nat → Int32) (fx : Nat → Int32) (k : Nat) (z2 : Int32) (L : List (Nat × Int32)) (hk : k < 4) (hft : ft k = some (ob 0)) (hTb : TbI fk fj fh fo cn nb ka kb ln da db) (hKv : KvT fk fv cn L) : Met l yX10_values wp_s_values ({ frames := 2, cells := 0, slots := 0, locals := 41 }) (PcRC D [.ref (ox 0), .int (nI k), .int z2] sz [(ox 0, .inr (10, [.ref (ox 1), .ref (ox 2), .int (nI tp), .ref (ob3 0), .ref (og 0), .ref (oq 0), .ref (ow 0)])), (ox 1, .inl (cT, 4, .inr (.inr (.inr (.inr ft))))), (ob 0, .inr (9, gT ob tb ts tg tl tc tr tu tv tw)), (ob 1, .inr (0, [.long sd, .int (nI da), .int (nI db), .int pr])), (ob 2, .inr (2, [.int (nI cn), .ref (ob 3), .ref (ob 4)])), (ob 3, .inl (cI, 160, .inl fk)), (ob 4, .inl (cI, 160, .inl fv)), (ob 5, .inr (3, gY ob (nI nb) (nI ka) (nI kb) sm (nI ln))), (ob 6, .inl (cI, 2048, .inl fh)), (ob 7, .inl (cI, 2048, .inl ff)), (ob 8, .inl (cI, 2048, .inl fa)), (ob 9, .inl (cI, 2048, .inl fs)), (ob 10, .inl (cI, 160, .inl fj)), (ob 11, .inl (cI, 160, .inl fr)), (ob 12, .inl (cI, 160, .inl fo)), (ob 13, .inl (cI, 2048, .inl fx))] [(cI, .int), (cT, .object RX9)]) (va_Ql (fun (r : Int64) (u : Unit) => r = vaA True (fun _ => L) (nI k) z2) (fun (_ : Unit) _ => True) (va_A [] sz)) 0 0 (va_A [] sz) := by
  refine Met.ofW (cc := cX10_values) (maxL := 5) (ret := (some .long)) (by decide) rfl ?_
  intro p e s m args below meth c s₁ B hml hv
  obtain ⟨rfl, hsz, hP, hK, hN⟩ := hv
  have hx := B.exec
  have hb := B.bytes
  have hr := B.returns
  have hts := atoms_spec (ws := wp_s_values) B.pre
  have hin_X9 : ∀ w ∈ wsX90, w ∈ wp_s_values := fun _ h => (List.mem_cons_of_mem _ (List.mem_append_right _ (List.mem_append_right _ (List.mem_append_right _ (List.mem_append_right _ (List.mem_append_right _ (List.mem_append_right _ (List.mem_append_left _ h))))))))
  have hown : s.vm.findClass RX10 = some m.cls := findClass_of_methodNamed B.named
  have hlocks := B.notSynchronized
  subst hsz
  generalize hAe : va_A [] s.heap.size = A at ⊢
  have hA : ∀ q : Nat, s.heap.size ≤ q → A q := fun q h => by rw [← hAe]; exact Or.inr h
  have hS : va_S A s.heap s.heap [] := va_S.rf
  have hP : va_P D vwCl [(ox 0, .inr (10, [.ref (ox 1), .ref (ox 2), .int (nI tp), .ref (ob3 0), .ref (og 0), .ref (oq 0), .ref (ow 0)])), (ox 1, .inl (cT, 4, .inr (.inr (.inr (.inr ft))))), (ob 0, .inr (9, gT ob tb ts tg tl tc tr tu tv tw)), (ob 1, .inr (0, [.long sd, .int (nI da), .int (nI db), .int pr])), (ob 2, .inr (2, [.int (nI cn), .ref (ob 3), .ref (ob 4)])), (ob 3, .inl (cI, 160, .inl fk)), (ob 4, .inl (cI, 160, .inl fv)), (ob 5, .inr (3, gY ob (nI nb) (nI ka) (nI kb) sm (nI ln))), (ob 6, .inl (cI, 2048, .inl fh)), (ob 7, .inl (cI, 2048, .inl ff)), (ob 8, .inl (cI, 2048, .inl fa)), (ob 9, .inl (cI, 2048, .inl fs)), (ob 10, .inl (cI, 160, .inl fj)), (ob 11, .inl (cI, 160, .inl fr)), (ob 12, .inl (cI, 160, .inl fo)), (ob 13, .inl (cI, 2048, .inl fx))] s.heap := hP
  have hl := lv_entry ([.ref (ox 0), .int (nI k), .int z2]) (n := 5) (Nat.le_of_ble_eq_true rfl)
  rw [lg_entry_eq]
  generalize (lg_sl ([.ref (ox 0), .int (nI k), .int z2]) ++ List.replicate (5 - (lg_sl ([.ref (ox 0), .int (nI k), .int z2])).length) Slot.unset).toArray = ls at hl ⊢
  have hl : lv_has ls 5 [(0, .ref (ox 0)), (1, .int (nI k)), (2, .int z2)] := hl
  obtain ⟨hky, hL, hO, hn1, hka, hkb, hda, hdb⟩ := id hTb
  have hnb := hL.1
  have hln := hL.2.1
  have hc := hky.1
  have hcz := hky.1
  obtain ⟨-, K, hK1, hK2, rfl⟩ := id hKv
  have hKT : KyT fk cn K := ⟨hcz, hK1, hK2⟩
  refine lv_aload_n hx hb dX10_values_0 rfl (lv_at hl 0 rfl) ?_
  refine lv_iload_n hx hb dX10_values_1 rfl (lv_at hl 1 rfl) ?_
  have hPc := hP.sub (ws' := [(ox 0, .inr (10, [.ref (ox 1), .ref (ox 2), .int (nI tp), .ref (ob3 0), .ref (og 0), .ref (oq 0), .ref (ow 0)])), (ox 1, .inl (cT, 4, .inr (.inr (.inr (.inr ft)))))]) [0, 1] rfl
  have hKc := hK.sub (tys' := [(cT, .object RX9)]) [1] rfl
  have hFc := va_free0 hS hA
  refine va_callq (va_runV (As := [.int (nI k)]) (rest := []) ⟨hx, hb, hml, hown, hts⟩ (k_tabS l D _ ox ob3 og oq ow cI cT tp ft k (ob 0) hk hft) (cwV 1 hts g_s_values_k_tabS_74 rfl rfl rfl (by decide +kernel) ⟨(Nat.le_of_ble_eq_true rfl), (Nat.le_of_ble_eq_true rfl)⟩) (PcRC_V (q0 := 0) hPc hKc hN rfl rfl) rfl rfl hl.1 rfl (lv_room (Nat.le_of_ble_eq_true rfl)) dX10_values_2 ⟨(Nat.le_of_ble_eq_true rfl), (Nat.le_of_ble_eq_true rfl)⟩) hS (fun q _ h => hFc q h) hFc (fun r1 uu tt H locs htt hvm hw hB hz1 hk1 hS => ?_)
  have hP := va_keep hP hk1
  try dsimp only at hw
  clear hB hz1 hk1 hFc hPc hKc
  obtain rfl : r1 = some (ob 0) := hw
  refine W.eq (g2 := F0 m 5 ls [.ref (ob 0)]) rfl ?_
  refine lv_astore_n (lv' := [(3, .ref (ob 0)), (0, .ref (ox 0)), (1, .int (nI k)), (2, .int z2)]) hx hb dX10_values_5 rfl hl (by decide) rfl (fun ls hl => ?_)
  refine lv_aload_n hx hb dX10_values_6 rfl (lv_at hl 0 rfl) ?_
  refine lv_ifnonnull (tgt := 14) hx hb dX10_values_7 (by decide) ?_
  refine lv_aload_n hx hb dX10_values_14 rfl (lv_at hl 0 rfl) ?_
  refine va_get (D := D) (ci := 9) (v := .ref (ob 2)) (C := RX9) (T := TX9) (N := 12) hx hb hts hin_X9 hown hK hP 2 rfl rfl 10 (by decide) (hts (.fieldLink RX10 93 "ClashFree$Table" "keys" "LClashFree$Keys;") (List.mem_of_getElem? (i := 5) rfl)) (fun _ h9 => h9) rfl dX10_values_15 ?_
  have hPc := hP.sub (ws' := [(ob 2, .inr (2, [.int (nI cn), .ref (ob 3), .ref (ob 4)])), (ob 4, .inl (cI, 160, .inl fv))]) [4, 6] rfl
  have hKc := hK.sub (tys' := [(cI, .int)]) [0] rfl
  have hFc := va_free0 hS hA
  refine va_calli (va_runV (As := []) (rest := []) ⟨hx, hb, hml, hown, hts⟩ (k_greatest l D _ ob cI cn fv K hcz) (cwV 0 hts g_s_values_k_greatest_269 rfl rfl rfl (by decide +kernel) ⟨(Nat.le_of_ble_eq_true rfl), (Nat.le_of_ble_eq_true rfl)⟩) (PcRC_V (q0 := 0) hPc hKc hN rfl rfl) rfl rfl hl.1 rfl (lv_room (Nat.le_of_ble_eq_true rfl)) dX10_values_18 ⟨(Nat.le_of_ble_eq_true rfl), (Nat.le_of_ble_eq_true rfl)⟩) hS (fun q _ h => hFc q h) hFc (fun r2 uu tt H locs htt hvm hw hB hz1 hk1 hS => ?_)
  have hP := va_keep hP hk1
  try dsimp only at hw
  clear hB hz1 hk1 hFc hPc hKc
  have hgr3 := hw
  refine lv_istore (lv' := [(4, .int r2), (3, .ref (ob 0)), (0, .ref (ox 0)), (1, .int (nI k)), (2, .int z2)]) hx hb dX10_values_21 hl (by decide) rfl (fun ls hl => ?_)
  refine lv_iload_n hx hb dX10_values_23 rfl (lv_at hl 4 rfl) ?_
  by_cases hs4 : z2 = 0
  ·
    subst hs4
    refine lv_tableIn (off := 28) (tgt := 52) hx hb dX10_values_24 (by decide) (by decide) (by decide +kernel) (by decide) ?_
    refine lv_iload hx hb dX10_values_52 (lv_at hl 0 rfl) ?_
    refine lv_if_ge (tgt := 63) hx hb dX10_values_54 (by decide) (fun hc5 => ?_) (fun hc5 => ?_)
    ·
      rcases hgr3 with ⟨e, -⟩ | ⟨yb, hyb, rfl, hmx⟩
      · exact absurd hc5 (by rw [e]; decide)
      refine lv_aload_n hx hb dX10_values_63 rfl (lv_at hl 1 rfl) ?_
      refine va_get (D := D) (ci := 9) (v := .ref (ob 2)) (C := RX9) (T := TX9) (N := 12) hx hb hts hin_X9 hown hK hP 2 rfl rfl 10 (by decide) (hts (.fieldLink RX10 93 "ClashFree$Table" "keys" "LClashFree$Keys;") (List.mem_of_getElem? (i := 5) rfl)) (fun _ h9 => h9) rfl dX10_values_64 ?_
      refine lv_iload hx hb dX10_values_67 (lv_at hl 0 rfl) ?_
      have hPc := hP.sub (ws' := [(ob 2, .inr (2, [.int (nI cn), .ref (ob 3), .ref (ob 4)])), (ob 3, .inl (cI, 160, .inl fk))]) [4, 5] rfl
      have hKc := hK.sub (tys' := [(cI, .int)]) [0] rfl
      have hFc := va_free0 hS hA
      refine va_calli (va_runV (As := [.int (nI yb)]) (rest := []) ⟨hx, hb, hml, hown, hts⟩ (k_keyAt l D _ ob cI cn fk (nI yb) hcz) (cwV 1 hts g_s_values_k_keyAt_197 rfl rfl rfl (by decide +kernel) ⟨(Nat.le_of_ble_eq_true rfl), (Nat.le_of_ble_eq_true rfl)⟩) (PcRC_V (q0 := 0) hPc hKc hN rfl rfl) rfl rfl hl.1 rfl (lv_room (Nat.le_of_ble_eq_true rfl)) dX10_values_69 ⟨(Nat.le_of_ble_eq_true rfl), (Nat.le_of_ble_eq_true rfl)⟩) hS (fun q _ h => hFc q h) hFc (fun r6 uu tt H locs htt hvm hw hB hz1 hk1 hS => ?_)
      have hP := va_keep hP hk1
      try dsimp only at hw
      clear hB hz1 hk1 hFc hPc hKc
      obtain ⟨hka_r6, hkb_r6⟩ := hw
      refine lv_i2l hx hb dX10_values_72 rfl ?_
      exact W.lret (v := Int32.toInt64 r6) hx hb hr (fun t ht hW => ⟨⟨Int32.toInt64 r6, (), rfl, (congrArg Int32.toInt64 ((hka_r6 yb hyb rfl).trans (hK1 yb hyb).1)).trans ((vaR_0s ((vaF_sp (tabl cn K fv) none 0).trans (congrArg (fun q => (q, smF (tabl cn K fv) 0)) hmx)) (by decide) rfl).symm.trans (vaA_1 (Ls := fun _ => tabl cn K fv) hk trivial (by decide)).symm), trivial⟩, hS.F ht⟩) hS.2.2 dX10_values_73
    ·
      have hmx := (hgr3.resolve_right (fun ⟨yb, hyb, e, _⟩ => hc5 (by rw [e]; exact nI_pos' (by omega)))).2
      refine lv_ldc2 (v := (-1)) hx hb hown (hts (.constantLong RX10 183 (-1)) (List.mem_of_getElem? (i := 13) rfl)) dX10_values_57 ?_
      refine lv_goto (tgt := 73) hx hb dX10_values_60 (by decide) ?_
      exact W.lret (v := (-1)) hx hb hr (fun t ht hW => ⟨⟨(-1), (), rfl, (vaR_0n ((vaF_sp (tabl cn K fv) none 0).trans (congrArg (fun q => (q, smF (tabl cn K fv) 0)) hmx)) (by decide) rfl).symm.trans (vaA_1 (Ls := fun _ => tabl cn K fv) hk trivial (by decide)).symm, trivial⟩, hS.F ht⟩) hS.2.2 dX10_values_73
  by_cases hs7 : z2 = 1
  ·
    subst hs7
    refine lv_tableIn (off := 50) (tgt := 74) hx hb dX10_values_24 (by decide) (by decide) (by decide +kernel) (by decide) ?_
    refine lv_iload hx hb dX10_values_74 (lv_at hl 0 rfl) ?_
    refine lv_if_ge (tgt := 85) hx hb dX10_values_76 (by decide) (fun hc8 => ?_) (fun hc8 => ?_)
    ·
      rcases hgr3 with ⟨e, -⟩ | ⟨yb, hyb, rfl, hmx⟩
      · exact absurd hc8 (by rw [e]; decide)
      refine lv_aload_n hx hb dX10_values_85 rfl (lv_at hl 1 rfl) ?_
      refine va_get (D := D) (ci := 9) (v := .ref (ob 2)) (C := RX9) (T := TX9) (N := 12) hx hb hts hin_X9 hown hK hP 2 rfl rfl 10 (by decide) (hts (.fieldLink RX10 93 "ClashFree$Table" "keys" "LClashFree$Keys;") (List.mem_of_getElem? (i := 5) rfl)) (fun _ h9 => h9) rfl dX10_values_86 ?_
      refine lv_iload hx hb dX10_values_89 (lv_at hl 0 rfl) ?_
      have hPc := hP.sub (ws' := [(ob 2, .inr (2, [.int (nI cn), .ref (ob 3), .ref (ob 4)])), (ob 4, .inl (cI, 160, .inl fv))]) [4, 6] rfl
      have hKc := hK.sub (tys' := [(cI, .int)]) [0] rfl
      have hFc := va_free0 hS hA
      refine va_calli (va_runV (As := [.int (nI yb)]) (rest := []) ⟨hx, hb, hml, hown, hts⟩ (k_valueAt l D _ ob cI cn fv (nI yb) hcz) (cwV 1 hts g_s_values_k_valueAt_103 rfl rfl rfl (by decide +kernel) ⟨(Nat.le_of_ble_eq_true rfl), (Nat.le_of_ble_eq_true rfl)⟩) (PcRC_V (q0 := 0) hPc hKc hN rfl rfl) rfl rfl hl.1 rfl (lv_room (Nat.le_of_ble_eq_true rfl)) dX10_values_91 ⟨(Nat.le_of_ble_eq_true rfl), (Nat.le_of_ble_eq_true rfl)⟩) hS (fun q _ h => hFc q h) hFc (fun r9 uu tt H locs htt hvm hw hB hz1 hk1 hS => ?_)
      have hP := va_keep hP hk1
      try dsimp only at hw
      clear hB hz1 hk1 hFc hPc hKc
      have hva_r9 := hw
      refine lv_i2l hx hb dX10_values_94 rfl ?_
      exact W.lret (v := Int32.toInt64 r9) hx hb hr (fun t ht hW => ⟨⟨Int32.toInt64 r9, (), rfl, (congrArg Int32.toInt64 (hva_r9 yb hyb rfl)).trans ((vaR_1s ((vaF_sp (tabl cn K fv) none 0).trans (congrArg (fun q => (q, smF (tabl cn K fv) 0)) hmx)) (by decide) (by decide)).symm.trans (vaA_1 (Ls := fun _ => tabl cn K fv) hk trivial (by decide)).symm), trivial⟩, hS.F ht⟩) hS.2.2 dX10_values_95
    ·
      have hmx := (hgr3.resolve_right (fun ⟨yb, hyb, e, _⟩ => hc8 (by rw [e]; exact nI_pos' (by omega)))).2
      refine lv_ldc2 (v := (-1000000000000000)) hx hb hown (hts (.constantLong RX10 91 (-1000000000000000)) (List.mem_of_getElem? (i := 17) rfl)) dX10_values_79 ?_
      refine lv_goto (tgt := 95) hx hb dX10_values_82 (by decide) ?_
      exact W.lret (v := (-1000000000000000)) hx hb hr (fun t ht hW => ⟨⟨(-1000000000000000), (), rfl, (vaR_1n ((vaF_sp (tabl cn K fv) none 0).trans (congrArg (fun q => (q, smF (tabl cn K fv) 0)) hmx)) (by decide) (by decide)).symm.trans (vaA_1 (Ls := fun _ => tabl cn K fv) hk trivial (by decide)).symm, trivial⟩, hS.F ht⟩) hS.2.2 dX10_values_95
  by_cases hs10 : z2 = 2
  ·
    subst hs10
    refine lv_tableIn (off := 72) (tgt := 96) hx hb dX10_values_24 (by decide) (by decide) (by decide +kernel) (by decide) ?_
    refine lv_aload_n hx hb dX10_values_96 rfl (lv_at hl 1 rfl) ?_
    refine va_get (D := D) (ci := 9) (v := .ref (ob 2)) (C := RX9) (T := TX9) (N := 12) hx hb hts hin_X9 hown hK hP 2 rfl rfl 10 (by decide) (hts (.fieldLink RX10 93 "ClashFree$Table" "keys" "LClashFree$Keys;") (List.mem_of_getElem? (i := 5) rfl)) (fun _ h9 => h9) rfl dX10_values_97 ?_
    have hPc := hP.sub (ws' := [(ob 2, .inr (2, [.int (nI cn), .ref (ob 3), .ref (ob 4)])), (ob 4, .inl (cI, 160, .inl fv))]) [4, 6] rfl
    have hKc := hK.sub (tys' := [(cI, .int)]) [0] rfl
    have hFc := va_free0 hS hA
    refine va_calll (va_runV (As := []) (rest := []) ⟨hx, hb, hml, hown, hts⟩ (k_valueSum l D _ ob cI cn fv K hcz) (cwV 0 hts g_s_values_k_valueSum_272 rfl rfl rfl (by decide +kernel) ⟨(Nat.le_of_ble_eq_true rfl), (Nat.le_of_ble_eq_true rfl)⟩) (PcRC_V (q0 := 0) hPc hKc hN rfl rfl) rfl rfl hl.1 rfl (lv_room (Nat.le_of_ble_eq_true rfl)) dX10_values_100 ⟨(Nat.le_of_ble_eq_true rfl), (Nat.le_of_ble_eq_true rfl)⟩) hS (fun q _ h => hFc q h) hFc (fun r11 uu tt H locs htt hvm hw hB hz1 hk1 hS => ?_)
    have hP := va_keep hP hk1
    try dsimp only at hw
    clear hB hz1 hk1 hFc hPc hKc
    have hvs12 := hw
    exact W.lret (v := r11) hx hb hr (fun t ht hW => ⟨⟨r11, (), rfl, (hvs12).trans ((vaR_2 (vaF_sp _ _ _) rfl).symm.trans (vaA_1 (Ls := fun _ => tabl cn K fv) hk trivial (by decide)).symm), trivial⟩, hS.F ht⟩) hS.2.2 dX10_values_103
  refine lv_tableOut (tgt := 104) hx hb dX10_values_24 (by have a0 := sw_ne (n := 0) hs4 (by decide) (by decide); have a1 := sw_ne (n := 1) hs7 (by decide) (by decide); have a2 := sw_ne (n := 2) hs10 (by decide) (by decide); omega) (by decide) ?_
  refine lv_ldc2 (v := (-1000000000000000)) hx hb hown (hts (.constantLong RX10 91 (-1000000000000000)) (List.mem_of_getElem? (i := 17) rfl)) dX10_values_104 ?_
  exact W.lret (v := (-1000000000000000)) hx hb hr (fun t ht hW => ⟨⟨(-1000000000000000), (), rfl, (vaA_0 (fun q => by
      have a0 := sw_ne (n := 0) hs4 (by decide) (by decide)
      have a1 := sw_ne (n := 1) hs7 (by decide) (by decide)
      have a2 := sw_ne (n := 2) hs10 (by decide) (by decide)
      have q1 := Int32.le_iff_toInt_le.mp q.2.1
      have q2 := Int32.le_iff_toInt_le.mp q.2.2
      have e0 : (0 : Int32).toInt = 0 := by decide
      have e2 : (2 : Int32).toInt = 2 := by decide
      omega)).symm, trivial⟩, hS.F ht⟩) hS.2.2 dX10_values_107

def own_s_walk : List Cond := [.methodLink RX10 74 yX10_tableAt, .instanceMethod yX10_tableAt, .selects RX10 yX10_tableAt yX10_tableAt, .initialized RX10, .fieldLink RX10 93 "ClashFree$Table" "keys" "LClashFree$Keys;", .fieldLink RX10 121 "ClashFree$Keys" "size" "I", .fieldLink RX10 130 "ClashFree$Table" "layout" "LClashFree$Layout;", .methodLink RX10 206 yX3_nthByRooms, .instanceMethod yX3_nthByRooms, .selects RX3 yX3_nthByRooms yX3_nthByRooms, .initialized RX3, .methodLink RX10 197 yX2_keyAt, .instanceMethod yX2_keyAt, .selects RX2 yX2_keyAt yX2_keyAt, .initialized RX2]
def wp_s_walk : List Cond := .code yX10_walk cX10_walk 5 (some .int) :: (own_s_walk ++ (wp_k_tabS ++ (wp_k_nth ++ (wp_k_keyAt ++ (wsX90 ++ (wsX20 ++ ([] : List Cond)))))))
set_option maxRecDepth 20000 in
theorem inown_s_walk : ∀ w ∈ own_s_walk, w ∈ lw_tbl := mem_places [610, 612, 2, 106, 518, 476, 522, 752, 753, 754, 109, 734, 735, 736, 117] (by decide +kernel)
set_option maxRecDepth 20000 in
theorem in_s_walk : ∀ w ∈ wp_s_walk, w ∈ lw_tbl := List.forall_mem_cons.mpr ⟨List.mem_of_getElem? (i := 751) (by decide +kernel), List.forall_mem_append.mpr ⟨inown_s_walk, List.forall_mem_append.mpr ⟨in_k_tabS, List.forall_mem_append.mpr ⟨in_k_nth, List.forall_mem_append.mpr ⟨in_k_keyAt, List.forall_mem_append.mpr ⟨lwb_X9, List.forall_mem_append.mpr ⟨lwb_X2, fun _ h => absurd h List.not_mem_nil⟩⟩⟩⟩⟩⟩⟩
set_option maxRecDepth 20000 in
theorem good_s_walk : wp_s_walk.all goodWord = true := by decide +kernel
set_option maxRecDepth 20000 in
theorem g_s_walk_k_tabS_74 : GoodIn wp_s_walk (wsV RX10 74 RX10 yX10_tableAt wp_k_tabS) := goodIn_sub (List.forall_mem_append.mpr ⟨List.forall_mem_cons.mpr ⟨(List.mem_of_getElem? (i := 1) rfl), List.forall_mem_cons.mpr ⟨(List.mem_of_getElem? (i := 2) rfl), List.forall_mem_cons.mpr ⟨(List.mem_of_getElem? (i := 3) rfl), List.forall_mem_cons.mpr ⟨(List.mem_of_getElem? (i := 4) rfl), fun _ h => absurd h List.not_mem_nil⟩⟩⟩⟩, (fun _ h => (List.mem_cons_of_mem _ (List.mem_append_right _ (List.mem_append_left _ h))))⟩) (by decide +kernel)
set_option maxRecDepth 20000 in
theorem g_s_walk_k_nth_206 : GoodIn wp_s_walk (wsV RX10 206 RX3 yX3_nthByRooms wp_k_nth) := goodIn_sub (List.forall_mem_append.mpr ⟨List.forall_mem_cons.mpr ⟨(List.mem_of_getElem? (i := 8) rfl), List.forall_mem_cons.mpr ⟨(List.mem_of_getElem? (i := 9) rfl), List.forall_mem_cons.mpr ⟨(List.mem_of_getElem? (i := 10) rfl), List.forall_mem_cons.mpr ⟨(List.mem_of_getElem? (i := 11) rfl), fun _ h => absurd h List.not_mem_nil⟩⟩⟩⟩, (fun _ h => (List.mem_cons_of_mem _ (List.mem_append_right _ (List.mem_append_right _ (List.mem_append_left _ h)))))⟩) (by decide +kernel)
set_option maxRecDepth 20000 in
theorem g_s_walk_k_keyAt_197 : GoodIn wp_s_walk (wsV RX10 197 RX2 yX2_keyAt wp_k_keyAt) := goodIn_sub (List.forall_mem_append.mpr ⟨List.forall_mem_cons.mpr ⟨(List.mem_of_getElem? (i := 12) rfl), List.forall_mem_cons.mpr ⟨(List.mem_of_getElem? (i := 13) rfl), List.forall_mem_cons.mpr ⟨(List.mem_of_getElem? (i := 14) rfl), List.forall_mem_cons.mpr ⟨(List.mem_of_getElem? (i := 15) rfl), fun _ h => absurd h List.not_mem_nil⟩⟩⟩⟩, (fun _ h => (List.mem_cons_of_mem _ (List.mem_append_right _ (List.mem_append_right _ (List.mem_append_right _ (List.mem_append_left _ h))))))⟩) (by decide +kernel)
set_option maxHeartbeats 4000000 in
set_option maxRecDepth 100000 in
theorem s_walk (l : Launch) (D : va_G) (sz : Nat) (ox : Nat → Nat) (ob3 : Nat → Nat) (og : Nat → Nat) (oq : Nat → Nat) (ow : Nat → Nat) (ob : Nat → Nat) (cI : ClassId) (cT : ClassId) (tp : Nat) (ft : Nat → Option Nat) (tb : Int32) (ts : Int32) (tg : Int32) (tl : Int32) (tc : Int32) (tr : Int32) (tu : Int32) (tv : Int32) (tw : Int32) (sd : Int64) (da : Nat) (db : Nat) (pr : Int32) (cn : Nat) (fk : Nat → Int32) (fv : Nat → Int32) (nb : Nat) (ka : Nat) (kb : Nat) (sm : Int32) (ln : Nat) (fh : Nat → Int32) (ff : Nat → Int32) (fa : Nat → Int32) (fs : Nat → Int32) (fj : Nat → Int32) (fr : Nat → Int32) (fo : Nat → Int32) (fx : Nat → Int32) (k : Nat) (z2 : Int32) (hk : k < 4) (hft : ft k = some (ob 0)) (hTb : TbI fk fj fh fo cn nb ka kb ln da db) : Met l yX10_walk wp_s_walk ({ frames := 2, cells := 0, slots := 0, locals := 67 }) (PcWC D [.ref (ox 0), .int (nI k), .int z2] sz [(ox 0, .inr (10, [.ref (ox 1), .ref (ox 2), .int (nI tp), .ref (ob3 0), .ref (og 0), .ref (oq 0), .ref (ow 0)])), (ox 1, .inl (cT, 4, .inr (.inr (.inr (.inr ft))))), (ob 0, .inr (9, gT ob tb ts tg tl tc tr tu tv tw)), (ob 1, .inr (0, [.long sd, .int (nI da), .int (nI db), .int pr])), (ob 2, .inr (2, [.int (nI cn), .ref (ob 3), .ref (ob 4)])), (ob 3, .inl (cI, 160, .inl fk)), (ob 4, .inl (cI, 160, .inl fv)), (ob 5, .inr (3, gY ob (nI nb) (nI ka) (nI kb) sm (nI ln))), (ob 6, .inl (cI, 2048, .inl fh)), (ob 7, .inl (cI, 2048, .inl ff)), (ob 8, .inl (cI, 2048, .inl fa)), (ob 9, .inl (cI, 2048, .inl fs)), (ob 10, .inl (cI, 160, .inl fj)), (ob 11, .inl (cI, 160, .inl fr)), (ob 12, .inl (cI, 160, .inl fo)), (ob 13, .inl (cI, 2048, .inl fx))] [(cI, .int), (cT, .object RX9)]) (va_Qi (fun (r : Int32) (u : (Nat → Int32)) => TbI fk fj fh u cn nb ka kb ln da db) (fun (u : (Nat → Int32)) t => va_P D vwCl [(ox 0, .inr (10, [.ref (ox 1), .ref (ox 2), .int (nI tp), .ref (ob3 0), .ref (og 0), .ref (oq 0), .ref (ow 0)])), (ox 1, .inl (cT, 4, .inr (.inr (.inr (.inr ft))))), (ob 0, .inr (9, gT ob tb ts tg tl tc tr tu tv tw)), (ob 1, .inr (0, [.long sd, .int (nI da), .int (nI db), .int pr])), (ob 2, .inr (2, [.int (nI cn), .ref (ob 3), .ref (ob 4)])), (ob 3, .inl (cI, 160, .inl fk)), (ob 4, .inl (cI, 160, .inl fv)), (ob 5, .inr (3, gY ob (nI nb) (nI ka) (nI kb) sm (nI ln))), (ob 6, .inl (cI, 2048, .inl fh)), (ob 7, .inl (cI, 2048, .inl ff)), (ob 8, .inl (cI, 2048, .inl fa)), (ob 9, .inl (cI, 2048, .inl fs)), (ob 10, .inl (cI, 160, .inl fj)), (ob 11, .inl (cI, 160, .inl fr)), (ob 12, .inl (cI, 160, .inl u)), (ob 13, .inl (cI, 2048, .inl fx))] t.heap ∧ va_K D vwCl [(cI, .int), (cT, .object RX9)] t ∧ va_D (va_A [(ox 0, .inr (10, [.ref (ox 1), .ref (ox 2), .int (nI tp), .ref (ob3 0), .ref (og 0), .ref (oq 0), .ref (ow 0)])), (ox 1, .inl (cT, 4, .inr (.inr (.inr (.inr ft))))), (ob 0, .inr (9, gT ob tb ts tg tl tc tr tu tv tw)), (ob 1, .inr (0, [.long sd, .int (nI da), .int (nI db), .int pr])), (ob 2, .inr (2, [.int (nI cn), .ref (ob 3), .ref (ob 4)])), (ob 3, .inl (cI, 160, .inl fk)), (ob 4, .inl (cI, 160, .inl fv)), (ob 5, .inr (3, gY ob (nI nb) (nI ka) (nI kb) sm (nI ln))), (ob 6, .inl (cI, 2048, .inl fh)), (ob 7, .inl (cI, 2048, .inl ff)), (ob 8, .inl (cI, 2048, .inl fa)), (ob 9, .inl (cI, 2048, .inl fs)), (ob 10, .inl (cI, 160, .inl fj)), (ob 11, .inl (cI, 160, .inl fr)), (ob 12, .inl (cI, 160, .inl fo)), (ob 13, .inl (cI, 2048, .inl fx))] sz) [(ox 0, .inr (10, [.ref (ox 1), .ref (ox 2), .int (nI tp), .ref (ob3 0), .ref (og 0), .ref (oq 0), .ref (ow 0)])), (ox 1, .inl (cT, 4, .inr (.inr (.inr (.inr ft))))), (ob 0, .inr (9, gT ob tb ts tg tl tc tr tu tv tw)), (ob 1, .inr (0, [.long sd, .int (nI da), .int (nI db), .int pr])), (ob 2, .inr (2, [.int (nI cn), .ref (ob 3), .ref (ob 4)])), (ob 3, .inl (cI, 160, .inl fk)), (ob 4, .inl (cI, 160, .inl fv)), (ob 5, .inr (3, gY ob (nI nb) (nI ka) (nI kb) sm (nI ln))), (ob 6, .inl (cI, 2048, .inl fh)), (ob 7, .inl (cI, 2048, .inl ff)), (ob 8, .inl (cI, 2048, .inl fa)), (ob 9, .inl (cI, 2048, .inl fs)), (ob 10, .inl (cI, 160, .inl fj)), (ob 11, .inl (cI, 160, .inl fr)), (ob 12, .inl (cI, 160, .inl u)), (ob 13, .inl (cI, 2048, .inl fx))]) (va_A [(ox 0, .inr (10, [.ref (ox 1), .ref (ox 2), .int (nI tp), .ref (ob3 0), .ref (og 0), .ref (oq 0), .ref (ow 0)])), (ox 1, .inl (cT, 4, .inr (.inr (.inr (.inr ft))))), (ob 0, .inr (9, gT ob tb ts tg tl tc tr tu tv tw)), (ob 1, .inr (0, [.long sd, .int (nI da), .int (nI db), .int pr])), (ob 2, .inr (2, [.int (nI cn), .ref (ob 3), .ref (ob 4)])), (ob 3, .inl (cI, 160, .inl fk)), (ob 4, .inl (cI, 160, .inl fv)), (ob 5, .inr (3, gY ob (nI nb) (nI ka) (nI kb) sm (nI ln))), (ob 6, .inl (cI, 2048, .inl fh)), (ob 7, .inl (cI, 2048, .inl ff)), (ob 8, .inl (cI, 2048, .inl fa)), (ob 9, .inl (cI, 2048, .inl fs)), (ob 10, .inl (cI, 160, .inl fj)), (ob 11, .inl (cI, 160, .inl fr)), (ob 12, .inl (cI, 160, .inl fo)), (ob 13, .inl (cI, 2048, .inl fx))] sz)) 0 0 (va_A [(ox 0, .inr (10, [.ref (ox 1), .ref (ox 2), .int (nI tp), .ref (ob3 0), .ref (og 0), .ref (oq 0), .ref (ow 0)])), (ox 1, .inl (cT, 4, .inr (.inr (.inr (.inr ft))))), (ob 0, .inr (9, gT ob tb ts tg tl tc tr tu tv tw)), (ob 1, .inr (0, [.long sd, .int (nI da), .int (nI db), .int pr])), (ob 2, .inr (2, [.int (nI cn), .ref (ob 3), .ref (ob 4)])), (ob 3, .inl (cI, 160, .inl fk)), (ob 4, .inl (cI, 160, .inl fv)), (ob 5, .inr (3, gY ob (nI nb) (nI ka) (nI kb) sm (nI ln))), (ob 6, .inl (cI, 2048, .inl fh)), (ob 7, .inl (cI, 2048, .inl ff)), (ob 8, .inl (cI, 2048, .inl fa)), (ob 9, .inl (cI, 2048, .inl fs)), (ob 10, .inl (cI, 160, .inl fj)), (ob 11, .inl (cI, 160, .inl fr)), (ob 12, .inl (cI, 160, .inl fo)), (ob 13, .inl (cI, 2048, .inl fx))] sz) := by
  refine Met.ofW (cc := cX10_walk) (maxL := 5) (ret := (some .int)) (by decide) rfl ?_
  intro p e s m args below meth c s₁ B hml hv
  obtain ⟨rfl, hsz, hP, hK, hD0, hN⟩ := hv
  have hx := B.exec
  have hb := B.bytes
  have hr := B.returns
  have hts := atoms_spec (ws := wp_s_walk) B.pre
  have hin_X9 : ∀ w ∈ wsX90, w ∈ wp_s_walk := fun _ h => (List.mem_cons_of_mem _ (List.mem_append_right _ (List.mem_append_right _ (List.mem_append_right _ (List.mem_append_right _ (List.mem_append_left _ h))))))
  have hin_X2 : ∀ w ∈ wsX20, w ∈ wp_s_walk := fun _ h => (List.mem_cons_of_mem _ (List.mem_append_right _ (List.mem_append_right _ (List.mem_append_right _ (List.mem_append_right _ (List.mem_append_right _ (List.mem_append_left _ h)))))))
  have hown : s.vm.findClass RX10 = some m.cls := findClass_of_methodNamed B.named
  have hlocks := B.notSynchronized
  subst hsz
  have hD := hD0.self (sz := s.heap.size)
  generalize hAe : va_A [(ox 0, .inr (10, [.ref (ox 1), .ref (ox 2), .int (nI tp), .ref (ob3 0), .ref (og 0), .ref (oq 0), .ref (ow 0)])), (ox 1, .inl (cT, 4, .inr (.inr (.inr (.inr ft))))), (ob 0, .inr (9, gT ob tb ts tg tl tc tr tu tv tw)), (ob 1, .inr (0, [.long sd, .int (nI da), .int (nI db), .int pr])), (ob 2, .inr (2, [.int (nI cn), .ref (ob 3), .ref (ob 4)])), (ob 3, .inl (cI, 160, .inl fk)), (ob 4, .inl (cI, 160, .inl fv)), (ob 5, .inr (3, gY ob (nI nb) (nI ka) (nI kb) sm (nI ln))), (ob 6, .inl (cI, 2048, .inl fh)), (ob 7, .inl (cI, 2048, .inl ff)), (ob 8, .inl (cI, 2048, .inl fa)), (ob 9, .inl (cI, 2048, .inl fs)), (ob 10, .inl (cI, 160, .inl fj)), (ob 11, .inl (cI, 160, .inl fr)), (ob 12, .inl (cI, 160, .inl fo)), (ob 13, .inl (cI, 2048, .inl fx))] s.heap.size = A at hD ⊢
  have hA : ∀ q : Nat, s.heap.size ≤ q → A q := fun q h => by rw [← hAe]; exact Or.inr h
  have hS : va_S A s.heap s.heap [] := va_S.rf
  have hP : va_P D vwCl [(ox 0, .inr (10, [.ref (ox 1), .ref (ox 2), .int (nI tp), .ref (ob3 0), .ref (og 0), .ref (oq 0), .ref (ow 0)])), (ox 1, .inl (cT, 4, .inr (.inr (.inr (.inr ft))))), (ob 0, .inr (9, gT ob tb ts tg tl tc tr tu tv tw)), (ob 1, .inr (0, [.long sd, .int (nI da), .int (nI db), .int pr])), (ob 2, .inr (2, [.int (nI cn), .ref (ob 3), .ref (ob 4)])), (ob 3, .inl (cI, 160, .inl fk)), (ob 4, .inl (cI, 160, .inl fv)), (ob 5, .inr (3, gY ob (nI nb) (nI ka) (nI kb) sm (nI ln))), (ob 6, .inl (cI, 2048, .inl fh)), (ob 7, .inl (cI, 2048, .inl ff)), (ob 8, .inl (cI, 2048, .inl fa)), (ob 9, .inl (cI, 2048, .inl fs)), (ob 10, .inl (cI, 160, .inl fj)), (ob 11, .inl (cI, 160, .inl fr)), (ob 12, .inl (cI, 160, .inl fo)), (ob 13, .inl (cI, 2048, .inl fx))] s.heap := hP
  have hl := lv_entry ([.ref (ox 0), .int (nI k), .int z2]) (n := 5) (Nat.le_of_ble_eq_true rfl)
  rw [lg_entry_eq]
  generalize (lg_sl ([.ref (ox 0), .int (nI k), .int z2]) ++ List.replicate (5 - (lg_sl ([.ref (ox 0), .int (nI k), .int z2])).length) Slot.unset).toArray = ls at hl ⊢
  have hl : lv_has ls 5 [(0, .ref (ox 0)), (1, .int (nI k)), (2, .int z2)] := hl
  obtain ⟨hky, hL, hO, hn1, hka, hkb, hda, hdb⟩ := id hTb
  have hnb := hL.1
  have hln := hL.2.1
  have hc := hky.1
  have hcz := hky.1
  refine lv_aload_n hx hb dX10_walk_0 rfl (lv_at hl 0 rfl) ?_
  refine lv_iload_n hx hb dX10_walk_1 rfl (lv_at hl 1 rfl) ?_
  have hPc := hP.sub (ws' := [(ox 0, .inr (10, [.ref (ox 1), .ref (ox 2), .int (nI tp), .ref (ob3 0), .ref (og 0), .ref (oq 0), .ref (ow 0)])), (ox 1, .inl (cT, 4, .inr (.inr (.inr (.inr ft)))))]) [0, 1] rfl
  have hKc := hK.sub (tys' := [(cT, .object RX9)]) [1] rfl
  have hFc := va_free0 hS hA
  refine va_callq (va_runV (As := [.int (nI k)]) (rest := []) ⟨hx, hb, hml, hown, hts⟩ (k_tabS l D _ ox ob3 og oq ow cI cT tp ft k (ob 0) hk hft) (cwV 1 hts g_s_walk_k_tabS_74 rfl rfl rfl (by decide +kernel) ⟨(Nat.le_of_ble_eq_true rfl), (Nat.le_of_ble_eq_true rfl)⟩) (PcRC_V (q0 := 0) hPc hKc hN rfl rfl) rfl rfl hl.1 rfl (lv_room (Nat.le_of_ble_eq_true rfl)) dX10_walk_2 ⟨(Nat.le_of_ble_eq_true rfl), (Nat.le_of_ble_eq_true rfl)⟩) hS (fun q _ h => hFc q h) hFc (fun r1 uu tt H locs htt hvm hw hB hz1 hk1 hS => ?_)
  have hP := va_keep hP hk1
  try dsimp only at hw
  clear hB hz1 hk1 hFc hPc hKc
  obtain rfl : r1 = some (ob 0) := hw
  refine W.eq (g2 := F0 m 5 ls [.ref (ob 0)]) rfl ?_
  refine lv_astore_n (lv' := [(3, .ref (ob 0)), (0, .ref (ox 0)), (1, .int (nI k)), (2, .int z2)]) hx hb dX10_walk_5 rfl hl (by decide) rfl (fun ls hl => ?_)
  refine lv_aload_n hx hb dX10_walk_6 rfl (lv_at hl 0 rfl) ?_
  refine lv_ifnull hx hb dX10_walk_7 ?_
  refine lv_iload_n hx hb dX10_walk_10 rfl (lv_at hl 3 rfl) ?_
  refine lv_if_lt (tgt := 25) hx hb dX10_walk_11 (by decide) (fun hc2 => ?_) (fun hc2 => ?_)
  ·
    refine lv_iconst (v := (-1)) hx hb dX10_walk_25 (by decide) ?_
    exact W.iret (v := (-1)) hx hb hr (fun t ht hW => ⟨⟨(-1), fo, rfl, ⟨hky, hL, hO, hn1, hka, hkb, hda, hdb⟩, by rw [ht]; exact hP.sub [0, 1, 2, 3, 4, 5, 6, 7, 8, 9, 10, 11, 12, 13, 14, 15] rfl, va_K.moved hW.alike (hK.sub [0, 1] rfl), hD.sub [0, 1, 2, 3, 4, 5, 6, 7, 8, 9, 10, 11, 12, 13, 14, 15] (by decide) rfl⟩, hS.F ht⟩) hS.2.2 dX10_walk_26
  ·
    refine lv_iload_n hx hb dX10_walk_14 rfl (lv_at hl 3 rfl) ?_
    refine lv_aload_n hx hb dX10_walk_15 rfl (lv_at hl 0 rfl) ?_
    refine va_get (D := D) (ci := 9) (v := .ref (ob 2)) (C := RX9) (T := TX9) (N := 12) hx hb hts hin_X9 hown hK hP 2 rfl rfl 10 (by decide) (hts (.fieldLink RX10 93 "ClashFree$Table" "keys" "LClashFree$Keys;") (List.mem_of_getElem? (i := 5) rfl)) (fun _ h9 => h9) rfl dX10_walk_16 ?_
    refine va_get (D := D) (ci := 2) (v := .int (nI cn)) (C := RX2) (T := TX2) (N := 3) hx hb hts hin_X2 hown hK hP 4 rfl rfl 0 (by decide) (hts (.fieldLink RX10 121 "ClashFree$Keys" "size" "I") (List.mem_of_getElem? (i := 6) rfl)) (fun _ h9 => h9) rfl dX10_walk_19 ?_
    refine lv_icmp_lt (tgt := 27) hx hb dX10_walk_22 (by decide) (fun hc3 => ?_) (fun hc3 => ?_)
    ·
      refine lv_aload_n hx hb dX10_walk_27 rfl (lv_at hl 0 rfl) ?_
      refine va_get (D := D) (ci := 9) (v := .ref (ob 5)) (C := RX9) (T := TX9) (N := 12) hx hb hts hin_X9 hown hK hP 2 rfl rfl 11 (by decide) (hts (.fieldLink RX10 130 "ClashFree$Table" "layout" "LClashFree$Layout;") (List.mem_of_getElem? (i := 7) rfl)) (fun _ h9 => h9) rfl dX10_walk_28 ?_
      refine lv_iload_n hx hb dX10_walk_31 rfl (lv_at hl 3 rfl) ?_
      have hPc := hP.sub (ws' := [(ob 5, .inr (3, gY ob (nI nb) (nI ka) (nI kb) sm (nI ln))), (ob 6, .inl (cI, 2048, .inl fh)), (ob 10, .inl (cI, 160, .inl fj)), (ob 11, .inl (cI, 160, .inl fr)), (ob 12, .inl (cI, 160, .inl fo))]) [7, 8, 12, 13, 14] rfl
      have hKc := hK.sub (tys' := [(cI, .int)]) [0] rfl
      have hDc := hD.sub (ws' := [(ob 5, .inr (3, gY ob (nI nb) (nI ka) (nI kb) sm (nI ln))), (ob 6, .inl (cI, 2048, .inl fh)), (ob 10, .inl (cI, 160, .inl fj)), (ob 11, .inl (cI, 160, .inl fr)), (ob 12, .inl (cI, 160, .inl fo))]) [7, 8, 12, 13, 14] (by decide) rfl
      have hFc := va_free (wc := [(ob 5, .inr (3, gY ob (nI nb) (nI ka) (nI kb) sm (nI ln))), (ob 6, .inl (cI, 2048, .inl fh)), (ob 10, .inl (cI, 160, .inl fj)), (ob 11, .inl (cI, 160, .inl fr)), (ob 12, .inl (cI, 160, .inl fo))]) hD hS hA [7, 8, 12, 13, 14] rfl
      refine va_calli (va_runV (As := [.int z2]) (rest := []) ⟨hx, hb, hml, hown, hts⟩ (k_nth l D _ ob cI nb ka kb sm ln fh fj fr fo z2 hnb hln hO) (cwV 1 hts g_s_walk_k_nth_206 rfl rfl rfl (by decide +kernel) ⟨(Nat.le_of_ble_eq_true rfl), (Nat.le_of_ble_eq_true rfl)⟩) (PcWC_V (q0 := 0) hPc hKc hDc hN rfl rfl) rfl rfl hl.1 rfl (lv_room (Nat.le_of_ble_eq_true rfl)) dX10_walk_32 ⟨(Nat.le_of_ble_eq_true rfl), (Nat.le_of_ble_eq_true rfl)⟩) hS (fun q _ h => hFc q h) hFc (fun r4 uu tt H locs htt hvm hw hB hz1 hk1 hS => ?_)
      obtain ⟨w5, rfl⟩ : ∃ z, z = uu := ⟨_, rfl⟩
      obtain ⟨hP1, hK1, hD1⟩ := hB
      rw [htt] at hP1
      have hK1 := va_K.moved hvm.symm hK1
      have hP1 : va_P D vwCl [(ob 5, .inr (3, gY ob (nI nb) (nI ka) (nI kb) sm (nI ln))), (ob 6, .inl (cI, 2048, .inl fh)), (ob 10, .inl (cI, 160, .inl fj)), (ob 11, .inl (cI, 160, .inl fr)), (ob 12, .inl (cI, 160, .inl w5))] H := hP1
      obtain ⟨hP, hD⟩ := va_join (wr := [(ox 0, .inr (10, [.ref (ox 1), .ref (ox 2), .int (nI tp), .ref (ob3 0), .ref (og 0), .ref (oq 0), .ref (ow 0)])), (ox 1, .inl (cT, 4, .inr (.inr (.inr (.inr ft))))), (ob 0, .inr (9, gT ob tb ts tg tl tc tr tu tv tw)), (ob 1, .inr (0, [.long sd, .int (nI da), .int (nI db), .int pr])), (ob 2, .inr (2, [.int (nI cn), .ref (ob 3), .ref (ob 4)])), (ob 3, .inl (cI, 160, .inl fk)), (ob 4, .inl (cI, 160, .inl fv)), (ob 7, .inl (cI, 2048, .inl ff)), (ob 8, .inl (cI, 2048, .inl fa)), (ob 9, .inl (cI, 2048, .inl fs)), (ob 13, .inl (cI, 2048, .inl fx))]) (w1 := [(ob 5, .inr (3, gY ob (nI nb) (nI ka) (nI kb) sm (nI ln))), (ob 6, .inl (cI, 2048, .inl fh)), (ob 10, .inl (cI, 160, .inl fj)), (ob 11, .inl (cI, 160, .inl fr)), (ob 12, .inl (cI, 160, .inl w5))]) hP hD [7, 8, 12, 13, 14] [0, 1, 2, 3, 4, 5, 6, 9, 10, 11, 15] rfl rfl (by decide) (by decide) hk1 hFc hP1 hD1
      have hP : va_P D vwCl [(ox 0, .inr (10, [.ref (ox 1), .ref (ox 2), .int (nI tp), .ref (ob3 0), .ref (og 0), .ref (oq 0), .ref (ow 0)])), (ox 1, .inl (cT, 4, .inr (.inr (.inr (.inr ft))))), (ob 0, .inr (9, gT ob tb ts tg tl tc tr tu tv tw)), (ob 1, .inr (0, [.long sd, .int (nI da), .int (nI db), .int pr])), (ob 2, .inr (2, [.int (nI cn), .ref (ob 3), .ref (ob 4)])), (ob 3, .inl (cI, 160, .inl fk)), (ob 4, .inl (cI, 160, .inl fv)), (ob 7, .inl (cI, 2048, .inl ff)), (ob 8, .inl (cI, 2048, .inl fa)), (ob 9, .inl (cI, 2048, .inl fs)), (ob 13, .inl (cI, 2048, .inl fx)), (ob 5, .inr (3, gY ob (nI nb) (nI ka) (nI kb) sm (nI ln))), (ob 6, .inl (cI, 2048, .inl fh)), (ob 10, .inl (cI, 160, .inl fj)), (ob 11, .inl (cI, 160, .inl fr)), (ob 12, .inl (cI, 160, .inl w5))] H := hP
      have hD : va_D A [(ox 0, .inr (10, [.ref (ox 1), .ref (ox 2), .int (nI tp), .ref (ob3 0), .ref (og 0), .ref (oq 0), .ref (ow 0)])), (ox 1, .inl (cT, 4, .inr (.inr (.inr (.inr ft))))), (ob 0, .inr (9, gT ob tb ts tg tl tc tr tu tv tw)), (ob 1, .inr (0, [.long sd, .int (nI da), .int (nI db), .int pr])), (ob 2, .inr (2, [.int (nI cn), .ref (ob 3), .ref (ob 4)])), (ob 3, .inl (cI, 160, .inl fk)), (ob 4, .inl (cI, 160, .inl fv)), (ob 7, .inl (cI, 2048, .inl ff)), (ob 8, .inl (cI, 2048, .inl fa)), (ob 9, .inl (cI, 2048, .inl fs)), (ob 13, .inl (cI, 2048, .inl fx)), (ob 5, .inr (3, gY ob (nI nb) (nI ka) (nI kb) sm (nI ln))), (ob 6, .inl (cI, 2048, .inl fh)), (ob 10, .inl (cI, 160, .inl fj)), (ob 11, .inl (cI, 160, .inl fr)), (ob 12, .inl (cI, 160, .inl w5))] := hD
      try dsimp only at hw
      clear hz1 hk1 hFc hPc hKc hDc
      have hO6 := hw
      refine lv_istore (lv' := [(4, .int r4), (3, .ref (ob 0)), (0, .ref (ox 0)), (1, .int (nI k)), (2, .int z2)]) hx hb dX10_walk_35 hl (by decide) rfl (fun ls hl => ?_)
      refine lv_iload hx hb dX10_walk_37 (lv_at hl 0 rfl) ?_
      refine lv_if_ge (tgt := 46) hx hb dX10_walk_39 (by decide) (fun hc7 => ?_) (fun hc7 => ?_)
      ·
        refine lv_aload_n hx hb dX10_walk_46 rfl (lv_at hl 1 rfl) ?_
        refine va_get (D := D) (ci := 9) (v := .ref (ob 2)) (C := RX9) (T := TX9) (N := 12) hx hb hts hin_X9 hown hK hP 2 rfl rfl 10 (by decide) (hts (.fieldLink RX10 93 "ClashFree$Table" "keys" "LClashFree$Keys;") (List.mem_of_getElem? (i := 5) rfl)) (fun _ h9 => h9) rfl dX10_walk_47 ?_
        refine lv_iload hx hb dX10_walk_50 (lv_at hl 0 rfl) ?_
        have hPc := hP.sub (ws' := [(ob 2, .inr (2, [.int (nI cn), .ref (ob 3), .ref (ob 4)])), (ob 3, .inl (cI, 160, .inl fk))]) [4, 5] rfl
        have hKc := hK.sub (tys' := [(cI, .int)]) [0] rfl
        have hFc := va_free0 hS hA
        refine va_calli (va_runV (As := [.int r4]) (rest := []) ⟨hx, hb, hml, hown, hts⟩ (k_keyAt l D _ ob cI cn fk r4 hcz) (cwV 1 hts g_s_walk_k_keyAt_197 rfl rfl rfl (by decide +kernel) ⟨(Nat.le_of_ble_eq_true rfl), (Nat.le_of_ble_eq_true rfl)⟩) (PcRC_V (q0 := 0) hPc hKc hN rfl rfl) rfl rfl hl.1 rfl (lv_room (Nat.le_of_ble_eq_true rfl)) dX10_walk_52 ⟨(Nat.le_of_ble_eq_true rfl), (Nat.le_of_ble_eq_true rfl)⟩) hS (fun q _ h => hFc q h) hFc (fun r8 uu tt H locs htt hvm hw hB hz1 hk1 hS => ?_)
        have hP := va_keep hP hk1
        try dsimp only at hw
        clear hB hz1 hk1 hFc hPc hKc
        obtain ⟨hka_r8, hkb_r8⟩ := hw
        exact W.iret (v := r8) hx hb hr (fun t ht hW => ⟨⟨r8, w5, rfl, ⟨hky, hL, hO6, hn1, hka, hkb, hda, hdb⟩, by rw [ht]; exact hP.sub [0, 1, 2, 3, 4, 5, 6, 11, 12, 7, 8, 9, 13, 14, 15, 10] rfl, va_K.moved hW.alike (hK.sub [0, 1] rfl), hD.sub [0, 1, 2, 3, 4, 5, 6, 11, 12, 7, 8, 9, 13, 14, 15, 10] (by decide) rfl⟩, hS.F ht⟩) hS.2.2 dX10_walk_55
      ·
        refine lv_iconst (v := (-1)) hx hb dX10_walk_42 (by decide) ?_
        refine lv_goto (tgt := 55) hx hb dX10_walk_43 (by decide) ?_
        exact W.iret (v := (-1)) hx hb hr (fun t ht hW => ⟨⟨(-1), w5, rfl, ⟨hky, hL, hO6, hn1, hka, hkb, hda, hdb⟩, by rw [ht]; exact hP.sub [0, 1, 2, 3, 4, 5, 6, 11, 12, 7, 8, 9, 13, 14, 15, 10] rfl, va_K.moved hW.alike (hK.sub [0, 1] rfl), hD.sub [0, 1, 2, 3, 4, 5, 6, 11, 12, 7, 8, 9, 13, 14, 15, 10] (by decide) rfl⟩, hS.F ht⟩) hS.2.2 dX10_walk_55
    ·
      refine lv_iconst (v := (-1)) hx hb dX10_walk_25 (by decide) ?_
      exact W.iret (v := (-1)) hx hb hr (fun t ht hW => ⟨⟨(-1), fo, rfl, ⟨hky, hL, hO, hn1, hka, hkb, hda, hdb⟩, by rw [ht]; exact hP.sub [0, 1, 2, 3, 4, 5, 6, 7, 8, 9, 10, 11, 12, 13, 14, 15] rfl, va_K.moved hW.alike (hK.sub [0, 1] rfl), hD.sub [0, 1, 2, 3, 4, 5, 6, 7, 8, 9, 10, 11, 12, 13, 14, 15] (by decide) rfl⟩, hS.F ht⟩) hS.2.2 dX10_walk_26

