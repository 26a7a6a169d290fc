theorem dX10_has_14 : decode cX10_has 14 = .ok (.iload_n 2, 1) := by decide +kernel
theorem dX10_has_15 : decode cX10_has 15 = .ok (.tableswitch 203 0 16 #[81, 90, 96, 102, 111, 120, 126, 135, 144, 150, 159, 165, 171, 177, 185, 191, 197], 81) := by decide +kernel
theorem dX10_has_96 : decode cX10_has 96 = .ok (.aload_n 3, 1) := by decide +kernel
theorem dX10_has_97 : decode cX10_has 97 = .ok (.getfield 93, 3) := by decide +kernel
theorem dX10_has_100 : decode cX10_has 100 = .ok (.getfield 121, 3) := by decide +kernel
theorem dX10_has_103 : decode cX10_has 103 = .ok (.i2l, 1) := by decide +kernel
theorem dX10_has_104 : decode cX10_has 104 = .ok (.lreturn, 1) := by decide +kernel
theorem dX10_has_105 : decode cX10_has 105 = .ok (.aload_n 3, 1) := by decide +kernel
theorem dX10_has_106 : decode cX10_has 106 = .ok (.getfield 124, 3) := by decide +kernel
theorem dX10_has_109 : decode cX10_has 109 = .ok (.i2l, 1) := by decide +kernel
theorem dX10_has_110 : decode cX10_has 110 = .ok (.lreturn, 1) := by decide +kernel
theorem dX10_has_111 : decode cX10_has 111 = .ok (.aload_n 3, 1) := by decide +kernel
theorem dX10_has_112 : decode cX10_has 112 = .ok (.getfield 127, 3) := by decide +kernel
theorem dX10_has_115 : decode cX10_has 115 = .ok (.i2l, 1) := by decide +kernel
theorem dX10_has_116 : decode cX10_has 116 = .ok (.lreturn, 1) := by decide +kernel
theorem dX10_has_117 : decode cX10_has 117 = .ok (.aload_n 3, 1) := by decide +kernel
theorem dX10_has_118 : decode cX10_has 118 = .ok (.getfield 130, 3) := by decide +kernel
theorem dX10_has_121 : decode cX10_has 121 = .ok (.getfield 134, 3) := by decide +kernel
theorem dX10_has_124 : decode cX10_has 124 = .ok (.i2l, 1) := by decide +kernel
theorem dX10_has_125 : decode cX10_has 125 = .ok (.lreturn, 1) := by decide +kernel
theorem dX10_has_126 : decode cX10_has 126 = .ok (.aload_n 3, 1) := by decide +kernel
theorem dX10_has_127 : decode cX10_has 127 = .ok (.getfield 130, 3) := by decide +kernel
theorem dX10_has_130 : decode cX10_has 130 = .ok (.getfield 139, 3) := by decide +kernel
theorem dX10_has_133 : decode cX10_has 133 = .ok (.i2l, 1) := by decide +kernel
theorem dX10_has_134 : decode cX10_has 134 = .ok (.lreturn, 1) := by decide +kernel
theorem dX10_has_135 : decode cX10_has 135 = .ok (.aload_n 3, 1) := by decide +kernel
theorem dX10_has_136 : decode cX10_has 136 = .ok (.invokevirtual 142, 3) := by decide +kernel
theorem dX10_has_139 : decode cX10_has 139 = .ok (.i2l, 1) := by decide +kernel
theorem dX10_has_140 : decode cX10_has 140 = .ok (.lreturn, 1) := by decide +kernel
theorem dX10_has_141 : decode cX10_has 141 = .ok (.aload_n 3, 1) := by decide +kernel
theorem dX10_has_142 : decode cX10_has 142 = .ok (.getfield 130, 3) := by decide +kernel
theorem dX10_has_145 : decode cX10_has 145 = .ok (.getfield 146, 3) := by decide +kernel
theorem dX10_has_148 : decode cX10_has 148 = .ok (.i2l, 1) := by decide +kernel
theorem dX10_has_149 : decode cX10_has 149 = .ok (.lreturn, 1) := by decide +kernel
theorem dX10_has_150 : decode cX10_has 150 = .ok (.aload_n 3, 1) := by decide +kernel
theorem dX10_has_151 : decode cX10_has 151 = .ok (.getfield 130, 3) := by decide +kernel
theorem dX10_has_154 : decode cX10_has 154 = .ok (.getfield 149, 3) := by decide +kernel
theorem dX10_has_157 : decode cX10_has 157 = .ok (.i2l, 1) := by decide +kernel
theorem dX10_has_158 : decode cX10_has 158 = .ok (.lreturn, 1) := by decide +kernel
theorem dX10_has_159 : decode cX10_has 159 = .ok (.aload_n 3, 1) := by decide +kernel
theorem dX10_has_160 : decode cX10_has 160 = .ok (.getfield 152, 3) := by decide +kernel
theorem dX10_has_163 : decode cX10_has 163 = .ok (.i2l, 1) := by decide +kernel
theorem dX10_has_164 : decode cX10_has 164 = .ok (.lreturn, 1) := by decide +kernel
theorem dX10_has_165 : decode cX10_has 165 = .ok (.aload_n 3, 1) := by decide +kernel
theorem dX10_has_166 : decode cX10_has 166 = .ok (.getfield 109, 3) := by decide +kernel
theorem dX10_has_169 : decode cX10_has 169 = .ok (.getfield 113, 3) := by decide +kernel
theorem dX10_has_172 : decode cX10_has 172 = .ok (.i2l, 1) := by decide +kernel
theorem dX10_has_173 : decode cX10_has 173 = .ok (.lreturn, 1) := by decide +kernel
theorem dX10_has_174 : decode cX10_has 174 = .ok (.aload_n 3, 1) := by decide +kernel
theorem dX10_has_175 : decode cX10_has 175 = .ok (.getfield 155, 3) := by decide +kernel
theorem dX10_has_178 : decode cX10_has 178 = .ok (.i2l, 1) := by decide +kernel
theorem dX10_has_179 : decode cX10_has 179 = .ok (.lreturn, 1) := by decide +kernel
theorem dX10_has_180 : decode cX10_has 180 = .ok (.aload_n 3, 1) := by decide +kernel
theorem dX10_has_181 : decode cX10_has 181 = .ok (.getfield 118, 3) := by decide +kernel
theorem dX10_has_184 : decode cX10_has 184 = .ok (.i2l, 1) := by decide +kernel
theorem dX10_has_185 : decode cX10_has 185 = .ok (.lreturn, 1) := by decide +kernel
theorem dX10_has_186 : decode cX10_has 186 = .ok (.aload_n 3, 1) := by decide +kernel
theorem dX10_has_187 : decode cX10_has 187 = .ok (.getfield 158, 3) := by decide +kernel
theorem dX10_has_190 : decode cX10_has 190 = .ok (.i2l, 1) := by decide +kernel
theorem dX10_has_191 : decode cX10_has 191 = .ok (.lreturn, 1) := by decide +kernel
theorem dX10_has_192 : decode cX10_has 192 = .ok (.aload_n 3, 1) := by decide +kernel
theorem dX10_has_193 : decode cX10_has 193 = .ok (.getfield 109, 3) := by decide +kernel
theorem dX10_has_196 : decode cX10_has 196 = .ok (.getfield 161, 3) := by decide +kernel
theorem dX10_has_199 : decode cX10_has 199 = .ok (.lreturn, 1) := by decide +kernel
theorem dX10_has_200 : decode cX10_has 200 = .ok (.aload_n 3, 1) := by decide +kernel
theorem dX10_has_201 : decode cX10_has 201 = .ok (.getfield 165, 3) := by decide +kernel
theorem dX10_has_204 : decode cX10_has 204 = .ok (.i2l, 1) := by decide +kernel
theorem dX10_has_205 : decode cX10_has 205 = .ok (.lreturn, 1) := by decide +kernel
theorem dX10_has_206 : decode cX10_has 206 = .ok (.aload_n 3, 1) := by decide +kernel
theorem dX10_has_207 : decode cX10_has 207 = .ok (.getfield 168, 3) := by decide +kernel
theorem dX10_has_210 : decode cX10_has 210 = .ok (.i2l, 1) := by decide +kernel
theorem dX10_has_211 : decode cX10_has 211 = .ok (.lreturn, 1) := by decide +kernel
theorem dX10_has_212 : decode cX10_has 212 = .ok (.aload_n 3, 1) := by decide +kernel
theorem dX10_has_213 : decode cX10_has 213 = .ok (.getfield 171, 3) := by decide +kernel
theorem dX10_has_216 : decode cX10_has 216 = .ok (.i2l, 1) := by decide +kernel
theorem dX10_has_217 : decode cX10_has 217 = .ok (.lreturn, 1) := by decide +kernel
theorem dX10_has_218 : decode cX10_has 218 = .ok (.ldc2_w 91, 3) := by decide +kernel
theorem dX10_has_221 : decode cX10_has 221 = .ok (.lreturn, 1) := by decide +kernel
theorem dX10_bucket_12 : decode cX10_bucket 12 = .ok (.aload 4, 2) := by decide +kernel
theorem dX10_bucket_14 : decode cX10_bucket 14 = .ok (.getfield 130, 3) := by decide +kernel
theorem dX10_bucket_17 : decode cX10_bucket 17 = .ok (.iload_n 2, 1) := by decide +kernel
theorem dX10_bucket_18 : decode cX10_bucket 18 = .ok (.invokevirtual 174, 3) := by decide +kernel
theorem dX10_bucket_21 : decode cX10_bucket 21 = .ok (.ifCond .ne 7, 3) := by decide +kernel
theorem dX10_bucket_28 : decode cX10_bucket 28 = .ok (.aload 4, 2) := by decide +kernel
theorem dX10_bucket_30 : decode cX10_bucket 30 = .ok (.getfield 130, 3) := by decide +kernel
theorem dX10_bucket_33 : decode cX10_bucket 33 = .ok (.astore 5, 2) := by decide +kernel
theorem dX10_bucket_35 : decode cX10_bucket 35 = .ok (.iload_n 3, 1) := by decide +kernel
theorem dX10_bucket_36 : decode cX10_bucket 36 = .ok (.tableswitch 100 0 3 #[32, 41, 50, 75], 32) := by decide +kernel
theorem dX10_bucket_68 : decode cX10_bucket 68 = .ok (.aload 5, 2) := by decide +kernel
theorem dX10_bucket_70 : decode cX10_bucket 70 = .ok (.getfield 177, 3) := by decide +kernel
theorem dX10_bucket_73 : decode cX10_bucket 73 = .ok (.iload_n 2, 1) := by decide +kernel
theorem dX10_bucket_74 : decode cX10_bucket 74 = .ok (.iaload, 1) := by decide +kernel
theorem dX10_bucket_75 : decode cX10_bucket 75 = .ok (.i2l, 1) := by decide +kernel
theorem dX10_bucket_76 : decode cX10_bucket 76 = .ok (.lreturn, 1) := by decide +kernel
theorem dX10_bucket_77 : decode cX10_bucket 77 = .ok (.aload 5, 2) := by decide +kernel
theorem dX10_bucket_79 : decode cX10_bucket 79 = .ok (.getfield 180, 3) := by decide +kernel
theorem dX10_bucket_82 : decode cX10_bucket 82 = .ok (.iload_n 2, 1) := by decide +kernel
theorem dX10_bucket_83 : decode cX10_bucket 83 = .ok (.iaload, 1) := by decide +kernel
theorem dX10_bucket_84 : decode cX10_bucket 84 = .ok (.i2l, 1) := by decide +kernel
theorem dX10_bucket_85 : decode cX10_bucket 85 = .ok (.lreturn, 1) := by decide +kernel
theorem dX10_bucket_86 : decode cX10_bucket 86 = .ok (.aload 5, 2) := by decide +kernel
theorem dX10_bucket_88 : decode cX10_bucket 88 = .ok (.getfield 180, 3) := by decide +kernel
theorem dX10_bucket_91 : decode cX10_bucket 91 = .ok (.iload_n 2, 1) := by decide +kernel
theorem dX10_bucket_92 : decode cX10_bucket 92 = .ok (.iaload, 1) := by decide +kernel
theorem dX10_bucket_93 : decode cX10_bucket 93 = .ok (.ifCond .ne 9, 3) := by decide +kernel
theorem dX10_bucket_96 : decode cX10_bucket 96 = .ok (.ldc2_w 183, 3) := by decide +kernel
theorem dX10_bucket_99 : decode cX10_bucket 99 = .ok (.goto 11, 3) := by decide +kernel
theorem dX10_bucket_102 : decode cX10_bucket 102 = .ok (.aload 5, 2) := by decide +kernel
theorem dX10_bucket_104 : decode cX10_bucket 104 = .ok (.getfield 185, 3) := by decide +kernel
theorem dX10_bucket_107 : decode cX10_bucket 107 = .ok (.iload_n 2, 1) := by decide +kernel
theorem dX10_bucket_108 : decode cX10_bucket 108 = .ok (.iaload, 1) := by decide +kernel
theorem dX10_bucket_109 : decode cX10_bucket 109 = .ok (.i2l, 1) := by decide +kernel
theorem dX10_bucket_110 : decode cX10_bucket 110 = .ok (.lreturn, 1) := by decide +kernel
theorem dX10_bucket_111 : decode cX10_bucket 111 = .ok (.aload 5, 2) := by decide +kernel
theorem dX10_bucket_113 : decode cX10_bucket 113 = .ok (.getfield 180, 3) := by decide +kernel
theorem dX10_bucket_116 : decode cX10_bucket 116 = .ok (.iload_n 2, 1) := by decide +kernel
theorem dX10_bucket_117 : decode cX10_bucket 117 = .ok (.iaload, 1) := by decide +kernel
theorem dX10_bucket_118 : decode cX10_bucket 118 = .ok (.ifCond .ne 9, 3) := by decide +kernel
theorem dX10_bucket_121 : decode cX10_bucket 121 = .ok (.ldc2_w 183, 3) := by decide +kernel
theorem dX10_bucket_124 : decode cX10_bucket 124 = .ok (.goto 11, 3) := by decide +kernel
theorem dX10_bucket_127 : decode cX10_bucket 127 = .ok (.aload 5, 2) := by decide +kernel
theorem dX10_bucket_129 : decode cX10_bucket 129 = .ok (.getfield 188, 3) := by decide +kernel
theorem dX10_bucket_132 : decode cX10_bucket 132 = .ok (.iload_n 2, 1) := by decide +kernel
theorem dX10_bucket_133 : decode cX10_bucket 133 = .ok (.iaload, 1) := by decide +kernel
theorem dX10_bucket_134 : decode cX10_bucket 134 = .ok (.i2l, 1) := by decide +kernel
theorem dX10_bucket_135 : decode cX10_bucket 135 = .ok (.lreturn, 1) := by decide +kernel
theorem dX10_bucket_136 : decode cX10_bucket 136 = .ok (.ldc2_w 91, 3) := by decide +kernel
theorem dX10_bucket_139 : decode cX10_bucket 139 = .ok (.lreturn, 1) := by decide +kernel
theorem dX10_room_12 : decode cX10_room 12 = .ok (.aload 4, 2) := by decide +kernel
theorem dX10_room_14 : decode cX10_room 14 = .ok (.getfield 130, 3) := by decide +kernel
theorem dX10_room_17 : decode cX10_room 17 = .ok (.iload_n 2, 1) := by decide +kernel
theorem dX10_room_18 : decode cX10_room 18 = .ok (.invokevirtual 174, 3) := by decide +kernel
theorem dX10_room_21 : decode cX10_room 21 = .ok (.ifCond .ne 6, 3) := by decide +kernel
theorem dX10_room_27 : decode cX10_room 27 = .ok (.iload_n 3, 1) := by decide +kernel
theorem dX10_room_28 : decode cX10_room 28 = .ok (.ifCond .lt 16, 3) := by decide +kernel
theorem dX10_room_31 : decode cX10_room 31 = .ok (.iload_n 3, 1) := by decide +kernel
theorem dX10_room_32 : decode cX10_room 32 = .ok (.aload 4, 2) := by decide +kernel
theorem dX10_room_34 : decode cX10_room 34 = .ok (.getfield 130, 3) := by decide +kernel
theorem dX10_room_37 : decode cX10_room 37 = .ok (.iload_n 2, 1) := by decide +kernel
theorem dX10_room_38 : decode cX10_room 38 = .ok (.invokevirtual 191, 3) := by decide +kernel
theorem dX10_room_41 : decode cX10_room 41 = .ok (.if_icmp .lt 6, 3) := by decide +kernel
theorem dX10_room_44 : decode cX10_room 44 = .ok (.bipush (-2), 2) := by decide +kernel
theorem dX10_room_46 : decode cX10_room 46 = .ok (.ireturn, 1) := by decide +kernel
theorem dX10_room_47 : decode cX10_room 47 = .ok (.aload 4, 2) := by decide +kernel
theorem dX10_room_49 : decode cX10_room 49 = .ok (.getfield 130, 3) := by decide +kernel
theorem dX10_room_52 : decode cX10_room 52 = .ok (.iload_n 2, 1) := by decide +kernel
theorem dX10_room_53 : decode cX10_room 53 = .ok (.iload_n 3, 1) := by decide +kernel
theorem dX10_room_54 : decode cX10_room 54 = .ok (.invokevirtual 194, 3) := by decide +kernel
theorem dX10_room_57 : decode cX10_room 57 = .ok (.istore 5, 2) := by decide +kernel
theorem dX10_room_59 : decode cX10_room 59 = .ok (.iload 5, 2) := by decide +kernel
theorem dX10_room_61 : decode cX10_room 61 = .ok (.ifCond .ge 7, 3) := by decide +kernel
theorem dX10_room_64 : decode cX10_room 64 = .ok (.iconst (-1), 1) := by decide +kernel
theorem dX10_room_65 : decode cX10_room 65 = .ok (.goto 13, 3) := by decide +kernel
theorem dX10_room_68 : decode cX10_room 68 = .ok (.aload 4, 2) := by decide +kernel
theorem dX10_room_70 : decode cX10_room 70 = .ok (.getfield 93, 3) := by decide +kernel
theorem dX10_room_73 : decode cX10_room 73 = .ok (.iload 5, 2) := by decide +kernel
theorem dX10_room_75 : decode cX10_room 75 = .ok (.invokevirtual 197, 3) := by decide +kernel
theorem dX10_room_78 : decode cX10_room 78 = .ok (.ireturn, 1) := by decide +kernel
theorem dX10_place_12 : decode cX10_place 12 = .ok (.iload_n 2, 1) := by decide +kernel
theorem dX10_place_13 : decode cX10_place 13 = .ok (.invokestatic 77, 3) := by decide +kernel
theorem dX10_place_16 : decode cX10_place 16 = .ok (.ifCond .eq 12, 3) := by decide +kernel
theorem dX10_place_19 : decode cX10_place 19 = .ok (.iload_n 3, 1) := by decide +kernel
theorem dX10_place_20 : decode cX10_place 20 = .ok (.ifCond .lt 8, 3) := by decide +kernel
theorem dX10_place_23 : decode cX10_place 23 = .ok (.iload_n 3, 1) := by decide +kernel
theorem dX10_place_24 : decode cX10_place 24 = .ok (.iconst 1, 1) := by decide +kernel
theorem dX10_place_25 : decode cX10_place 25 = .ok (.if_icmp .le 6, 3) := by decide +kernel
theorem dX10_place_31 : decode cX10_place 31 = .ok (.aload 4, 2) := by decide +kernel
theorem dX10_place_33 : decode cX10_place 33 = .ok (.getfield 130, 3) := by decide +kernel
theorem dX10_place_36 : decode cX10_place 36 = .ok (.iload_n 2, 1) := by decide +kernel
theorem dX10_place_37 : decode cX10_place 37 = .ok (.invokevirtual 200, 3) := by decide +kernel
theorem dX10_place_40 : decode cX10_place 40 = .ok (.istore 5, 2) := by decide +kernel
theorem dX10_place_42 : decode cX10_place 42 = .ok (.iload_n 3, 1) := by decide +kernel
theorem dX10_place_43 : decode cX10_place 43 = .ok (.ifCond .ne 8, 3) := by decide +kernel
theorem dX10_place_46 : decode cX10_place 46 = .ok (.iload 5, 2) := by decide +kernel
theorem dX10_place_48 : decode cX10_place 48 = .ok (.goto 14, 3) := by decide +kernel
theorem dX10_place_51 : decode cX10_place 51 = .ok (.aload 4, 2) := by decide +kernel
theorem dX10_place_53 : decode cX10_place 53 = .ok (.getfield 130, 3) := by decide +kernel
theorem dX10_place_56 : decode cX10_place 56 = .ok (.iload_n 2, 1) := by decide +kernel
theorem dX10_place_57 : decode cX10_place 57 = .ok (.iload 5, 2) := by decide +kernel
theorem dX10_place_59 : decode cX10_place 59 = .ok (.invokevirtual 203, 3) := by decide +kernel
theorem dX10_place_62 : decode cX10_place 62 = .ok (.ireturn, 1) := by decide +kernel
theorem dX10_key_10 : decode cX10_key 10 = .ok (.iload_n 2, 1) := by decide +kernel
theorem dX10_key_11 : decode cX10_key 11 = .ok (.ifCond .lt 14, 3) := by decide +kernel
theorem dX10_key_14 : decode cX10_key 14 = .ok (.iload_n 2, 1) := by decide +kernel
theorem dX10_key_15 : decode cX10_key 15 = .ok (.aload_n 3, 1) := by decide +kernel
theorem dX10_key_16 : decode cX10_key 16 = .ok (.getfield 93, 3) := by decide +kernel
theorem dX10_key_19 : decode cX10_key 19 = .ok (.getfield 121, 3) := by decide +kernel
theorem dX10_key_22 : decode cX10_key 22 = .ok (.if_icmp .lt 5, 3) := by decide +kernel
theorem dX10_key_27 : decode cX10_key 27 = .ok (.aload_n 3, 1) := by decide +kernel
theorem dX10_key_28 : decode cX10_key 28 = .ok (.getfield 93, 3) := by decide +kernel
theorem dX10_key_31 : decode cX10_key 31 = .ok (.iload_n 2, 1) := by decide +kernel
theorem dX10_key_32 : decode cX10_key 32 = .ok (.invokevirtual 197, 3) := by decide +kernel
theorem dX10_key_35 : decode cX10_key 35 = .ok (.ireturn, 1) := by decide +kernel
theorem dX10_walk_10 : decode cX10_walk 10 = .ok (.iload_n 2, 1) := by decide +kernel
theorem dX10_walk_11 : decode cX10_walk 11 = .ok (.ifCond .lt 14, 3) := by decide +kernel
theorem dX10_walk_14 : decode cX10_walk 14 = .ok (.iload_n 2, 1) := by decide +kernel
theorem dX10_walk_15 : decode cX10_walk 15 = .ok (.aload_n 3, 1) := by decide +kernel
theorem dX10_walk_16 : decode cX10_walk 16 = .ok (.getfield 93, 3) := by decide +kernel
theorem dX10_walk_19 : decode cX10_walk 19 = .ok (.getfield 121, 3) := by decide +kernel
theorem dX10_walk_22 : decode cX10_walk 22 = .ok (.if_icmp .lt 5, 3) := by decide +kernel
theorem dX10_walk_27 : decode cX10_walk 27 = .ok (.aload_n 3, 1) := by decide +kernel
theorem dX10_walk_28 : decode cX10_walk 28 = .ok (.getfield 130, 3) := by decide +kernel
theorem dX10_walk_31 : decode cX10_walk 31 = .ok (.iload_n 2, 1) := by decide +kernel
theorem dX10_walk_32 : decode cX10_walk 32 = .ok (.invokevirtual 206, 3) := by decide +kernel
theorem dX10_walk_35 : decode cX10_walk 35 = .ok (.istore 4, 2) := by decide +kernel
theorem dX10_walk_37 : decode cX10_walk 37 = .ok (.iload 4, 2) := by decide +kernel
theorem dX10_walk_39 : decode cX10_walk 39 = .ok (.ifCond .ge 7, 3) := by decide +kernel
theorem dX10_walk_42 : decode cX10_walk 42 = .ok (.iconst (-1), 1) := by decide +kernel
theorem dX10_walk_43 : decode cX10_walk 43 = .ok (.goto 12, 3) := by decide +kernel
theorem dX10_walk_46 : decode cX10_walk 46 = .ok (.aload_n 3, 1) := by decide +kernel
theorem dX10_walk_47 : decode cX10_walk 47 = .ok (.getfield 93, 3) := by decide +kernel
theorem dX10_walk_50 : decode cX10_walk 50 = .ok (.iload 4, 2) := by decide +kernel
theorem dX10_walk_52 : decode cX10_walk 52 = .ok (.invokevirtual 197, 3) := by decide +kernel
theorem dX10_walk_55 : decode cX10_walk 55 = .ok (.ireturn, 1) := by decide +kernel
theorem dX10_below_10 : decode cX10_below 10 = .ok (.iload_n 2, 1) := by decide +kernel
theorem dX10_below_11 : decode cX10_below 11 = .ok (.ifCond .ge 5, 3) := by decide +kernel
theorem dX10_below_16 : decode cX10_below 16 = .ok (.aload_n 3, 1) := by decide +kernel
theorem dX10_below_17 : decode cX10_below 17 = .ok (.getfield 93, 3) := by decide +kernel
theorem dX10_below_20 : decode cX10_below 20 = .ok (.iload_n 2, 1) := by decide +kernel
theorem dX10_below_21 : decode cX10_below 21 = .ok (.invokevirtual 209, 3) := by decide +kernel
theorem dX10_below_24 : decode cX10_below 24 = .ok (.ireturn, 1) := by decide +kernel
theorem dX10_nearest_10 : decode cX10_nearest 10 = .ok (.iload_n 2, 1) := by decide +kernel
theorem dX10_nearest_11 : decode cX10_nearest 11 = .ok (.invokestatic 77, 3) := by decide +kernel
theorem dX10_nearest_14 : decode cX10_nearest 14 = .ok (.ifCond .ne 5, 3) := by decide +kernel
theorem dX10_nearest_19 : decode cX10_nearest 19 = .ok (.aload_n 3, 1) := by decide +kernel
theorem dX10_nearest_20 : decode cX10_nearest 20 = .ok (.getfield 93, 3) := by decide +kernel
theorem dX10_nearest_23 : decode cX10_nearest 23 = .ok (.iload_n 2, 1) := by decide +kernel
theorem dX10_nearest_24 : decode cX10_nearest 24 = .ok (.invokevirtual 212, 3) := by decide +kernel
theorem dX10_nearest_27 : decode cX10_nearest 27 = .ok (.ireturn, 1) := by decide +kernel
theorem dX10_many_10 : decode cX10_many 10 = .ok (.iload_n 2, 1) := by decide +kernel
theorem dX10_many_11 : decode cX10_many 11 = .ok (.ifCond .ge 5, 3) := by decide +kernel
theorem dX10_many_16 : decode cX10_many 16 = .ok (.aload_n 3, 1) := by decide +kernel
theorem dX10_many_17 : decode cX10_many 17 = .ok (.getfield 130, 3) := by decide +kernel
theorem dX10_many_20 : decode cX10_many 20 = .ok (.iload_n 2, 1) := by decide +kernel
theorem dX10_many_21 : decode cX10_many 21 = .ok (.invokevirtual 215, 3) := by decide +kernel
theorem dX10_many_24 : decode cX10_many 24 = .ok (.ireturn, 1) := by decide +kernel
theorem dX10_crowd_12 : decode cX10_crowd 12 = .ok (.aload_n 3, 1) := by decide +kernel
theorem dX10_crowd_13 : decode cX10_crowd 13 = .ok (.getfield 130, 3) := by decide +kernel
theorem dX10_crowd_16 : decode cX10_crowd 16 = .ok (.astore 4, 2) := by decide +kernel
theorem dX10_crowd_18 : decode cX10_crowd 18 = .ok (.iload_n 2, 1) := by decide +kernel
theorem dX10_crowd_19 : decode cX10_crowd 19 = .ok (.tableswitch 68 0 3 #[29, 35, 47, 62], 29) := by decide +kernel
theorem dX10_crowd_48 : decode cX10_crowd 48 = .ok (.aload 4, 2) := by decide +kernel
theorem dX10_crowd_50 : decode cX10_crowd 50 = .ok (.invokevirtual 218, 3) := by decide +kernel
theorem dX10_crowd_53 : decode cX10_crowd 53 = .ok (.ireturn, 1) := by decide +kernel
theorem dX10_crowd_54 : decode cX10_crowd 54 = .ok (.aload 4, 2) := by decide +kernel
theorem dX10_crowd_56 : decode cX10_crowd 56 = .ok (.getfield 177, 3) := by decide +kernel
theorem dX10_crowd_59 : decode cX10_crowd 59 = .ok (.aload 4, 2) := by decide +kernel
theorem dX10_crowd_61 : decode cX10_crowd 61 = .ok (.invokevirtual 218, 3) := by decide +kernel
theorem dX10_crowd_64 : decode cX10_crowd 64 = .ok (.iaload, 1) := by decide +kernel
theorem dX10_crowd_65 : decode cX10_crowd 65 = .ok (.ireturn, 1) := by decide +kernel
theorem dX10_crowd_66 : decode cX10_crowd 66 = .ok (.aload_n 3, 1) := by decide +kernel
theorem dX10_crowd_67 : decode cX10_crowd 67 = .ok (.getfield 93, 3) := by decide +kernel
theorem dX10_crowd_70 : decode cX10_crowd 70 = .ok (.getfield 121, 3) := by decide +kernel
theorem dX10_crowd_73 : decode cX10_crowd 73 = .ok (.aload 4, 2) := by decide +kernel
theorem dX10_crowd_75 : decode cX10_crowd 75 = .ok (.iconst 1, 1) := by decide +kernel
theorem dX10_crowd_76 : decode cX10_crowd 76 = .ok (.invokevirtual 215, 3) := by decide +kernel
theorem dX10_crowd_79 : decode cX10_crowd 79 = .ok (.isub, 1) := by decide +kernel
theorem dX10_crowd_80 : decode cX10_crowd 80 = .ok (.ireturn, 1) := by decide +kernel
theorem dX10_crowd_81 : decode cX10_crowd 81 = .ok (.aload 4, 2) := by decide +kernel
theorem dX10_crowd_83 : decode cX10_crowd 83 = .ok (.invokevirtual 221, 3) := by decide +kernel
theorem dX10_crowd_86 : decode cX10_crowd 86 = .ok (.ireturn, 1) := by decide +kernel
theorem dX10_crowd_87 : decode cX10_crowd 87 = .ok (.iconst (-1), 1) := by decide +kernel
theorem dX10_crowd_88 : decode cX10_crowd 88 = .ok (.ireturn, 1) := by decide +kernel
theorem dX10_empty_14 : decode cX10_empty 14 = .ok (.aload_n 2, 1) := by decide +kernel
theorem dX10_empty_15 : decode cX10_empty 15 = .ok (.getfield 130, 3) := by decide +kernel
theorem dX10_empty_18 : decode cX10_empty 18 = .ok (.getfield 139, 3) := by decide +kernel
theorem dX10_empty_21 : decode cX10_empty 21 = .ok (.aload_n 2, 1) := by decide +kernel
theorem dX10_empty_22 : decode cX10_empty 22 = .ok (.getfield 93, 3) := by decide +kernel
theorem dX10_empty_25 : decode cX10_empty 25 = .ok (.getfield 121, 3) := by decide +kernel
theorem dX10_empty_28 : decode cX10_empty 28 = .ok (.isub, 1) := by decide +kernel
theorem dX10_left_14 : decode cX10_left 14 = .ok (.aload_n 2, 1) := by decide +kernel
theorem dX10_left_15 : decode cX10_left 15 = .ok (.getfield 124, 3) := by decide +kernel
theorem dX10_left_18 : decode cX10_left 18 = .ok (.aload_n 2, 1) := by decide +kernel
theorem dX10_left_19 : decode cX10_left 19 = .ok (.getfield 127, 3) := by decide +kernel
theorem dX10_left_22 : decode cX10_left 22 = .ok (.isub, 1) := by decide +kernel
theorem dX10_left_23 : decode cX10_left 23 = .ok (.iconst 1, 1) := by decide +kernel
theorem dX10_left_24 : decode cX10_left 24 = .ok (.iadd, 1) := by decide +kernel
theorem dX10_would_10 : decode cX10_would 10 = .ok (.iload_n 2, 1) := by decide +kernel
theorem dX10_would_11 : decode cX10_would 11 = .ok (.invokestatic 77, 3) := by decide +kernel
theorem dX10_would_14 : decode cX10_would 14 = .ok (.ifCond .ne 6, 3) := by decide +kernel
theorem dX10_would_20 : decode cX10_would 20 = .ok (.aload_n 3, 1) := by decide +kernel
theorem dX10_would_21 : decode cX10_would 21 = .ok (.iload_n 2, 1) := by decide +kernel
theorem dX10_would_22 : decode cX10_would 22 = .ok (.invokevirtual 80, 3) := by decide +kernel
theorem dX10_would_25 : decode cX10_would 25 = .ok (.ifCond .eq 8, 3) := by decide +kernel
theorem dX10_would_28 : decode cX10_would 28 = .ok (.bipush (-3), 2) := by decide +kernel
theorem dX10_would_30 : decode cX10_would 30 = .ok (.goto 8, 3) := by decide +kernel
theorem dX10_would_33 : decode cX10_would 33 = .ok (.aload_n 3, 1) := by decide +kernel
theorem dX10_would_34 : decode cX10_would 34 = .ok (.iload_n 2, 1) := by decide +kernel
theorem dX10_would_35 : decode cX10_would 35 = .ok (.invokevirtual 244, 3) := by decide +kernel
theorem dX10_would_38 : decode cX10_would 38 = .ok (.ireturn, 1) := by decide +kernel
theorem dX10_values_14 : decode cX10_values 14 = .ok (.aload_n 3, 1) := by decide +kernel
theorem dX10_values_15 : decode cX10_values 15 = .ok (.getfield 93, 3) := by decide +kernel
theorem dX10_values_18 : decode cX10_values 18 = .ok (.invokevirtual 269, 3) := by decide +kernel
theorem dX10_values_21 : decode cX10_values 21 = .ok (.istore 4, 2) := by decide +kernel
theorem dX10_values_23 : decode cX10_values 23 = .ok (.iload_n 2, 1) := by decide +kernel
theorem dX10_values_24 : decode cX10_values 24 = .ok (.tableswitch 80 0 2 #[28, 50, 72], 28) := by decide +kernel
theorem dX10_values_52 : decode cX10_values 52 = .ok (.iload 4, 2) := by decide +kernel
theorem dX10_values_54 : decode cX10_values 54 = .ok (.ifCond .ge 9, 3) := by decide +kernel
theorem dX10_values_57 : decode cX10_values 57 = .ok (.ldc2_w 183, 3) := by decide +kernel
theorem dX10_values_60 : decode cX10_values 60 = .ok (.goto 13, 3) := by decide +kernel
theorem dX10_values_63 : decode cX10_values 63 = .ok (.aload_n 3, 1) := by decide +kernel
theorem dX10_values_64 : decode cX10_values 64 = .ok (.getfield 93, 3) := by decide +kernel
theorem dX10_values_67 : decode cX10_values 67 = .ok (.iload 4, 2) := by decide +kernel
theorem dX10_values_69 : decode cX10_values 69 = .ok (.invokevirtual 197, 3) := by decide +kernel
theorem dX10_values_72 : decode cX10_values 72 = .ok (.i2l, 1) := by decide +kernel
theorem dX10_values_73 : decode cX10_values 73 = .ok (.lreturn, 1) := by decide +kernel
theorem dX10_values_74 : decode cX10_values 74 = .ok (.iload 4, 2) := by decide +kernel
theorem dX10_values_76 : decode cX10_values 76 = .ok (.ifCond .ge 9, 3) := by decide +kernel
theorem dX10_values_79 : decode cX10_values 79 = .ok (.ldc2_w 91, 3) := by decide +kernel
theorem dX10_values_82 : decode cX10_values 82 = .ok (.goto 13, 3) := by decide +kernel
theorem dX10_values_85 : decode cX10_values 85 = .ok (.aload_n 3, 1) := by decide +kernel
theorem dX10_values_86 : decode cX10_values 86 = .ok (.getfield 93, 3) := by decide +kernel
theorem dX10_values_89 : decode cX10_values 89 = .ok (.iload 4, 2) := by decide +kernel
theorem dX10_values_91 : decode cX10_values 91 = .ok (.invokevirtual 103, 3) := by decide +kernel
theorem dX10_values_94 : decode cX10_values 94 = .ok (.i2l, 1) := by decide +kernel
theorem dX10_values_95 : decode cX10_values 95 = .ok (.lreturn, 1) := by decide +kernel
theorem dX10_values_96 : decode cX10_values 96 = .ok (.aload_n 3, 1) := by decide +kernel
theorem dX10_values_97 : decode cX10_values 97 = .ok (.getfield 93, 3) := by decide +kernel
theorem dX10_values_100 : decode cX10_values 100 = .ok (.invokevirtual 272, 3) := by decide +kernel
theorem dX10_values_103 : decode cX10_values 103 = .ok (.lreturn, 1) := by decide +kernel
theorem dX10_values_104 : decode cX10_values 104 = .ok (.ldc2_w 91, 3) := by decide +kernel
theorem dX10_values_107 : decode cX10_values 107 = .ok (.lreturn, 1) := by decide +kernel
