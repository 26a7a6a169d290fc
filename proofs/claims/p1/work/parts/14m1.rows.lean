theorem dX10_slot_23 : decode cX10_slot 23 = .ok (.iload_n 1, 1) := by decide +kernel
theorem dX10_slot_24 : decode cX10_slot 24 = .ok (.aload_n 2, 1) := by decide +kernel
theorem dX10_slot_25 : decode cX10_slot 25 = .ok (.aastore, 1) := by decide +kernel
theorem dX10_slot_26 : decode cX10_slot 26 = .ok (.aload_n 2, 1) := by decide +kernel
theorem dX10_slot_27 : decode cX10_slot 27 = .ok (.areturn, 1) := by decide +kernel
theorem dX10_areSettings_0 : decode cX10_areSettings 0 = .ok (.iload_n 0, 1) := by decide +kernel
theorem dX10_areSettings_1 : decode cX10_areSettings 1 = .ok (.bipush 8, 2) := by decide +kernel
theorem dX10_areSettings_3 : decode cX10_areSettings 3 = .ok (.if_icmp .lt 37, 3) := by decide +kernel
theorem dX10_areSettings_6 : decode cX10_areSettings 6 = .ok (.iload_n 0, 1) := by decide +kernel
theorem dX10_areSettings_7 : decode cX10_areSettings 7 = .ok (.bipush 64, 2) := by decide +kernel
theorem dX10_areSettings_9 : decode cX10_areSettings 9 = .ok (.if_icmp .gt 31, 3) := by decide +kernel
theorem dX10_areSettings_12 : decode cX10_areSettings 12 = .ok (.iload_n 1, 1) := by decide +kernel
theorem dX10_areSettings_13 : decode cX10_areSettings 13 = .ok (.bipush 25, 2) := by decide +kernel
theorem dX10_areSettings_15 : decode cX10_areSettings 15 = .ok (.if_icmp .lt 25, 3) := by decide +kernel
theorem dX10_areSettings_18 : decode cX10_areSettings 18 = .ok (.iload_n 1, 1) := by decide +kernel
theorem dX10_areSettings_19 : decode cX10_areSettings 19 = .ok (.sipush 400, 3) := by decide +kernel
theorem dX10_areSettings_22 : decode cX10_areSettings 22 = .ok (.if_icmp .gt 18, 3) := by decide +kernel
theorem dX10_areSettings_25 : decode cX10_areSettings 25 = .ok (.iload_n 2, 1) := by decide +kernel
theorem dX10_areSettings_26 : decode cX10_areSettings 26 = .ok (.ifCond .lt 14, 3) := by decide +kernel
theorem dX10_areSettings_29 : decode cX10_areSettings 29 = .ok (.iload_n 2, 1) := by decide +kernel
theorem dX10_areSettings_30 : decode cX10_areSettings 30 = .ok (.sipush 200, 3) := by decide +kernel
theorem dX10_areSettings_33 : decode cX10_areSettings 33 = .ok (.if_icmp .gt 7, 3) := by decide +kernel
theorem dX10_areSettings_36 : decode cX10_areSettings 36 = .ok (.iconst 1, 1) := by decide +kernel
theorem dX10_areSettings_37 : decode cX10_areSettings 37 = .ok (.goto 4, 3) := by decide +kernel
theorem dX10_areSettings_40 : decode cX10_areSettings 40 = .ok (.iconst 0, 1) := by decide +kernel
theorem dX10_areSettings_41 : decode cX10_areSettings 41 = .ok (.ireturn, 1) := by decide +kernel
theorem dX11_lays_0 : decode cX11_lays 0 = .ok (.aload_n 0, 1) := by decide +kernel
theorem dX11_lays_1 : decode cX11_lays 1 = .ok (.getfield 13, 3) := by decide +kernel
theorem dX11_lays_4 : decode cX11_lays 4 = .ok (.bipush 17, 2) := by decide +kernel
theorem dX11_lays_6 : decode cX11_lays 6 = .ok (.iload_n 1, 1) := by decide +kernel
theorem dX11_lays_7 : decode cX11_lays 7 = .ok (.imul, 1) := by decide +kernel
theorem dX11_lays_8 : decode cX11_lays 8 = .ok (.iload_n 2, 1) := by decide +kernel
theorem dX11_lays_9 : decode cX11_lays 9 = .ok (.iadd, 1) := by decide +kernel
theorem dX11_lays_10 : decode cX11_lays 10 = .ok (.lload_n 3, 1) := by decide +kernel
theorem dX11_lays_11 : decode cX11_lays 11 = .ok (.lastore, 1) := by decide +kernel
theorem dX11_lays_12 : decode cX11_lays 12 = .ok (.return_, 1) := by decide +kernel
theorem dX11_adds_0 : decode cX11_adds 0 = .ok (.aload_n 0, 1) := by decide +kernel
theorem dX11_adds_1 : decode cX11_adds 1 = .ok (.getfield 13, 3) := by decide +kernel
theorem dX11_adds_4 : decode cX11_adds 4 = .ok (.bipush 17, 2) := by decide +kernel
theorem dX11_adds_6 : decode cX11_adds 6 = .ok (.iload_n 1, 1) := by decide +kernel
theorem dX11_adds_7 : decode cX11_adds 7 = .ok (.imul, 1) := by decide +kernel
theorem dX11_adds_8 : decode cX11_adds 8 = .ok (.iload_n 2, 1) := by decide +kernel
theorem dX11_adds_9 : decode cX11_adds 9 = .ok (.iadd, 1) := by decide +kernel
theorem dX11_adds_10 : decode cX11_adds 10 = .ok (.dup2, 1) := by decide +kernel
theorem dX11_adds_11 : decode cX11_adds 11 = .ok (.laload, 1) := by decide +kernel
theorem dX11_adds_12 : decode cX11_adds 12 = .ok (.lload_n 3, 1) := by decide +kernel
theorem dX11_adds_13 : decode cX11_adds 13 = .ok (.ladd, 1) := by decide +kernel
theorem dX11_adds_14 : decode cX11_adds 14 = .ok (.lastore, 1) := by decide +kernel
theorem dX11_adds_15 : decode cX11_adds 15 = .ok (.return_, 1) := by decide +kernel
theorem dX11_manyOf_0 : decode cX11_manyOf 0 = .ok (.aload_n 0, 1) := by decide +kernel
theorem dX11_manyOf_1 : decode cX11_manyOf 1 = .ok (.iload_n 1, 1) := by decide +kernel
theorem dX11_manyOf_2 : decode cX11_manyOf 2 = .ok (.iconst 1, 1) := by decide +kernel
theorem dX11_manyOf_3 : decode cX11_manyOf 3 = .ok (.invokevirtual 89, 3) := by decide +kernel
theorem dX11_manyOf_6 : decode cX11_manyOf 6 = .ok (.l2i, 1) := by decide +kernel
theorem dX11_manyOf_7 : decode cX11_manyOf 7 = .ok (.ireturn, 1) := by decide +kernel
theorem dX11_buckets_0 : decode cX11_buckets 0 = .ok (.aload_n 0, 1) := by decide +kernel
theorem dX11_buckets_1 : decode cX11_buckets 1 = .ok (.iload_n 1, 1) := by decide +kernel
theorem dX11_buckets_2 : decode cX11_buckets 2 = .ok (.iconst 4, 1) := by decide +kernel
theorem dX11_buckets_3 : decode cX11_buckets 3 = .ok (.invokevirtual 89, 3) := by decide +kernel
theorem dX11_buckets_6 : decode cX11_buckets 6 = .ok (.l2i, 1) := by decide +kernel
theorem dX11_buckets_7 : decode cX11_buckets 7 = .ok (.ireturn, 1) := by decide +kernel
theorem dX11_draw_0 : decode cX11_draw 0 = .ok (.aload_n 0, 1) := by decide +kernel
theorem dX11_draw_1 : decode cX11_draw 1 = .ok (.aload_n 0, 1) := by decide +kernel
theorem dX11_draw_2 : decode cX11_draw 2 = .ok (.getfield 105, 3) := by decide +kernel
theorem dX11_draw_5 : decode cX11_draw 5 = .ok (.ldc2_w 109, 3) := by decide +kernel
theorem dX11_draw_8 : decode cX11_draw 8 = .ok (.lmul, 1) := by decide +kernel
theorem dX11_draw_9 : decode cX11_draw 9 = .ok (.ldc2_w 111, 3) := by decide +kernel
theorem dX11_draw_12 : decode cX11_draw 12 = .ok (.ladd, 1) := by decide +kernel
theorem dX11_draw_13 : decode cX11_draw 13 = .ok (.putfield 105, 3) := by decide +kernel
theorem dX11_draw_16 : decode cX11_draw 16 = .ok (.aload_n 0, 1) := by decide +kernel
theorem dX11_draw_17 : decode cX11_draw 17 = .ok (.getfield 105, 3) := by decide +kernel
theorem dX11_draw_20 : decode cX11_draw 20 = .ok (.bipush 33, 2) := by decide +kernel
theorem dX11_draw_22 : decode cX11_draw 22 = .ok (.lushr, 1) := by decide +kernel
theorem dX11_draw_23 : decode cX11_draw 23 = .ok (.lload_n 1, 1) := by decide +kernel
theorem dX11_draw_24 : decode cX11_draw 24 = .ok (.lrem, 1) := by decide +kernel
theorem dX11_draw_25 : decode cX11_draw 25 = .ok (.lreturn, 1) := by decide +kernel
theorem dX11_drawsPair_0 : decode cX11_drawsPair 0 = .ok (.aload_n 0, 1) := by decide +kernel
theorem dX11_drawsPair_1 : decode cX11_drawsPair 1 = .ok (.lconst 1, 1) := by decide +kernel
theorem dX11_drawsPair_2 : decode cX11_drawsPair 2 = .ok (.aload_n 0, 1) := by decide +kernel
theorem dX11_drawsPair_3 : decode cX11_drawsPair 3 = .ok (.ldc2_w 93, 3) := by decide +kernel
theorem dX11_drawsPair_6 : decode cX11_drawsPair 6 = .ok (.invokevirtual 113, 3) := by decide +kernel
theorem dX11_drawsPair_9 : decode cX11_drawsPair 9 = .ok (.ladd, 1) := by decide +kernel
theorem dX11_drawsPair_10 : decode cX11_drawsPair 10 = .ok (.putfield 117, 3) := by decide +kernel
theorem dX11_drawsPair_13 : decode cX11_drawsPair 13 = .ok (.aload_n 0, 1) := by decide +kernel
theorem dX11_drawsPair_14 : decode cX11_drawsPair 14 = .ok (.aload_n 0, 1) := by decide +kernel
theorem dX11_drawsPair_15 : decode cX11_drawsPair 15 = .ok (.ldc2_w 103, 3) := by decide +kernel
theorem dX11_drawsPair_18 : decode cX11_drawsPair 18 = .ok (.invokevirtual 113, 3) := by decide +kernel
theorem dX11_drawsPair_21 : decode cX11_drawsPair 21 = .ok (.putfield 120, 3) := by decide +kernel
theorem dX11_drawsPair_24 : decode cX11_drawsPair 24 = .ok (.aload_n 0, 1) := by decide +kernel
theorem dX11_drawsPair_25 : decode cX11_drawsPair 25 = .ok (.dup, 1) := by decide +kernel
theorem dX11_drawsPair_26 : decode cX11_drawsPair 26 = .ok (.getfield 123, 3) := by decide +kernel
theorem dX11_drawsPair_29 : decode cX11_drawsPair 29 = .ok (.iconst 1, 1) := by decide +kernel
theorem dX11_drawsPair_30 : decode cX11_drawsPair 30 = .ok (.iadd, 1) := by decide +kernel
theorem dX11_drawsPair_31 : decode cX11_drawsPair 31 = .ok (.putfield 123, 3) := by decide +kernel
theorem dX11_drawsPair_34 : decode cX11_drawsPair 34 = .ok (.return_, 1) := by decide +kernel
theorem dX11_takesSeed_0 : decode cX11_takesSeed 0 = .ok (.aload_n 0, 1) := by decide +kernel
theorem dX11_takesSeed_1 : decode cX11_takesSeed 1 = .ok (.aload_n 0, 1) := by decide +kernel
theorem dX11_takesSeed_2 : decode cX11_takesSeed 2 = .ok (.iload_n 1, 1) := by decide +kernel
theorem dX11_takesSeed_3 : decode cX11_takesSeed 3 = .ok (.bipush 13, 2) := by decide +kernel
theorem dX11_takesSeed_5 : decode cX11_takesSeed 5 = .ok (.invokevirtual 89, 3) := by decide +kernel
theorem dX11_takesSeed_8 : decode cX11_takesSeed 8 = .ok (.putfield 105, 3) := by decide +kernel
theorem dX11_takesSeed_11 : decode cX11_takesSeed 11 = .ok (.aload_n 0, 1) := by decide +kernel
theorem dX11_takesSeed_12 : decode cX11_takesSeed 12 = .ok (.iconst 0, 1) := by decide +kernel
theorem dX11_takesSeed_13 : decode cX11_takesSeed 13 = .ok (.putfield 123, 3) := by decide +kernel
theorem dX11_takesSeed_16 : decode cX11_takesSeed 16 = .ok (.return_, 1) := by decide +kernel
theorem dX11_laysSeed_0 : decode cX11_laysSeed 0 = .ok (.aload_n 0, 1) := by decide +kernel
theorem dX11_laysSeed_1 : decode cX11_laysSeed 1 = .ok (.iload_n 1, 1) := by decide +kernel
theorem dX11_laysSeed_2 : decode cX11_laysSeed 2 = .ok (.bipush 13, 2) := by decide +kernel
theorem dX11_laysSeed_4 : decode cX11_laysSeed 4 = .ok (.aload_n 0, 1) := by decide +kernel
theorem dX11_laysSeed_5 : decode cX11_laysSeed 5 = .ok (.getfield 105, 3) := by decide +kernel
theorem dX11_laysSeed_8 : decode cX11_laysSeed 8 = .ok (.invokevirtual 126, 3) := by decide +kernel
theorem dX11_laysSeed_11 : decode cX11_laysSeed 11 = .ok (.aload_n 0, 1) := by decide +kernel
theorem dX11_laysSeed_12 : decode cX11_laysSeed 12 = .ok (.iload_n 1, 1) := by decide +kernel
theorem dX11_laysSeed_13 : decode cX11_laysSeed 13 = .ok (.bipush 9, 2) := by decide +kernel
theorem dX11_laysSeed_15 : decode cX11_laysSeed 15 = .ok (.aload_n 0, 1) := by decide +kernel
theorem dX11_laysSeed_16 : decode cX11_laysSeed 16 = .ok (.getfield 123, 3) := by decide +kernel
theorem dX11_laysSeed_19 : decode cX11_laysSeed 19 = .ok (.i2l, 1) := by decide +kernel
theorem dX11_laysSeed_20 : decode cX11_laysSeed 20 = .ok (.invokevirtual 130, 3) := by decide +kernel
theorem dX11_laysSeed_23 : decode cX11_laysSeed 23 = .ok (.return_, 1) := by decide +kernel
theorem dX11_roomsOf_0 : decode cX11_roomsOf 0 = .ok (.aload_n 0, 1) := by decide +kernel
theorem dX11_roomsOf_1 : decode cX11_roomsOf 1 = .ok (.getfield 30, 3) := by decide +kernel
theorem dX11_roomsOf_4 : decode cX11_roomsOf 4 = .ok (.sipush 2048, 3) := by decide +kernel
theorem dX11_roomsOf_7 : decode cX11_roomsOf 7 = .ok (.iload_n 1, 1) := by decide +kernel
theorem dX11_roomsOf_8 : decode cX11_roomsOf 8 = .ok (.imul, 1) := by decide +kernel
theorem dX11_roomsOf_9 : decode cX11_roomsOf 9 = .ok (.iload_n 2, 1) := by decide +kernel
theorem dX11_roomsOf_10 : decode cX11_roomsOf 10 = .ok (.iadd, 1) := by decide +kernel
theorem dX11_roomsOf_11 : decode cX11_roomsOf 11 = .ok (.iaload, 1) := by decide +kernel
theorem dX11_roomsOf_12 : decode cX11_roomsOf 12 = .ok (.istore_n 3, 1) := by decide +kernel
theorem dX11_roomsOf_13 : decode cX11_roomsOf 13 = .ok (.iload_n 3, 1) := by decide +kernel
theorem dX11_roomsOf_14 : decode cX11_roomsOf 14 = .ok (.iload_n 3, 1) := by decide +kernel
theorem dX11_roomsOf_15 : decode cX11_roomsOf 15 = .ok (.imul, 1) := by decide +kernel
theorem dX11_roomsOf_16 : decode cX11_roomsOf 16 = .ok (.ireturn, 1) := by decide +kernel
theorem dX11_buildsBucket_0 : decode cX11_buildsBucket 0 = .ok (.aload_n 0, 1) := by decide +kernel
theorem dX11_buildsBucket_1 : decode cX11_buildsBucket 1 = .ok (.iload_n 1, 1) := by decide +kernel
theorem dX11_buildsBucket_2 : decode cX11_buildsBucket 2 = .ok (.iload_n 2, 1) := by decide +kernel
theorem dX11_buildsBucket_3 : decode cX11_buildsBucket 3 = .ok (.invokevirtual 137, 3) := by decide +kernel
theorem dX11_buildsBucket_6 : decode cX11_buildsBucket 6 = .ok (.ifCond .ne 4, 3) := by decide +kernel
theorem dX11_buildsBucket_9 : decode cX11_buildsBucket 9 = .ok (.return_, 1) := by decide +kernel
theorem dX11_parts_0 : decode cX11_parts 0 = .ok (.aload_n 0, 1) := by decide +kernel
theorem dX11_parts_1 : decode cX11_parts 1 = .ok (.iload_n 1, 1) := by decide +kernel
theorem dX11_parts_2 : decode cX11_parts 2 = .ok (.bipush 6, 2) := by decide +kernel
theorem dX11_parts_4 : decode cX11_parts 4 = .ok (.lload_n 2, 1) := by decide +kernel
theorem dX11_parts_5 : decode cX11_parts 5 = .ok (.invokevirtual 126, 3) := by decide +kernel
theorem dX11_parts_8 : decode cX11_parts 8 = .ok (.aload_n 0, 1) := by decide +kernel
theorem dX11_parts_9 : decode cX11_parts 9 = .ok (.iload_n 1, 1) := by decide +kernel
theorem dX11_parts_10 : decode cX11_parts 10 = .ok (.bipush 7, 2) := by decide +kernel
theorem dX11_parts_12 : decode cX11_parts 12 = .ok (.lload 4, 2) := by decide +kernel
theorem dX11_parts_14 : decode cX11_parts 14 = .ok (.invokevirtual 126, 3) := by decide +kernel
theorem dX11_parts_17 : decode cX11_parts 17 = .ok (.iconst 0, 1) := by decide +kernel
theorem dX11_parts_18 : decode cX11_parts 18 = .ok (.istore 7, 2) := by decide +kernel
theorem dX11_parts_20 : decode cX11_parts 20 = .ok (.iload 7, 2) := by decide +kernel
theorem dX11_parts_22 : decode cX11_parts 22 = .ok (.aload_n 0, 1) := by decide +kernel
theorem dX11_parts_23 : decode cX11_parts 23 = .ok (.iload_n 1, 1) := by decide +kernel
theorem dX11_parts_24 : decode cX11_parts 24 = .ok (.invokevirtual 152, 3) := by decide +kernel
theorem dX11_parts_27 : decode cX11_parts 27 = .ok (.if_icmp .ge 23, 3) := by decide +kernel
theorem dX11_parts_30 : decode cX11_parts 30 = .ok (.aload_n 0, 1) := by decide +kernel
theorem dX11_parts_31 : decode cX11_parts 31 = .ok (.getfield 33, 3) := by decide +kernel
theorem dX11_parts_34 : decode cX11_parts 34 = .ok (.sipush 2048, 3) := by decide +kernel
theorem dX11_parts_37 : decode cX11_parts 37 = .ok (.iload_n 1, 1) := by decide +kernel
theorem dX11_parts_38 : decode cX11_parts 38 = .ok (.imul, 1) := by decide +kernel
theorem dX11_parts_39 : decode cX11_parts 39 = .ok (.iload 7, 2) := by decide +kernel
theorem dX11_parts_41 : decode cX11_parts 41 = .ok (.iadd, 1) := by decide +kernel
theorem dX11_parts_42 : decode cX11_parts 42 = .ok (.iconst 0, 1) := by decide +kernel
theorem dX11_parts_43 : decode cX11_parts 43 = .ok (.iastore, 1) := by decide +kernel
theorem dX11_parts_44 : decode cX11_parts 44 = .ok (.iinc 7 1, 3) := by decide +kernel
theorem dX11_parts_47 : decode cX11_parts 47 = .ok (.goto (-27), 3) := by decide +kernel
theorem dX11_parts_50 : decode cX11_parts 50 = .ok (.sipush 160, 3) := by decide +kernel
theorem dX11_parts_53 : decode cX11_parts 53 = .ok (.iload_n 1, 1) := by decide +kernel
theorem dX11_parts_54 : decode cX11_parts 54 = .ok (.imul, 1) := by decide +kernel
theorem dX11_parts_55 : decode cX11_parts 55 = .ok (.istore 7, 2) := by decide +kernel
theorem dX11_parts_57 : decode cX11_parts 57 = .ok (.iload 7, 2) := by decide +kernel
theorem dX11_parts_59 : decode cX11_parts 59 = .ok (.sipush 160, 3) := by decide +kernel
theorem dX11_parts_62 : decode cX11_parts 62 = .ok (.iload_n 1, 1) := by decide +kernel
theorem dX11_parts_63 : decode cX11_parts 63 = .ok (.imul, 1) := by decide +kernel
theorem dX11_parts_64 : decode cX11_parts 64 = .ok (.aload_n 0, 1) := by decide +kernel
theorem dX11_parts_65 : decode cX11_parts 65 = .ok (.iload_n 1, 1) := by decide +kernel
theorem dX11_parts_66 : decode cX11_parts 66 = .ok (.invokevirtual 95, 3) := by decide +kernel
theorem dX11_parts_69 : decode cX11_parts 69 = .ok (.iadd, 1) := by decide +kernel
theorem dX11_parts_70 : decode cX11_parts 70 = .ok (.if_icmp .ge 50, 3) := by decide +kernel
theorem dX11_parts_120 : decode cX11_parts 120 = .ok (.lconst 0, 1) := by decide +kernel
theorem dX11_parts_121 : decode cX11_parts 121 = .ok (.lstore 7, 2) := by decide +kernel
theorem dX11_parts_123 : decode cX11_parts 123 = .ok (.iconst 0, 1) := by decide +kernel
theorem dX11_parts_124 : decode cX11_parts 124 = .ok (.istore 9, 2) := by decide +kernel
theorem dX11_parts_126 : decode cX11_parts 126 = .ok (.iload 9, 2) := by decide +kernel
theorem dX11_parts_128 : decode cX11_parts 128 = .ok (.aload_n 0, 1) := by decide +kernel
theorem dX11_parts_129 : decode cX11_parts 129 = .ok (.iload_n 1, 1) := by decide +kernel
theorem dX11_parts_130 : decode cX11_parts 130 = .ok (.invokevirtual 152, 3) := by decide +kernel
theorem dX11_parts_133 : decode cX11_parts 133 = .ok (.if_icmp .ge 51, 3) := by decide +kernel
theorem dX11_parts_136 : decode cX11_parts 136 = .ok (.aload_n 0, 1) := by decide +kernel
theorem dX11_parts_137 : decode cX11_parts 137 = .ok (.getfield 30, 3) := by decide +kernel
theorem dX11_parts_140 : decode cX11_parts 140 = .ok (.sipush 2048, 3) := by decide +kernel
theorem dX11_parts_143 : decode cX11_parts 143 = .ok (.iload_n 1, 1) := by decide +kernel
theorem dX11_parts_144 : decode cX11_parts 144 = .ok (.imul, 1) := by decide +kernel
theorem dX11_parts_145 : decode cX11_parts 145 = .ok (.iload 9, 2) := by decide +kernel
theorem dX11_parts_147 : decode cX11_parts 147 = .ok (.iadd, 1) := by decide +kernel
theorem dX11_parts_148 : decode cX11_parts 148 = .ok (.iload 6, 2) := by decide +kernel
theorem dX11_parts_150 : decode cX11_parts 150 = .ok (.aload_n 0, 1) := by decide +kernel
theorem dX11_parts_151 : decode cX11_parts 151 = .ok (.getfield 33, 3) := by decide +kernel
theorem dX11_parts_154 : decode cX11_parts 154 = .ok (.sipush 2048, 3) := by decide +kernel
theorem dX11_parts_157 : decode cX11_parts 157 = .ok (.iload_n 1, 1) := by decide +kernel
theorem dX11_parts_158 : decode cX11_parts 158 = .ok (.imul, 1) := by decide +kernel
theorem dX11_parts_159 : decode cX11_parts 159 = .ok (.iload 9, 2) := by decide +kernel
theorem dX11_parts_161 : decode cX11_parts 161 = .ok (.iadd, 1) := by decide +kernel
theorem dX11_parts_162 : decode cX11_parts 162 = .ok (.iaload, 1) := by decide +kernel
theorem dX11_parts_163 : decode cX11_parts 163 = .ok (.imul, 1) := by decide +kernel
theorem dX11_parts_164 : decode cX11_parts 164 = .ok (.iastore, 1) := by decide +kernel
theorem dX11_parts_165 : decode cX11_parts 165 = .ok (.lload 7, 2) := by decide +kernel
theorem dX11_parts_167 : decode cX11_parts 167 = .ok (.aload_n 0, 1) := by decide +kernel
theorem dX11_parts_168 : decode cX11_parts 168 = .ok (.iload_n 1, 1) := by decide +kernel
theorem dX11_parts_169 : decode cX11_parts 169 = .ok (.iload 9, 2) := by decide +kernel
theorem dX11_parts_171 : decode cX11_parts 171 = .ok (.invokevirtual 137, 3) := by decide +kernel
theorem dX11_parts_174 : decode cX11_parts 174 = .ok (.i2l, 1) := by decide +kernel
theorem dX11_parts_175 : decode cX11_parts 175 = .ok (.ladd, 1) := by decide +kernel
theorem dX11_parts_176 : decode cX11_parts 176 = .ok (.lstore 7, 2) := by decide +kernel
theorem dX11_parts_178 : decode cX11_parts 178 = .ok (.iinc 9 1, 3) := by decide +kernel
theorem dX11_parts_181 : decode cX11_parts 181 = .ok (.goto (-55), 3) := by decide +kernel
theorem dX11_parts_184 : decode cX11_parts 184 = .ok (.aload_n 0, 1) := by decide +kernel
theorem dX11_parts_185 : decode cX11_parts 185 = .ok (.iload_n 1, 1) := by decide +kernel
theorem dX11_parts_186 : decode cX11_parts 186 = .ok (.iconst 5, 1) := by decide +kernel
theorem dX11_parts_187 : decode cX11_parts 187 = .ok (.lload 7, 2) := by decide +kernel
theorem dX11_parts_189 : decode cX11_parts 189 = .ok (.invokevirtual 126, 3) := by decide +kernel
theorem dX11_parts_192 : decode cX11_parts 192 = .ok (.lload 7, 2) := by decide +kernel
theorem dX11_parts_194 : decode cX11_parts 194 = .ok (.lreturn, 1) := by decide +kernel
theorem dX11_buildsAll_0 : decode cX11_buildsAll 0 = .ok (.aload_n 0, 1) := by decide +kernel
theorem dX11_buildsAll_1 : decode cX11_buildsAll 1 = .ok (.iload_n 1, 1) := by decide +kernel
theorem dX11_buildsAll_2 : decode cX11_buildsAll 2 = .ok (.invokevirtual 95, 3) := by decide +kernel
theorem dX11_buildsAll_5 : decode cX11_buildsAll 5 = .ok (.istore_n 2, 1) := by decide +kernel
theorem dX11_buildsAll_6 : decode cX11_buildsAll 6 = .ok (.aload_n 0, 1) := by decide +kernel
theorem dX11_buildsAll_7 : decode cX11_buildsAll 7 = .ok (.iload_n 1, 1) := by decide +kernel
theorem dX11_buildsAll_8 : decode cX11_buildsAll 8 = .ok (.iconst 2, 1) := by decide +kernel
theorem dX11_buildsAll_9 : decode cX11_buildsAll 9 = .ok (.iload_n 2, 1) := by decide +kernel
theorem dX11_buildsAll_10 : decode cX11_buildsAll 10 = .ok (.i2l, 1) := by decide +kernel
theorem dX11_buildsAll_11 : decode cX11_buildsAll 11 = .ok (.aload_n 0, 1) := by decide +kernel
theorem dX11_buildsAll_12 : decode cX11_buildsAll 12 = .ok (.iload_n 1, 1) := by decide +kernel
theorem dX11_buildsAll_13 : decode cX11_buildsAll 13 = .ok (.bipush 16, 2) := by decide +kernel
theorem dX11_buildsAll_15 : decode cX11_buildsAll 15 = .ok (.invokevirtual 89, 3) := by decide +kernel
theorem dX11_buildsAll_18 : decode cX11_buildsAll 18 = .ok (.iload_n 2, 1) := by decide +kernel
theorem dX11_buildsAll_19 : decode cX11_buildsAll 19 = .ok (.i2l, 1) := by decide +kernel
theorem dX11_buildsAll_20 : decode cX11_buildsAll 20 = .ok (.lmul, 1) := by decide +kernel
theorem dX11_buildsAll_21 : decode cX11_buildsAll 21 = .ok (.ldc2_w 158, 3) := by decide +kernel
theorem dX11_buildsAll_24 : decode cX11_buildsAll 24 = .ok (.ldiv, 1) := by decide +kernel
theorem dX11_buildsAll_25 : decode cX11_buildsAll 25 = .ok (.ladd, 1) := by decide +kernel
theorem dX11_buildsAll_26 : decode cX11_buildsAll 26 = .ok (.ldc2_w 160, 3) := by decide +kernel
theorem dX11_buildsAll_29 : decode cX11_buildsAll 29 = .ok (.ladd, 1) := by decide +kernel
theorem dX11_buildsAll_30 : decode cX11_buildsAll 30 = .ok (.invokevirtual 126, 3) := by decide +kernel
theorem dX11_buildsAll_33 : decode cX11_buildsAll 33 = .ok (.aload_n 0, 1) := by decide +kernel
theorem dX11_buildsAll_34 : decode cX11_buildsAll 34 = .ok (.iload_n 1, 1) := by decide +kernel
theorem dX11_buildsAll_35 : decode cX11_buildsAll 35 = .ok (.iconst 3, 1) := by decide +kernel
theorem dX11_buildsAll_36 : decode cX11_buildsAll 36 = .ok (.iload_n 2, 1) := by decide +kernel
theorem dX11_buildsAll_37 : decode cX11_buildsAll 37 = .ok (.i2l, 1) := by decide +kernel
theorem dX11_buildsAll_38 : decode cX11_buildsAll 38 = .ok (.invokevirtual 126, 3) := by decide +kernel
theorem dX11_buildsAll_41 : decode cX11_buildsAll 41 = .ok (.aload_n 0, 1) := by decide +kernel
theorem dX11_buildsAll_42 : decode cX11_buildsAll 42 = .ok (.iload_n 1, 1) := by decide +kernel
theorem dX11_buildsAll_43 : decode cX11_buildsAll 43 = .ok (.bipush 15, 2) := by decide +kernel
theorem dX11_buildsAll_45 : decode cX11_buildsAll 45 = .ok (.invokevirtual 89, 3) := by decide +kernel
theorem dX11_buildsAll_48 : decode cX11_buildsAll 48 = .ok (.aload_n 0, 1) := by decide +kernel
theorem dX11_buildsAll_49 : decode cX11_buildsAll 49 = .ok (.iload_n 1, 1) := by decide +kernel
theorem dX11_buildsAll_50 : decode cX11_buildsAll 50 = .ok (.iconst 2, 1) := by decide +kernel
theorem dX11_buildsAll_51 : decode cX11_buildsAll 51 = .ok (.invokevirtual 89, 3) := by decide +kernel
theorem dX11_buildsAll_54 : decode cX11_buildsAll 54 = .ok (.lmul, 1) := by decide +kernel
theorem dX11_buildsAll_55 : decode cX11_buildsAll 55 = .ok (.ldc2_w 158, 3) := by decide +kernel
theorem dX11_buildsAll_58 : decode cX11_buildsAll 58 = .ok (.ldiv, 1) := by decide +kernel
theorem dX11_buildsAll_59 : decode cX11_buildsAll 59 = .ok (.lstore_n 3, 1) := by decide +kernel
theorem dX11_buildsAll_60 : decode cX11_buildsAll 60 = .ok (.aload_n 0, 1) := by decide +kernel
theorem dX11_buildsAll_61 : decode cX11_buildsAll 61 = .ok (.iload_n 1, 1) := by decide +kernel
theorem dX11_buildsAll_62 : decode cX11_buildsAll 62 = .ok (.iconst 4, 1) := by decide +kernel
theorem dX11_buildsAll_63 : decode cX11_buildsAll 63 = .ok (.lload_n 3, 1) := by decide +kernel
theorem dX11_buildsAll_64 : decode cX11_buildsAll 64 = .ok (.lconst 1, 1) := by decide +kernel
theorem dX11_buildsAll_65 : decode cX11_buildsAll 65 = .ok (.lcmp, 1) := by decide +kernel
theorem dX11_buildsAll_66 : decode cX11_buildsAll 66 = .ok (.ifCond .ge 7, 3) := by decide +kernel
theorem dX11_buildsAll_73 : decode cX11_buildsAll 73 = .ok (.lload_n 3, 1) := by decide +kernel
theorem dX11_buildsAll_74 : decode cX11_buildsAll 74 = .ok (.invokevirtual 126, 3) := by decide +kernel
theorem dX11_buildsAll_77 : decode cX11_buildsAll 77 = .ok (.aload_n 0, 1) := by decide +kernel
theorem dX11_buildsAll_78 : decode cX11_buildsAll 78 = .ok (.iload_n 1, 1) := by decide +kernel
theorem dX11_buildsAll_79 : decode cX11_buildsAll 79 = .ok (.invokevirtual 162, 3) := by decide +kernel
theorem dX11_buildsAll_82 : decode cX11_buildsAll 82 = .ok (.aload_n 0, 1) := by decide +kernel
theorem dX11_buildsAll_83 : decode cX11_buildsAll 83 = .ok (.invokevirtual 141, 3) := by decide +kernel
theorem dX11_buildsAll_86 : decode cX11_buildsAll 86 = .ok (.aload_n 0, 1) := by decide +kernel
theorem dX11_buildsAll_87 : decode cX11_buildsAll 87 = .ok (.iload_n 1, 1) := by decide +kernel
theorem dX11_buildsAll_88 : decode cX11_buildsAll 88 = .ok (.aload_n 0, 1) := by decide +kernel
theorem dX11_buildsAll_89 : decode cX11_buildsAll 89 = .ok (.getfield 117, 3) := by decide +kernel
theorem dX11_buildsAll_92 : decode cX11_buildsAll 92 = .ok (.aload_n 0, 1) := by decide +kernel
theorem dX11_buildsAll_93 : decode cX11_buildsAll 93 = .ok (.getfield 120, 3) := by decide +kernel
theorem dX11_buildsAll_96 : decode cX11_buildsAll 96 = .ok (.iconst 2, 1) := by decide +kernel
theorem dX11_buildsAll_97 : decode cX11_buildsAll 97 = .ok (.invokevirtual 165, 3) := by decide +kernel
theorem dX11_buildsAll_100 : decode cX11_buildsAll 100 = .ok (.aload_n 0, 1) := by decide +kernel
theorem dX11_buildsAll_101 : decode cX11_buildsAll 101 = .ok (.iload_n 1, 1) := by decide +kernel
theorem dX11_buildsAll_102 : decode cX11_buildsAll 102 = .ok (.bipush 14, 2) := by decide +kernel
theorem dX11_buildsAll_104 : decode cX11_buildsAll 104 = .ok (.invokevirtual 89, 3) := by decide +kernel
theorem dX11_buildsAll_107 : decode cX11_buildsAll 107 = .ok (.aload_n 0, 1) := by decide +kernel
theorem dX11_buildsAll_108 : decode cX11_buildsAll 108 = .ok (.iload_n 1, 1) := by decide +kernel
theorem dX11_buildsAll_109 : decode cX11_buildsAll 109 = .ok (.iconst 2, 1) := by decide +kernel
theorem dX11_buildsAll_110 : decode cX11_buildsAll 110 = .ok (.invokevirtual 89, 3) := by decide +kernel
theorem dX11_buildsAll_113 : decode cX11_buildsAll 113 = .ok (.lmul, 1) := by decide +kernel
theorem dX11_buildsAll_114 : decode cX11_buildsAll 114 = .ok (.lcmp, 1) := by decide +kernel
theorem dX11_buildsAll_115 : decode cX11_buildsAll 115 = .ok (.ifCond .le 63, 3) := by decide +kernel
theorem dX11_buildsAll_178 : decode cX11_buildsAll 178 = .ok (.iconst 0, 1) := by decide +kernel
theorem dX11_buildsAll_179 : decode cX11_buildsAll 179 = .ok (.istore 5, 2) := by decide +kernel
theorem dX11_buildsAll_181 : decode cX11_buildsAll 181 = .ok (.iload 5, 2) := by decide +kernel
theorem dX11_buildsAll_183 : decode cX11_buildsAll 183 = .ok (.aload_n 0, 1) := by decide +kernel
theorem dX11_buildsAll_184 : decode cX11_buildsAll 184 = .ok (.iload_n 1, 1) := by decide +kernel
theorem dX11_buildsAll_185 : decode cX11_buildsAll 185 = .ok (.invokevirtual 152, 3) := by decide +kernel
theorem dX11_buildsAll_188 : decode cX11_buildsAll 188 = .ok (.if_icmp .ge 16, 3) := by decide +kernel
theorem dX11_buildsAll_191 : decode cX11_buildsAll 191 = .ok (.aload_n 0, 1) := by decide +kernel
theorem dX11_buildsAll_192 : decode cX11_buildsAll 192 = .ok (.iload_n 1, 1) := by decide +kernel
theorem dX11_buildsAll_193 : decode cX11_buildsAll 193 = .ok (.iload 5, 2) := by decide +kernel
theorem dX11_buildsAll_195 : decode cX11_buildsAll 195 = .ok (.invokevirtual 171, 3) := by decide +kernel
theorem dX11_buildsAll_198 : decode cX11_buildsAll 198 = .ok (.iinc 5 1, 3) := by decide +kernel
theorem dX11_buildsAll_201 : decode cX11_buildsAll 201 = .ok (.goto (-20), 3) := by decide +kernel
theorem dX11_buildsAll_204 : decode cX11_buildsAll 204 = .ok (.aload_n 0, 1) := by decide +kernel
theorem dX11_buildsAll_205 : decode cX11_buildsAll 205 = .ok (.iload_n 1, 1) := by decide +kernel
theorem dX11_buildsAll_206 : decode cX11_buildsAll 206 = .ok (.invokevirtual 175, 3) := by decide +kernel
theorem dX11_buildsAll_209 : decode cX11_buildsAll 209 = .ok (.aload_n 0, 1) := by decide +kernel
theorem dX11_buildsAll_210 : decode cX11_buildsAll 210 = .ok (.iload_n 1, 1) := by decide +kernel
theorem dX11_buildsAll_211 : decode cX11_buildsAll 211 = .ok (.bipush 12, 2) := by decide +kernel
theorem dX11_buildsAll_213 : decode cX11_buildsAll 213 = .ok (.iload_n 2, 1) := by decide +kernel
theorem dX11_buildsAll_214 : decode cX11_buildsAll 214 = .ok (.i2l, 1) := by decide +kernel
theorem dX11_buildsAll_215 : decode cX11_buildsAll 215 = .ok (.invokevirtual 130, 3) := by decide +kernel
theorem dX11_buildsAll_218 : decode cX11_buildsAll 218 = .ok (.return_, 1) := by decide +kernel
theorem dX11_make_0 : decode cX11_make 0 = .ok (.aload_n 0, 1) := by decide +kernel
theorem dX11_make_1 : decode cX11_make 1 = .ok (.iconst 0, 1) := by decide +kernel
theorem dX11_make_2 : decode cX11_make 2 = .ok (.putfield 73, 3) := by decide +kernel
theorem dX11_make_5 : decode cX11_make 5 = .ok (.iload_n 1, 1) := by decide +kernel
theorem dX11_make_6 : decode cX11_make 6 = .ok (.i2l, 1) := by decide +kernel
theorem dX11_make_7 : decode cX11_make 7 = .ok (.lconst 0, 1) := by decide +kernel
theorem dX11_make_8 : decode cX11_make 8 = .ok (.ldc2_w 87, 3) := by decide +kernel
theorem dX11_make_11 : decode cX11_make 11 = .ok (.invokestatic 83, 3) := by decide +kernel
theorem dX11_make_14 : decode cX11_make 14 = .ok (.ifCond .eq 44, 3) := by decide +kernel
theorem dX11_make_17 : decode cX11_make 17 = .ok (.iload_n 2, 1) := by decide +kernel
theorem dX11_make_18 : decode cX11_make 18 = .ok (.i2l, 1) := by decide +kernel
theorem dX11_make_19 : decode cX11_make 19 = .ok (.ldc2_w 178, 3) := by decide +kernel
theorem dX11_make_22 : decode cX11_make 22 = .ok (.ldc2_w 180, 3) := by decide +kernel
theorem dX11_make_25 : decode cX11_make 25 = .ok (.invokestatic 83, 3) := by decide +kernel
theorem dX11_make_28 : decode cX11_make 28 = .ok (.ifCond .eq 30, 3) := by decide +kernel
theorem dX11_make_31 : decode cX11_make 31 = .ok (.iload_n 3, 1) := by decide +kernel
theorem dX11_make_32 : decode cX11_make 32 = .ok (.i2l, 1) := by decide +kernel
theorem dX11_make_33 : decode cX11_make 33 = .ok (.ldc2_w 182, 3) := by decide +kernel
theorem dX11_make_36 : decode cX11_make 36 = .ok (.ldc2_w 184, 3) := by decide +kernel
theorem dX11_make_39 : decode cX11_make 39 = .ok (.invokestatic 83, 3) := by decide +kernel
theorem dX11_make_42 : decode cX11_make 42 = .ok (.ifCond .eq 16, 3) := by decide +kernel
theorem dX11_make_45 : decode cX11_make 45 = .ok (.iload 4, 2) := by decide +kernel
theorem dX11_make_47 : decode cX11_make 47 = .ok (.i2l, 1) := by decide +kernel
theorem dX11_make_48 : decode cX11_make 48 = .ok (.lconst 0, 1) := by decide +kernel
theorem dX11_make_49 : decode cX11_make 49 = .ok (.ldc2_w 186, 3) := by decide +kernel
theorem dX11_make_52 : decode cX11_make 52 = .ok (.invokestatic 83, 3) := by decide +kernel
theorem dX11_make_55 : decode cX11_make 55 = .ok (.ifCond .ne 6, 3) := by decide +kernel
theorem dX11_make_58 : decode cX11_make 58 = .ok (.bipush (-2), 2) := by decide +kernel
theorem dX11_make_60 : decode cX11_make 60 = .ok (.ireturn, 1) := by decide +kernel
theorem dX11_make_61 : decode cX11_make 61 = .ok (.aload_n 0, 1) := by decide +kernel
theorem dX11_make_62 : decode cX11_make 62 = .ok (.iload_n 1, 1) := by decide +kernel
