theorem dX11_init_128 : decode cX11_init 128 = .ok (.aload_n 0, 1) := by decide +kernel
theorem dX11_init_129 : decode cX11_init 129 = .ok (.iconst (-1), 1) := by decide +kernel
theorem dX11_init_130 : decode cX11_init 130 = .ok (.putfield 54, 3) := by decide +kernel
theorem dX11_init_133 : decode cX11_init 133 = .ok (.aload_n 0, 1) := by decide +kernel
theorem dX11_init_134 : decode cX11_init 134 = .ok (.iconst (-1), 1) := by decide +kernel
theorem dX11_init_135 : decode cX11_init 135 = .ok (.putfield 58, 3) := by decide +kernel
theorem dX11_init_138 : decode cX11_init 138 = .ok (.aload_n 0, 1) := by decide +kernel
theorem dX11_init_139 : decode cX11_init 139 = .ok (.sipush 700, 3) := by decide +kernel
theorem dX11_init_142 : decode cX11_init 142 = .ok (.newarray .int, 2) := by decide +kernel
theorem dX11_init_144 : decode cX11_init 144 = .ok (.putfield 61, 3) := by decide +kernel
theorem dX11_init_147 : decode cX11_init 147 = .ok (.aload_n 0, 1) := by decide +kernel
theorem dX11_init_148 : decode cX11_init 148 = .ok (.bipush 6, 2) := by decide +kernel
theorem dX11_init_150 : decode cX11_init 150 = .ok (.newarray .int, 2) := by decide +kernel
theorem dX11_init_152 : decode cX11_init 152 = .ok (.putfield 64, 3) := by decide +kernel
theorem dX11_init_155 : decode cX11_init 155 = .ok (.aload_n 0, 1) := by decide +kernel
theorem dX11_init_156 : decode cX11_init 156 = .ok (.bipush 6, 2) := by decide +kernel
theorem dX11_init_158 : decode cX11_init 158 = .ok (.newarray .int, 2) := by decide +kernel
theorem dX11_init_160 : decode cX11_init 160 = .ok (.putfield 67, 3) := by decide +kernel
theorem dX11_init_163 : decode cX11_init 163 = .ok (.aload_n 0, 1) := by decide +kernel
theorem dX11_init_164 : decode cX11_init 164 = .ok (.sipush 1400, 3) := by decide +kernel
theorem dX11_init_167 : decode cX11_init 167 = .ok (.newarray .int, 2) := by decide +kernel
theorem dX11_init_169 : decode cX11_init 169 = .ok (.putfield 70, 3) := by decide +kernel
theorem dX11_init_172 : decode cX11_init 172 = .ok (.return_, 1) := by decide +kernel
theorem dX11_isIn_0 : decode cX11_isIn 0 = .ok (.lload_n 0, 1) := by decide +kernel
theorem dX11_isIn_1 : decode cX11_isIn 1 = .ok (.lload_n 2, 1) := by decide +kernel
theorem dX11_isIn_2 : decode cX11_isIn 2 = .ok (.lcmp, 1) := by decide +kernel
theorem dX11_isIn_3 : decode cX11_isIn 3 = .ok (.ifCond .lt 14, 3) := by decide +kernel
theorem dX11_isIn_6 : decode cX11_isIn 6 = .ok (.lload_n 0, 1) := by decide +kernel
theorem dX11_isIn_7 : decode cX11_isIn 7 = .ok (.lload 4, 2) := by decide +kernel
theorem dX11_isIn_9 : decode cX11_isIn 9 = .ok (.lcmp, 1) := by decide +kernel
theorem dX11_isIn_10 : decode cX11_isIn 10 = .ok (.ifCond .gt 7, 3) := by decide +kernel
theorem dX11_isIn_13 : decode cX11_isIn 13 = .ok (.iconst 1, 1) := by decide +kernel
theorem dX11_isIn_14 : decode cX11_isIn 14 = .ok (.goto 4, 3) := by decide +kernel
theorem dX11_isIn_17 : decode cX11_isIn 17 = .ok (.iconst 0, 1) := by decide +kernel
theorem dX11_isIn_18 : decode cX11_isIn 18 = .ok (.ireturn, 1) := by decide +kernel
theorem dX11_flag_0 : decode cX11_flag 0 = .ok (.iload_n 0, 1) := by decide +kernel
theorem dX11_flag_1 : decode cX11_flag 1 = .ok (.ifCond .eq 7, 3) := by decide +kernel
theorem dX11_flag_8 : decode cX11_flag 8 = .ok (.iconst 0, 1) := by decide +kernel
theorem dX11_flag_9 : decode cX11_flag 9 = .ok (.ireturn, 1) := by decide +kernel
theorem dX11_puts_0 : decode cX11_puts 0 = .ok (.bipush 24, 2) := by decide +kernel
theorem dX11_puts_2 : decode cX11_puts 2 = .ok (.istore_n 2, 1) := by decide +kernel
theorem dX11_puts_3 : decode cX11_puts 3 = .ok (.iload_n 2, 1) := by decide +kernel
theorem dX11_puts_4 : decode cX11_puts 4 = .ok (.ifCond .lt 32, 3) := by decide +kernel
theorem dX11_puts_7 : decode cX11_puts 7 = .ok (.aload_n 0, 1) := by decide +kernel
theorem dX11_puts_8 : decode cX11_puts 8 = .ok (.getfield 7, 3) := by decide +kernel
theorem dX11_puts_11 : decode cX11_puts 11 = .ok (.aload_n 0, 1) := by decide +kernel
theorem dX11_puts_12 : decode cX11_puts 12 = .ok (.getfield 76, 3) := by decide +kernel
theorem dX11_puts_15 : decode cX11_puts 15 = .ok (.iload_n 1, 1) := by decide +kernel
theorem dX11_puts_16 : decode cX11_puts 16 = .ok (.iload_n 2, 1) := by decide +kernel
theorem dX11_puts_17 : decode cX11_puts 17 = .ok (.ishr, 1) := by decide +kernel
theorem dX11_puts_18 : decode cX11_puts 18 = .ok (.i2b, 1) := by decide +kernel
theorem dX11_puts_19 : decode cX11_puts 19 = .ok (.bastore, 1) := by decide +kernel
theorem dX11_puts_20 : decode cX11_puts 20 = .ok (.aload_n 0, 1) := by decide +kernel
theorem dX11_puts_21 : decode cX11_puts 21 = .ok (.dup, 1) := by decide +kernel
theorem dX11_puts_22 : decode cX11_puts 22 = .ok (.getfield 76, 3) := by decide +kernel
theorem dX11_puts_25 : decode cX11_puts 25 = .ok (.iconst 1, 1) := by decide +kernel
theorem dX11_puts_26 : decode cX11_puts 26 = .ok (.iadd, 1) := by decide +kernel
theorem dX11_puts_27 : decode cX11_puts 27 = .ok (.putfield 76, 3) := by decide +kernel
theorem dX11_puts_30 : decode cX11_puts 30 = .ok (.iinc 2 (-8), 3) := by decide +kernel
theorem dX11_puts_33 : decode cX11_puts 33 = .ok (.goto (-30), 3) := by decide +kernel
theorem dX11_puts_36 : decode cX11_puts 36 = .ok (.return_, 1) := by decide +kernel
theorem dX11_feed_0 : decode cX11_feed 0 = .ok (.aload_n 0, 1) := by decide +kernel
theorem dX11_feed_1 : decode cX11_feed 1 = .ok (.iconst 0, 1) := by decide +kernel
theorem dX11_feed_2 : decode cX11_feed 2 = .ok (.putfield 73, 3) := by decide +kernel
theorem dX11_feed_5 : decode cX11_feed 5 = .ok (.aload_n 0, 1) := by decide +kernel
theorem dX11_feed_6 : decode cX11_feed 6 = .ok (.getfield 76, 3) := by decide +kernel
theorem dX11_feed_9 : decode cX11_feed 9 = .ok (.bipush 20, 2) := by decide +kernel
theorem dX11_feed_11 : decode cX11_feed 11 = .ok (.iadd, 1) := by decide +kernel
theorem dX11_feed_12 : decode cX11_feed 12 = .ok (.sipush 1400, 3) := by decide +kernel
theorem dX11_feed_15 : decode cX11_feed 15 = .ok (.if_icmp .le 5, 3) := by decide +kernel
theorem dX11_feed_20 : decode cX11_feed 20 = .ok (.aload_n 0, 1) := by decide +kernel
theorem dX11_feed_21 : decode cX11_feed 21 = .ok (.iload_n 1, 1) := by decide +kernel
theorem dX11_feed_22 : decode cX11_feed 22 = .ok (.invokevirtual 79, 3) := by decide +kernel
theorem dX11_feed_25 : decode cX11_feed 25 = .ok (.aload_n 0, 1) := by decide +kernel
theorem dX11_feed_26 : decode cX11_feed 26 = .ok (.iload_n 2, 1) := by decide +kernel
theorem dX11_feed_27 : decode cX11_feed 27 = .ok (.invokevirtual 79, 3) := by decide +kernel
theorem dX11_feed_30 : decode cX11_feed 30 = .ok (.aload_n 0, 1) := by decide +kernel
theorem dX11_feed_31 : decode cX11_feed 31 = .ok (.iload_n 3, 1) := by decide +kernel
theorem dX11_feed_32 : decode cX11_feed 32 = .ok (.invokevirtual 79, 3) := by decide +kernel
theorem dX11_feed_35 : decode cX11_feed 35 = .ok (.aload_n 0, 1) := by decide +kernel
theorem dX11_feed_36 : decode cX11_feed 36 = .ok (.iload 4, 2) := by decide +kernel
theorem dX11_feed_38 : decode cX11_feed 38 = .ok (.invokevirtual 79, 3) := by decide +kernel
theorem dX11_feed_41 : decode cX11_feed 41 = .ok (.aload_n 0, 1) := by decide +kernel
theorem dX11_feed_42 : decode cX11_feed 42 = .ok (.iload 5, 2) := by decide +kernel
theorem dX11_feed_44 : decode cX11_feed 44 = .ok (.invokevirtual 79, 3) := by decide +kernel
theorem dX11_feed_47 : decode cX11_feed 47 = .ok (.aload_n 0, 1) := by decide +kernel
theorem dX11_feed_48 : decode cX11_feed 48 = .ok (.getfield 76, 3) := by decide +kernel
theorem dX11_feed_51 : decode cX11_feed 51 = .ok (.ireturn, 1) := by decide +kernel
theorem dX11_end_0 : decode cX11_end 0 = .ok (.aload_n 0, 1) := by decide +kernel
theorem dX11_end_1 : decode cX11_end 1 = .ok (.iconst 0, 1) := by decide +kernel
theorem dX11_end_2 : decode cX11_end 2 = .ok (.putfield 73, 3) := by decide +kernel
theorem dX11_end_5 : decode cX11_end 5 = .ok (.iload_n 1, 1) := by decide +kernel
theorem dX11_end_6 : decode cX11_end 6 = .ok (.i2l, 1) := by decide +kernel
theorem dX11_end_7 : decode cX11_end 7 = .ok (.lconst 0, 1) := by decide +kernel
theorem dX11_end_8 : decode cX11_end 8 = .ok (.aload_n 0, 1) := by decide +kernel
theorem dX11_end_9 : decode cX11_end 9 = .ok (.getfield 76, 3) := by decide +kernel
theorem dX11_end_12 : decode cX11_end 12 = .ok (.i2l, 1) := by decide +kernel
theorem dX11_end_13 : decode cX11_end 13 = .ok (.invokestatic 83, 3) := by decide +kernel
theorem dX11_end_16 : decode cX11_end 16 = .ok (.ifCond .ne 5, 3) := by decide +kernel
theorem dX11_end_19 : decode cX11_end 19 = .ok (.iconst 0, 1) := by decide +kernel
theorem dX11_end_20 : decode cX11_end 20 = .ok (.ireturn, 1) := by decide +kernel
theorem dX11_end_21 : decode cX11_end 21 = .ok (.aload_n 0, 1) := by decide +kernel
theorem dX11_end_22 : decode cX11_end 22 = .ok (.iload_n 1, 1) := by decide +kernel
theorem dX11_end_23 : decode cX11_end 23 = .ok (.putfield 76, 3) := by decide +kernel
theorem dX11_end_26 : decode cX11_end 26 = .ok (.iconst 1, 1) := by decide +kernel
theorem dX11_end_27 : decode cX11_end 27 = .ok (.ireturn, 1) := by decide +kernel
theorem dX11_of_0 : decode cX11_of 0 = .ok (.aload_n 0, 1) := by decide +kernel
theorem dX11_of_1 : decode cX11_of 1 = .ok (.getfield 13, 3) := by decide +kernel
theorem dX11_of_4 : decode cX11_of 4 = .ok (.bipush 17, 2) := by decide +kernel
theorem dX11_of_6 : decode cX11_of 6 = .ok (.iload_n 1, 1) := by decide +kernel
theorem dX11_of_7 : decode cX11_of 7 = .ok (.imul, 1) := by decide +kernel
theorem dX11_of_8 : decode cX11_of 8 = .ok (.iload_n 2, 1) := by decide +kernel
theorem dX11_of_9 : decode cX11_of 9 = .ok (.iadd, 1) := by decide +kernel
theorem dX11_of_10 : decode cX11_of 10 = .ok (.laload, 1) := by decide +kernel
theorem dX11_of_11 : decode cX11_of 11 = .ok (.lreturn, 1) := by decide +kernel
theorem dX11_isThere_0 : decode cX11_isThere 0 = .ok (.iload_n 1, 1) := by decide +kernel
theorem dX11_isThere_1 : decode cX11_isThere 1 = .ok (.i2l, 1) := by decide +kernel
theorem dX11_isThere_2 : decode cX11_isThere 2 = .ok (.lconst 0, 1) := by decide +kernel
theorem dX11_isThere_3 : decode cX11_isThere 3 = .ok (.ldc2_w 87, 3) := by decide +kernel
theorem dX11_isThere_6 : decode cX11_isThere 6 = .ok (.invokestatic 83, 3) := by decide +kernel
theorem dX11_isThere_9 : decode cX11_isThere 9 = .ok (.ifCond .eq 18, 3) := by decide +kernel
theorem dX11_isThere_12 : decode cX11_isThere 12 = .ok (.aload_n 0, 1) := by decide +kernel
theorem dX11_isThere_13 : decode cX11_isThere 13 = .ok (.iload_n 1, 1) := by decide +kernel
theorem dX11_isThere_14 : decode cX11_isThere 14 = .ok (.iconst 0, 1) := by decide +kernel
theorem dX11_isThere_15 : decode cX11_isThere 15 = .ok (.invokevirtual 89, 3) := by decide +kernel
theorem dX11_isThere_18 : decode cX11_isThere 18 = .ok (.lconst 1, 1) := by decide +kernel
theorem dX11_isThere_19 : decode cX11_isThere 19 = .ok (.lcmp, 1) := by decide +kernel
theorem dX11_isThere_20 : decode cX11_isThere 20 = .ok (.ifCond .ne 7, 3) := by decide +kernel
theorem dX11_isThere_27 : decode cX11_isThere 27 = .ok (.iconst 0, 1) := by decide +kernel
theorem dX11_isThere_28 : decode cX11_isThere 28 = .ok (.ireturn, 1) := by decide +kernel
theorem dX11_put_0 : decode cX11_put 0 = .ok (.aload_n 0, 1) := by decide +kernel
theorem dX11_put_1 : decode cX11_put 1 = .ok (.iconst 0, 1) := by decide +kernel
theorem dX11_put_2 : decode cX11_put 2 = .ok (.putfield 73, 3) := by decide +kernel
theorem dX11_put_5 : decode cX11_put 5 = .ok (.aload_n 0, 1) := by decide +kernel
theorem dX11_put_6 : decode cX11_put 6 = .ok (.iload_n 1, 1) := by decide +kernel
theorem dX11_put_7 : decode cX11_put 7 = .ok (.invokevirtual 222, 3) := by decide +kernel
theorem dX11_put_10 : decode cX11_put 10 = .ok (.ifCond .eq 10, 3) := by decide +kernel
theorem dX11_put_20 : decode cX11_put 20 = .ok (.bipush (-2), 2) := by decide +kernel
theorem dX11_put_22 : decode cX11_put 22 = .ok (.ireturn, 1) := by decide +kernel
theorem dX11_get_0 : decode cX11_get 0 = .ok (.aload_n 0, 1) := by decide +kernel
theorem dX11_get_1 : decode cX11_get 1 = .ok (.iconst 0, 1) := by decide +kernel
theorem dX11_get_2 : decode cX11_get 2 = .ok (.putfield 73, 3) := by decide +kernel
theorem dX11_get_5 : decode cX11_get 5 = .ok (.aload_n 0, 1) := by decide +kernel
theorem dX11_get_6 : decode cX11_get 6 = .ok (.iload_n 1, 1) := by decide +kernel
theorem dX11_get_7 : decode cX11_get 7 = .ok (.invokevirtual 222, 3) := by decide +kernel
theorem dX11_get_10 : decode cX11_get 10 = .ok (.ifCond .eq 10, 3) := by decide +kernel
theorem dX11_get_20 : decode cX11_get 20 = .ok (.ldc2_w 235, 3) := by decide +kernel
theorem dX11_get_23 : decode cX11_get 23 = .ok (.lreturn, 1) := by decide +kernel
theorem dX11_drop_0 : decode cX11_drop 0 = .ok (.aload_n 0, 1) := by decide +kernel
theorem dX11_drop_1 : decode cX11_drop 1 = .ok (.iconst 0, 1) := by decide +kernel
theorem dX11_drop_2 : decode cX11_drop 2 = .ok (.putfield 73, 3) := by decide +kernel
theorem dX11_drop_5 : decode cX11_drop 5 = .ok (.aload_n 0, 1) := by decide +kernel
theorem dX11_drop_6 : decode cX11_drop 6 = .ok (.iload_n 1, 1) := by decide +kernel
theorem dX11_drop_7 : decode cX11_drop 7 = .ok (.invokevirtual 222, 3) := by decide +kernel
theorem dX11_drop_10 : decode cX11_drop 10 = .ok (.ifCond .eq 19, 3) := by decide +kernel
theorem dX11_drop_29 : decode cX11_drop 29 = .ok (.bipush (-2), 2) := by decide +kernel
theorem dX11_drop_31 : decode cX11_drop 31 = .ok (.ireturn, 1) := by decide +kernel
theorem dX11_build_0 : decode cX11_build 0 = .ok (.aload_n 0, 1) := by decide +kernel
theorem dX11_build_1 : decode cX11_build 1 = .ok (.iconst 0, 1) := by decide +kernel
theorem dX11_build_2 : decode cX11_build 2 = .ok (.putfield 73, 3) := by decide +kernel
theorem dX11_build_5 : decode cX11_build 5 = .ok (.aload_n 0, 1) := by decide +kernel
theorem dX11_build_6 : decode cX11_build 6 = .ok (.iload_n 1, 1) := by decide +kernel
theorem dX11_build_7 : decode cX11_build 7 = .ok (.invokevirtual 222, 3) := by decide +kernel
theorem dX11_build_10 : decode cX11_build 10 = .ok (.ifCond .ne 6, 3) := by decide +kernel
theorem dX11_build_13 : decode cX11_build 13 = .ok (.bipush (-2), 2) := by decide +kernel
theorem dX11_build_15 : decode cX11_build 15 = .ok (.ireturn, 1) := by decide +kernel
theorem dX11_has_0 : decode cX11_has 0 = .ok (.aload_n 0, 1) := by decide +kernel
theorem dX11_has_1 : decode cX11_has 1 = .ok (.iconst 0, 1) := by decide +kernel
theorem dX11_has_2 : decode cX11_has 2 = .ok (.putfield 73, 3) := by decide +kernel
theorem dX11_has_5 : decode cX11_has 5 = .ok (.aload_n 0, 1) := by decide +kernel
theorem dX11_has_6 : decode cX11_has 6 = .ok (.iload_n 1, 1) := by decide +kernel
theorem dX11_has_7 : decode cX11_has 7 = .ok (.invokevirtual 222, 3) := by decide +kernel
theorem dX11_has_10 : decode cX11_has 10 = .ok (.ifCond .ne 7, 3) := by decide +kernel
theorem dX11_has_13 : decode cX11_has 13 = .ok (.ldc2_w 235, 3) := by decide +kernel
theorem dX11_has_16 : decode cX11_has 16 = .ok (.lreturn, 1) := by decide +kernel
theorem dX11_isBucket_0 : decode cX11_isBucket 0 = .ok (.aload_n 0, 1) := by decide +kernel
theorem dX11_isBucket_1 : decode cX11_isBucket 1 = .ok (.iload_n 1, 1) := by decide +kernel
theorem dX11_isBucket_2 : decode cX11_isBucket 2 = .ok (.invokevirtual 222, 3) := by decide +kernel
theorem dX11_isBucket_5 : decode cX11_isBucket 5 = .ok (.ifCond .eq 24, 3) := by decide +kernel
theorem dX11_isBucket_29 : decode cX11_isBucket 29 = .ok (.iconst 0, 1) := by decide +kernel
theorem dX11_isBucket_30 : decode cX11_isBucket 30 = .ok (.ireturn, 1) := by decide +kernel
theorem dX11_bucket_0 : decode cX11_bucket 0 = .ok (.aload_n 0, 1) := by decide +kernel
theorem dX11_bucket_1 : decode cX11_bucket 1 = .ok (.iconst 0, 1) := by decide +kernel
theorem dX11_bucket_2 : decode cX11_bucket 2 = .ok (.putfield 73, 3) := by decide +kernel
theorem dX11_bucket_5 : decode cX11_bucket 5 = .ok (.aload_n 0, 1) := by decide +kernel
theorem dX11_bucket_6 : decode cX11_bucket 6 = .ok (.iload_n 1, 1) := by decide +kernel
theorem dX11_bucket_7 : decode cX11_bucket 7 = .ok (.iload_n 2, 1) := by decide +kernel
theorem dX11_bucket_8 : decode cX11_bucket 8 = .ok (.invokevirtual 246, 3) := by decide +kernel
theorem dX11_bucket_11 : decode cX11_bucket 11 = .ok (.ifCond .ne 7, 3) := by decide +kernel
theorem dX11_bucket_14 : decode cX11_bucket 14 = .ok (.ldc2_w 235, 3) := by decide +kernel
theorem dX11_bucket_17 : decode cX11_bucket 17 = .ok (.lreturn, 1) := by decide +kernel
theorem dX11_room_0 : decode cX11_room 0 = .ok (.aload_n 0, 1) := by decide +kernel
theorem dX11_room_1 : decode cX11_room 1 = .ok (.iconst 0, 1) := by decide +kernel
theorem dX11_room_2 : decode cX11_room 2 = .ok (.putfield 73, 3) := by decide +kernel
theorem dX11_room_5 : decode cX11_room 5 = .ok (.aload_n 0, 1) := by decide +kernel
theorem dX11_room_6 : decode cX11_room 6 = .ok (.iload_n 1, 1) := by decide +kernel
theorem dX11_room_7 : decode cX11_room 7 = .ok (.iload_n 2, 1) := by decide +kernel
theorem dX11_room_8 : decode cX11_room 8 = .ok (.invokevirtual 246, 3) := by decide +kernel
theorem dX11_room_11 : decode cX11_room 11 = .ok (.ifCond .eq 21, 3) := by decide +kernel
theorem dX11_room_32 : decode cX11_room 32 = .ok (.bipush (-2), 2) := by decide +kernel
theorem dX11_room_34 : decode cX11_room 34 = .ok (.ireturn, 1) := by decide +kernel
theorem dX11_place_0 : decode cX11_place 0 = .ok (.aload_n 0, 1) := by decide +kernel
theorem dX11_place_1 : decode cX11_place 1 = .ok (.iconst 0, 1) := by decide +kernel
theorem dX11_place_2 : decode cX11_place 2 = .ok (.putfield 73, 3) := by decide +kernel
theorem dX11_place_5 : decode cX11_place 5 = .ok (.aload_n 0, 1) := by decide +kernel
theorem dX11_place_6 : decode cX11_place 6 = .ok (.iload_n 1, 1) := by decide +kernel
theorem dX11_place_7 : decode cX11_place 7 = .ok (.invokevirtual 222, 3) := by decide +kernel
theorem dX11_place_10 : decode cX11_place 10 = .ok (.ifCond .eq 20, 3) := by decide +kernel
theorem dX11_place_30 : decode cX11_place 30 = .ok (.bipush (-2), 2) := by decide +kernel
theorem dX11_place_32 : decode cX11_place 32 = .ok (.ireturn, 1) := by decide +kernel
theorem dX11_key_0 : decode cX11_key 0 = .ok (.aload_n 0, 1) := by decide +kernel
theorem dX11_key_1 : decode cX11_key 1 = .ok (.iconst 0, 1) := by decide +kernel
theorem dX11_key_2 : decode cX11_key 2 = .ok (.putfield 73, 3) := by decide +kernel
theorem dX11_key_5 : decode cX11_key 5 = .ok (.aload_n 0, 1) := by decide +kernel
theorem dX11_key_6 : decode cX11_key 6 = .ok (.iload_n 1, 1) := by decide +kernel
theorem dX11_key_7 : decode cX11_key 7 = .ok (.invokevirtual 222, 3) := by decide +kernel
theorem dX11_key_10 : decode cX11_key 10 = .ok (.ifCond .eq 35, 3) := by decide +kernel
theorem dX11_key_45 : decode cX11_key 45 = .ok (.iconst (-1), 1) := by decide +kernel
theorem dX11_key_46 : decode cX11_key 46 = .ok (.ireturn, 1) := by decide +kernel
theorem dX11_walk_0 : decode cX11_walk 0 = .ok (.aload_n 0, 1) := by decide +kernel
theorem dX11_walk_1 : decode cX11_walk 1 = .ok (.iconst 0, 1) := by decide +kernel
theorem dX11_walk_2 : decode cX11_walk 2 = .ok (.putfield 73, 3) := by decide +kernel
theorem dX11_walk_5 : decode cX11_walk 5 = .ok (.aload_n 0, 1) := by decide +kernel
theorem dX11_walk_6 : decode cX11_walk 6 = .ok (.iload_n 1, 1) := by decide +kernel
theorem dX11_walk_7 : decode cX11_walk 7 = .ok (.invokevirtual 222, 3) := by decide +kernel
theorem dX11_walk_10 : decode cX11_walk 10 = .ok (.ifCond .ne 5, 3) := by decide +kernel
theorem dX11_walk_13 : decode cX11_walk 13 = .ok (.iconst (-1), 1) := by decide +kernel
theorem dX11_walk_14 : decode cX11_walk 14 = .ok (.ireturn, 1) := by decide +kernel
theorem dX11_below_0 : decode cX11_below 0 = .ok (.aload_n 0, 1) := by decide +kernel
theorem dX11_below_1 : decode cX11_below 1 = .ok (.iconst 0, 1) := by decide +kernel
theorem dX11_below_2 : decode cX11_below 2 = .ok (.putfield 73, 3) := by decide +kernel
theorem dX11_below_5 : decode cX11_below 5 = .ok (.aload_n 0, 1) := by decide +kernel
theorem dX11_below_6 : decode cX11_below 6 = .ok (.iload_n 1, 1) := by decide +kernel
theorem dX11_below_7 : decode cX11_below 7 = .ok (.invokevirtual 222, 3) := by decide +kernel
theorem dX11_below_10 : decode cX11_below 10 = .ok (.ifCond .eq 25, 3) := by decide +kernel
theorem dX11_below_35 : decode cX11_below 35 = .ok (.iconst (-1), 1) := by decide +kernel
theorem dX11_below_36 : decode cX11_below 36 = .ok (.ireturn, 1) := by decide +kernel
theorem dX11_many_0 : decode cX11_many 0 = .ok (.aload_n 0, 1) := by decide +kernel
theorem dX11_many_1 : decode cX11_many 1 = .ok (.iconst 0, 1) := by decide +kernel
theorem dX11_many_2 : decode cX11_many 2 = .ok (.putfield 73, 3) := by decide +kernel
theorem dX11_many_5 : decode cX11_many 5 = .ok (.aload_n 0, 1) := by decide +kernel
theorem dX11_many_6 : decode cX11_many 6 = .ok (.iload_n 1, 1) := by decide +kernel
theorem dX11_many_7 : decode cX11_many 7 = .ok (.invokevirtual 222, 3) := by decide +kernel
theorem dX11_many_10 : decode cX11_many 10 = .ok (.ifCond .eq 7, 3) := by decide +kernel
theorem dX11_many_17 : decode cX11_many 17 = .ok (.iconst (-1), 1) := by decide +kernel
theorem dX11_many_18 : decode cX11_many 18 = .ok (.ireturn, 1) := by decide +kernel
theorem dX11_crowd_0 : decode cX11_crowd 0 = .ok (.aload_n 0, 1) := by decide +kernel
theorem dX11_crowd_1 : decode cX11_crowd 1 = .ok (.iconst 0, 1) := by decide +kernel
theorem dX11_crowd_2 : decode cX11_crowd 2 = .ok (.putfield 73, 3) := by decide +kernel
theorem dX11_crowd_5 : decode cX11_crowd 5 = .ok (.aload_n 0, 1) := by decide +kernel
theorem dX11_crowd_6 : decode cX11_crowd 6 = .ok (.iload_n 1, 1) := by decide +kernel
theorem dX11_crowd_7 : decode cX11_crowd 7 = .ok (.invokevirtual 222, 3) := by decide +kernel
theorem dX11_crowd_10 : decode cX11_crowd 10 = .ok (.ifCond .eq 15, 3) := by decide +kernel
theorem dX11_crowd_25 : decode cX11_crowd 25 = .ok (.iconst (-1), 1) := by decide +kernel
theorem dX11_crowd_26 : decode cX11_crowd 26 = .ok (.ireturn, 1) := by decide +kernel
theorem dX11_empty_0 : decode cX11_empty 0 = .ok (.aload_n 0, 1) := by decide +kernel
theorem dX11_empty_1 : decode cX11_empty 1 = .ok (.iconst 0, 1) := by decide +kernel
theorem dX11_empty_2 : decode cX11_empty 2 = .ok (.putfield 73, 3) := by decide +kernel
theorem dX11_empty_5 : decode cX11_empty 5 = .ok (.aload_n 0, 1) := by decide +kernel
theorem dX11_empty_6 : decode cX11_empty 6 = .ok (.iload_n 1, 1) := by decide +kernel
theorem dX11_empty_7 : decode cX11_empty 7 = .ok (.invokevirtual 222, 3) := by decide +kernel
theorem dX11_empty_10 : decode cX11_empty 10 = .ok (.ifCond .eq 19, 3) := by decide +kernel
theorem dX11_empty_29 : decode cX11_empty 29 = .ok (.iconst (-1), 1) := by decide +kernel
theorem dX11_empty_30 : decode cX11_empty 30 = .ok (.ireturn, 1) := by decide +kernel
theorem dX11_left_0 : decode cX11_left 0 = .ok (.aload_n 0, 1) := by decide +kernel
theorem dX11_left_1 : decode cX11_left 1 = .ok (.iconst 0, 1) := by decide +kernel
theorem dX11_left_2 : decode cX11_left 2 = .ok (.putfield 73, 3) := by decide +kernel
theorem dX11_left_5 : decode cX11_left 5 = .ok (.aload_n 0, 1) := by decide +kernel
theorem dX11_left_6 : decode cX11_left 6 = .ok (.iload_n 1, 1) := by decide +kernel
theorem dX11_left_7 : decode cX11_left 7 = .ok (.invokevirtual 222, 3) := by decide +kernel
theorem dX11_left_10 : decode cX11_left 10 = .ok (.ifCond .eq 22, 3) := by decide +kernel
theorem dX11_left_32 : decode cX11_left 32 = .ok (.iconst (-1), 1) := by decide +kernel
theorem dX11_left_33 : decode cX11_left 33 = .ok (.ireturn, 1) := by decide +kernel
theorem dX11_outer_0 : decode cX11_outer 0 = .ok (.aload_n 0, 1) := by decide +kernel
theorem dX11_outer_1 : decode cX11_outer 1 = .ok (.iconst 0, 1) := by decide +kernel
theorem dX11_outer_2 : decode cX11_outer 2 = .ok (.putfield 73, 3) := by decide +kernel
theorem dX11_outer_5 : decode cX11_outer 5 = .ok (.aload_n 0, 1) := by decide +kernel
theorem dX11_outer_6 : decode cX11_outer 6 = .ok (.iload_n 1, 1) := by decide +kernel
theorem dX11_outer_7 : decode cX11_outer 7 = .ok (.invokevirtual 222, 3) := by decide +kernel
theorem dX11_outer_10 : decode cX11_outer 10 = .ok (.ifCond .eq 37, 3) := by decide +kernel
theorem dX11_outer_47 : decode cX11_outer 47 = .ok (.ldc2_w 235, 3) := by decide +kernel
theorem dX11_outer_50 : decode cX11_outer 50 = .ok (.lreturn, 1) := by decide +kernel
theorem dX11_inner_0 : decode cX11_inner 0 = .ok (.aload_n 0, 1) := by decide +kernel
theorem dX11_inner_1 : decode cX11_inner 1 = .ok (.iconst 0, 1) := by decide +kernel
theorem dX11_inner_2 : decode cX11_inner 2 = .ok (.putfield 73, 3) := by decide +kernel
theorem dX11_inner_5 : decode cX11_inner 5 = .ok (.aload_n 0, 1) := by decide +kernel
theorem dX11_inner_6 : decode cX11_inner 6 = .ok (.iload_n 1, 1) := by decide +kernel
theorem dX11_inner_7 : decode cX11_inner 7 = .ok (.iload_n 2, 1) := by decide +kernel
theorem dX11_inner_8 : decode cX11_inner 8 = .ok (.invokevirtual 246, 3) := by decide +kernel
theorem dX11_inner_11 : decode cX11_inner 11 = .ok (.ifCond .eq 35, 3) := by decide +kernel
theorem dX11_inner_46 : decode cX11_inner 46 = .ok (.iconst (-1), 1) := by decide +kernel
theorem dX11_inner_47 : decode cX11_inner 47 = .ok (.ireturn, 1) := by decide +kernel
theorem dX11_tries_0 : decode cX11_tries 0 = .ok (.aload_n 0, 1) := by decide +kernel
theorem dX11_tries_1 : decode cX11_tries 1 = .ok (.iconst 0, 1) := by decide +kernel
theorem dX11_tries_2 : decode cX11_tries 2 = .ok (.putfield 73, 3) := by decide +kernel
theorem dX11_tries_5 : decode cX11_tries 5 = .ok (.aload_n 0, 1) := by decide +kernel
theorem dX11_tries_6 : decode cX11_tries 6 = .ok (.iload_n 1, 1) := by decide +kernel
theorem dX11_tries_7 : decode cX11_tries 7 = .ok (.iload_n 2, 1) := by decide +kernel
theorem dX11_tries_8 : decode cX11_tries 8 = .ok (.invokevirtual 246, 3) := by decide +kernel
theorem dX11_tries_11 : decode cX11_tries 11 = .ok (.ifCond .eq 35, 3) := by decide +kernel
theorem dX11_tries_46 : decode cX11_tries 46 = .ok (.bipush (-2), 2) := by decide +kernel
theorem dX11_tries_48 : decode cX11_tries 48 = .ok (.ireturn, 1) := by decide +kernel
theorem dX11_best_0 : decode cX11_best 0 = .ok (.aload_n 0, 1) := by decide +kernel
theorem dX11_best_1 : decode cX11_best 1 = .ok (.iconst 0, 1) := by decide +kernel
theorem dX11_best_2 : decode cX11_best 2 = .ok (.putfield 73, 3) := by decide +kernel
theorem dX11_best_5 : decode cX11_best 5 = .ok (.aload_n 0, 1) := by decide +kernel
theorem dX11_best_6 : decode cX11_best 6 = .ok (.iload_n 1, 1) := by decide +kernel
theorem dX11_best_7 : decode cX11_best 7 = .ok (.invokevirtual 222, 3) := by decide +kernel
theorem dX11_best_10 : decode cX11_best 10 = .ok (.ifCond .eq 28, 3) := by decide +kernel
theorem dX11_best_38 : decode cX11_best 38 = .ok (.ldc2_w 235, 3) := by decide +kernel
theorem dX11_best_41 : decode cX11_best 41 = .ok (.lreturn, 1) := by decide +kernel
theorem dX11_nearest_0 : decode cX11_nearest 0 = .ok (.aload_n 0, 1) := by decide +kernel
theorem dX11_nearest_1 : decode cX11_nearest 1 = .ok (.iconst 0, 1) := by decide +kernel
theorem dX11_nearest_2 : decode cX11_nearest 2 = .ok (.putfield 73, 3) := by decide +kernel
theorem dX11_nearest_5 : decode cX11_nearest 5 = .ok (.aload_n 0, 1) := by decide +kernel
theorem dX11_nearest_6 : decode cX11_nearest 6 = .ok (.iload_n 1, 1) := by decide +kernel
theorem dX11_nearest_7 : decode cX11_nearest 7 = .ok (.invokevirtual 222, 3) := by decide +kernel
theorem dX11_nearest_10 : decode cX11_nearest 10 = .ok (.ifCond .eq 18, 3) := by decide +kernel
theorem dX11_nearest_28 : decode cX11_nearest 28 = .ok (.iconst (-1), 1) := by decide +kernel
theorem dX11_nearest_29 : decode cX11_nearest 29 = .ok (.ireturn, 1) := by decide +kernel
theorem dX11_would_0 : decode cX11_would 0 = .ok (.aload_n 0, 1) := by decide +kernel
theorem dX11_would_1 : decode cX11_would 1 = .ok (.iconst 0, 1) := by decide +kernel
theorem dX11_would_2 : decode cX11_would 2 = .ok (.putfield 73, 3) := by decide +kernel
theorem dX11_would_5 : decode cX11_would 5 = .ok (.aload_n 0, 1) := by decide +kernel
theorem dX11_would_6 : decode cX11_would 6 = .ok (.iload_n 1, 1) := by decide +kernel
theorem dX11_would_7 : decode cX11_would 7 = .ok (.invokevirtual 222, 3) := by decide +kernel
theorem dX11_would_10 : decode cX11_would 10 = .ok (.ifCond .eq 10, 3) := by decide +kernel
theorem dX11_would_20 : decode cX11_would 20 = .ok (.bipush (-2), 2) := by decide +kernel
theorem dX11_would_22 : decode cX11_would 22 = .ok (.ireturn, 1) := by decide +kernel
theorem dX11_frozen_0 : decode cX11_frozen 0 = .ok (.aload_n 0, 1) := by decide +kernel
theorem dX11_frozen_1 : decode cX11_frozen 1 = .ok (.iconst 0, 1) := by decide +kernel
theorem dX11_frozen_2 : decode cX11_frozen 2 = .ok (.putfield 73, 3) := by decide +kernel
theorem dX11_frozen_5 : decode cX11_frozen 5 = .ok (.aload_n 0, 1) := by decide +kernel
theorem dX11_frozen_6 : decode cX11_frozen 6 = .ok (.iload_n 1, 1) := by decide +kernel
theorem dX11_frozen_7 : decode cX11_frozen 7 = .ok (.invokevirtual 222, 3) := by decide +kernel
theorem dX11_frozen_10 : decode cX11_frozen 10 = .ok (.ifCond .eq 16, 3) := by decide +kernel
theorem dX11_frozen_26 : decode cX11_frozen 26 = .ok (.ldc2_w 235, 3) := by decide +kernel
theorem dX11_frozen_29 : decode cX11_frozen 29 = .ok (.lreturn, 1) := by decide +kernel
theorem dX11_frozenAt_0 : decode cX11_frozenAt 0 = .ok (.aload_n 0, 1) := by decide +kernel
theorem dX11_frozenAt_1 : decode cX11_frozenAt 1 = .ok (.iconst 0, 1) := by decide +kernel
theorem dX11_frozenAt_2 : decode cX11_frozenAt 2 = .ok (.putfield 73, 3) := by decide +kernel
theorem dX11_frozenAt_5 : decode cX11_frozenAt 5 = .ok (.aload_n 0, 1) := by decide +kernel
theorem dX11_frozenAt_6 : decode cX11_frozenAt 6 = .ok (.iload_n 1, 1) := by decide +kernel
theorem dX11_frozenAt_7 : decode cX11_frozenAt 7 = .ok (.invokevirtual 222, 3) := by decide +kernel
theorem dX11_frozenAt_10 : decode cX11_frozenAt 10 = .ok (.ifCond .ne 5, 3) := by decide +kernel
theorem dX11_frozenAt_13 : decode cX11_frozenAt 13 = .ok (.iconst (-1), 1) := by decide +kernel
theorem dX11_frozenAt_14 : decode cX11_frozenAt 14 = .ok (.ireturn, 1) := by decide +kernel
theorem dX11_shared_0 : decode cX11_shared 0 = .ok (.aload_n 0, 1) := by decide +kernel
theorem dX11_shared_1 : decode cX11_shared 1 = .ok (.iconst 0, 1) := by decide +kernel
theorem dX11_shared_2 : decode cX11_shared 2 = .ok (.putfield 73, 3) := by decide +kernel
