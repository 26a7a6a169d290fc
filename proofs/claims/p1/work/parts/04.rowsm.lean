theorem dX11_init_0 : decode cX11_init 0 = .ok (.aload_n 0, 1) := by decide +kernel
theorem dX11_init_1 : decode cX11_init 1 = .ok (.invokespecial 1, 3) := by decide +kernel
theorem dX11_init_4 : decode cX11_init 4 = .ok (.aload_n 0, 1) := by decide +kernel
theorem dX11_init_5 : decode cX11_init 5 = .ok (.sipush 1400, 3) := by decide +kernel
theorem dX11_init_8 : decode cX11_init 8 = .ok (.newarray .byte, 2) := by decide +kernel
theorem dX11_init_10 : decode cX11_init 10 = .ok (.putfield 7, 3) := by decide +kernel
theorem dX11_init_13 : decode cX11_init 13 = .ok (.aload_n 0, 1) := by decide +kernel
theorem dX11_init_14 : decode cX11_init 14 = .ok (.bipush 85, 2) := by decide +kernel
theorem dX11_init_16 : decode cX11_init 16 = .ok (.newarray .long, 2) := by decide +kernel
theorem dX11_init_18 : decode cX11_init 18 = .ok (.putfield 13, 3) := by decide +kernel
theorem dX11_init_21 : decode cX11_init 21 = .ok (.aload_n 0, 1) := by decide +kernel
theorem dX11_init_22 : decode cX11_init 22 = .ok (.sipush 800, 3) := by decide +kernel
theorem dX11_init_25 : decode cX11_init 25 = .ok (.newarray .int, 2) := by decide +kernel
theorem dX11_init_27 : decode cX11_init 27 = .ok (.putfield 17, 3) := by decide +kernel
theorem dX11_init_30 : decode cX11_init 30 = .ok (.aload_n 0, 1) := by decide +kernel
theorem dX11_init_31 : decode cX11_init 31 = .ok (.sipush 800, 3) := by decide +kernel
theorem dX11_init_34 : decode cX11_init 34 = .ok (.newarray .int, 2) := by decide +kernel
theorem dX11_init_36 : decode cX11_init 36 = .ok (.putfield 21, 3) := by decide +kernel
theorem dX11_init_39 : decode cX11_init 39 = .ok (.aload_n 0, 1) := by decide +kernel
theorem dX11_init_40 : decode cX11_init 40 = .ok (.sipush 800, 3) := by decide +kernel
theorem dX11_init_43 : decode cX11_init 43 = .ok (.newarray .int, 2) := by decide +kernel
theorem dX11_init_45 : decode cX11_init 45 = .ok (.putfield 24, 3) := by decide +kernel
theorem dX11_init_48 : decode cX11_init 48 = .ok (.aload_n 0, 1) := by decide +kernel
theorem dX11_init_49 : decode cX11_init 49 = .ok (.sipush 800, 3) := by decide +kernel
theorem dX11_init_52 : decode cX11_init 52 = .ok (.newarray .int, 2) := by decide +kernel
theorem dX11_init_54 : decode cX11_init 54 = .ok (.putfield 27, 3) := by decide +kernel
theorem dX11_init_57 : decode cX11_init 57 = .ok (.aload_n 0, 1) := by decide +kernel
theorem dX11_init_58 : decode cX11_init 58 = .ok (.sipush 10240, 3) := by decide +kernel
theorem dX11_init_61 : decode cX11_init 61 = .ok (.newarray .int, 2) := by decide +kernel
theorem dX11_init_63 : decode cX11_init 63 = .ok (.putfield 30, 3) := by decide +kernel
theorem dX11_init_66 : decode cX11_init 66 = .ok (.aload_n 0, 1) := by decide +kernel
theorem dX11_init_67 : decode cX11_init 67 = .ok (.sipush 10240, 3) := by decide +kernel
theorem dX11_init_70 : decode cX11_init 70 = .ok (.newarray .int, 2) := by decide +kernel
theorem dX11_init_72 : decode cX11_init 72 = .ok (.putfield 33, 3) := by decide +kernel
theorem dX11_init_75 : decode cX11_init 75 = .ok (.aload_n 0, 1) := by decide +kernel
theorem dX11_init_76 : decode cX11_init 76 = .ok (.sipush 10240, 3) := by decide +kernel
theorem dX11_init_79 : decode cX11_init 79 = .ok (.newarray .long, 2) := by decide +kernel
theorem dX11_init_81 : decode cX11_init 81 = .ok (.putfield 36, 3) := by decide +kernel
theorem dX11_init_84 : decode cX11_init 84 = .ok (.aload_n 0, 1) := by decide +kernel
theorem dX11_init_85 : decode cX11_init 85 = .ok (.sipush 10240, 3) := by decide +kernel
theorem dX11_init_88 : decode cX11_init 88 = .ok (.newarray .long, 2) := by decide +kernel
theorem dX11_init_90 : decode cX11_init 90 = .ok (.putfield 39, 3) := by decide +kernel
theorem dX11_init_93 : decode cX11_init 93 = .ok (.aload_n 0, 1) := by decide +kernel
theorem dX11_init_94 : decode cX11_init 94 = .ok (.sipush 2048, 3) := by decide +kernel
theorem dX11_init_97 : decode cX11_init 97 = .ok (.newarray .int, 2) := by decide +kernel
theorem dX11_init_99 : decode cX11_init 99 = .ok (.putfield 42, 3) := by decide +kernel
theorem dX11_init_102 : decode cX11_init 102 = .ok (.aload_n 0, 1) := by decide +kernel
theorem dX11_init_103 : decode cX11_init 103 = .ok (.sipush 2000, 3) := by decide +kernel
theorem dX11_init_106 : decode cX11_init 106 = .ok (.newarray .int, 2) := by decide +kernel
theorem dX11_init_108 : decode cX11_init 108 = .ok (.putfield 45, 3) := by decide +kernel
theorem dX11_init_111 : decode cX11_init 111 = .ok (.aload_n 0, 1) := by decide +kernel
theorem dX11_init_112 : decode cX11_init 112 = .ok (.bipush 6, 2) := by decide +kernel
theorem dX11_init_114 : decode cX11_init 114 = .ok (.newarray .int, 2) := by decide +kernel
theorem dX11_init_116 : decode cX11_init 116 = .ok (.putfield 48, 3) := by decide +kernel
theorem dX11_init_119 : decode cX11_init 119 = .ok (.aload_n 0, 1) := by decide +kernel
theorem dX11_init_120 : decode cX11_init 120 = .ok (.sipush 700, 3) := by decide +kernel
theorem dX11_init_123 : decode cX11_init 123 = .ok (.newarray .int, 2) := by decide +kernel
theorem dX11_init_125 : decode cX11_init 125 = .ok (.putfield 51, 3) := by decide +kernel
theorem dX11_init_128 : decode cX11_init 128 = .ok (.aload_n 0, 1) := by decide +kernel
theorem dX11_init_129 : decode cX11_init 129 = .ok (.iconst (-1), 1) := by decide +kernel
theorem dX11_init_130 : decode cX11_init 130 = .ok (.putfield 54, 3) := by decide +kernel
theorem dX11_init_133 : decode cX11_init 133 = .ok (.aload_n 0, 1) := by decide +kernel
theorem dX11_init_134 : decode cX11_init 134 = .ok (.iconst (-1), 1) := by decide +kernel
theorem dX11_init_135 : decode cX11_init 135 = .ok (.putfield 58, 3) := by decide +kernel
theorem dX11_init_138 : decode cX11_init 138 = .ok (.aload_n 0, 1) := by decide +kernel
theorem dX11_init_139 : decode cX11_init 139 = .ok (.sipush 700, 3) := by decide +kernel
theorem dX11_init_142 : decode cX11_init 142 = .ok (.newarray .int, 2) := by decide +kernel
theorem dX11_init_144 : decode cX11_init 144 = .ok (.putfield 61, 3) := by decide +kernel
theorem dX11_init_147 : decode cX11_init 147 = .ok (.aload_n 0, 1) := by decide +kernel
theorem dX11_init_148 : decode cX11_init 148 = .ok (.bipush 6, 2) := by decide +kernel
theorem dX11_init_150 : decode cX11_init 150 = .ok (.newarray .int, 2) := by decide +kernel
theorem dX11_init_152 : decode cX11_init 152 = .ok (.putfield 64, 3) := by decide +kernel
theorem dX11_init_155 : decode cX11_init 155 = .ok (.aload_n 0, 1) := by decide +kernel
theorem dX11_init_156 : decode cX11_init 156 = .ok (.bipush 6, 2) := by decide +kernel
theorem dX11_init_158 : decode cX11_init 158 = .ok (.newarray .int, 2) := by decide +kernel
theorem dX11_init_160 : decode cX11_init 160 = .ok (.putfield 67, 3) := by decide +kernel
theorem dX11_init_163 : decode cX11_init 163 = .ok (.aload_n 0, 1) := by decide +kernel
theorem dX11_init_164 : decode cX11_init 164 = .ok (.sipush 1400, 3) := by decide +kernel
theorem dX11_init_167 : decode cX11_init 167 = .ok (.newarray .int, 2) := by decide +kernel
theorem dX11_init_169 : decode cX11_init 169 = .ok (.putfield 70, 3) := by decide +kernel
theorem dX11_init_172 : decode cX11_init 172 = .ok (.return_, 1) := by decide +kernel
theorem dX11_isIn_0 : decode cX11_isIn 0 = .ok (.lload_n 0, 1) := by decide +kernel
theorem dX11_isIn_1 : decode cX11_isIn 1 = .ok (.lload_n 2, 1) := by decide +kernel
theorem dX11_isIn_2 : decode cX11_isIn 2 = .ok (.lcmp, 1) := by decide +kernel
theorem dX11_isIn_3 : decode cX11_isIn 3 = .ok (.ifCond .lt 14, 3) := by decide +kernel
theorem dX11_isIn_6 : decode cX11_isIn 6 = .ok (.lload_n 0, 1) := by decide +kernel
theorem dX11_isIn_7 : decode cX11_isIn 7 = .ok (.lload 4, 2) := by decide +kernel
theorem dX11_isIn_9 : decode cX11_isIn 9 = .ok (.lcmp, 1) := by decide +kernel
theorem dX11_isIn_10 : decode cX11_isIn 10 = .ok (.ifCond .gt 7, 3) := by decide +kernel
theorem dX11_isIn_13 : decode cX11_isIn 13 = .ok (.iconst 1, 1) := by decide +kernel
theorem dX11_isIn_14 : decode cX11_isIn 14 = .ok (.goto 4, 3) := by decide +kernel
theorem dX11_isIn_17 : decode cX11_isIn 17 = .ok (.iconst 0, 1) := by decide +kernel
theorem dX11_isIn_18 : decode cX11_isIn 18 = .ok (.ireturn, 1) := by decide +kernel
theorem dX11_flag_0 : decode cX11_flag 0 = .ok (.iload_n 0, 1) := by decide +kernel
theorem dX11_flag_1 : decode cX11_flag 1 = .ok (.ifCond .eq 7, 3) := by decide +kernel
theorem dX11_flag_4 : decode cX11_flag 4 = .ok (.iconst 1, 1) := by decide +kernel
theorem dX11_flag_5 : decode cX11_flag 5 = .ok (.goto 4, 3) := by decide +kernel
theorem dX11_flag_8 : decode cX11_flag 8 = .ok (.iconst 0, 1) := by decide +kernel
theorem dX11_flag_9 : decode cX11_flag 9 = .ok (.ireturn, 1) := by decide +kernel
theorem dX11_puts_0 : decode cX11_puts 0 = .ok (.bipush 24, 2) := by decide +kernel
theorem dX11_puts_2 : decode cX11_puts 2 = .ok (.istore_n 2, 1) := by decide +kernel
theorem dX11_puts_3 : decode cX11_puts 3 = .ok (.iload_n 2, 1) := by decide +kernel
theorem dX11_puts_4 : decode cX11_puts 4 = .ok (.ifCond .lt 32, 3) := by decide +kernel
theorem dX11_puts_7 : decode cX11_puts 7 = .ok (.aload_n 0, 1) := by decide +kernel
theorem dX11_puts_8 : decode cX11_puts 8 = .ok (.getfield 7, 3) := by decide +kernel
theorem dX11_puts_11 : decode cX11_puts 11 = .ok (.aload_n 0, 1) := by decide +kernel
theorem dX11_puts_12 : decode cX11_puts 12 = .ok (.getfield 76, 3) := by decide +kernel
theorem dX11_puts_15 : decode cX11_puts 15 = .ok (.iload_n 1, 1) := by decide +kernel
theorem dX11_puts_16 : decode cX11_puts 16 = .ok (.iload_n 2, 1) := by decide +kernel
theorem dX11_puts_17 : decode cX11_puts 17 = .ok (.ishr, 1) := by decide +kernel
theorem dX11_puts_18 : decode cX11_puts 18 = .ok (.i2b, 1) := by decide +kernel
theorem dX11_puts_19 : decode cX11_puts 19 = .ok (.bastore, 1) := by decide +kernel
theorem dX11_puts_20 : decode cX11_puts 20 = .ok (.aload_n 0, 1) := by decide +kernel
theorem dX11_puts_21 : decode cX11_puts 21 = .ok (.dup, 1) := by decide +kernel
theorem dX11_puts_22 : decode cX11_puts 22 = .ok (.getfield 76, 3) := by decide +kernel
theorem dX11_puts_25 : decode cX11_puts 25 = .ok (.iconst 1, 1) := by decide +kernel
theorem dX11_puts_26 : decode cX11_puts 26 = .ok (.iadd, 1) := by decide +kernel
theorem dX11_puts_27 : decode cX11_puts 27 = .ok (.putfield 76, 3) := by decide +kernel
theorem dX11_puts_30 : decode cX11_puts 30 = .ok (.iinc 2 (-8), 3) := by decide +kernel
theorem dX11_puts_33 : decode cX11_puts 33 = .ok (.goto (-30), 3) := by decide +kernel
theorem dX11_puts_36 : decode cX11_puts 36 = .ok (.return_, 1) := by decide +kernel
set_option maxRecDepth 20000 in
theorem ggX11_feed_X11_puts : GoodIn wsX11_feed wsX11_puts := goodIn_r _ [7, 8, 2, 9, 10, 11, 12, 13, 14, 15, 16, 17, 18, 19, 20, 21, 22, 23, 24, 25, 26, 27, 28, 29, 30, 31, 32, 33, 34, 35, 36, 37, 38, 39, 40, 41, 42, 43, 44, 45, 46, 47, 48, 49, 50, 51, 52, 53, 54, 55] (by decide +kernel) (by decide +kernel)
set_option maxRecDepth 20000 in
theorem gX11_feed_X11_puts : GoodIn wsX11_feed (wsV RX11 79 RX11 yX11_puts wsX11_puts) := goodIn_app (goodIn_of _ (by decide +kernel)) ggX11_feed_X11_puts
theorem dX11_feed_0 : decode cX11_feed 0 = .ok (.aload_n 0, 1) := by decide +kernel
theorem dX11_feed_1 : decode cX11_feed 1 = .ok (.iconst 0, 1) := by decide +kernel
theorem dX11_feed_2 : decode cX11_feed 2 = .ok (.putfield 73, 3) := by decide +kernel
theorem dX11_feed_5 : decode cX11_feed 5 = .ok (.aload_n 0, 1) := by decide +kernel
theorem dX11_feed_6 : decode cX11_feed 6 = .ok (.getfield 76, 3) := by decide +kernel
theorem dX11_feed_9 : decode cX11_feed 9 = .ok (.bipush 20, 2) := by decide +kernel
theorem dX11_feed_11 : decode cX11_feed 11 = .ok (.iadd, 1) := by decide +kernel
theorem dX11_feed_12 : decode cX11_feed 12 = .ok (.sipush 1400, 3) := by decide +kernel
theorem dX11_feed_15 : decode cX11_feed 15 = .ok (.if_icmp .le 5, 3) := by decide +kernel
theorem dX11_feed_18 : decode cX11_feed 18 = .ok (.iconst (-1), 1) := by decide +kernel
theorem dX11_feed_19 : decode cX11_feed 19 = .ok (.ireturn, 1) := by decide +kernel
theorem dX11_feed_20 : decode cX11_feed 20 = .ok (.aload_n 0, 1) := by decide +kernel
theorem dX11_feed_21 : decode cX11_feed 21 = .ok (.iload_n 1, 1) := by decide +kernel
theorem dX11_feed_22 : decode cX11_feed 22 = .ok (.invokevirtual 79, 3) := by decide +kernel
theorem dX11_feed_25 : decode cX11_feed 25 = .ok (.aload_n 0, 1) := by decide +kernel
theorem dX11_feed_26 : decode cX11_feed 26 = .ok (.iload_n 2, 1) := by decide +kernel
theorem dX11_feed_27 : decode cX11_feed 27 = .ok (.invokevirtual 79, 3) := by decide +kernel
theorem dX11_feed_30 : decode cX11_feed 30 = .ok (.aload_n 0, 1) := by decide +kernel
theorem dX11_feed_31 : decode cX11_feed 31 = .ok (.iload_n 3, 1) := by decide +kernel
theorem dX11_feed_32 : decode cX11_feed 32 = .ok (.invokevirtual 79, 3) := by decide +kernel
theorem dX11_feed_35 : decode cX11_feed 35 = .ok (.aload_n 0, 1) := by decide +kernel
theorem dX11_feed_36 : decode cX11_feed 36 = .ok (.iload 4, 2) := by decide +kernel
theorem dX11_feed_38 : decode cX11_feed 38 = .ok (.invokevirtual 79, 3) := by decide +kernel
theorem dX11_feed_41 : decode cX11_feed 41 = .ok (.aload_n 0, 1) := by decide +kernel
theorem dX11_feed_42 : decode cX11_feed 42 = .ok (.iload 5, 2) := by decide +kernel
theorem dX11_feed_44 : decode cX11_feed 44 = .ok (.invokevirtual 79, 3) := by decide +kernel
theorem dX11_feed_47 : decode cX11_feed 47 = .ok (.aload_n 0, 1) := by decide +kernel
theorem dX11_feed_48 : decode cX11_feed 48 = .ok (.getfield 76, 3) := by decide +kernel
theorem dX11_feed_51 : decode cX11_feed 51 = .ok (.ireturn, 1) := by decide +kernel
set_option maxRecDepth 20000 in
theorem ggX11_end_X11_isIn : GoodIn wsX11_end wsX11_isIn := goodIn_r _ [6] (by decide +kernel) (by decide +kernel)
set_option maxRecDepth 20000 in
theorem gX11_end_X11_isIn : GoodIn wsX11_end (va_wsS RX11 83 yX11_isIn wsX11_isIn) := goodIn_app (goodIn_of _ (by decide +kernel)) ggX11_end_X11_isIn
theorem dX11_end_0 : decode cX11_end 0 = .ok (.aload_n 0, 1) := by decide +kernel
theorem dX11_end_1 : decode cX11_end 1 = .ok (.iconst 0, 1) := by decide +kernel
theorem dX11_end_2 : decode cX11_end 2 = .ok (.putfield 73, 3) := by decide +kernel
theorem dX11_end_5 : decode cX11_end 5 = .ok (.iload_n 1, 1) := by decide +kernel
theorem dX11_end_6 : decode cX11_end 6 = .ok (.i2l, 1) := by decide +kernel
theorem dX11_end_7 : decode cX11_end 7 = .ok (.lconst 0, 1) := by decide +kernel
theorem dX11_end_8 : decode cX11_end 8 = .ok (.aload_n 0, 1) := by decide +kernel
theorem dX11_end_9 : decode cX11_end 9 = .ok (.getfield 76, 3) := by decide +kernel
theorem dX11_end_12 : decode cX11_end 12 = .ok (.i2l, 1) := by decide +kernel
theorem dX11_end_13 : decode cX11_end 13 = .ok (.invokestatic 83, 3) := by decide +kernel
theorem dX11_end_16 : decode cX11_end 16 = .ok (.ifCond .ne 5, 3) := by decide +kernel
theorem dX11_end_19 : decode cX11_end 19 = .ok (.iconst 0, 1) := by decide +kernel
theorem dX11_end_20 : decode cX11_end 20 = .ok (.ireturn, 1) := by decide +kernel
theorem dX11_end_21 : decode cX11_end 21 = .ok (.aload_n 0, 1) := by decide +kernel
theorem dX11_end_22 : decode cX11_end 22 = .ok (.iload_n 1, 1) := by decide +kernel
theorem dX11_end_23 : decode cX11_end 23 = .ok (.putfield 76, 3) := by decide +kernel
theorem dX11_end_26 : decode cX11_end 26 = .ok (.iconst 1, 1) := by decide +kernel
theorem dX11_end_27 : decode cX11_end 27 = .ok (.ireturn, 1) := by decide +kernel
theorem dX11_of_0 : decode cX11_of 0 = .ok (.aload_n 0, 1) := by decide +kernel
theorem dX11_of_1 : decode cX11_of 1 = .ok (.getfield 13, 3) := by decide +kernel
theorem dX11_of_4 : decode cX11_of 4 = .ok (.bipush 17, 2) := by decide +kernel
theorem dX11_of_6 : decode cX11_of 6 = .ok (.iload_n 1, 1) := by decide +kernel
theorem dX11_of_7 : decode cX11_of 7 = .ok (.imul, 1) := by decide +kernel
theorem dX11_of_8 : decode cX11_of 8 = .ok (.iload_n 2, 1) := by decide +kernel
theorem dX11_of_9 : decode cX11_of 9 = .ok (.iadd, 1) := by decide +kernel
theorem dX11_of_10 : decode cX11_of 10 = .ok (.laload, 1) := by decide +kernel
theorem dX11_of_11 : decode cX11_of 11 = .ok (.lreturn, 1) := by decide +kernel
theorem dX11_lays_0 : decode cX11_lays 0 = .ok (.aload_n 0, 1) := by decide +kernel
theorem dX11_lays_1 : decode cX11_lays 1 = .ok (.getfield 13, 3) := by decide +kernel
theorem dX11_lays_4 : decode cX11_lays 4 = .ok (.bipush 17, 2) := by decide +kernel
theorem dX11_lays_6 : decode cX11_lays 6 = .ok (.iload_n 1, 1) := by decide +kernel
theorem dX11_lays_7 : decode cX11_lays 7 = .ok (.imul, 1) := by decide +kernel
theorem dX11_lays_8 : decode cX11_lays 8 = .ok (.iload_n 2, 1) := by decide +kernel
theorem dX11_lays_9 : decode cX11_lays 9 = .ok (.iadd, 1) := by decide +kernel
theorem dX11_lays_10 : decode cX11_lays 10 = .ok (.lload_n 3, 1) := by decide +kernel
theorem dX11_lays_11 : decode cX11_lays 11 = .ok (.lastore, 1) := by decide +kernel
theorem dX11_lays_12 : decode cX11_lays 12 = .ok (.return_, 1) := by decide +kernel
theorem dX11_adds_0 : decode cX11_adds 0 = .ok (.aload_n 0, 1) := by decide +kernel
theorem dX11_adds_1 : decode cX11_adds 1 = .ok (.getfield 13, 3) := by decide +kernel
theorem dX11_adds_4 : decode cX11_adds 4 = .ok (.bipush 17, 2) := by decide +kernel
theorem dX11_adds_6 : decode cX11_adds 6 = .ok (.iload_n 1, 1) := by decide +kernel
theorem dX11_adds_7 : decode cX11_adds 7 = .ok (.imul, 1) := by decide +kernel
theorem dX11_adds_8 : decode cX11_adds 8 = .ok (.iload_n 2, 1) := by decide +kernel
theorem dX11_adds_9 : decode cX11_adds 9 = .ok (.iadd, 1) := by decide +kernel
theorem dX11_adds_10 : decode cX11_adds 10 = .ok (.dup2, 1) := by decide +kernel
theorem dX11_adds_11 : decode cX11_adds 11 = .ok (.laload, 1) := by decide +kernel
theorem dX11_adds_12 : decode cX11_adds 12 = .ok (.lload_n 3, 1) := by decide +kernel
theorem dX11_adds_13 : decode cX11_adds 13 = .ok (.ladd, 1) := by decide +kernel
theorem dX11_adds_14 : decode cX11_adds 14 = .ok (.lastore, 1) := by decide +kernel
theorem dX11_adds_15 : decode cX11_adds 15 = .ok (.return_, 1) := by decide +kernel
set_option maxRecDepth 20000 in
theorem ggX11_isThere_X11_isIn : GoodIn wsX11_isThere wsX11_isIn := goodIn_r _ [5] (by decide +kernel) (by decide +kernel)
set_option maxRecDepth 20000 in
theorem gX11_isThere_X11_isIn : GoodIn wsX11_isThere (va_wsS RX11 83 yX11_isIn wsX11_isIn) := goodIn_app (goodIn_of _ (by decide +kernel)) ggX11_isThere_X11_isIn
set_option maxRecDepth 20000 in
theorem ggX11_isThere_X11_of : GoodIn wsX11_isThere wsX11_of := goodIn_r _ [9, 10, 11, 12, 13, 14, 15, 16, 17, 18, 19, 20, 21, 22, 23, 24, 25, 26, 27, 28, 29, 30, 31, 32, 33, 34, 35, 36, 37, 38, 39, 40, 41, 42, 43, 44, 45, 46, 47, 48, 49, 50, 51, 52, 53, 54, 55, 56, 57] (by decide +kernel) (by decide +kernel)
set_option maxRecDepth 20000 in
theorem gX11_isThere_X11_of : GoodIn wsX11_isThere (wsV RX11 89 RX11 yX11_of wsX11_of) := goodIn_app (goodIn_of _ (by decide +kernel)) ggX11_isThere_X11_of
theorem dX11_isThere_0 : decode cX11_isThere 0 = .ok (.iload_n 1, 1) := by decide +kernel
theorem dX11_isThere_1 : decode cX11_isThere 1 = .ok (.i2l, 1) := by decide +kernel
theorem dX11_isThere_2 : decode cX11_isThere 2 = .ok (.lconst 0, 1) := by decide +kernel
theorem dX11_isThere_3 : decode cX11_isThere 3 = .ok (.ldc2_w 87, 3) := by decide +kernel
theorem dX11_isThere_6 : decode cX11_isThere 6 = .ok (.invokestatic 83, 3) := by decide +kernel
theorem dX11_isThere_9 : decode cX11_isThere 9 = .ok (.ifCond .eq 18, 3) := by decide +kernel
theorem dX11_isThere_12 : decode cX11_isThere 12 = .ok (.aload_n 0, 1) := by decide +kernel
theorem dX11_isThere_13 : decode cX11_isThere 13 = .ok (.iload_n 1, 1) := by decide +kernel
theorem dX11_isThere_14 : decode cX11_isThere 14 = .ok (.iconst 0, 1) := by decide +kernel
theorem dX11_isThere_15 : decode cX11_isThere 15 = .ok (.invokevirtual 89, 3) := by decide +kernel
theorem dX11_isThere_18 : decode cX11_isThere 18 = .ok (.lconst 1, 1) := by decide +kernel
theorem dX11_isThere_19 : decode cX11_isThere 19 = .ok (.lcmp, 1) := by decide +kernel
theorem dX11_isThere_20 : decode cX11_isThere 20 = .ok (.ifCond .ne 7, 3) := by decide +kernel
theorem dX11_isThere_23 : decode cX11_isThere 23 = .ok (.iconst 1, 1) := by decide +kernel
theorem dX11_isThere_24 : decode cX11_isThere 24 = .ok (.goto 4, 3) := by decide +kernel
theorem dX11_isThere_27 : decode cX11_isThere 27 = .ok (.iconst 0, 1) := by decide +kernel
theorem dX11_isThere_28 : decode cX11_isThere 28 = .ok (.ireturn, 1) := by decide +kernel
set_option maxRecDepth 20000 in
theorem ggX11_manyOf_X11_of : GoodIn wsX11_manyOf wsX11_of := goodIn_r _ [5, 6, 7, 8, 9, 10, 11, 12, 13, 14, 15, 16, 17, 18, 19, 20, 21, 22, 23, 24, 25, 26, 27, 28, 29, 30, 31, 32, 33, 34, 35, 36, 37, 38, 39, 40, 41, 42, 43, 44, 45, 46, 47, 48, 49, 50, 51, 52, 53] (by decide +kernel) (by decide +kernel)
set_option maxRecDepth 20000 in
theorem gX11_manyOf_X11_of : GoodIn wsX11_manyOf (wsV RX11 89 RX11 yX11_of wsX11_of) := goodIn_app (goodIn_of _ (by decide +kernel)) ggX11_manyOf_X11_of
theorem dX11_manyOf_0 : decode cX11_manyOf 0 = .ok (.aload_n 0, 1) := by decide +kernel
theorem dX11_manyOf_1 : decode cX11_manyOf 1 = .ok (.iload_n 1, 1) := by decide +kernel
theorem dX11_manyOf_2 : decode cX11_manyOf 2 = .ok (.iconst 1, 1) := by decide +kernel
theorem dX11_manyOf_3 : decode cX11_manyOf 3 = .ok (.invokevirtual 89, 3) := by decide +kernel
theorem dX11_manyOf_6 : decode cX11_manyOf 6 = .ok (.l2i, 1) := by decide +kernel
theorem dX11_manyOf_7 : decode cX11_manyOf 7 = .ok (.ireturn, 1) := by decide +kernel
set_option maxRecDepth 20000 in
theorem ggX11_buckets_X11_of : GoodIn wsX11_buckets wsX11_of := goodIn_r _ [5, 6, 7, 8, 9, 10, 11, 12, 13, 14, 15, 16, 17, 18, 19, 20, 21, 22, 23, 24, 25, 26, 27, 28, 29, 30, 31, 32, 33, 34, 35, 36, 37, 38, 39, 40, 41, 42, 43, 44, 45, 46, 47, 48, 49, 50, 51, 52, 53] (by decide +kernel) (by decide +kernel)
set_option maxRecDepth 20000 in
theorem gX11_buckets_X11_of : GoodIn wsX11_buckets (wsV RX11 89 RX11 yX11_of wsX11_of) := goodIn_app (goodIn_of _ (by decide +kernel)) ggX11_buckets_X11_of
theorem dX11_buckets_0 : decode cX11_buckets 0 = .ok (.aload_n 0, 1) := by decide +kernel
theorem dX11_buckets_1 : decode cX11_buckets 1 = .ok (.iload_n 1, 1) := by decide +kernel
theorem dX11_buckets_2 : decode cX11_buckets 2 = .ok (.iconst 4, 1) := by decide +kernel
theorem dX11_buckets_3 : decode cX11_buckets 3 = .ok (.invokevirtual 89, 3) := by decide +kernel
theorem dX11_buckets_6 : decode cX11_buckets 6 = .ok (.l2i, 1) := by decide +kernel
theorem dX11_buckets_7 : decode cX11_buckets 7 = .ok (.ireturn, 1) := by decide +kernel
theorem dX11_draw_0 : decode cX11_draw 0 = .ok (.aload_n 0, 1) := by decide +kernel
theorem dX11_draw_1 : decode cX11_draw 1 = .ok (.aload_n 0, 1) := by decide +kernel
theorem dX11_draw_2 : decode cX11_draw 2 = .ok (.getfield 105, 3) := by decide +kernel
theorem dX11_draw_5 : decode cX11_draw 5 = .ok (.ldc2_w 109, 3) := by decide +kernel
theorem dX11_draw_8 : decode cX11_draw 8 = .ok (.lmul, 1) := by decide +kernel
theorem dX11_draw_9 : decode cX11_draw 9 = .ok (.ldc2_w 111, 3) := by decide +kernel
theorem dX11_draw_12 : decode cX11_draw 12 = .ok (.ladd, 1) := by decide +kernel
theorem dX11_draw_13 : decode cX11_draw 13 = .ok (.putfield 105, 3) := by decide +kernel
theorem dX11_draw_16 : decode cX11_draw 16 = .ok (.aload_n 0, 1) := by decide +kernel
theorem dX11_draw_17 : decode cX11_draw 17 = .ok (.getfield 105, 3) := by decide +kernel
theorem dX11_draw_20 : decode cX11_draw 20 = .ok (.bipush 33, 2) := by decide +kernel
theorem dX11_draw_22 : decode cX11_draw 22 = .ok (.lushr, 1) := by decide +kernel
theorem dX11_draw_23 : decode cX11_draw 23 = .ok (.lload_n 1, 1) := by decide +kernel
theorem dX11_draw_24 : decode cX11_draw 24 = .ok (.lrem, 1) := by decide +kernel
theorem dX11_draw_25 : decode cX11_draw 25 = .ok (.lreturn, 1) := by decide +kernel
set_option maxRecDepth 20000 in
theorem ggX11_drawsPair_X11_draw : GoodIn wsX11_drawsPair wsX11_draw := goodIn_r _ [10, 11, 12, 13, 14, 15, 16, 17, 18, 19, 20, 21, 22, 23, 24, 25, 26, 27, 28, 29, 30, 31, 32, 33, 34, 35, 36, 37, 38, 39, 40, 41, 42, 43, 44, 45, 46, 47, 48, 49, 50, 51, 52, 53, 54, 55, 56, 57, 58, 59, 60] (by decide +kernel) (by decide +kernel)
set_option maxRecDepth 20000 in
theorem gX11_drawsPair_X11_draw : GoodIn wsX11_drawsPair (wsV RX11 113 RX11 yX11_draw wsX11_draw) := goodIn_app (goodIn_of _ (by decide +kernel)) ggX11_drawsPair_X11_draw
theorem dX11_drawsPair_0 : decode cX11_drawsPair 0 = .ok (.aload_n 0, 1) := by decide +kernel
theorem dX11_drawsPair_1 : decode cX11_drawsPair 1 = .ok (.lconst 1, 1) := by decide +kernel
theorem dX11_drawsPair_2 : decode cX11_drawsPair 2 = .ok (.aload_n 0, 1) := by decide +kernel
theorem dX11_drawsPair_3 : decode cX11_drawsPair 3 = .ok (.ldc2_w 93, 3) := by decide +kernel
theorem dX11_drawsPair_6 : decode cX11_drawsPair 6 = .ok (.invokevirtual 113, 3) := by decide +kernel
theorem dX11_drawsPair_9 : decode cX11_drawsPair 9 = .ok (.ladd, 1) := by decide +kernel
theorem dX11_drawsPair_10 : decode cX11_drawsPair 10 = .ok (.putfield 117, 3) := by decide +kernel
theorem dX11_drawsPair_13 : decode cX11_drawsPair 13 = .ok (.aload_n 0, 1) := by decide +kernel
theorem dX11_drawsPair_14 : decode cX11_drawsPair 14 = .ok (.aload_n 0, 1) := by decide +kernel
theorem dX11_drawsPair_15 : decode cX11_drawsPair 15 = .ok (.ldc2_w 103, 3) := by decide +kernel
theorem dX11_drawsPair_18 : decode cX11_drawsPair 18 = .ok (.invokevirtual 113, 3) := by decide +kernel
theorem dX11_drawsPair_21 : decode cX11_drawsPair 21 = .ok (.putfield 120, 3) := by decide +kernel
theorem dX11_drawsPair_24 : decode cX11_drawsPair 24 = .ok (.aload_n 0, 1) := by decide +kernel
theorem dX11_drawsPair_25 : decode cX11_drawsPair 25 = .ok (.dup, 1) := by decide +kernel
theorem dX11_drawsPair_26 : decode cX11_drawsPair 26 = .ok (.getfield 123, 3) := by decide +kernel
theorem dX11_drawsPair_29 : decode cX11_drawsPair 29 = .ok (.iconst 1, 1) := by decide +kernel
theorem dX11_drawsPair_30 : decode cX11_drawsPair 30 = .ok (.iadd, 1) := by decide +kernel
theorem dX11_drawsPair_31 : decode cX11_drawsPair 31 = .ok (.putfield 123, 3) := by decide +kernel
theorem dX11_drawsPair_34 : decode cX11_drawsPair 34 = .ok (.return_, 1) := by decide +kernel
set_option maxRecDepth 20000 in
theorem ggX11_takesSeed_X11_of : GoodIn wsX11_takesSeed wsX11_of := goodIn_r _ [7, 8, 9, 10, 11, 12, 13, 14, 15, 16, 17, 18, 19, 20, 21, 22, 23, 24, 25, 26, 27, 28, 29, 30, 31, 32, 33, 34, 35, 36, 37, 38, 39, 40, 41, 42, 43, 44, 45, 46, 47, 48, 49, 50, 51, 52, 53, 54, 55] (by decide +kernel) (by decide +kernel)
set_option maxRecDepth 20000 in
theorem gX11_takesSeed_X11_of : GoodIn wsX11_takesSeed (wsV RX11 89 RX11 yX11_of wsX11_of) := goodIn_app (goodIn_of _ (by decide +kernel)) ggX11_takesSeed_X11_of
theorem dX11_takesSeed_0 : decode cX11_takesSeed 0 = .ok (.aload_n 0, 1) := by decide +kernel
theorem dX11_takesSeed_1 : decode cX11_takesSeed 1 = .ok (.aload_n 0, 1) := by decide +kernel
theorem dX11_takesSeed_2 : decode cX11_takesSeed 2 = .ok (.iload_n 1, 1) := by decide +kernel
theorem dX11_takesSeed_3 : decode cX11_takesSeed 3 = .ok (.bipush 13, 2) := by decide +kernel
theorem dX11_takesSeed_5 : decode cX11_takesSeed 5 = .ok (.invokevirtual 89, 3) := by decide +kernel
theorem dX11_takesSeed_8 : decode cX11_takesSeed 8 = .ok (.putfield 105, 3) := by decide +kernel
theorem dX11_takesSeed_11 : decode cX11_takesSeed 11 = .ok (.aload_n 0, 1) := by decide +kernel
theorem dX11_takesSeed_12 : decode cX11_takesSeed 12 = .ok (.iconst 0, 1) := by decide +kernel
theorem dX11_takesSeed_13 : decode cX11_takesSeed 13 = .ok (.putfield 123, 3) := by decide +kernel
theorem dX11_takesSeed_16 : decode cX11_takesSeed 16 = .ok (.return_, 1) := by decide +kernel
set_option maxRecDepth 20000 in
theorem ggX11_laysSeed_X11_lays : GoodIn wsX11_laysSeed wsX11_lays := goodIn_r _ [7, 8, 13, 14, 15, 16, 17, 18, 19, 20, 21, 22, 23, 24, 25, 26, 27, 28, 29, 30, 31, 32, 33, 34, 35, 36, 37, 38, 39, 40, 41, 42, 43, 44, 45, 46, 47, 48, 49, 50, 51, 52, 53, 54, 55, 56, 57, 58, 59] (by decide +kernel) (by decide +kernel)
set_option maxRecDepth 20000 in
theorem gX11_laysSeed_X11_lays : GoodIn wsX11_laysSeed (wsV RX11 126 RX11 yX11_lays wsX11_lays) := goodIn_app (goodIn_of _ (by decide +kernel)) ggX11_laysSeed_X11_lays
set_option maxRecDepth 20000 in
theorem ggX11_laysSeed_X11_adds : GoodIn wsX11_laysSeed wsX11_adds := goodIn_r _ [12, 8, 13, 14, 15, 16, 17, 18, 19, 20, 21, 22, 23, 24, 25, 26, 27, 28, 29, 30, 31, 32, 33, 34, 35, 36, 37, 38, 39, 40, 41, 42, 43, 44, 45, 46, 47, 48, 49, 50, 51, 52, 53, 54, 55, 56, 57, 58, 59] (by decide +kernel) (by decide +kernel)
set_option maxRecDepth 20000 in
theorem gX11_laysSeed_X11_adds : GoodIn wsX11_laysSeed (wsV RX11 130 RX11 yX11_adds wsX11_adds) := goodIn_app (goodIn_of _ (by decide +kernel)) ggX11_laysSeed_X11_adds
theorem dX11_laysSeed_0 : decode cX11_laysSeed 0 = .ok (.aload_n 0, 1) := by decide +kernel
theorem dX11_laysSeed_1 : decode cX11_laysSeed 1 = .ok (.iload_n 1, 1) := by decide +kernel
theorem dX11_laysSeed_2 : decode cX11_laysSeed 2 = .ok (.bipush 13, 2) := by decide +kernel
theorem dX11_laysSeed_4 : decode cX11_laysSeed 4 = .ok (.aload_n 0, 1) := by decide +kernel
theorem dX11_laysSeed_5 : decode cX11_laysSeed 5 = .ok (.getfield 105, 3) := by decide +kernel
theorem dX11_laysSeed_8 : decode cX11_laysSeed 8 = .ok (.invokevirtual 126, 3) := by decide +kernel
theorem dX11_laysSeed_11 : decode cX11_laysSeed 11 = .ok (.aload_n 0, 1) := by decide +kernel
theorem dX11_laysSeed_12 : decode cX11_laysSeed 12 = .ok (.iload_n 1, 1) := by decide +kernel
theorem dX11_laysSeed_13 : decode cX11_laysSeed 13 = .ok (.bipush 9, 2) := by decide +kernel
theorem dX11_laysSeed_15 : decode cX11_laysSeed 15 = .ok (.aload_n 0, 1) := by decide +kernel
theorem dX11_laysSeed_16 : decode cX11_laysSeed 16 = .ok (.getfield 123, 3) := by decide +kernel
theorem dX11_laysSeed_19 : decode cX11_laysSeed 19 = .ok (.i2l, 1) := by decide +kernel
theorem dX11_laysSeed_20 : decode cX11_laysSeed 20 = .ok (.invokevirtual 130, 3) := by decide +kernel
theorem dX11_laysSeed_23 : decode cX11_laysSeed 23 = .ok (.return_, 1) := by decide +kernel
theorem dX11_roomsOf_0 : decode cX11_roomsOf 0 = .ok (.aload_n 0, 1) := by decide +kernel
theorem dX11_roomsOf_1 : decode cX11_roomsOf 1 = .ok (.getfield 30, 3) := by decide +kernel
theorem dX11_roomsOf_4 : decode cX11_roomsOf 4 = .ok (.sipush 2048, 3) := by decide +kernel
theorem dX11_roomsOf_7 : decode cX11_roomsOf 7 = .ok (.iload_n 1, 1) := by decide +kernel
theorem dX11_roomsOf_8 : decode cX11_roomsOf 8 = .ok (.imul, 1) := by decide +kernel
theorem dX11_roomsOf_9 : decode cX11_roomsOf 9 = .ok (.iload_n 2, 1) := by decide +kernel
theorem dX11_roomsOf_10 : decode cX11_roomsOf 10 = .ok (.iadd, 1) := by decide +kernel
theorem dX11_roomsOf_11 : decode cX11_roomsOf 11 = .ok (.iaload, 1) := by decide +kernel
theorem dX11_roomsOf_12 : decode cX11_roomsOf 12 = .ok (.istore_n 3, 1) := by decide +kernel
theorem dX11_roomsOf_13 : decode cX11_roomsOf 13 = .ok (.iload_n 3, 1) := by decide +kernel
theorem dX11_roomsOf_14 : decode cX11_roomsOf 14 = .ok (.iload_n 3, 1) := by decide +kernel
theorem dX11_roomsOf_15 : decode cX11_roomsOf 15 = .ok (.imul, 1) := by decide +kernel
theorem dX11_roomsOf_16 : decode cX11_roomsOf 16 = .ok (.ireturn, 1) := by decide +kernel
set_option maxRecDepth 20000 in
theorem ggX11_buildsBucket_X11_roomsOf : GoodIn wsX11_buildsBucket wsX11_roomsOf := goodIn_r _ [12, 13, 48, 49, 50, 51, 52, 53, 54, 55, 56, 57, 58, 59, 60, 61, 62, 63, 64, 65, 66, 67, 68, 69, 70, 71, 72, 73, 74, 75, 76, 77, 78, 79, 80, 81, 82, 83, 84, 85, 86, 87, 88, 89, 90, 91, 92, 93, 94] (by decide +kernel) (by decide +kernel)
set_option maxRecDepth 20000 in
theorem gX11_buildsBucket_X11_roomsOf : GoodIn wsX11_buildsBucket (wsV RX11 137 RX11 yX11_roomsOf wsX11_roomsOf) := goodIn_app (goodIn_of _ (by decide +kernel)) ggX11_buildsBucket_X11_roomsOf
set_option maxRecDepth 20000 in
theorem ggX11_buildsBucket_X11_drawsPair : GoodIn wsX11_buildsBucket wsX11_drawsPair := goodIn_r _ [17, 18, 1, 19, 2, 20, 21, 22, 23, 11, 24, 25, 26, 27, 48, 49, 50, 51, 52, 53, 54, 55, 56, 57, 58, 59, 60, 61, 62, 63, 64, 65, 66, 67, 68, 69, 70, 71, 72, 73, 74, 75, 76, 77, 78, 79, 80, 81, 82, 83, 84, 85, 86, 87, 88, 89, 90, 91, 92, 93, 94] (by decide +kernel) (by decide +kernel)
set_option maxRecDepth 20000 in
theorem gX11_buildsBucket_X11_drawsPair : GoodIn wsX11_buildsBucket (wsV RX11 141 RX11 yX11_drawsPair wsX11_drawsPair) := goodIn_app (goodIn_of _ (by decide +kernel)) ggX11_buildsBucket_X11_drawsPair
set_option maxRecDepth 20000 in
theorem ggX11_buildsBucket_X11_clashes : GoodIn wsX11_buildsBucket wsX11_clashes := goodIn_r _ [31, 5, 7, 8, 9, 10, 11, 12, 13, 32, 33, 34, 35, 36, 37, 38, 39, 40, 41, 42, 43, 19, 48, 49, 50, 51, 52, 53, 54, 55, 56, 57, 58, 59, 60, 61, 62, 63, 64, 65, 66, 67, 68, 69, 70, 71, 72, 73, 74, 75, 76, 77, 78, 79, 80, 81, 82, 83, 84, 85, 86, 87, 88, 89, 90, 91, 92, 93, 94] (by decide +kernel) (by decide +kernel)
set_option maxRecDepth 20000 in
theorem gX11_buildsBucket_X11_clashes : GoodIn wsX11_buildsBucket (wsV RX11 144 RX11 yX11_clashes wsX11_clashes) := goodIn_app (goodIn_of _ (by decide +kernel)) ggX11_buildsBucket_X11_clashes
set_option maxRecDepth 20000 in
theorem ggX11_buildsBucket_X11_manyOf : GoodIn wsX11_buildsBucket wsX11_manyOf := goodIn_r _ [35, 36, 37, 38, 11, 39, 40, 48, 49, 50, 51, 52, 53, 54, 55, 56, 57, 58, 59, 60, 61, 62, 63, 64, 65, 66, 67, 68, 69, 70, 71, 72, 73, 74, 75, 76, 77, 78, 79, 80, 81, 82, 83, 84, 85, 86, 87, 88, 89, 90, 91, 92, 93, 94] (by decide +kernel) (by decide +kernel)
set_option maxRecDepth 20000 in
theorem gX11_buildsBucket_X11_manyOf : GoodIn wsX11_buildsBucket (wsV RX11 95 RX11 yX11_manyOf wsX11_manyOf) := goodIn_app (goodIn_of _ (by decide +kernel)) ggX11_buildsBucket_X11_manyOf
set_option maxRecDepth 20000 in
theorem ggX11_buildsBucket_X11_roomOf : GoodIn wsX11_buildsBucket wsX11_roomOf := goodIn_r _ [47, 3, 4, 8, 9, 10, 11, 12, 13, 41, 42, 43, 19, 48, 49, 50, 51, 52, 53, 54, 55, 56, 57, 58, 59, 60, 61, 62, 63, 64, 65, 66, 67, 68, 69, 70, 71, 72, 73, 74, 75, 76, 77, 78, 79, 80, 81, 82, 83, 84, 85, 86, 87, 88, 89, 90, 91, 92, 93, 94] (by decide +kernel) (by decide +kernel)
set_option maxRecDepth 20000 in
theorem gX11_buildsBucket_X11_roomOf : GoodIn wsX11_buildsBucket (wsV RX11 148 RX11 yX11_roomOf wsX11_roomOf) := goodIn_app (goodIn_of _ (by decide +kernel)) ggX11_buildsBucket_X11_roomOf
theorem dX11_buildsBucket_0 : decode cX11_buildsBucket 0 = .ok (.aload_n 0, 1) := by decide +kernel
theorem dX11_buildsBucket_1 : decode cX11_buildsBucket 1 = .ok (.iload_n 1, 1) := by decide +kernel
theorem dX11_buildsBucket_2 : decode cX11_buildsBucket 2 = .ok (.iload_n 2, 1) := by decide +kernel
theorem dX11_buildsBucket_3 : decode cX11_buildsBucket 3 = .ok (.invokevirtual 137, 3) := by decide +kernel
theorem dX11_buildsBucket_6 : decode cX11_buildsBucket 6 = .ok (.ifCond .ne 4, 3) := by decide +kernel
theorem dX11_buildsBucket_9 : decode cX11_buildsBucket 9 = .ok (.return_, 1) := by decide +kernel
theorem dX11_buildsBucket_10 : decode cX11_buildsBucket 10 = .ok (.iconst 1, 1) := by decide +kernel
theorem dX11_buildsBucket_11 : decode cX11_buildsBucket 11 = .ok (.istore_n 3, 1) := by decide +kernel
theorem dX11_buildsBucket_12 : decode cX11_buildsBucket 12 = .ok (.iload_n 3, 1) := by decide +kernel
theorem dX11_buildsBucket_13 : decode cX11_buildsBucket 13 = .ok (.ifCond .eq 33, 3) := by decide +kernel
theorem dX11_buildsBucket_16 : decode cX11_buildsBucket 16 = .ok (.aload_n 0, 1) := by decide +kernel
theorem dX11_buildsBucket_17 : decode cX11_buildsBucket 17 = .ok (.invokevirtual 141, 3) := by decide +kernel
theorem dX11_buildsBucket_20 : decode cX11_buildsBucket 20 = .ok (.aload_n 0, 1) := by decide +kernel
theorem dX11_buildsBucket_21 : decode cX11_buildsBucket 21 = .ok (.iload_n 1, 1) := by decide +kernel
theorem dX11_buildsBucket_22 : decode cX11_buildsBucket 22 = .ok (.iload_n 2, 1) := by decide +kernel
theorem dX11_buildsBucket_23 : decode cX11_buildsBucket 23 = .ok (.aload_n 0, 1) := by decide +kernel
theorem dX11_buildsBucket_24 : decode cX11_buildsBucket 24 = .ok (.getfield 117, 3) := by decide +kernel
theorem dX11_buildsBucket_27 : decode cX11_buildsBucket 27 = .ok (.aload_n 0, 1) := by decide +kernel
theorem dX11_buildsBucket_28 : decode cX11_buildsBucket 28 = .ok (.getfield 120, 3) := by decide +kernel
theorem dX11_buildsBucket_31 : decode cX11_buildsBucket 31 = .ok (.invokevirtual 144, 3) := by decide +kernel
theorem dX11_buildsBucket_34 : decode cX11_buildsBucket 34 = .ok (.ifCond .le 7, 3) := by decide +kernel
theorem dX11_buildsBucket_37 : decode cX11_buildsBucket 37 = .ok (.iconst 1, 1) := by decide +kernel
theorem dX11_buildsBucket_38 : decode cX11_buildsBucket 38 = .ok (.goto 4, 3) := by decide +kernel
theorem dX11_buildsBucket_41 : decode cX11_buildsBucket 41 = .ok (.iconst 0, 1) := by decide +kernel
theorem dX11_buildsBucket_42 : decode cX11_buildsBucket 42 = .ok (.istore_n 3, 1) := by decide +kernel
theorem dX11_buildsBucket_43 : decode cX11_buildsBucket 43 = .ok (.goto (-31), 3) := by decide +kernel
theorem dX11_buildsBucket_46 : decode cX11_buildsBucket 46 = .ok (.aload_n 0, 1) := by decide +kernel
theorem dX11_buildsBucket_47 : decode cX11_buildsBucket 47 = .ok (.getfield 36, 3) := by decide +kernel
theorem dX11_buildsBucket_50 : decode cX11_buildsBucket 50 = .ok (.sipush 2048, 3) := by decide +kernel
theorem dX11_buildsBucket_53 : decode cX11_buildsBucket 53 = .ok (.iload_n 1, 1) := by decide +kernel
theorem dX11_buildsBucket_54 : decode cX11_buildsBucket 54 = .ok (.imul, 1) := by decide +kernel
theorem dX11_buildsBucket_55 : decode cX11_buildsBucket 55 = .ok (.iload_n 2, 1) := by decide +kernel
theorem dX11_buildsBucket_56 : decode cX11_buildsBucket 56 = .ok (.iadd, 1) := by decide +kernel
theorem dX11_buildsBucket_57 : decode cX11_buildsBucket 57 = .ok (.aload_n 0, 1) := by decide +kernel
theorem dX11_buildsBucket_58 : decode cX11_buildsBucket 58 = .ok (.getfield 117, 3) := by decide +kernel
theorem dX11_buildsBucket_61 : decode cX11_buildsBucket 61 = .ok (.lastore, 1) := by decide +kernel
theorem dX11_buildsBucket_62 : decode cX11_buildsBucket 62 = .ok (.aload_n 0, 1) := by decide +kernel
theorem dX11_buildsBucket_63 : decode cX11_buildsBucket 63 = .ok (.getfield 39, 3) := by decide +kernel
theorem dX11_buildsBucket_66 : decode cX11_buildsBucket 66 = .ok (.sipush 2048, 3) := by decide +kernel
theorem dX11_buildsBucket_69 : decode cX11_buildsBucket 69 = .ok (.iload_n 1, 1) := by decide +kernel
theorem dX11_buildsBucket_70 : decode cX11_buildsBucket 70 = .ok (.imul, 1) := by decide +kernel
theorem dX11_buildsBucket_71 : decode cX11_buildsBucket 71 = .ok (.iload_n 2, 1) := by decide +kernel
theorem dX11_buildsBucket_72 : decode cX11_buildsBucket 72 = .ok (.iadd, 1) := by decide +kernel
theorem dX11_buildsBucket_73 : decode cX11_buildsBucket 73 = .ok (.aload_n 0, 1) := by decide +kernel
theorem dX11_buildsBucket_74 : decode cX11_buildsBucket 74 = .ok (.getfield 120, 3) := by decide +kernel
theorem dX11_buildsBucket_77 : decode cX11_buildsBucket 77 = .ok (.lastore, 1) := by decide +kernel
theorem dX11_buildsBucket_78 : decode cX11_buildsBucket 78 = .ok (.sipush 160, 3) := by decide +kernel
theorem dX11_buildsBucket_81 : decode cX11_buildsBucket 81 = .ok (.iload_n 1, 1) := by decide +kernel
theorem dX11_buildsBucket_82 : decode cX11_buildsBucket 82 = .ok (.imul, 1) := by decide +kernel
theorem dX11_buildsBucket_83 : decode cX11_buildsBucket 83 = .ok (.istore 4, 2) := by decide +kernel
theorem dX11_buildsBucket_85 : decode cX11_buildsBucket 85 = .ok (.iload 4, 2) := by decide +kernel
theorem dX11_buildsBucket_87 : decode cX11_buildsBucket 87 = .ok (.sipush 160, 3) := by decide +kernel
theorem dX11_buildsBucket_90 : decode cX11_buildsBucket 90 = .ok (.iload_n 1, 1) := by decide +kernel
theorem dX11_buildsBucket_91 : decode cX11_buildsBucket 91 = .ok (.imul, 1) := by decide +kernel
theorem dX11_buildsBucket_92 : decode cX11_buildsBucket 92 = .ok (.aload_n 0, 1) := by decide +kernel
theorem dX11_buildsBucket_93 : decode cX11_buildsBucket 93 = .ok (.iload_n 1, 1) := by decide +kernel
theorem dX11_buildsBucket_94 : decode cX11_buildsBucket 94 = .ok (.invokevirtual 95, 3) := by decide +kernel
theorem dX11_buildsBucket_97 : decode cX11_buildsBucket 97 = .ok (.iadd, 1) := by decide +kernel
theorem dX11_buildsBucket_98 : decode cX11_buildsBucket 98 = .ok (.if_icmp .ge 40, 3) := by decide +kernel
theorem dX11_buildsBucket_101 : decode cX11_buildsBucket 101 = .ok (.aload_n 0, 1) := by decide +kernel
theorem dX11_buildsBucket_102 : decode cX11_buildsBucket 102 = .ok (.getfield 24, 3) := by decide +kernel
theorem dX11_buildsBucket_105 : decode cX11_buildsBucket 105 = .ok (.iload 4, 2) := by decide +kernel
theorem dX11_buildsBucket_107 : decode cX11_buildsBucket 107 = .ok (.iaload, 1) := by decide +kernel
theorem dX11_buildsBucket_108 : decode cX11_buildsBucket 108 = .ok (.iload_n 2, 1) := by decide +kernel
theorem dX11_buildsBucket_109 : decode cX11_buildsBucket 109 = .ok (.if_icmp .ne 23, 3) := by decide +kernel
theorem dX11_buildsBucket_112 : decode cX11_buildsBucket 112 = .ok (.aload_n 0, 1) := by decide +kernel
theorem dX11_buildsBucket_113 : decode cX11_buildsBucket 113 = .ok (.getfield 27, 3) := by decide +kernel
theorem dX11_buildsBucket_116 : decode cX11_buildsBucket 116 = .ok (.iload 4, 2) := by decide +kernel
theorem dX11_buildsBucket_118 : decode cX11_buildsBucket 118 = .ok (.aload_n 0, 1) := by decide +kernel
theorem dX11_buildsBucket_119 : decode cX11_buildsBucket 119 = .ok (.iload_n 1, 1) := by decide +kernel
theorem dX11_buildsBucket_120 : decode cX11_buildsBucket 120 = .ok (.iload_n 2, 1) := by decide +kernel
theorem dX11_buildsBucket_121 : decode cX11_buildsBucket 121 = .ok (.aload_n 0, 1) := by decide +kernel
theorem dX11_buildsBucket_122 : decode cX11_buildsBucket 122 = .ok (.getfield 17, 3) := by decide +kernel
theorem dX11_buildsBucket_125 : decode cX11_buildsBucket 125 = .ok (.iload 4, 2) := by decide +kernel
theorem dX11_buildsBucket_127 : decode cX11_buildsBucket 127 = .ok (.iaload, 1) := by decide +kernel
theorem dX11_buildsBucket_128 : decode cX11_buildsBucket 128 = .ok (.invokevirtual 148, 3) := by decide +kernel
theorem dX11_buildsBucket_131 : decode cX11_buildsBucket 131 = .ok (.iastore, 1) := by decide +kernel
theorem dX11_buildsBucket_132 : decode cX11_buildsBucket 132 = .ok (.iinc 4 1, 3) := by decide +kernel
theorem dX11_buildsBucket_135 : decode cX11_buildsBucket 135 = .ok (.goto (-50), 3) := by decide +kernel
theorem dX11_buildsBucket_138 : decode cX11_buildsBucket 138 = .ok (.return_, 1) := by decide +kernel
set_option maxRecDepth 20000 in
theorem ggX11_parts_X11_lays : GoodIn wsX11_parts wsX11_lays := goodIn_r _ [9, 10, 35, 36, 37, 38, 39, 40, 41, 42, 43, 44, 45, 46, 47, 48, 49, 50, 51, 52, 53, 54, 55, 56, 57, 58, 59, 60, 61, 62, 63, 64, 65, 66, 67, 68, 69, 70, 71, 72, 73, 74, 75, 76, 77, 78, 79, 80, 81] (by decide +kernel) (by decide +kernel)
set_option maxRecDepth 20000 in
theorem gX11_parts_X11_lays : GoodIn wsX11_parts (wsV RX11 126 RX11 yX11_lays wsX11_lays) := goodIn_app (goodIn_of _ (by decide +kernel)) ggX11_parts_X11_lays
set_option maxRecDepth 20000 in
theorem ggX11_parts_X11_buckets : GoodIn wsX11_parts wsX11_buckets := goodIn_r _ [14, 15, 16, 17, 8, 18, 10, 35, 36, 37, 38, 39, 40, 41, 42, 43, 44, 45, 46, 47, 48, 49, 50, 51, 52, 53, 54, 55, 56, 57, 58, 59, 60, 61, 62, 63, 64, 65, 66, 67, 68, 69, 70, 71, 72, 73, 74, 75, 76, 77, 78, 79, 80, 81] (by decide +kernel) (by decide +kernel)
set_option maxRecDepth 20000 in
theorem gX11_parts_X11_buckets : GoodIn wsX11_parts (wsV RX11 152 RX11 yX11_buckets wsX11_buckets) := goodIn_app (goodIn_of _ (by decide +kernel)) ggX11_parts_X11_buckets
set_option maxRecDepth 20000 in
theorem ggX11_parts_X11_manyOf : GoodIn wsX11_parts wsX11_manyOf := goodIn_r _ [22, 15, 16, 17, 8, 18, 10, 35, 36, 37, 38, 39, 40, 41, 42, 43, 44, 45, 46, 47, 48, 49, 50, 51, 52, 53, 54, 55, 56, 57, 58, 59, 60, 61, 62, 63, 64, 65, 66, 67, 68, 69, 70, 71, 72, 73, 74, 75, 76, 77, 78, 79, 80, 81] (by decide +kernel) (by decide +kernel)
set_option maxRecDepth 20000 in
theorem gX11_parts_X11_manyOf : GoodIn wsX11_parts (wsV RX11 95 RX11 yX11_manyOf wsX11_manyOf) := goodIn_app (goodIn_of _ (by decide +kernel)) ggX11_parts_X11_manyOf
set_option maxRecDepth 20000 in
theorem ggX11_parts_X11_bucketOf : GoodIn wsX11_parts wsX11_bucketOf := goodIn_r _ [26, 15, 16, 17, 8, 18, 10, 27, 28, 29, 30, 35, 36, 37, 38, 39, 40, 41, 42, 43, 44, 45, 46, 47, 48, 49, 50, 51, 52, 53, 54, 55, 56, 57, 58, 59, 60, 61, 62, 63, 64, 65, 66, 67, 68, 69, 70, 71, 72, 73, 74, 75, 76, 77, 78, 79, 80, 81] (by decide +kernel) (by decide +kernel)
set_option maxRecDepth 20000 in
theorem gX11_parts_X11_bucketOf : GoodIn wsX11_parts (wsV RX11 155 RX11 yX11_bucketOf wsX11_bucketOf) := goodIn_app (goodIn_of _ (by decide +kernel)) ggX11_parts_X11_bucketOf
set_option maxRecDepth 20000 in
theorem ggX11_parts_X11_roomsOf : GoodIn wsX11_parts wsX11_roomsOf := goodIn_r _ [34, 4, 35, 36, 37, 38, 39, 40, 41, 42, 43, 44, 45, 46, 47, 48, 49, 50, 51, 52, 53, 54, 55, 56, 57, 58, 59, 60, 61, 62, 63, 64, 65, 66, 67, 68, 69, 70, 71, 72, 73, 74, 75, 76, 77, 78, 79, 80, 81] (by decide +kernel) (by decide +kernel)
set_option maxRecDepth 20000 in
theorem gX11_parts_X11_roomsOf : GoodIn wsX11_parts (wsV RX11 137 RX11 yX11_roomsOf wsX11_roomsOf) := goodIn_app (goodIn_of _ (by decide +kernel)) ggX11_parts_X11_roomsOf
theorem dX11_parts_0 : decode cX11_parts 0 = .ok (.aload_n 0, 1) := by decide +kernel
theorem dX11_parts_1 : decode cX11_parts 1 = .ok (.iload_n 1, 1) := by decide +kernel
theorem dX11_parts_2 : decode cX11_parts 2 = .ok (.bipush 6, 2) := by decide +kernel
theorem dX11_parts_4 : decode cX11_parts 4 = .ok (.lload_n 2, 1) := by decide +kernel
theorem dX11_parts_5 : decode cX11_parts 5 = .ok (.invokevirtual 126, 3) := by decide +kernel
theorem dX11_parts_8 : decode cX11_parts 8 = .ok (.aload_n 0, 1) := by decide +kernel
theorem dX11_parts_9 : decode cX11_parts 9 = .ok (.iload_n 1, 1) := by decide +kernel
theorem dX11_parts_10 : decode cX11_parts 10 = .ok (.bipush 7, 2) := by decide +kernel
theorem dX11_parts_12 : decode cX11_parts 12 = .ok (.lload 4, 2) := by decide +kernel
theorem dX11_parts_14 : decode cX11_parts 14 = .ok (.invokevirtual 126, 3) := by decide +kernel
theorem dX11_parts_17 : decode cX11_parts 17 = .ok (.iconst 0, 1) := by decide +kernel
theorem dX11_parts_18 : decode cX11_parts 18 = .ok (.istore 7, 2) := by decide +kernel
theorem dX11_parts_20 : decode cX11_parts 20 = .ok (.iload 7, 2) := by decide +kernel
theorem dX11_parts_22 : decode cX11_parts 22 = .ok (.aload_n 0, 1) := by decide +kernel
theorem dX11_parts_23 : decode cX11_parts 23 = .ok (.iload_n 1, 1) := by decide +kernel
theorem dX11_parts_24 : decode cX11_parts 24 = .ok (.invokevirtual 152, 3) := by decide +kernel
theorem dX11_parts_27 : decode cX11_parts 27 = .ok (.if_icmp .ge 23, 3) := by decide +kernel
theorem dX11_parts_30 : decode cX11_parts 30 = .ok (.aload_n 0, 1) := by decide +kernel
theorem dX11_parts_31 : decode cX11_parts 31 = .ok (.getfield 33, 3) := by decide +kernel
theorem dX11_parts_34 : decode cX11_parts 34 = .ok (.sipush 2048, 3) := by decide +kernel
theorem dX11_parts_37 : decode cX11_parts 37 = .ok (.iload_n 1, 1) := by decide +kernel
theorem dX11_parts_38 : decode cX11_parts 38 = .ok (.imul, 1) := by decide +kernel
theorem dX11_parts_39 : decode cX11_parts 39 = .ok (.iload 7, 2) := by decide +kernel
theorem dX11_parts_41 : decode cX11_parts 41 = .ok (.iadd, 1) := by decide +kernel
theorem dX11_parts_42 : decode cX11_parts 42 = .ok (.iconst 0, 1) := by decide +kernel
theorem dX11_parts_43 : decode cX11_parts 43 = .ok (.iastore, 1) := by decide +kernel
theorem dX11_parts_44 : decode cX11_parts 44 = .ok (.iinc 7 1, 3) := by decide +kernel
theorem dX11_parts_47 : decode cX11_parts 47 = .ok (.goto (-27), 3) := by decide +kernel
theorem dX11_parts_50 : decode cX11_parts 50 = .ok (.sipush 160, 3) := by decide +kernel
theorem dX11_parts_53 : decode cX11_parts 53 = .ok (.iload_n 1, 1) := by decide +kernel
theorem dX11_parts_54 : decode cX11_parts 54 = .ok (.imul, 1) := by decide +kernel
theorem dX11_parts_55 : decode cX11_parts 55 = .ok (.istore 7, 2) := by decide +kernel
theorem dX11_parts_57 : decode cX11_parts 57 = .ok (.iload 7, 2) := by decide +kernel
theorem dX11_parts_59 : decode cX11_parts 59 = .ok (.sipush 160, 3) := by decide +kernel
theorem dX11_parts_62 : decode cX11_parts 62 = .ok (.iload_n 1, 1) := by decide +kernel
theorem dX11_parts_63 : decode cX11_parts 63 = .ok (.imul, 1) := by decide +kernel
theorem dX11_parts_64 : decode cX11_parts 64 = .ok (.aload_n 0, 1) := by decide +kernel
theorem dX11_parts_65 : decode cX11_parts 65 = .ok (.iload_n 1, 1) := by decide +kernel
theorem dX11_parts_66 : decode cX11_parts 66 = .ok (.invokevirtual 95, 3) := by decide +kernel
theorem dX11_parts_69 : decode cX11_parts 69 = .ok (.iadd, 1) := by decide +kernel
theorem dX11_parts_70 : decode cX11_parts 70 = .ok (.if_icmp .ge 50, 3) := by decide +kernel
theorem dX11_parts_73 : decode cX11_parts 73 = .ok (.aload_n 0, 1) := by decide +kernel
theorem dX11_parts_74 : decode cX11_parts 74 = .ok (.getfield 24, 3) := by decide +kernel
theorem dX11_parts_77 : decode cX11_parts 77 = .ok (.iload 7, 2) := by decide +kernel
theorem dX11_parts_79 : decode cX11_parts 79 = .ok (.aload_n 0, 1) := by decide +kernel
theorem dX11_parts_80 : decode cX11_parts 80 = .ok (.iload_n 1, 1) := by decide +kernel
theorem dX11_parts_81 : decode cX11_parts 81 = .ok (.aload_n 0, 1) := by decide +kernel
theorem dX11_parts_82 : decode cX11_parts 82 = .ok (.getfield 17, 3) := by decide +kernel
theorem dX11_parts_85 : decode cX11_parts 85 = .ok (.iload 7, 2) := by decide +kernel
theorem dX11_parts_87 : decode cX11_parts 87 = .ok (.iaload, 1) := by decide +kernel
theorem dX11_parts_88 : decode cX11_parts 88 = .ok (.invokevirtual 155, 3) := by decide +kernel
theorem dX11_parts_91 : decode cX11_parts 91 = .ok (.iastore, 1) := by decide +kernel
theorem dX11_parts_92 : decode cX11_parts 92 = .ok (.aload_n 0, 1) := by decide +kernel
theorem dX11_parts_93 : decode cX11_parts 93 = .ok (.getfield 33, 3) := by decide +kernel
theorem dX11_parts_96 : decode cX11_parts 96 = .ok (.sipush 2048, 3) := by decide +kernel
theorem dX11_parts_99 : decode cX11_parts 99 = .ok (.iload_n 1, 1) := by decide +kernel
theorem dX11_parts_100 : decode cX11_parts 100 = .ok (.imul, 1) := by decide +kernel
theorem dX11_parts_101 : decode cX11_parts 101 = .ok (.aload_n 0, 1) := by decide +kernel
theorem dX11_parts_102 : decode cX11_parts 102 = .ok (.getfield 24, 3) := by decide +kernel
theorem dX11_parts_105 : decode cX11_parts 105 = .ok (.iload 7, 2) := by decide +kernel
theorem dX11_parts_107 : decode cX11_parts 107 = .ok (.iaload, 1) := by decide +kernel
theorem dX11_parts_108 : decode cX11_parts 108 = .ok (.iadd, 1) := by decide +kernel
theorem dX11_parts_109 : decode cX11_parts 109 = .ok (.dup2, 1) := by decide +kernel
theorem dX11_parts_110 : decode cX11_parts 110 = .ok (.iaload, 1) := by decide +kernel
theorem dX11_parts_111 : decode cX11_parts 111 = .ok (.iconst 1, 1) := by decide +kernel
theorem dX11_parts_112 : decode cX11_parts 112 = .ok (.iadd, 1) := by decide +kernel
theorem dX11_parts_113 : decode cX11_parts 113 = .ok (.iastore, 1) := by decide +kernel
theorem dX11_parts_114 : decode cX11_parts 114 = .ok (.iinc 7 1, 3) := by decide +kernel
theorem dX11_parts_117 : decode cX11_parts 117 = .ok (.goto (-60), 3) := by decide +kernel
theorem dX11_parts_120 : decode cX11_parts 120 = .ok (.lconst 0, 1) := by decide +kernel
theorem dX11_parts_121 : decode cX11_parts 121 = .ok (.lstore 7, 2) := by decide +kernel
theorem dX11_parts_123 : decode cX11_parts 123 = .ok (.iconst 0, 1) := by decide +kernel
theorem dX11_parts_124 : decode cX11_parts 124 = .ok (.istore 9, 2) := by decide +kernel
theorem dX11_parts_126 : decode cX11_parts 126 = .ok (.iload 9, 2) := by decide +kernel
theorem dX11_parts_128 : decode cX11_parts 128 = .ok (.aload_n 0, 1) := by decide +kernel
theorem dX11_parts_129 : decode cX11_parts 129 = .ok (.iload_n 1, 1) := by decide +kernel
theorem dX11_parts_130 : decode cX11_parts 130 = .ok (.invokevirtual 152, 3) := by decide +kernel
theorem dX11_parts_133 : decode cX11_parts 133 = .ok (.if_icmp .ge 51, 3) := by decide +kernel
theorem dX11_parts_136 : decode cX11_parts 136 = .ok (.aload_n 0, 1) := by decide +kernel
theorem dX11_parts_137 : decode cX11_parts 137 = .ok (.getfield 30, 3) := by decide +kernel
theorem dX11_parts_140 : decode cX11_parts 140 = .ok (.sipush 2048, 3) := by decide +kernel
theorem dX11_parts_143 : decode cX11_parts 143 = .ok (.iload_n 1, 1) := by decide +kernel
theorem dX11_parts_144 : decode cX11_parts 144 = .ok (.imul, 1) := by decide +kernel
theorem dX11_parts_145 : decode cX11_parts 145 = .ok (.iload 9, 2) := by decide +kernel
theorem dX11_parts_147 : decode cX11_parts 147 = .ok (.iadd, 1) := by decide +kernel
theorem dX11_parts_148 : decode cX11_parts 148 = .ok (.iload 6, 2) := by decide +kernel
theorem dX11_parts_150 : decode cX11_parts 150 = .ok (.aload_n 0, 1) := by decide +kernel
theorem dX11_parts_151 : decode cX11_parts 151 = .ok (.getfield 33, 3) := by decide +kernel
theorem dX11_parts_154 : decode cX11_parts 154 = .ok (.sipush 2048, 3) := by decide +kernel
theorem dX11_parts_157 : decode cX11_parts 157 = .ok (.iload_n 1, 1) := by decide +kernel
theorem dX11_parts_158 : decode cX11_parts 158 = .ok (.imul, 1) := by decide +kernel
theorem dX11_parts_159 : decode cX11_parts 159 = .ok (.iload 9, 2) := by decide +kernel
theorem dX11_parts_161 : decode cX11_parts 161 = .ok (.iadd, 1) := by decide +kernel
theorem dX11_parts_162 : decode cX11_parts 162 = .ok (.iaload, 1) := by decide +kernel
theorem dX11_parts_163 : decode cX11_parts 163 = .ok (.imul, 1) := by decide +kernel
theorem dX11_parts_164 : decode cX11_parts 164 = .ok (.iastore, 1) := by decide +kernel
theorem dX11_parts_165 : decode cX11_parts 165 = .ok (.lload 7, 2) := by decide +kernel
theorem dX11_parts_167 : decode cX11_parts 167 = .ok (.aload_n 0, 1) := by decide +kernel
theorem dX11_parts_168 : decode cX11_parts 168 = .ok (.iload_n 1, 1) := by decide +kernel
theorem dX11_parts_169 : decode cX11_parts 169 = .ok (.iload 9, 2) := by decide +kernel
theorem dX11_parts_171 : decode cX11_parts 171 = .ok (.invokevirtual 137, 3) := by decide +kernel
theorem dX11_parts_174 : decode cX11_parts 174 = .ok (.i2l, 1) := by decide +kernel
theorem dX11_parts_175 : decode cX11_parts 175 = .ok (.ladd, 1) := by decide +kernel
theorem dX11_parts_176 : decode cX11_parts 176 = .ok (.lstore 7, 2) := by decide +kernel
theorem dX11_parts_178 : decode cX11_parts 178 = .ok (.iinc 9 1, 3) := by decide +kernel
theorem dX11_parts_181 : decode cX11_parts 181 = .ok (.goto (-55), 3) := by decide +kernel
theorem dX11_parts_184 : decode cX11_parts 184 = .ok (.aload_n 0, 1) := by decide +kernel
theorem dX11_parts_185 : decode cX11_parts 185 = .ok (.iload_n 1, 1) := by decide +kernel
theorem dX11_parts_186 : decode cX11_parts 186 = .ok (.iconst 5, 1) := by decide +kernel
theorem dX11_parts_187 : decode cX11_parts 187 = .ok (.lload 7, 2) := by decide +kernel
theorem dX11_parts_189 : decode cX11_parts 189 = .ok (.invokevirtual 126, 3) := by decide +kernel
theorem dX11_parts_192 : decode cX11_parts 192 = .ok (.lload 7, 2) := by decide +kernel
theorem dX11_parts_194 : decode cX11_parts 194 = .ok (.lreturn, 1) := by decide +kernel
set_option maxRecDepth 20000 in
theorem ggX11_buildsAll_X11_manyOf : GoodIn wsX11_buildsAll wsX11_manyOf := goodIn_r _ [11, 12, 13, 14, 10, 15, 16, 84, 85, 86, 87, 88, 89, 90, 91, 92, 93, 94, 95, 96, 97, 98, 99, 100, 101, 102, 103, 104, 105, 106, 107, 108, 109, 110, 111, 112, 113, 114, 115, 116, 117, 118, 119, 120, 121, 122, 123, 124, 125, 126, 127, 128, 129, 130] (by decide +kernel) (by decide +kernel)
set_option maxRecDepth 20000 in
theorem gX11_buildsAll_X11_manyOf : GoodIn wsX11_buildsAll (wsV RX11 95 RX11 yX11_manyOf wsX11_manyOf) := goodIn_app (goodIn_of _ (by decide +kernel)) ggX11_buildsAll_X11_manyOf
set_option maxRecDepth 20000 in
theorem ggX11_buildsAll_X11_of : GoodIn wsX11_buildsAll wsX11_of := goodIn_r _ [15, 16, 84, 85, 86, 87, 88, 89, 90, 91, 92, 93, 94, 95, 96, 97, 98, 99, 100, 101, 102, 103, 104, 105, 106, 107, 108, 109, 110, 111, 112, 113, 114, 115, 116, 117, 118, 119, 120, 121, 122, 123, 124, 125, 126, 127, 128, 129, 130] (by decide +kernel) (by decide +kernel)
set_option maxRecDepth 20000 in
theorem gX11_buildsAll_X11_of : GoodIn wsX11_buildsAll (wsV RX11 89 RX11 yX11_of wsX11_of) := goodIn_app (goodIn_of _ (by decide +kernel)) ggX11_buildsAll_X11_of
set_option maxRecDepth 20000 in
theorem ggX11_buildsAll_X11_lays : GoodIn wsX11_buildsAll wsX11_lays := goodIn_r _ [20, 16, 84, 85, 86, 87, 88, 89, 90, 91, 92, 93, 94, 95, 96, 97, 98, 99, 100, 101, 102, 103, 104, 105, 106, 107, 108, 109, 110, 111, 112, 113, 114, 115, 116, 117, 118, 119, 120, 121, 122, 123, 124, 125, 126, 127, 128, 129, 130] (by decide +kernel) (by decide +kernel)
set_option maxRecDepth 20000 in
theorem gX11_buildsAll_X11_lays : GoodIn wsX11_buildsAll (wsV RX11 126 RX11 yX11_lays wsX11_lays) := goodIn_app (goodIn_of _ (by decide +kernel)) ggX11_buildsAll_X11_lays
set_option maxRecDepth 20000 in
theorem ggX11_buildsAll_X11_takesSeed : GoodIn wsX11_buildsAll wsX11_takesSeed := goodIn_r _ [24, 25, 5, 12, 13, 14, 10, 15, 16, 84, 85, 86, 87, 88, 89, 90, 91, 92, 93, 94, 95, 96, 97, 98, 99, 100, 101, 102, 103, 104, 105, 106, 107, 108, 109, 110, 111, 112, 113, 114, 115, 116, 117, 118, 119, 120, 121, 122, 123, 124, 125, 126, 127, 128, 129, 130] (by decide +kernel) (by decide +kernel)
set_option maxRecDepth 20000 in
theorem gX11_buildsAll_X11_takesSeed : GoodIn wsX11_buildsAll (wsV RX11 162 RX11 yX11_takesSeed wsX11_takesSeed) := goodIn_app (goodIn_of _ (by decide +kernel)) ggX11_buildsAll_X11_takesSeed
set_option maxRecDepth 20000 in
theorem ggX11_buildsAll_X11_drawsPair : GoodIn wsX11_buildsAll wsX11_drawsPair := goodIn_r _ [29, 30, 3, 31, 4, 5, 32, 33, 34, 10, 35, 25, 36, 37, 84, 85, 86, 87, 88, 89, 90, 91, 92, 93, 94, 95, 96, 97, 98, 99, 100, 101, 102, 103, 104, 105, 106, 107, 108, 109, 110, 111, 112, 113, 114, 115, 116, 117, 118, 119, 120, 121, 122, 123, 124, 125, 126, 127, 128, 129, 130] (by decide +kernel) (by decide +kernel)
set_option maxRecDepth 20000 in
theorem gX11_buildsAll_X11_drawsPair : GoodIn wsX11_buildsAll (wsV RX11 141 RX11 yX11_drawsPair wsX11_drawsPair) := goodIn_app (goodIn_of _ (by decide +kernel)) ggX11_buildsAll_X11_drawsPair
set_option maxRecDepth 20000 in
theorem ggX11_buildsAll_X11_parts : GoodIn wsX11_buildsAll wsX11_parts := goodIn_r _ [41, 42, 43, 44, 45, 17, 18, 19, 10, 20, 16, 46, 47, 48, 49, 12, 13, 14, 15, 7, 8, 9, 11, 50, 51, 52, 53, 54, 55, 56, 31, 57, 58, 59, 60, 84, 85, 86, 87, 88, 89, 90, 91, 92, 93, 94, 95, 96, 97, 98, 99, 100, 101, 102, 103, 104, 105, 106, 107, 108, 109, 110, 111, 112, 113, 114, 115, 116, 117, 118, 119, 120, 121, 122, 123, 124, 125, 126, 127, 128, 129, 130] (by decide +kernel) (by decide +kernel)
set_option maxRecDepth 20000 in
theorem gX11_buildsAll_X11_parts : GoodIn wsX11_buildsAll (wsV RX11 165 RX11 yX11_parts wsX11_parts) := goodIn_app (goodIn_of _ (by decide +kernel)) ggX11_buildsAll_X11_parts
set_option maxRecDepth 20000 in
theorem ggX11_buildsAll_X11_buckets : GoodIn wsX11_buildsAll wsX11_buckets := goodIn_r _ [49, 12, 13, 14, 10, 15, 16, 84, 85, 86, 87, 88, 89, 90, 91, 92, 93, 94, 95, 96, 97, 98, 99, 100, 101, 102, 103, 104, 105, 106, 107, 108, 109, 110, 111, 112, 113, 114, 115, 116, 117, 118, 119, 120, 121, 122, 123, 124, 125, 126, 127, 128, 129, 130] (by decide +kernel) (by decide +kernel)
set_option maxRecDepth 20000 in
theorem gX11_buildsAll_X11_buckets : GoodIn wsX11_buildsAll (wsV RX11 152 RX11 yX11_buckets wsX11_buckets) := goodIn_app (goodIn_of _ (by decide +kernel)) ggX11_buildsAll_X11_buckets
set_option maxRecDepth 20000 in
theorem ggX11_buildsAll_X11_buildsBucket : GoodIn wsX11_buildsAll wsX11_buildsBucket := goodIn_r _ [64, 3, 4, 65, 66, 43, 67, 44, 57, 58, 59, 10, 60, 45, 26, 27, 28, 29, 30, 31, 5, 32, 33, 34, 35, 25, 36, 37, 68, 69, 70, 71, 7, 8, 9, 11, 12, 13, 14, 15, 16, 54, 55, 56, 72, 73, 74, 75, 84, 85, 86, 87, 88, 89, 90, 91, 92, 93, 94, 95, 96, 97, 98, 99, 100, 101, 102, 103, 104, 105, 106, 107, 108, 109, 110, 111, 112, 113, 114, 115, 116, 117, 118, 119, 120, 121, 122, 123, 124, 125, 126, 127, 128, 129, 130] (by decide +kernel) (by decide +kernel)
set_option maxRecDepth 20000 in
theorem gX11_buildsAll_X11_buildsBucket : GoodIn wsX11_buildsAll (wsV RX11 171 RX11 yX11_buildsBucket wsX11_buildsBucket) := goodIn_app (goodIn_of _ (by decide +kernel)) ggX11_buildsAll_X11_buildsBucket
set_option maxRecDepth 20000 in
theorem ggX11_buildsAll_X11_laysSeed : GoodIn wsX11_buildsAll wsX11_laysSeed := goodIn_r _ [79, 25, 5, 17, 18, 19, 10, 20, 16, 80, 81, 82, 83, 84, 85, 86, 87, 88, 89, 90, 91, 92, 93, 94, 95, 96, 97, 98, 99, 100, 101, 102, 103, 104, 105, 106, 107, 108, 109, 110, 111, 112, 113, 114, 115, 116, 117, 118, 119, 120, 121, 122, 123, 124, 125, 126, 127, 128, 129, 130] (by decide +kernel) (by decide +kernel)
set_option maxRecDepth 20000 in
theorem gX11_buildsAll_X11_laysSeed : GoodIn wsX11_buildsAll (wsV RX11 175 RX11 yX11_laysSeed wsX11_laysSeed) := goodIn_app (goodIn_of _ (by decide +kernel)) ggX11_buildsAll_X11_laysSeed
set_option maxRecDepth 20000 in
theorem ggX11_buildsAll_X11_adds : GoodIn wsX11_buildsAll wsX11_adds := goodIn_r _ [83, 16, 84, 85, 86, 87, 88, 89, 90, 91, 92, 93, 94, 95, 96, 97, 98, 99, 100, 101, 102, 103, 104, 105, 106, 107, 108, 109, 110, 111, 112, 113, 114, 115, 116, 117, 118, 119, 120, 121, 122, 123, 124, 125, 126, 127, 128, 129, 130] (by decide +kernel) (by decide +kernel)
set_option maxRecDepth 20000 in
theorem gX11_buildsAll_X11_adds : GoodIn wsX11_buildsAll (wsV RX11 130 RX11 yX11_adds wsX11_adds) := goodIn_app (goodIn_of _ (by decide +kernel)) ggX11_buildsAll_X11_adds
theorem dX11_buildsAll_0 : decode cX11_buildsAll 0 = .ok (.aload_n 0, 1) := by decide +kernel
theorem dX11_buildsAll_1 : decode cX11_buildsAll 1 = .ok (.iload_n 1, 1) := by decide +kernel
theorem dX11_buildsAll_2 : decode cX11_buildsAll 2 = .ok (.invokevirtual 95, 3) := by decide +kernel
theorem dX11_buildsAll_5 : decode cX11_buildsAll 5 = .ok (.istore_n 2, 1) := by decide +kernel
theorem dX11_buildsAll_6 : decode cX11_buildsAll 6 = .ok (.aload_n 0, 1) := by decide +kernel
theorem dX11_buildsAll_7 : decode cX11_buildsAll 7 = .ok (.iload_n 1, 1) := by decide +kernel
theorem dX11_buildsAll_8 : decode cX11_buildsAll 8 = .ok (.iconst 2, 1) := by decide +kernel
theorem dX11_buildsAll_9 : decode cX11_buildsAll 9 = .ok (.iload_n 2, 1) := by decide +kernel
theorem dX11_buildsAll_10 : decode cX11_buildsAll 10 = .ok (.i2l, 1) := by decide +kernel
theorem dX11_buildsAll_11 : decode cX11_buildsAll 11 = .ok (.aload_n 0, 1) := by decide +kernel
theorem dX11_buildsAll_12 : decode cX11_buildsAll 12 = .ok (.iload_n 1, 1) := by decide +kernel
theorem dX11_buildsAll_13 : decode cX11_buildsAll 13 = .ok (.bipush 16, 2) := by decide +kernel
theorem dX11_buildsAll_15 : decode cX11_buildsAll 15 = .ok (.invokevirtual 89, 3) := by decide +kernel
theorem dX11_buildsAll_18 : decode cX11_buildsAll 18 = .ok (.iload_n 2, 1) := by decide +kernel
theorem dX11_buildsAll_19 : decode cX11_buildsAll 19 = .ok (.i2l, 1) := by decide +kernel
theorem dX11_buildsAll_20 : decode cX11_buildsAll 20 = .ok (.lmul, 1) := by decide +kernel
theorem dX11_buildsAll_21 : decode cX11_buildsAll 21 = .ok (.ldc2_w 158, 3) := by decide +kernel
theorem dX11_buildsAll_24 : decode cX11_buildsAll 24 = .ok (.ldiv, 1) := by decide +kernel
theorem dX11_buildsAll_25 : decode cX11_buildsAll 25 = .ok (.ladd, 1) := by decide +kernel
theorem dX11_buildsAll_26 : decode cX11_buildsAll 26 = .ok (.ldc2_w 160, 3) := by decide +kernel
theorem dX11_buildsAll_29 : decode cX11_buildsAll 29 = .ok (.ladd, 1) := by decide +kernel
theorem dX11_buildsAll_30 : decode cX11_buildsAll 30 = .ok (.invokevirtual 126, 3) := by decide +kernel
theorem dX11_buildsAll_33 : decode cX11_buildsAll 33 = .ok (.aload_n 0, 1) := by decide +kernel
theorem dX11_buildsAll_34 : decode cX11_buildsAll 34 = .ok (.iload_n 1, 1) := by decide +kernel
theorem dX11_buildsAll_35 : decode cX11_buildsAll 35 = .ok (.iconst 3, 1) := by decide +kernel
theorem dX11_buildsAll_36 : decode cX11_buildsAll 36 = .ok (.iload_n 2, 1) := by decide +kernel
theorem dX11_buildsAll_37 : decode cX11_buildsAll 37 = .ok (.i2l, 1) := by decide +kernel
theorem dX11_buildsAll_38 : decode cX11_buildsAll 38 = .ok (.invokevirtual 126, 3) := by decide +kernel
theorem dX11_buildsAll_41 : decode cX11_buildsAll 41 = .ok (.aload_n 0, 1) := by decide +kernel
theorem dX11_buildsAll_42 : decode cX11_buildsAll 42 = .ok (.iload_n 1, 1) := by decide +kernel
theorem dX11_buildsAll_43 : decode cX11_buildsAll 43 = .ok (.bipush 15, 2) := by decide +kernel
theorem dX11_buildsAll_45 : decode cX11_buildsAll 45 = .ok (.invokevirtual 89, 3) := by decide +kernel
theorem dX11_buildsAll_48 : decode cX11_buildsAll 48 = .ok (.aload_n 0, 1) := by decide +kernel
theorem dX11_buildsAll_49 : decode cX11_buildsAll 49 = .ok (.iload_n 1, 1) := by decide +kernel
theorem dX11_buildsAll_50 : decode cX11_buildsAll 50 = .ok (.iconst 2, 1) := by decide +kernel
theorem dX11_buildsAll_51 : decode cX11_buildsAll 51 = .ok (.invokevirtual 89, 3) := by decide +kernel
theorem dX11_buildsAll_54 : decode cX11_buildsAll 54 = .ok (.lmul, 1) := by decide +kernel
theorem dX11_buildsAll_55 : decode cX11_buildsAll 55 = .ok (.ldc2_w 158, 3) := by decide +kernel
theorem dX11_buildsAll_58 : decode cX11_buildsAll 58 = .ok (.ldiv, 1) := by decide +kernel
theorem dX11_buildsAll_59 : decode cX11_buildsAll 59 = .ok (.lstore_n 3, 1) := by decide +kernel
theorem dX11_buildsAll_60 : decode cX11_buildsAll 60 = .ok (.aload_n 0, 1) := by decide +kernel
theorem dX11_buildsAll_61 : decode cX11_buildsAll 61 = .ok (.iload_n 1, 1) := by decide +kernel
theorem dX11_buildsAll_62 : decode cX11_buildsAll 62 = .ok (.iconst 4, 1) := by decide +kernel
theorem dX11_buildsAll_63 : decode cX11_buildsAll 63 = .ok (.lload_n 3, 1) := by decide +kernel
theorem dX11_buildsAll_64 : decode cX11_buildsAll 64 = .ok (.lconst 1, 1) := by decide +kernel
theorem dX11_buildsAll_65 : decode cX11_buildsAll 65 = .ok (.lcmp, 1) := by decide +kernel
theorem dX11_buildsAll_66 : decode cX11_buildsAll 66 = .ok (.ifCond .ge 7, 3) := by decide +kernel
theorem dX11_buildsAll_69 : decode cX11_buildsAll 69 = .ok (.lconst 1, 1) := by decide +kernel
theorem dX11_buildsAll_70 : decode cX11_buildsAll 70 = .ok (.goto 4, 3) := by decide +kernel
theorem dX11_buildsAll_73 : decode cX11_buildsAll 73 = .ok (.lload_n 3, 1) := by decide +kernel
theorem dX11_buildsAll_74 : decode cX11_buildsAll 74 = .ok (.invokevirtual 126, 3) := by decide +kernel
theorem dX11_buildsAll_77 : decode cX11_buildsAll 77 = .ok (.aload_n 0, 1) := by decide +kernel
theorem dX11_buildsAll_78 : decode cX11_buildsAll 78 = .ok (.iload_n 1, 1) := by decide +kernel
theorem dX11_buildsAll_79 : decode cX11_buildsAll 79 = .ok (.invokevirtual 162, 3) := by decide +kernel
theorem dX11_buildsAll_82 : decode cX11_buildsAll 82 = .ok (.aload_n 0, 1) := by decide +kernel
theorem dX11_buildsAll_83 : decode cX11_buildsAll 83 = .ok (.invokevirtual 141, 3) := by decide +kernel
theorem dX11_buildsAll_86 : decode cX11_buildsAll 86 = .ok (.aload_n 0, 1) := by decide +kernel
theorem dX11_buildsAll_87 : decode cX11_buildsAll 87 = .ok (.iload_n 1, 1) := by decide +kernel
theorem dX11_buildsAll_88 : decode cX11_buildsAll 88 = .ok (.aload_n 0, 1) := by decide +kernel
theorem dX11_buildsAll_89 : decode cX11_buildsAll 89 = .ok (.getfield 117, 3) := by decide +kernel
theorem dX11_buildsAll_92 : decode cX11_buildsAll 92 = .ok (.aload_n 0, 1) := by decide +kernel
theorem dX11_buildsAll_93 : decode cX11_buildsAll 93 = .ok (.getfield 120, 3) := by decide +kernel
theorem dX11_buildsAll_96 : decode cX11_buildsAll 96 = .ok (.iconst 2, 1) := by decide +kernel
theorem dX11_buildsAll_97 : decode cX11_buildsAll 97 = .ok (.invokevirtual 165, 3) := by decide +kernel
theorem dX11_buildsAll_100 : decode cX11_buildsAll 100 = .ok (.aload_n 0, 1) := by decide +kernel
theorem dX11_buildsAll_101 : decode cX11_buildsAll 101 = .ok (.iload_n 1, 1) := by decide +kernel
theorem dX11_buildsAll_102 : decode cX11_buildsAll 102 = .ok (.bipush 14, 2) := by decide +kernel
theorem dX11_buildsAll_104 : decode cX11_buildsAll 104 = .ok (.invokevirtual 89, 3) := by decide +kernel
theorem dX11_buildsAll_107 : decode cX11_buildsAll 107 = .ok (.aload_n 0, 1) := by decide +kernel
theorem dX11_buildsAll_108 : decode cX11_buildsAll 108 = .ok (.iload_n 1, 1) := by decide +kernel
theorem dX11_buildsAll_109 : decode cX11_buildsAll 109 = .ok (.iconst 2, 1) := by decide +kernel
theorem dX11_buildsAll_110 : decode cX11_buildsAll 110 = .ok (.invokevirtual 89, 3) := by decide +kernel
theorem dX11_buildsAll_113 : decode cX11_buildsAll 113 = .ok (.lmul, 1) := by decide +kernel
theorem dX11_buildsAll_114 : decode cX11_buildsAll 114 = .ok (.lcmp, 1) := by decide +kernel
theorem dX11_buildsAll_115 : decode cX11_buildsAll 115 = .ok (.ifCond .le 63, 3) := by decide +kernel
theorem dX11_buildsAll_118 : decode cX11_buildsAll 118 = .ok (.aload_n 0, 1) := by decide +kernel
theorem dX11_buildsAll_119 : decode cX11_buildsAll 119 = .ok (.getfield 123, 3) := by decide +kernel
theorem dX11_buildsAll_122 : decode cX11_buildsAll 122 = .ok (.sipush 400, 3) := by decide +kernel
theorem dX11_buildsAll_125 : decode cX11_buildsAll 125 = .ok (.if_icmp .ge 53, 3) := by decide +kernel
theorem dX11_buildsAll_128 : decode cX11_buildsAll 128 = .ok (.aload_n 0, 1) := by decide +kernel
theorem dX11_buildsAll_129 : decode cX11_buildsAll 129 = .ok (.getfield 123, 3) := by decide +kernel
theorem dX11_buildsAll_132 : decode cX11_buildsAll 132 = .ok (.bipush 20, 2) := by decide +kernel
theorem dX11_buildsAll_134 : decode cX11_buildsAll 134 = .ok (.irem, 1) := by decide +kernel
theorem dX11_buildsAll_135 : decode cX11_buildsAll 135 = .ok (.ifCond .ne 36, 3) := by decide +kernel
theorem dX11_buildsAll_138 : decode cX11_buildsAll 138 = .ok (.aload_n 0, 1) := by decide +kernel
theorem dX11_buildsAll_139 : decode cX11_buildsAll 139 = .ok (.iload_n 1, 1) := by decide +kernel
theorem dX11_buildsAll_140 : decode cX11_buildsAll 140 = .ok (.iconst 4, 1) := by decide +kernel
theorem dX11_buildsAll_141 : decode cX11_buildsAll 141 = .ok (.iconst 2, 1) := by decide +kernel
theorem dX11_buildsAll_142 : decode cX11_buildsAll 142 = .ok (.aload_n 0, 1) := by decide +kernel
theorem dX11_buildsAll_143 : decode cX11_buildsAll 143 = .ok (.iload_n 1, 1) := by decide +kernel
theorem dX11_buildsAll_144 : decode cX11_buildsAll 144 = .ok (.invokevirtual 152, 3) := by decide +kernel
theorem dX11_buildsAll_147 : decode cX11_buildsAll 147 = .ok (.imul, 1) := by decide +kernel
theorem dX11_buildsAll_148 : decode cX11_buildsAll 148 = .ok (.sipush 2048, 3) := by decide +kernel
theorem dX11_buildsAll_151 : decode cX11_buildsAll 151 = .ok (.if_icmp .le 9, 3) := by decide +kernel
theorem dX11_buildsAll_154 : decode cX11_buildsAll 154 = .ok (.ldc2_w 169, 3) := by decide +kernel
theorem dX11_buildsAll_157 : decode cX11_buildsAll 157 = .ok (.goto 11, 3) := by decide +kernel
theorem dX11_buildsAll_160 : decode cX11_buildsAll 160 = .ok (.iconst 2, 1) := by decide +kernel
theorem dX11_buildsAll_161 : decode cX11_buildsAll 161 = .ok (.aload_n 0, 1) := by decide +kernel
theorem dX11_buildsAll_162 : decode cX11_buildsAll 162 = .ok (.iload_n 1, 1) := by decide +kernel
theorem dX11_buildsAll_163 : decode cX11_buildsAll 163 = .ok (.invokevirtual 152, 3) := by decide +kernel
theorem dX11_buildsAll_166 : decode cX11_buildsAll 166 = .ok (.imul, 1) := by decide +kernel
theorem dX11_buildsAll_167 : decode cX11_buildsAll 167 = .ok (.i2l, 1) := by decide +kernel
theorem dX11_buildsAll_168 : decode cX11_buildsAll 168 = .ok (.invokevirtual 126, 3) := by decide +kernel
theorem dX11_buildsAll_171 : decode cX11_buildsAll 171 = .ok (.aload_n 0, 1) := by decide +kernel
theorem dX11_buildsAll_172 : decode cX11_buildsAll 172 = .ok (.invokevirtual 141, 3) := by decide +kernel
theorem dX11_buildsAll_175 : decode cX11_buildsAll 175 = .ok (.goto (-89), 3) := by decide +kernel
theorem dX11_buildsAll_178 : decode cX11_buildsAll 178 = .ok (.iconst 0, 1) := by decide +kernel
theorem dX11_buildsAll_179 : decode cX11_buildsAll 179 = .ok (.istore 5, 2) := by decide +kernel
theorem dX11_buildsAll_181 : decode cX11_buildsAll 181 = .ok (.iload 5, 2) := by decide +kernel
theorem dX11_buildsAll_183 : decode cX11_buildsAll 183 = .ok (.aload_n 0, 1) := by decide +kernel
theorem dX11_buildsAll_184 : decode cX11_buildsAll 184 = .ok (.iload_n 1, 1) := by decide +kernel
theorem dX11_buildsAll_185 : decode cX11_buildsAll 185 = .ok (.invokevirtual 152, 3) := by decide +kernel
theorem dX11_buildsAll_188 : decode cX11_buildsAll 188 = .ok (.if_icmp .ge 16, 3) := by decide +kernel
theorem dX11_buildsAll_191 : decode cX11_buildsAll 191 = .ok (.aload_n 0, 1) := by decide +kernel
theorem dX11_buildsAll_192 : decode cX11_buildsAll 192 = .ok (.iload_n 1, 1) := by decide +kernel
theorem dX11_buildsAll_193 : decode cX11_buildsAll 193 = .ok (.iload 5, 2) := by decide +kernel
theorem dX11_buildsAll_195 : decode cX11_buildsAll 195 = .ok (.invokevirtual 171, 3) := by decide +kernel
theorem dX11_buildsAll_198 : decode cX11_buildsAll 198 = .ok (.iinc 5 1, 3) := by decide +kernel
theorem dX11_buildsAll_201 : decode cX11_buildsAll 201 = .ok (.goto (-20), 3) := by decide +kernel
theorem dX11_buildsAll_204 : decode cX11_buildsAll 204 = .ok (.aload_n 0, 1) := by decide +kernel
theorem dX11_buildsAll_205 : decode cX11_buildsAll 205 = .ok (.iload_n 1, 1) := by decide +kernel
theorem dX11_buildsAll_206 : decode cX11_buildsAll 206 = .ok (.invokevirtual 175, 3) := by decide +kernel
theorem dX11_buildsAll_209 : decode cX11_buildsAll 209 = .ok (.aload_n 0, 1) := by decide +kernel
theorem dX11_buildsAll_210 : decode cX11_buildsAll 210 = .ok (.iload_n 1, 1) := by decide +kernel
theorem dX11_buildsAll_211 : decode cX11_buildsAll 211 = .ok (.bipush 12, 2) := by decide +kernel
theorem dX11_buildsAll_213 : decode cX11_buildsAll 213 = .ok (.iload_n 2, 1) := by decide +kernel
theorem dX11_buildsAll_214 : decode cX11_buildsAll 214 = .ok (.i2l, 1) := by decide +kernel
theorem dX11_buildsAll_215 : decode cX11_buildsAll 215 = .ok (.invokevirtual 130, 3) := by decide +kernel
theorem dX11_buildsAll_218 : decode cX11_buildsAll 218 = .ok (.return_, 1) := by decide +kernel
set_option maxRecDepth 20000 in
theorem ggX11_make_X11_isIn : GoodIn wsX11_make wsX11_isIn := goodIn_r _ [11] (by decide +kernel) (by decide +kernel)
set_option maxRecDepth 20000 in
theorem gX11_make_X11_isIn : GoodIn wsX11_make (va_wsS RX11 83 yX11_isIn wsX11_isIn) := goodIn_app (goodIn_of _ (by decide +kernel)) ggX11_make_X11_isIn
set_option maxRecDepth 20000 in
theorem ggX11_make_X11_makes : GoodIn wsX11_make wsX11_makes := goodIn_r _ [15, 16, 17, 18, 10, 19, 20, 102, 103, 104, 105, 106, 107, 108, 109, 110, 111, 112, 113, 114, 115, 116, 117, 118, 119, 120, 121, 122, 123, 124, 125, 126, 127, 128, 129, 130, 131, 132, 133, 134, 135, 136, 137, 138, 139, 140, 141, 142, 143, 144, 145, 146, 147, 148] (by decide +kernel) (by decide +kernel)
set_option maxRecDepth 20000 in
theorem gX11_make_X11_makes : GoodIn wsX11_make (wsV RX11 188 RX11 yX11_makes wsX11_makes) := goodIn_app (goodIn_of _ (by decide +kernel)) ggX11_make_X11_makes
set_option maxRecDepth 20000 in
theorem ggX11_make_X11_buildsAll : GoodIn wsX11_make wsX11_buildsAll := goodIn_r _ [24, 25, 26, 27, 28, 29, 30, 31, 32, 33, 10, 34, 35, 36, 37, 38, 20, 16, 17, 18, 19, 39, 40, 41, 42, 43, 44, 45, 46, 47, 48, 49, 50, 51, 52, 53, 54, 55, 56, 57, 58, 59, 60, 61, 62, 63, 64, 65, 66, 67, 68, 69, 70, 71, 72, 73, 74, 75, 76, 77, 78, 79, 80, 81, 82, 83, 84, 85, 86, 87, 88, 89, 90, 91, 92, 93, 94, 95, 96, 97, 98, 99, 100, 101, 102, 103, 104, 105, 106, 107, 108, 109, 110, 111, 112, 113, 114, 115, 116, 117, 118, 119, 120, 121, 122, 123, 124, 125, 126, 127, 128, 129, 130, 131, 132, 133, 134, 135, 136, 137, 138, 139, 140, 141, 142, 143, 144, 145, 146, 147, 148] (by decide +kernel) (by decide +kernel)
set_option maxRecDepth 20000 in
theorem gX11_make_X11_buildsAll : GoodIn wsX11_make (wsV RX11 192 RX11 yX11_buildsAll wsX11_buildsAll) := goodIn_app (goodIn_of _ (by decide +kernel)) ggX11_make_X11_buildsAll
theorem dX11_make_0 : decode cX11_make 0 = .ok (.aload_n 0, 1) := by decide +kernel
theorem dX11_make_1 : decode cX11_make 1 = .ok (.iconst 0, 1) := by decide +kernel
theorem dX11_make_2 : decode cX11_make 2 = .ok (.putfield 73, 3) := by decide +kernel
theorem dX11_make_5 : decode cX11_make 5 = .ok (.iload_n 1, 1) := by decide +kernel
theorem dX11_make_6 : decode cX11_make 6 = .ok (.i2l, 1) := by decide +kernel
theorem dX11_make_7 : decode cX11_make 7 = .ok (.lconst 0, 1) := by decide +kernel
theorem dX11_make_8 : decode cX11_make 8 = .ok (.ldc2_w 87, 3) := by decide +kernel
theorem dX11_make_11 : decode cX11_make 11 = .ok (.invokestatic 83, 3) := by decide +kernel
theorem dX11_make_14 : decode cX11_make 14 = .ok (.ifCond .eq 44, 3) := by decide +kernel
theorem dX11_make_17 : decode cX11_make 17 = .ok (.iload_n 2, 1) := by decide +kernel
theorem dX11_make_18 : decode cX11_make 18 = .ok (.i2l, 1) := by decide +kernel
theorem dX11_make_19 : decode cX11_make 19 = .ok (.ldc2_w 178, 3) := by decide +kernel
theorem dX11_make_22 : decode cX11_make 22 = .ok (.ldc2_w 180, 3) := by decide +kernel
theorem dX11_make_25 : decode cX11_make 25 = .ok (.invokestatic 83, 3) := by decide +kernel
theorem dX11_make_28 : decode cX11_make 28 = .ok (.ifCond .eq 30, 3) := by decide +kernel
theorem dX11_make_31 : decode cX11_make 31 = .ok (.iload_n 3, 1) := by decide +kernel
theorem dX11_make_32 : decode cX11_make 32 = .ok (.i2l, 1) := by decide +kernel
theorem dX11_make_33 : decode cX11_make 33 = .ok (.ldc2_w 182, 3) := by decide +kernel
theorem dX11_make_36 : decode cX11_make 36 = .ok (.ldc2_w 184, 3) := by decide +kernel
theorem dX11_make_39 : decode cX11_make 39 = .ok (.invokestatic 83, 3) := by decide +kernel
theorem dX11_make_42 : decode cX11_make 42 = .ok (.ifCond .eq 16, 3) := by decide +kernel
theorem dX11_make_45 : decode cX11_make 45 = .ok (.iload 4, 2) := by decide +kernel
theorem dX11_make_47 : decode cX11_make 47 = .ok (.i2l, 1) := by decide +kernel
theorem dX11_make_48 : decode cX11_make 48 = .ok (.lconst 0, 1) := by decide +kernel
theorem dX11_make_49 : decode cX11_make 49 = .ok (.ldc2_w 186, 3) := by decide +kernel
theorem dX11_make_52 : decode cX11_make 52 = .ok (.invokestatic 83, 3) := by decide +kernel
theorem dX11_make_55 : decode cX11_make 55 = .ok (.ifCond .ne 6, 3) := by decide +kernel
theorem dX11_make_58 : decode cX11_make 58 = .ok (.bipush (-2), 2) := by decide +kernel
theorem dX11_make_60 : decode cX11_make 60 = .ok (.ireturn, 1) := by decide +kernel
theorem dX11_make_61 : decode cX11_make 61 = .ok (.aload_n 0, 1) := by decide +kernel
theorem dX11_make_62 : decode cX11_make 62 = .ok (.iload_n 1, 1) := by decide +kernel
theorem dX11_make_63 : decode cX11_make 63 = .ok (.iload_n 2, 1) := by decide +kernel
theorem dX11_make_64 : decode cX11_make 64 = .ok (.iload_n 3, 1) := by decide +kernel
theorem dX11_make_65 : decode cX11_make 65 = .ok (.iload 4, 2) := by decide +kernel
theorem dX11_make_67 : decode cX11_make 67 = .ok (.lload 5, 2) := by decide +kernel
theorem dX11_make_69 : decode cX11_make 69 = .ok (.invokevirtual 188, 3) := by decide +kernel
theorem dX11_make_72 : decode cX11_make 72 = .ok (.aload_n 0, 1) := by decide +kernel
theorem dX11_make_73 : decode cX11_make 73 = .ok (.iload_n 1, 1) := by decide +kernel
theorem dX11_make_74 : decode cX11_make 74 = .ok (.invokevirtual 192, 3) := by decide +kernel
theorem dX11_make_77 : decode cX11_make 77 = .ok (.iconst 1, 1) := by decide +kernel
theorem dX11_make_78 : decode cX11_make 78 = .ok (.ireturn, 1) := by decide +kernel
set_option maxRecDepth 20000 in
theorem ggX11_makes_X11_lays : GoodIn wsX11_makes wsX11_lays := goodIn_r _ [5, 6, 7, 8, 9, 10, 11, 12, 13, 14, 15, 16, 17, 18, 19, 20, 21, 22, 23, 24, 25, 26, 27, 28, 29, 30, 31, 32, 33, 34, 35, 36, 37, 38, 39, 40, 41, 42, 43, 44, 45, 46, 47, 48, 49, 50, 51, 52, 53] (by decide +kernel) (by decide +kernel)
set_option maxRecDepth 20000 in
theorem gX11_makes_X11_lays : GoodIn wsX11_makes (wsV RX11 126 RX11 yX11_lays wsX11_lays) := goodIn_app (goodIn_of _ (by decide +kernel)) ggX11_makes_X11_lays
theorem dX11_makes_0 : decode cX11_makes 0 = .ok (.iconst 0, 1) := by decide +kernel
theorem dX11_makes_1 : decode cX11_makes 1 = .ok (.istore 7, 2) := by decide +kernel
theorem dX11_makes_3 : decode cX11_makes 3 = .ok (.iload 7, 2) := by decide +kernel
theorem dX11_makes_5 : decode cX11_makes 5 = .ok (.bipush 17, 2) := by decide +kernel
theorem dX11_makes_7 : decode cX11_makes 7 = .ok (.if_icmp .ge 17, 3) := by decide +kernel
theorem dX11_makes_10 : decode cX11_makes 10 = .ok (.aload_n 0, 1) := by decide +kernel
theorem dX11_makes_11 : decode cX11_makes 11 = .ok (.iload_n 1, 1) := by decide +kernel
theorem dX11_makes_12 : decode cX11_makes 12 = .ok (.iload 7, 2) := by decide +kernel
theorem dX11_makes_14 : decode cX11_makes 14 = .ok (.lconst 0, 1) := by decide +kernel
theorem dX11_makes_15 : decode cX11_makes 15 = .ok (.invokevirtual 126, 3) := by decide +kernel
theorem dX11_makes_18 : decode cX11_makes 18 = .ok (.iinc 7 1, 3) := by decide +kernel
theorem dX11_makes_21 : decode cX11_makes 21 = .ok (.goto (-18), 3) := by decide +kernel
theorem dX11_makes_24 : decode cX11_makes 24 = .ok (.aload_n 0, 1) := by decide +kernel
theorem dX11_makes_25 : decode cX11_makes 25 = .ok (.iload_n 1, 1) := by decide +kernel
theorem dX11_makes_26 : decode cX11_makes 26 = .ok (.iconst 0, 1) := by decide +kernel
theorem dX11_makes_27 : decode cX11_makes 27 = .ok (.lconst 1, 1) := by decide +kernel
theorem dX11_makes_28 : decode cX11_makes 28 = .ok (.invokevirtual 126, 3) := by decide +kernel
theorem dX11_makes_31 : decode cX11_makes 31 = .ok (.aload_n 0, 1) := by decide +kernel
theorem dX11_makes_32 : decode cX11_makes 32 = .ok (.iload_n 1, 1) := by decide +kernel
theorem dX11_makes_33 : decode cX11_makes 33 = .ok (.bipush 14, 2) := by decide +kernel
theorem dX11_makes_35 : decode cX11_makes 35 = .ok (.iload_n 2, 1) := by decide +kernel
theorem dX11_makes_36 : decode cX11_makes 36 = .ok (.i2l, 1) := by decide +kernel
theorem dX11_makes_37 : decode cX11_makes 37 = .ok (.invokevirtual 126, 3) := by decide +kernel
theorem dX11_makes_40 : decode cX11_makes 40 = .ok (.aload_n 0, 1) := by decide +kernel
theorem dX11_makes_41 : decode cX11_makes 41 = .ok (.iload_n 1, 1) := by decide +kernel
theorem dX11_makes_42 : decode cX11_makes 42 = .ok (.bipush 15, 2) := by decide +kernel
theorem dX11_makes_44 : decode cX11_makes 44 = .ok (.iload_n 3, 1) := by decide +kernel
theorem dX11_makes_45 : decode cX11_makes 45 = .ok (.i2l, 1) := by decide +kernel
theorem dX11_makes_46 : decode cX11_makes 46 = .ok (.invokevirtual 126, 3) := by decide +kernel
theorem dX11_makes_49 : decode cX11_makes 49 = .ok (.aload_n 0, 1) := by decide +kernel
theorem dX11_makes_50 : decode cX11_makes 50 = .ok (.iload_n 1, 1) := by decide +kernel
theorem dX11_makes_51 : decode cX11_makes 51 = .ok (.bipush 16, 2) := by decide +kernel
theorem dX11_makes_53 : decode cX11_makes 53 = .ok (.iload 4, 2) := by decide +kernel
theorem dX11_makes_55 : decode cX11_makes 55 = .ok (.i2l, 1) := by decide +kernel
theorem dX11_makes_56 : decode cX11_makes 56 = .ok (.invokevirtual 126, 3) := by decide +kernel
theorem dX11_makes_59 : decode cX11_makes 59 = .ok (.aload_n 0, 1) := by decide +kernel
theorem dX11_makes_60 : decode cX11_makes 60 = .ok (.iload_n 1, 1) := by decide +kernel
theorem dX11_makes_61 : decode cX11_makes 61 = .ok (.bipush 13, 2) := by decide +kernel
theorem dX11_makes_63 : decode cX11_makes 63 = .ok (.lload 5, 2) := by decide +kernel
theorem dX11_makes_65 : decode cX11_makes 65 = .ok (.invokevirtual 126, 3) := by decide +kernel
theorem dX11_makes_68 : decode cX11_makes 68 = .ok (.return_, 1) := by decide +kernel
set_option maxRecDepth 20000 in
theorem ggX11_put_X11_isThere : GoodIn wsX11_put wsX11_isThere := goodIn_r _ [6, 7, 8, 9, 5, 10, 11, 12, 13, 14, 15, 141, 142, 143, 144, 145, 146, 147, 148, 149, 150, 151, 152, 153, 154, 155, 156, 157, 158, 159, 160, 161, 162, 163, 164, 165, 166, 167, 168, 169, 170, 171, 172, 173, 174, 175, 176, 177, 178, 179, 180, 181, 182, 183, 184, 185, 186, 187] (by decide +kernel) (by decide +kernel)
set_option maxRecDepth 20000 in
theorem gX11_put_X11_isThere : GoodIn wsX11_put (wsV RX11 222 RX11 yX11_isThere wsX11_isThere) := goodIn_app (goodIn_of _ (by decide +kernel)) ggX11_put_X11_isThere
set_option maxRecDepth 20000 in
theorem ggX11_put_X11_isKey : GoodIn wsX11_put wsX11_isKey := goodIn_r _ [18, 19, 8, 9, 5, 10] (by decide +kernel) (by decide +kernel)
set_option maxRecDepth 20000 in
theorem gX11_put_X11_isKey : GoodIn wsX11_put (va_wsS RX11 226 yX11_isKey wsX11_isKey) := goodIn_app (goodIn_of _ (by decide +kernel)) ggX11_put_X11_isKey
set_option maxRecDepth 20000 in
theorem ggX11_put_X11_isFull : GoodIn wsX11_put wsX11_isFull := goodIn_r _ [23, 24, 25, 26, 5, 27, 11, 12, 13, 14, 15, 28, 29, 30, 31, 32, 33, 34, 35, 36, 141, 142, 143, 144, 145, 146, 147, 148, 149, 150, 151, 152, 153, 154, 155, 156, 157, 158, 159, 160, 161, 162, 163, 164, 165, 166, 167, 168, 169, 170, 171, 172, 173, 174, 175, 176, 177, 178, 179, 180, 181, 182, 183, 184, 185, 186, 187] (by decide +kernel) (by decide +kernel)
set_option maxRecDepth 20000 in
theorem gX11_put_X11_isFull : GoodIn wsX11_put (wsV RX11 229 RX11 yX11_isFull wsX11_isFull) := goodIn_app (goodIn_of _ (by decide +kernel)) ggX11_put_X11_isFull
set_option maxRecDepth 20000 in
theorem ggX11_put_X11_putsKey : GoodIn wsX11_put wsX11_putsKey := goodIn_r _ [40, 41, 42, 43, 44, 45, 46, 47, 5, 48, 49, 28, 29, 30, 31, 32, 33, 34, 35, 36, 24, 25, 26, 27, 11, 12, 13, 14, 15, 50, 51, 52, 53, 54, 55, 56, 57, 58, 59, 60, 61, 62, 63, 64, 65, 66, 67, 68, 69, 70, 71, 72, 73, 74, 75, 76, 77, 78, 79, 80, 81, 82, 83, 84, 85, 86, 87, 88, 89, 90, 91, 92, 93, 94, 95, 96, 97, 98, 99, 100, 101, 102, 103, 104, 105, 106, 107, 108, 109, 110, 111, 112, 113, 114, 19, 115, 116, 117, 118, 119, 120, 121, 122, 123, 124, 125, 126, 127, 128, 129, 130, 131, 132, 133, 134, 135, 136, 137, 138, 139, 140, 141, 142, 143, 144, 145, 146, 147, 148, 149, 150, 151, 152, 153, 154, 155, 156, 157, 158, 159, 160, 161, 162, 163, 164, 165, 166, 167, 168, 169, 170, 171, 172, 173, 174, 175, 176, 177, 178, 179, 180, 181, 182, 183, 184, 185, 186, 187] (by decide +kernel) (by decide +kernel)
set_option maxRecDepth 20000 in
theorem gX11_put_X11_putsKey : GoodIn wsX11_put (wsV RX11 232 RX11 yX11_putsKey wsX11_putsKey) := goodIn_app (goodIn_of _ (by decide +kernel)) ggX11_put_X11_putsKey
theorem dX11_put_0 : decode cX11_put 0 = .ok (.aload_n 0, 1) := by decide +kernel
theorem dX11_put_1 : decode cX11_put 1 = .ok (.iconst 0, 1) := by decide +kernel
theorem dX11_put_2 : decode cX11_put 2 = .ok (.putfield 73, 3) := by decide +kernel
theorem dX11_put_5 : decode cX11_put 5 = .ok (.aload_n 0, 1) := by decide +kernel
theorem dX11_put_6 : decode cX11_put 6 = .ok (.iload_n 1, 1) := by decide +kernel
theorem dX11_put_7 : decode cX11_put 7 = .ok (.invokevirtual 222, 3) := by decide +kernel
theorem dX11_put_10 : decode cX11_put 10 = .ok (.ifCond .eq 10, 3) := by decide +kernel
theorem dX11_put_13 : decode cX11_put 13 = .ok (.iload_n 2, 1) := by decide +kernel
theorem dX11_put_14 : decode cX11_put 14 = .ok (.invokestatic 226, 3) := by decide +kernel
theorem dX11_put_17 : decode cX11_put 17 = .ok (.ifCond .ne 6, 3) := by decide +kernel
theorem dX11_put_20 : decode cX11_put 20 = .ok (.bipush (-2), 2) := by decide +kernel
theorem dX11_put_22 : decode cX11_put 22 = .ok (.ireturn, 1) := by decide +kernel
theorem dX11_put_23 : decode cX11_put 23 = .ok (.aload_n 0, 1) := by decide +kernel
theorem dX11_put_24 : decode cX11_put 24 = .ok (.iload_n 1, 1) := by decide +kernel
theorem dX11_put_25 : decode cX11_put 25 = .ok (.iload_n 2, 1) := by decide +kernel
theorem dX11_put_26 : decode cX11_put 26 = .ok (.invokevirtual 229, 3) := by decide +kernel
theorem dX11_put_29 : decode cX11_put 29 = .ok (.ifCond .eq 8, 3) := by decide +kernel
theorem dX11_put_32 : decode cX11_put 32 = .ok (.bipush (-3), 2) := by decide +kernel
theorem dX11_put_34 : decode cX11_put 34 = .ok (.goto 10, 3) := by decide +kernel
theorem dX11_put_37 : decode cX11_put 37 = .ok (.aload_n 0, 1) := by decide +kernel
theorem dX11_put_38 : decode cX11_put 38 = .ok (.iload_n 1, 1) := by decide +kernel
theorem dX11_put_39 : decode cX11_put 39 = .ok (.iload_n 2, 1) := by decide +kernel
theorem dX11_put_40 : decode cX11_put 40 = .ok (.iload_n 3, 1) := by decide +kernel
theorem dX11_put_41 : decode cX11_put 41 = .ok (.invokevirtual 232, 3) := by decide +kernel
theorem dX11_put_44 : decode cX11_put 44 = .ok (.ireturn, 1) := by decide +kernel
set_option maxRecDepth 20000 in
theorem ggX11_get_X11_isThere : GoodIn wsX11_get wsX11_isThere := goodIn_r _ [8, 9, 10, 11, 7, 12, 13, 14, 15, 16, 17, 59, 60, 61, 62, 63, 64, 65, 66, 67, 68, 69, 70, 71, 72, 73, 74, 75, 76, 77, 78, 79, 80, 81, 82, 83, 84, 85, 86, 87, 88, 89, 90, 91, 92, 93, 94, 95, 96, 97, 98, 99, 100, 101, 102, 103, 104, 105] (by decide +kernel) (by decide +kernel)
set_option maxRecDepth 20000 in
theorem gX11_get_X11_isThere : GoodIn wsX11_get (wsV RX11 222 RX11 yX11_isThere wsX11_isThere) := goodIn_app (goodIn_of _ (by decide +kernel)) ggX11_get_X11_isThere
set_option maxRecDepth 20000 in
theorem ggX11_get_X11_isKey : GoodIn wsX11_get wsX11_isKey := goodIn_r _ [20, 21, 10, 11, 7, 12] (by decide +kernel) (by decide +kernel)
set_option maxRecDepth 20000 in
theorem gX11_get_X11_isKey : GoodIn wsX11_get (va_wsS RX11 226 yX11_isKey wsX11_isKey) := goodIn_app (goodIn_of _ (by decide +kernel)) ggX11_get_X11_isKey
set_option maxRecDepth 20000 in
theorem ggX11_get_X11_readsFor : GoodIn wsX11_get wsX11_readsFor := goodIn_r _ [25, 26, 27, 28, 7, 29, 13, 14, 15, 16, 17, 30, 31, 32, 33, 34, 35, 36, 37, 38, 39, 40, 41, 42, 43, 44, 45, 59, 60, 61, 62, 63, 64, 65, 66, 67, 68, 69, 70, 71, 72, 73, 74, 75, 76, 77, 78, 79, 80, 81, 82, 83, 84, 85, 86, 87, 88, 89, 90, 91, 92, 93, 94, 95, 96, 97, 98, 99, 100, 101, 102, 103, 104, 105] (by decide +kernel) (by decide +kernel)
set_option maxRecDepth 20000 in
theorem gX11_get_X11_readsFor : GoodIn wsX11_get (wsV RX11 215 RX11 yX11_readsFor wsX11_readsFor) := goodIn_app (goodIn_of _ (by decide +kernel)) ggX11_get_X11_readsFor
set_option maxRecDepth 20000 in
theorem ggX11_get_X11_hasKey : GoodIn wsX11_get wsX11_hasKey := goodIn_r _ [49, 50, 51, 52, 53, 7, 54, 55, 56, 57, 58, 13, 14, 15, 16, 17, 59, 60, 61, 62, 63, 64, 65, 66, 67, 68, 69, 70, 71, 72, 73, 74, 75, 76, 77, 78, 79, 80, 81, 82, 83, 84, 85, 86, 87, 88, 89, 90, 91, 92, 93, 94, 95, 96, 97, 98, 99, 100, 101, 102, 103, 104, 105] (by decide +kernel) (by decide +kernel)
set_option maxRecDepth 20000 in
theorem gX11_get_X11_hasKey : GoodIn wsX11_get (wsV RX11 202 RX11 yX11_hasKey wsX11_hasKey) := goodIn_app (goodIn_of _ (by decide +kernel)) ggX11_get_X11_hasKey
set_option maxRecDepth 20000 in
theorem ggX11_get_X11_whereOf : GoodIn wsX11_get wsX11_whereOf := goodIn_r _ [54, 50, 55, 56, 57, 7, 58, 13, 14, 15, 16, 17, 59, 60, 61, 62, 63, 64, 65, 66, 67, 68, 69, 70, 71, 72, 73, 74, 75, 76, 77, 78, 79, 80, 81, 82, 83, 84, 85, 86, 87, 88, 89, 90, 91, 92, 93, 94, 95, 96, 97, 98, 99, 100, 101, 102, 103, 104, 105] (by decide +kernel) (by decide +kernel)
set_option maxRecDepth 20000 in
theorem gX11_get_X11_whereOf : GoodIn wsX11_get (wsV RX11 99 RX11 yX11_whereOf wsX11_whereOf) := goodIn_app (goodIn_of _ (by decide +kernel)) ggX11_get_X11_whereOf
theorem dX11_get_0 : decode cX11_get 0 = .ok (.aload_n 0, 1) := by decide +kernel
theorem dX11_get_1 : decode cX11_get 1 = .ok (.iconst 0, 1) := by decide +kernel
theorem dX11_get_2 : decode cX11_get 2 = .ok (.putfield 73, 3) := by decide +kernel
theorem dX11_get_5 : decode cX11_get 5 = .ok (.aload_n 0, 1) := by decide +kernel
theorem dX11_get_6 : decode cX11_get 6 = .ok (.iload_n 1, 1) := by decide +kernel
theorem dX11_get_7 : decode cX11_get 7 = .ok (.invokevirtual 222, 3) := by decide +kernel
theorem dX11_get_10 : decode cX11_get 10 = .ok (.ifCond .eq 10, 3) := by decide +kernel
theorem dX11_get_13 : decode cX11_get 13 = .ok (.iload_n 2, 1) := by decide +kernel
theorem dX11_get_14 : decode cX11_get 14 = .ok (.invokestatic 226, 3) := by decide +kernel
theorem dX11_get_17 : decode cX11_get 17 = .ok (.ifCond .ne 7, 3) := by decide +kernel
theorem dX11_get_20 : decode cX11_get 20 = .ok (.ldc2_w 235, 3) := by decide +kernel
theorem dX11_get_23 : decode cX11_get 23 = .ok (.lreturn, 1) := by decide +kernel
theorem dX11_get_24 : decode cX11_get 24 = .ok (.aload_n 0, 1) := by decide +kernel
theorem dX11_get_25 : decode cX11_get 25 = .ok (.iload_n 1, 1) := by decide +kernel
theorem dX11_get_26 : decode cX11_get 26 = .ok (.iload_n 2, 1) := by decide +kernel
theorem dX11_get_27 : decode cX11_get 27 = .ok (.invokevirtual 215, 3) := by decide +kernel
theorem dX11_get_30 : decode cX11_get 30 = .ok (.aload_n 0, 1) := by decide +kernel
theorem dX11_get_31 : decode cX11_get 31 = .ok (.iload_n 1, 1) := by decide +kernel
theorem dX11_get_32 : decode cX11_get 32 = .ok (.iload_n 2, 1) := by decide +kernel
theorem dX11_get_33 : decode cX11_get 33 = .ok (.invokevirtual 202, 3) := by decide +kernel
theorem dX11_get_36 : decode cX11_get 36 = .ok (.ifCond .eq 25, 3) := by decide +kernel
theorem dX11_get_39 : decode cX11_get 39 = .ok (.aload_n 0, 1) := by decide +kernel
theorem dX11_get_40 : decode cX11_get 40 = .ok (.getfield 21, 3) := by decide +kernel
theorem dX11_get_43 : decode cX11_get 43 = .ok (.sipush 160, 3) := by decide +kernel
theorem dX11_get_46 : decode cX11_get 46 = .ok (.iload_n 1, 1) := by decide +kernel
theorem dX11_get_47 : decode cX11_get 47 = .ok (.imul, 1) := by decide +kernel
theorem dX11_get_48 : decode cX11_get 48 = .ok (.aload_n 0, 1) := by decide +kernel
theorem dX11_get_49 : decode cX11_get 49 = .ok (.iload_n 1, 1) := by decide +kernel
theorem dX11_get_50 : decode cX11_get 50 = .ok (.iload_n 2, 1) := by decide +kernel
theorem dX11_get_51 : decode cX11_get 51 = .ok (.i2l, 1) := by decide +kernel
theorem dX11_get_52 : decode cX11_get 52 = .ok (.invokevirtual 99, 3) := by decide +kernel
theorem dX11_get_55 : decode cX11_get 55 = .ok (.iadd, 1) := by decide +kernel
theorem dX11_get_56 : decode cX11_get 56 = .ok (.iaload, 1) := by decide +kernel
theorem dX11_get_57 : decode cX11_get 57 = .ok (.i2l, 1) := by decide +kernel
theorem dX11_get_58 : decode cX11_get 58 = .ok (.goto 6, 3) := by decide +kernel
theorem dX11_get_61 : decode cX11_get 61 = .ok (.ldc2_w 235, 3) := by decide +kernel
theorem dX11_get_64 : decode cX11_get 64 = .ok (.lreturn, 1) := by decide +kernel
set_option maxRecDepth 20000 in
theorem ggX11_drop_X11_isThere : GoodIn wsX11_drop wsX11_isThere := goodIn_r _ [6, 7, 8, 9, 5, 10, 11, 12, 13, 14, 15, 125, 126, 127, 128, 129, 130, 131, 132, 133, 134, 135, 136, 137, 138, 139, 140, 141, 142, 143, 144, 145, 146, 147, 148, 149, 150, 151, 152, 153, 154, 155, 156, 157, 158, 159, 160, 161, 162, 163, 164, 165, 166, 167, 168, 169, 170, 171] (by decide +kernel) (by decide +kernel)
set_option maxRecDepth 20000 in
theorem gX11_drop_X11_isThere : GoodIn wsX11_drop (wsV RX11 222 RX11 yX11_isThere wsX11_isThere) := goodIn_app (goodIn_of _ (by decide +kernel)) ggX11_drop_X11_isThere
set_option maxRecDepth 20000 in
theorem ggX11_drop_X11_isKey : GoodIn wsX11_drop wsX11_isKey := goodIn_r _ [18, 19, 8, 9, 5, 10] (by decide +kernel) (by decide +kernel)
set_option maxRecDepth 20000 in
theorem gX11_drop_X11_isKey : GoodIn wsX11_drop (va_wsS RX11 226 yX11_isKey wsX11_isKey) := goodIn_app (goodIn_of _ (by decide +kernel)) ggX11_drop_X11_isKey
set_option maxRecDepth 20000 in
theorem ggX11_drop_X11_drops : GoodIn wsX11_drop wsX11_drops := goodIn_r _ [23, 24, 25, 26, 27, 28, 29, 5, 30, 31, 32, 33, 34, 11, 12, 13, 14, 15, 35, 36, 37, 38, 39, 40, 41, 42, 43, 44, 45, 46, 47, 48, 49, 50, 51, 52, 53, 54, 55, 56, 57, 58, 59, 60, 61, 62, 63, 64, 65, 66, 67, 68, 69, 70, 71, 72, 73, 74, 75, 76, 77, 78, 79, 80, 81, 82, 83, 84, 85, 86, 87, 88, 89, 90, 91, 92, 19, 93, 94, 95, 96, 97, 98, 99, 100, 101, 102, 103, 104, 105, 106, 107, 108, 109, 110, 111, 112, 113, 114, 115, 116, 117, 118, 119, 120, 121, 122, 123, 124, 125, 126, 127, 128, 129, 130, 131, 132, 133, 134, 135, 136, 137, 138, 139, 140, 141, 142, 143, 144, 145, 146, 147, 148, 149, 150, 151, 152, 153, 154, 155, 156, 157, 158, 159, 160, 161, 162, 163, 164, 165, 166, 167, 168, 169, 170, 171] (by decide +kernel) (by decide +kernel)
set_option maxRecDepth 20000 in
theorem gX11_drop_X11_drops : GoodIn wsX11_drop (wsV RX11 239 RX11 yX11_drops wsX11_drops) := goodIn_app (goodIn_of _ (by decide +kernel)) ggX11_drop_X11_drops
theorem dX11_drop_0 : decode cX11_drop 0 = .ok (.aload_n 0, 1) := by decide +kernel
theorem dX11_drop_1 : decode cX11_drop 1 = .ok (.iconst 0, 1) := by decide +kernel
theorem dX11_drop_2 : decode cX11_drop 2 = .ok (.putfield 73, 3) := by decide +kernel
theorem dX11_drop_5 : decode cX11_drop 5 = .ok (.aload_n 0, 1) := by decide +kernel
theorem dX11_drop_6 : decode cX11_drop 6 = .ok (.iload_n 1, 1) := by decide +kernel
theorem dX11_drop_7 : decode cX11_drop 7 = .ok (.invokevirtual 222, 3) := by decide +kernel
theorem dX11_drop_10 : decode cX11_drop 10 = .ok (.ifCond .eq 19, 3) := by decide +kernel
theorem dX11_drop_13 : decode cX11_drop 13 = .ok (.iload_n 2, 1) := by decide +kernel
theorem dX11_drop_14 : decode cX11_drop 14 = .ok (.invokestatic 226, 3) := by decide +kernel
theorem dX11_drop_17 : decode cX11_drop 17 = .ok (.ifCond .eq 12, 3) := by decide +kernel
theorem dX11_drop_20 : decode cX11_drop 20 = .ok (.aload_n 0, 1) := by decide +kernel
theorem dX11_drop_21 : decode cX11_drop 21 = .ok (.iload_n 1, 1) := by decide +kernel
theorem dX11_drop_22 : decode cX11_drop 22 = .ok (.iload_n 2, 1) := by decide +kernel
theorem dX11_drop_23 : decode cX11_drop 23 = .ok (.invokevirtual 239, 3) := by decide +kernel
theorem dX11_drop_26 : decode cX11_drop 26 = .ok (.goto 5, 3) := by decide +kernel
theorem dX11_drop_29 : decode cX11_drop 29 = .ok (.bipush (-2), 2) := by decide +kernel
theorem dX11_drop_31 : decode cX11_drop 31 = .ok (.ireturn, 1) := by decide +kernel
set_option maxRecDepth 20000 in
theorem ggX11_build_X11_isThere : GoodIn wsX11_build wsX11_isThere := goodIn_r _ [7, 8, 9, 10, 6, 11, 12, 13, 14, 15, 16, 97, 98, 99, 100, 101, 102, 103, 104, 105, 106, 107, 108, 109, 110, 111, 112, 113, 114, 115, 116, 117, 118, 119, 120, 121, 122, 123, 124, 125, 126, 127, 128, 129, 130, 131, 132, 133, 134, 135, 136, 137, 138, 139, 140, 141, 142, 143] (by decide +kernel) (by decide +kernel)
set_option maxRecDepth 20000 in
theorem gX11_build_X11_isThere : GoodIn wsX11_build (wsV RX11 222 RX11 yX11_isThere wsX11_isThere) := goodIn_app (goodIn_of _ (by decide +kernel)) ggX11_build_X11_isThere
set_option maxRecDepth 20000 in
theorem ggX11_build_X11_adds : GoodIn wsX11_build wsX11_adds := goodIn_r _ [20, 16, 97, 98, 99, 100, 101, 102, 103, 104, 105, 106, 107, 108, 109, 110, 111, 112, 113, 114, 115, 116, 117, 118, 119, 120, 121, 122, 123, 124, 125, 126, 127, 128, 129, 130, 131, 132, 133, 134, 135, 136, 137, 138, 139, 140, 141, 142, 143] (by decide +kernel) (by decide +kernel)
set_option maxRecDepth 20000 in
theorem gX11_build_X11_adds : GoodIn wsX11_build (wsV RX11 130 RX11 yX11_adds wsX11_adds) := goodIn_app (goodIn_of _ (by decide +kernel)) ggX11_build_X11_adds
set_option maxRecDepth 20000 in
theorem ggX11_build_X11_buildsAll : GoodIn wsX11_build wsX11_buildsAll := goodIn_r _ [24, 25, 26, 27, 28, 2, 29, 30, 31, 32, 6, 33, 12, 13, 14, 15, 16, 34, 35, 36, 37, 38, 39, 40, 41, 42, 43, 44, 45, 46, 47, 48, 49, 50, 51, 52, 53, 54, 55, 56, 57, 58, 59, 60, 61, 62, 63, 64, 65, 66, 67, 68, 69, 70, 71, 72, 73, 74, 75, 76, 77, 78, 79, 80, 81, 82, 83, 84, 85, 86, 87, 88, 89, 90, 91, 92, 93, 94, 95, 96, 17, 18, 19, 20, 97, 98, 99, 100, 101, 102, 103, 104, 105, 106, 107, 108, 109, 110, 111, 112, 113, 114, 115, 116, 117, 118, 119, 120, 121, 122, 123, 124, 125, 126, 127, 128, 129, 130, 131, 132, 133, 134, 135, 136, 137, 138, 139, 140, 141, 142, 143] (by decide +kernel) (by decide +kernel)
set_option maxRecDepth 20000 in
theorem gX11_build_X11_buildsAll : GoodIn wsX11_build (wsV RX11 192 RX11 yX11_buildsAll wsX11_buildsAll) := goodIn_app (goodIn_of _ (by decide +kernel)) ggX11_build_X11_buildsAll
theorem dX11_build_0 : decode cX11_build 0 = .ok (.aload_n 0, 1) := by decide +kernel
theorem dX11_build_1 : decode cX11_build 1 = .ok (.iconst 0, 1) := by decide +kernel
theorem dX11_build_2 : decode cX11_build 2 = .ok (.putfield 73, 3) := by decide +kernel
theorem dX11_build_5 : decode cX11_build 5 = .ok (.aload_n 0, 1) := by decide +kernel
theorem dX11_build_6 : decode cX11_build 6 = .ok (.iload_n 1, 1) := by decide +kernel
theorem dX11_build_7 : decode cX11_build 7 = .ok (.invokevirtual 222, 3) := by decide +kernel
theorem dX11_build_10 : decode cX11_build 10 = .ok (.ifCond .ne 6, 3) := by decide +kernel
theorem dX11_build_13 : decode cX11_build 13 = .ok (.bipush (-2), 2) := by decide +kernel
theorem dX11_build_15 : decode cX11_build 15 = .ok (.ireturn, 1) := by decide +kernel
theorem dX11_build_16 : decode cX11_build 16 = .ok (.aload_n 0, 1) := by decide +kernel
theorem dX11_build_17 : decode cX11_build 17 = .ok (.iload_n 1, 1) := by decide +kernel
theorem dX11_build_18 : decode cX11_build 18 = .ok (.bipush 11, 2) := by decide +kernel
theorem dX11_build_20 : decode cX11_build 20 = .ok (.lconst 1, 1) := by decide +kernel
theorem dX11_build_21 : decode cX11_build 21 = .ok (.invokevirtual 130, 3) := by decide +kernel
theorem dX11_build_24 : decode cX11_build 24 = .ok (.aload_n 0, 1) := by decide +kernel
theorem dX11_build_25 : decode cX11_build 25 = .ok (.iload_n 1, 1) := by decide +kernel
theorem dX11_build_26 : decode cX11_build 26 = .ok (.invokevirtual 192, 3) := by decide +kernel
theorem dX11_build_29 : decode cX11_build 29 = .ok (.aload_n 0, 1) := by decide +kernel
theorem dX11_build_30 : decode cX11_build 30 = .ok (.getfield 123, 3) := by decide +kernel
theorem dX11_build_33 : decode cX11_build 33 = .ok (.ireturn, 1) := by decide +kernel
set_option maxRecDepth 20000 in
theorem ggX11_has_X11_isThere : GoodIn wsX11_has wsX11_isThere := goodIn_r _ [9, 10, 11, 12, 8, 13, 14, 15, 16, 17, 18, 19, 20, 21, 22, 23, 24, 25, 26, 27, 28, 29, 30, 31, 32, 33, 34, 35, 36, 37, 38, 39, 40, 41, 42, 43, 44, 45, 46, 47, 48, 49, 50, 51, 52, 53, 54, 55, 56, 57, 58, 59, 60, 61, 62, 63, 64, 65] (by decide +kernel) (by decide +kernel)
set_option maxRecDepth 20000 in
theorem gX11_has_X11_isThere : GoodIn wsX11_has (wsV RX11 222 RX11 yX11_isThere wsX11_isThere) := goodIn_app (goodIn_of _ (by decide +kernel)) ggX11_has_X11_isThere
set_option maxRecDepth 20000 in
theorem ggX11_has_X11_of : GoodIn wsX11_has wsX11_of := goodIn_r _ [17, 18, 19, 20, 21, 22, 23, 24, 25, 26, 27, 28, 29, 30, 31, 32, 33, 34, 35, 36, 37, 38, 39, 40, 41, 42, 43, 44, 45, 46, 47, 48, 49, 50, 51, 52, 53, 54, 55, 56, 57, 58, 59, 60, 61, 62, 63, 64, 65] (by decide +kernel) (by decide +kernel)
set_option maxRecDepth 20000 in
theorem gX11_has_X11_of : GoodIn wsX11_has (wsV RX11 89 RX11 yX11_of wsX11_of) := goodIn_app (goodIn_of _ (by decide +kernel)) ggX11_has_X11_of
set_option maxRecDepth 20000 in
theorem ggX11_has_X11_isIn : GoodIn wsX11_has wsX11_isIn := goodIn_r _ [13] (by decide +kernel) (by decide +kernel)
set_option maxRecDepth 20000 in
theorem gX11_has_X11_isIn : GoodIn wsX11_has (va_wsS RX11 83 yX11_isIn wsX11_isIn) := goodIn_app (goodIn_of _ (by decide +kernel)) ggX11_has_X11_isIn
theorem dX11_has_0 : decode cX11_has 0 = .ok (.aload_n 0, 1) := by decide +kernel
theorem dX11_has_1 : decode cX11_has 1 = .ok (.iconst 0, 1) := by decide +kernel
theorem dX11_has_2 : decode cX11_has 2 = .ok (.putfield 73, 3) := by decide +kernel
theorem dX11_has_5 : decode cX11_has 5 = .ok (.aload_n 0, 1) := by decide +kernel
theorem dX11_has_6 : decode cX11_has 6 = .ok (.iload_n 1, 1) := by decide +kernel
theorem dX11_has_7 : decode cX11_has 7 = .ok (.invokevirtual 222, 3) := by decide +kernel
theorem dX11_has_10 : decode cX11_has 10 = .ok (.ifCond .ne 7, 3) := by decide +kernel
theorem dX11_has_13 : decode cX11_has 13 = .ok (.ldc2_w 235, 3) := by decide +kernel
theorem dX11_has_16 : decode cX11_has 16 = .ok (.lreturn, 1) := by decide +kernel
theorem dX11_has_17 : decode cX11_has 17 = .ok (.iload_n 2, 1) := by decide +kernel
theorem dX11_has_18 : decode cX11_has 18 = .ok (.tableswitch 62 0 5 #[38, 38, 38, 38, 38, 47], 38) := by decide +kernel
theorem dX11_has_56 : decode cX11_has 56 = .ok (.aload_n 0, 1) := by decide +kernel
theorem dX11_has_57 : decode cX11_has 57 = .ok (.iload_n 1, 1) := by decide +kernel
theorem dX11_has_58 : decode cX11_has 58 = .ok (.iconst 1, 1) := by decide +kernel
theorem dX11_has_59 : decode cX11_has 59 = .ok (.iload_n 2, 1) := by decide +kernel
theorem dX11_has_60 : decode cX11_has 60 = .ok (.iadd, 1) := by decide +kernel
theorem dX11_has_61 : decode cX11_has 61 = .ok (.invokevirtual 89, 3) := by decide +kernel
theorem dX11_has_64 : decode cX11_has 64 = .ok (.lreturn, 1) := by decide +kernel
theorem dX11_has_65 : decode cX11_has 65 = .ok (.aload_n 0, 1) := by decide +kernel
theorem dX11_has_66 : decode cX11_has 66 = .ok (.iload_n 1, 1) := by decide +kernel
theorem dX11_has_67 : decode cX11_has 67 = .ok (.bipush 14, 2) := by decide +kernel
theorem dX11_has_69 : decode cX11_has 69 = .ok (.invokevirtual 89, 3) := by decide +kernel
theorem dX11_has_72 : decode cX11_has 72 = .ok (.aload_n 0, 1) := by decide +kernel
theorem dX11_has_73 : decode cX11_has 73 = .ok (.iload_n 1, 1) := by decide +kernel
theorem dX11_has_74 : decode cX11_has 74 = .ok (.iconst 2, 1) := by decide +kernel
theorem dX11_has_75 : decode cX11_has 75 = .ok (.invokevirtual 89, 3) := by decide +kernel
theorem dX11_has_78 : decode cX11_has 78 = .ok (.lmul, 1) := by decide +kernel
theorem dX11_has_79 : decode cX11_has 79 = .ok (.lreturn, 1) := by decide +kernel
theorem dX11_has_80 : decode cX11_has 80 = .ok (.iload_n 2, 1) := by decide +kernel
theorem dX11_has_81 : decode cX11_has 81 = .ok (.i2l, 1) := by decide +kernel
theorem dX11_has_82 : decode cX11_has 82 = .ok (.ldc2_w 242, 3) := by decide +kernel
theorem dX11_has_85 : decode cX11_has 85 = .ok (.ldc2_w 244, 3) := by decide +kernel
theorem dX11_has_88 : decode cX11_has 88 = .ok (.invokestatic 83, 3) := by decide +kernel
theorem dX11_has_91 : decode cX11_has 91 = .ok (.ifCond .eq 12, 3) := by decide +kernel
theorem dX11_has_94 : decode cX11_has 94 = .ok (.aload_n 0, 1) := by decide +kernel
theorem dX11_has_95 : decode cX11_has 95 = .ok (.iload_n 1, 1) := by decide +kernel
theorem dX11_has_96 : decode cX11_has 96 = .ok (.iload_n 2, 1) := by decide +kernel
theorem dX11_has_97 : decode cX11_has 97 = .ok (.invokevirtual 89, 3) := by decide +kernel
theorem dX11_has_100 : decode cX11_has 100 = .ok (.goto 6, 3) := by decide +kernel
theorem dX11_has_103 : decode cX11_has 103 = .ok (.ldc2_w 235, 3) := by decide +kernel
theorem dX11_has_106 : decode cX11_has 106 = .ok (.lreturn, 1) := by decide +kernel
set_option maxRecDepth 20000 in
theorem ggX11_isBucket_X11_isThere : GoodIn wsX11_isBucket wsX11_isThere := goodIn_r _ [5, 6, 7, 8, 4, 9, 10, 11, 12, 13, 14, 19, 20, 21, 22, 23, 24, 25, 26, 27, 28, 29, 30, 31, 32, 33, 34, 35, 36, 37, 38, 39, 40, 41, 42, 43, 44, 45, 46, 47, 48, 49, 50, 51, 52, 53, 54, 55, 56, 57, 58, 59, 60, 61, 62, 63, 64, 65] (by decide +kernel) (by decide +kernel)
set_option maxRecDepth 20000 in
theorem gX11_isBucket_X11_isThere : GoodIn wsX11_isBucket (wsV RX11 222 RX11 yX11_isThere wsX11_isThere) := goodIn_app (goodIn_of _ (by decide +kernel)) ggX11_isBucket_X11_isThere
set_option maxRecDepth 20000 in
theorem ggX11_isBucket_X11_buckets : GoodIn wsX11_isBucket wsX11_buckets := goodIn_r _ [18, 10, 11, 12, 4, 13, 14, 19, 20, 21, 22, 23, 24, 25, 26, 27, 28, 29, 30, 31, 32, 33, 34, 35, 36, 37, 38, 39, 40, 41, 42, 43, 44, 45, 46, 47, 48, 49, 50, 51, 52, 53, 54, 55, 56, 57, 58, 59, 60, 61, 62, 63, 64, 65] (by decide +kernel) (by decide +kernel)
set_option maxRecDepth 20000 in
theorem gX11_isBucket_X11_buckets : GoodIn wsX11_isBucket (wsV RX11 152 RX11 yX11_buckets wsX11_buckets) := goodIn_app (goodIn_of _ (by decide +kernel)) ggX11_isBucket_X11_buckets
set_option maxRecDepth 20000 in
theorem ggX11_isBucket_X11_isIn : GoodIn wsX11_isBucket wsX11_isIn := goodIn_r _ [9] (by decide +kernel) (by decide +kernel)
set_option maxRecDepth 20000 in
theorem gX11_isBucket_X11_isIn : GoodIn wsX11_isBucket (va_wsS RX11 83 yX11_isIn wsX11_isIn) := goodIn_app (goodIn_of _ (by decide +kernel)) ggX11_isBucket_X11_isIn
theorem dX11_isBucket_0 : decode cX11_isBucket 0 = .ok (.aload_n 0, 1) := by decide +kernel
theorem dX11_isBucket_1 : decode cX11_isBucket 1 = .ok (.iload_n 1, 1) := by decide +kernel
theorem dX11_isBucket_2 : decode cX11_isBucket 2 = .ok (.invokevirtual 222, 3) := by decide +kernel
theorem dX11_isBucket_5 : decode cX11_isBucket 5 = .ok (.ifCond .eq 24, 3) := by decide +kernel
theorem dX11_isBucket_8 : decode cX11_isBucket 8 = .ok (.iload_n 2, 1) := by decide +kernel
theorem dX11_isBucket_9 : decode cX11_isBucket 9 = .ok (.i2l, 1) := by decide +kernel
theorem dX11_isBucket_10 : decode cX11_isBucket 10 = .ok (.lconst 0, 1) := by decide +kernel
theorem dX11_isBucket_11 : decode cX11_isBucket 11 = .ok (.aload_n 0, 1) := by decide +kernel
theorem dX11_isBucket_12 : decode cX11_isBucket 12 = .ok (.iload_n 1, 1) := by decide +kernel
theorem dX11_isBucket_13 : decode cX11_isBucket 13 = .ok (.invokevirtual 152, 3) := by decide +kernel
theorem dX11_isBucket_16 : decode cX11_isBucket 16 = .ok (.iconst 1, 1) := by decide +kernel
theorem dX11_isBucket_17 : decode cX11_isBucket 17 = .ok (.isub, 1) := by decide +kernel
theorem dX11_isBucket_18 : decode cX11_isBucket 18 = .ok (.i2l, 1) := by decide +kernel
theorem dX11_isBucket_19 : decode cX11_isBucket 19 = .ok (.invokestatic 83, 3) := by decide +kernel
theorem dX11_isBucket_22 : decode cX11_isBucket 22 = .ok (.ifCond .eq 7, 3) := by decide +kernel
theorem dX11_isBucket_25 : decode cX11_isBucket 25 = .ok (.iconst 1, 1) := by decide +kernel
theorem dX11_isBucket_26 : decode cX11_isBucket 26 = .ok (.goto 4, 3) := by decide +kernel
theorem dX11_isBucket_29 : decode cX11_isBucket 29 = .ok (.iconst 0, 1) := by decide +kernel
theorem dX11_isBucket_30 : decode cX11_isBucket 30 = .ok (.ireturn, 1) := by decide +kernel
set_option maxRecDepth 20000 in
theorem ggX11_bucket_X11_isBucket : GoodIn wsX11_bucket wsX11_isBucket := goodIn_r _ [12, 13, 14, 15, 11, 16, 17, 18, 19, 20, 21, 22, 23, 24, 25, 26, 27, 28, 29, 30, 31, 32, 33, 34, 35, 36, 37, 38, 39, 40, 41, 42, 43, 44, 45, 46, 47, 48, 49, 50, 51, 52, 53, 54, 55, 56, 57, 58, 59, 60, 61, 62, 63, 64, 65, 66, 67, 68, 69, 70, 71, 72, 73, 74, 75, 76] (by decide +kernel) (by decide +kernel)
set_option maxRecDepth 20000 in
theorem gX11_bucket_X11_isBucket : GoodIn wsX11_bucket (wsV RX11 246 RX11 yX11_isBucket wsX11_isBucket) := goodIn_app (goodIn_of _ (by decide +kernel)) ggX11_bucket_X11_isBucket
theorem dX11_bucket_0 : decode cX11_bucket 0 = .ok (.aload_n 0, 1) := by decide +kernel
theorem dX11_bucket_1 : decode cX11_bucket 1 = .ok (.iconst 0, 1) := by decide +kernel
theorem dX11_bucket_2 : decode cX11_bucket 2 = .ok (.putfield 73, 3) := by decide +kernel
theorem dX11_bucket_5 : decode cX11_bucket 5 = .ok (.aload_n 0, 1) := by decide +kernel
theorem dX11_bucket_6 : decode cX11_bucket 6 = .ok (.iload_n 1, 1) := by decide +kernel
theorem dX11_bucket_7 : decode cX11_bucket 7 = .ok (.iload_n 2, 1) := by decide +kernel
theorem dX11_bucket_8 : decode cX11_bucket 8 = .ok (.invokevirtual 246, 3) := by decide +kernel
theorem dX11_bucket_11 : decode cX11_bucket 11 = .ok (.ifCond .ne 7, 3) := by decide +kernel
theorem dX11_bucket_14 : decode cX11_bucket 14 = .ok (.ldc2_w 235, 3) := by decide +kernel
theorem dX11_bucket_17 : decode cX11_bucket 17 = .ok (.lreturn, 1) := by decide +kernel
theorem dX11_bucket_18 : decode cX11_bucket 18 = .ok (.sipush 2048, 3) := by decide +kernel
theorem dX11_bucket_21 : decode cX11_bucket 21 = .ok (.iload_n 1, 1) := by decide +kernel
theorem dX11_bucket_22 : decode cX11_bucket 22 = .ok (.imul, 1) := by decide +kernel
theorem dX11_bucket_23 : decode cX11_bucket 23 = .ok (.iload_n 2, 1) := by decide +kernel
theorem dX11_bucket_24 : decode cX11_bucket 24 = .ok (.iadd, 1) := by decide +kernel
theorem dX11_bucket_25 : decode cX11_bucket 25 = .ok (.istore 4, 2) := by decide +kernel
theorem dX11_bucket_27 : decode cX11_bucket 27 = .ok (.iload_n 3, 1) := by decide +kernel
theorem dX11_bucket_28 : decode cX11_bucket 28 = .ok (.tableswitch 98 0 3 #[32, 41, 50, 74], 32) := by decide +kernel
theorem dX11_bucket_60 : decode cX11_bucket 60 = .ok (.aload_n 0, 1) := by decide +kernel
theorem dX11_bucket_61 : decode cX11_bucket 61 = .ok (.getfield 33, 3) := by decide +kernel
theorem dX11_bucket_64 : decode cX11_bucket 64 = .ok (.iload 4, 2) := by decide +kernel
theorem dX11_bucket_66 : decode cX11_bucket 66 = .ok (.iaload, 1) := by decide +kernel
theorem dX11_bucket_67 : decode cX11_bucket 67 = .ok (.i2l, 1) := by decide +kernel
theorem dX11_bucket_68 : decode cX11_bucket 68 = .ok (.lreturn, 1) := by decide +kernel
theorem dX11_bucket_69 : decode cX11_bucket 69 = .ok (.aload_n 0, 1) := by decide +kernel
theorem dX11_bucket_70 : decode cX11_bucket 70 = .ok (.getfield 30, 3) := by decide +kernel
theorem dX11_bucket_73 : decode cX11_bucket 73 = .ok (.iload 4, 2) := by decide +kernel
theorem dX11_bucket_75 : decode cX11_bucket 75 = .ok (.iaload, 1) := by decide +kernel
theorem dX11_bucket_76 : decode cX11_bucket 76 = .ok (.i2l, 1) := by decide +kernel
theorem dX11_bucket_77 : decode cX11_bucket 77 = .ok (.lreturn, 1) := by decide +kernel
theorem dX11_bucket_78 : decode cX11_bucket 78 = .ok (.aload_n 0, 1) := by decide +kernel
theorem dX11_bucket_79 : decode cX11_bucket 79 = .ok (.getfield 30, 3) := by decide +kernel
theorem dX11_bucket_82 : decode cX11_bucket 82 = .ok (.iload 4, 2) := by decide +kernel
theorem dX11_bucket_84 : decode cX11_bucket 84 = .ok (.iaload, 1) := by decide +kernel
theorem dX11_bucket_85 : decode cX11_bucket 85 = .ok (.ifCond .ne 9, 3) := by decide +kernel
theorem dX11_bucket_88 : decode cX11_bucket 88 = .ok (.ldc2_w 237, 3) := by decide +kernel
theorem dX11_bucket_91 : decode cX11_bucket 91 = .ok (.goto 10, 3) := by decide +kernel
theorem dX11_bucket_94 : decode cX11_bucket 94 = .ok (.aload_n 0, 1) := by decide +kernel
theorem dX11_bucket_95 : decode cX11_bucket 95 = .ok (.getfield 36, 3) := by decide +kernel
theorem dX11_bucket_98 : decode cX11_bucket 98 = .ok (.iload 4, 2) := by decide +kernel
theorem dX11_bucket_100 : decode cX11_bucket 100 = .ok (.laload, 1) := by decide +kernel
theorem dX11_bucket_101 : decode cX11_bucket 101 = .ok (.lreturn, 1) := by decide +kernel
theorem dX11_bucket_102 : decode cX11_bucket 102 = .ok (.aload_n 0, 1) := by decide +kernel
theorem dX11_bucket_103 : decode cX11_bucket 103 = .ok (.getfield 30, 3) := by decide +kernel
theorem dX11_bucket_106 : decode cX11_bucket 106 = .ok (.iload 4, 2) := by decide +kernel
theorem dX11_bucket_108 : decode cX11_bucket 108 = .ok (.iaload, 1) := by decide +kernel
theorem dX11_bucket_109 : decode cX11_bucket 109 = .ok (.ifCond .ne 9, 3) := by decide +kernel
theorem dX11_bucket_112 : decode cX11_bucket 112 = .ok (.ldc2_w 237, 3) := by decide +kernel
theorem dX11_bucket_115 : decode cX11_bucket 115 = .ok (.goto 10, 3) := by decide +kernel
theorem dX11_bucket_118 : decode cX11_bucket 118 = .ok (.aload_n 0, 1) := by decide +kernel
theorem dX11_bucket_119 : decode cX11_bucket 119 = .ok (.getfield 39, 3) := by decide +kernel
theorem dX11_bucket_122 : decode cX11_bucket 122 = .ok (.iload 4, 2) := by decide +kernel
theorem dX11_bucket_124 : decode cX11_bucket 124 = .ok (.laload, 1) := by decide +kernel
theorem dX11_bucket_125 : decode cX11_bucket 125 = .ok (.lreturn, 1) := by decide +kernel
theorem dX11_bucket_126 : decode cX11_bucket 126 = .ok (.ldc2_w 235, 3) := by decide +kernel
theorem dX11_bucket_129 : decode cX11_bucket 129 = .ok (.lreturn, 1) := by decide +kernel
set_option maxRecDepth 20000 in
theorem ggX11_room_X11_isBucket : GoodIn wsX11_room wsX11_isBucket := goodIn_r _ [9, 10, 11, 12, 8, 13, 14, 15, 16, 17, 18, 19, 20, 21, 22, 23, 24, 25, 26, 36, 37, 38, 39, 40, 41, 42, 43, 44, 45, 46, 47, 48, 49, 50, 51, 52, 53, 54, 55, 56, 57, 58, 59, 60, 61, 62, 63, 64, 65, 66, 67, 68, 69, 70, 71, 72, 73, 74, 75, 76, 77, 78, 79, 80, 81, 82] (by decide +kernel) (by decide +kernel)
set_option maxRecDepth 20000 in
theorem gX11_room_X11_isBucket : GoodIn wsX11_room (wsV RX11 246 RX11 yX11_isBucket wsX11_isBucket) := goodIn_app (goodIn_of _ (by decide +kernel)) ggX11_room_X11_isBucket
set_option maxRecDepth 20000 in
theorem ggX11_room_X11_roomsOf : GoodIn wsX11_room wsX11_roomsOf := goodIn_r _ [30, 31, 36, 37, 38, 39, 40, 41, 42, 43, 44, 45, 46, 47, 48, 49, 50, 51, 52, 53, 54, 55, 56, 57, 58, 59, 60, 61, 62, 63, 64, 65, 66, 67, 68, 69, 70, 71, 72, 73, 74, 75, 76, 77, 78, 79, 80, 81, 82] (by decide +kernel) (by decide +kernel)
set_option maxRecDepth 20000 in
theorem gX11_room_X11_roomsOf : GoodIn wsX11_room (wsV RX11 137 RX11 yX11_roomsOf wsX11_roomsOf) := goodIn_app (goodIn_of _ (by decide +kernel)) ggX11_room_X11_roomsOf
set_option maxRecDepth 20000 in
theorem ggX11_room_X11_isIn : GoodIn wsX11_room wsX11_isIn := goodIn_r _ [17] (by decide +kernel) (by decide +kernel)
set_option maxRecDepth 20000 in
theorem gX11_room_X11_isIn : GoodIn wsX11_room (va_wsS RX11 83 yX11_isIn wsX11_isIn) := goodIn_app (goodIn_of _ (by decide +kernel)) ggX11_room_X11_isIn
set_option maxRecDepth 20000 in
theorem ggX11_room_X11_manyOf : GoodIn wsX11_room wsX11_manyOf := goodIn_r _ [35, 18, 19, 20, 8, 21, 22, 36, 37, 38, 39, 40, 41, 42, 43, 44, 45, 46, 47, 48, 49, 50, 51, 52, 53, 54, 55, 56, 57, 58, 59, 60, 61, 62, 63, 64, 65, 66, 67, 68, 69, 70, 71, 72, 73, 74, 75, 76, 77, 78, 79, 80, 81, 82] (by decide +kernel) (by decide +kernel)
set_option maxRecDepth 20000 in
theorem gX11_room_X11_manyOf : GoodIn wsX11_room (wsV RX11 95 RX11 yX11_manyOf wsX11_manyOf) := goodIn_app (goodIn_of _ (by decide +kernel)) ggX11_room_X11_manyOf
theorem dX11_room_0 : decode cX11_room 0 = .ok (.aload_n 0, 1) := by decide +kernel
theorem dX11_room_1 : decode cX11_room 1 = .ok (.iconst 0, 1) := by decide +kernel
theorem dX11_room_2 : decode cX11_room 2 = .ok (.putfield 73, 3) := by decide +kernel
theorem dX11_room_5 : decode cX11_room 5 = .ok (.aload_n 0, 1) := by decide +kernel
theorem dX11_room_6 : decode cX11_room 6 = .ok (.iload_n 1, 1) := by decide +kernel
theorem dX11_room_7 : decode cX11_room 7 = .ok (.iload_n 2, 1) := by decide +kernel
theorem dX11_room_8 : decode cX11_room 8 = .ok (.invokevirtual 246, 3) := by decide +kernel
theorem dX11_room_11 : decode cX11_room 11 = .ok (.ifCond .eq 21, 3) := by decide +kernel
theorem dX11_room_14 : decode cX11_room 14 = .ok (.iload_n 3, 1) := by decide +kernel
theorem dX11_room_15 : decode cX11_room 15 = .ok (.i2l, 1) := by decide +kernel
theorem dX11_room_16 : decode cX11_room 16 = .ok (.lconst 0, 1) := by decide +kernel
theorem dX11_room_17 : decode cX11_room 17 = .ok (.aload_n 0, 1) := by decide +kernel
theorem dX11_room_18 : decode cX11_room 18 = .ok (.iload_n 1, 1) := by decide +kernel
theorem dX11_room_19 : decode cX11_room 19 = .ok (.iload_n 2, 1) := by decide +kernel
theorem dX11_room_20 : decode cX11_room 20 = .ok (.invokevirtual 137, 3) := by decide +kernel
theorem dX11_room_23 : decode cX11_room 23 = .ok (.iconst 1, 1) := by decide +kernel
theorem dX11_room_24 : decode cX11_room 24 = .ok (.isub, 1) := by decide +kernel
theorem dX11_room_25 : decode cX11_room 25 = .ok (.i2l, 1) := by decide +kernel
theorem dX11_room_26 : decode cX11_room 26 = .ok (.invokestatic 83, 3) := by decide +kernel
theorem dX11_room_29 : decode cX11_room 29 = .ok (.ifCond .ne 6, 3) := by decide +kernel
theorem dX11_room_32 : decode cX11_room 32 = .ok (.bipush (-2), 2) := by decide +kernel
theorem dX11_room_34 : decode cX11_room 34 = .ok (.ireturn, 1) := by decide +kernel
theorem dX11_room_35 : decode cX11_room 35 = .ok (.sipush 160, 3) := by decide +kernel
theorem dX11_room_38 : decode cX11_room 38 = .ok (.iload_n 1, 1) := by decide +kernel
theorem dX11_room_39 : decode cX11_room 39 = .ok (.imul, 1) := by decide +kernel
theorem dX11_room_40 : decode cX11_room 40 = .ok (.istore 4, 2) := by decide +kernel
theorem dX11_room_42 : decode cX11_room 42 = .ok (.iload 4, 2) := by decide +kernel
theorem dX11_room_44 : decode cX11_room 44 = .ok (.sipush 160, 3) := by decide +kernel
theorem dX11_room_47 : decode cX11_room 47 = .ok (.iload_n 1, 1) := by decide +kernel
theorem dX11_room_48 : decode cX11_room 48 = .ok (.imul, 1) := by decide +kernel
theorem dX11_room_49 : decode cX11_room 49 = .ok (.aload_n 0, 1) := by decide +kernel
theorem dX11_room_50 : decode cX11_room 50 = .ok (.iload_n 1, 1) := by decide +kernel
theorem dX11_room_51 : decode cX11_room 51 = .ok (.invokevirtual 95, 3) := by decide +kernel
theorem dX11_room_54 : decode cX11_room 54 = .ok (.iadd, 1) := by decide +kernel
theorem dX11_room_55 : decode cX11_room 55 = .ok (.if_icmp .ge 39, 3) := by decide +kernel
theorem dX11_room_58 : decode cX11_room 58 = .ok (.aload_n 0, 1) := by decide +kernel
theorem dX11_room_59 : decode cX11_room 59 = .ok (.getfield 24, 3) := by decide +kernel
theorem dX11_room_62 : decode cX11_room 62 = .ok (.iload 4, 2) := by decide +kernel
theorem dX11_room_64 : decode cX11_room 64 = .ok (.iaload, 1) := by decide +kernel
theorem dX11_room_65 : decode cX11_room 65 = .ok (.iload_n 2, 1) := by decide +kernel
theorem dX11_room_66 : decode cX11_room 66 = .ok (.if_icmp .ne 22, 3) := by decide +kernel
theorem dX11_room_69 : decode cX11_room 69 = .ok (.aload_n 0, 1) := by decide +kernel
theorem dX11_room_70 : decode cX11_room 70 = .ok (.getfield 27, 3) := by decide +kernel
theorem dX11_room_73 : decode cX11_room 73 = .ok (.iload 4, 2) := by decide +kernel
theorem dX11_room_75 : decode cX11_room 75 = .ok (.iaload, 1) := by decide +kernel
theorem dX11_room_76 : decode cX11_room 76 = .ok (.iload_n 3, 1) := by decide +kernel
theorem dX11_room_77 : decode cX11_room 77 = .ok (.if_icmp .ne 11, 3) := by decide +kernel
theorem dX11_room_80 : decode cX11_room 80 = .ok (.aload_n 0, 1) := by decide +kernel
theorem dX11_room_81 : decode cX11_room 81 = .ok (.getfield 17, 3) := by decide +kernel
theorem dX11_room_84 : decode cX11_room 84 = .ok (.iload 4, 2) := by decide +kernel
theorem dX11_room_86 : decode cX11_room 86 = .ok (.iaload, 1) := by decide +kernel
theorem dX11_room_87 : decode cX11_room 87 = .ok (.ireturn, 1) := by decide +kernel
theorem dX11_room_88 : decode cX11_room 88 = .ok (.iinc 4 1, 3) := by decide +kernel
theorem dX11_room_91 : decode cX11_room 91 = .ok (.goto (-49), 3) := by decide +kernel
theorem dX11_room_94 : decode cX11_room 94 = .ok (.iconst (-1), 1) := by decide +kernel
theorem dX11_room_95 : decode cX11_room 95 = .ok (.ireturn, 1) := by decide +kernel
set_option maxRecDepth 20000 in
theorem ggX11_place_X11_isThere : GoodIn wsX11_place wsX11_isThere := goodIn_r _ [6, 7, 8, 9, 5, 10, 11, 12, 13, 14, 15, 39, 40, 41, 42, 43, 44, 45, 46, 47, 48, 49, 50, 51, 52, 53, 54, 55, 56, 57, 58, 59, 60, 61, 62, 63, 64, 65, 66, 67, 68, 69, 70, 71, 72, 73, 74, 75, 76, 77, 78, 79, 80, 81, 82, 83, 84, 85] (by decide +kernel) (by decide +kernel)
set_option maxRecDepth 20000 in
theorem gX11_place_X11_isThere : GoodIn wsX11_place (wsV RX11 222 RX11 yX11_isThere wsX11_isThere) := goodIn_app (goodIn_of _ (by decide +kernel)) ggX11_place_X11_isThere
set_option maxRecDepth 20000 in
theorem ggX11_place_X11_isKey : GoodIn wsX11_place wsX11_isKey := goodIn_r _ [18, 19, 8, 9, 5, 10] (by decide +kernel) (by decide +kernel)
set_option maxRecDepth 20000 in
theorem gX11_place_X11_isKey : GoodIn wsX11_place (va_wsS RX11 226 yX11_isKey wsX11_isKey) := goodIn_app (goodIn_of _ (by decide +kernel)) ggX11_place_X11_isKey
set_option maxRecDepth 20000 in
theorem ggX11_place_X11_isIn : GoodIn wsX11_place wsX11_isIn := goodIn_r _ [10] (by decide +kernel) (by decide +kernel)
set_option maxRecDepth 20000 in
theorem gX11_place_X11_isIn : GoodIn wsX11_place (va_wsS RX11 83 yX11_isIn wsX11_isIn) := goodIn_app (goodIn_of _ (by decide +kernel)) ggX11_place_X11_isIn
set_option maxRecDepth 20000 in
theorem ggX11_place_X11_bucketOf : GoodIn wsX11_place wsX11_bucketOf := goodIn_r _ [23, 11, 12, 13, 5, 14, 15, 24, 25, 26, 27, 39, 40, 41, 42, 43, 44, 45, 46, 47, 48, 49, 50, 51, 52, 53, 54, 55, 56, 57, 58, 59, 60, 61, 62, 63, 64, 65, 66, 67, 68, 69, 70, 71, 72, 73, 74, 75, 76, 77, 78, 79, 80, 81, 82, 83, 84, 85] (by decide +kernel) (by decide +kernel)
set_option maxRecDepth 20000 in
theorem gX11_place_X11_bucketOf : GoodIn wsX11_place (wsV RX11 155 RX11 yX11_bucketOf wsX11_bucketOf) := goodIn_app (goodIn_of _ (by decide +kernel)) ggX11_place_X11_bucketOf
set_option maxRecDepth 20000 in
theorem ggX11_place_X11_roomsOf : GoodIn wsX11_place wsX11_roomsOf := goodIn_r _ [31, 32, 39, 40, 41, 42, 43, 44, 45, 46, 47, 48, 49, 50, 51, 52, 53, 54, 55, 56, 57, 58, 59, 60, 61, 62, 63, 64, 65, 66, 67, 68, 69, 70, 71, 72, 73, 74, 75, 76, 77, 78, 79, 80, 81, 82, 83, 84, 85] (by decide +kernel) (by decide +kernel)
set_option maxRecDepth 20000 in
theorem gX11_place_X11_roomsOf : GoodIn wsX11_place (wsV RX11 137 RX11 yX11_roomsOf wsX11_roomsOf) := goodIn_app (goodIn_of _ (by decide +kernel)) ggX11_place_X11_roomsOf
set_option maxRecDepth 20000 in
theorem ggX11_place_X11_roomOf : GoodIn wsX11_place wsX11_roomOf := goodIn_r _ [36, 37, 38, 28, 29, 30, 5, 31, 32, 24, 25, 26, 27, 39, 40, 41, 42, 43, 44, 45, 46, 47, 48, 49, 50, 51, 52, 53, 54, 55, 56, 57, 58, 59, 60, 61, 62, 63, 64, 65, 66, 67, 68, 69, 70, 71, 72, 73, 74, 75, 76, 77, 78, 79, 80, 81, 82, 83, 84, 85] (by decide +kernel) (by decide +kernel)
set_option maxRecDepth 20000 in
theorem gX11_place_X11_roomOf : GoodIn wsX11_place (wsV RX11 148 RX11 yX11_roomOf wsX11_roomOf) := goodIn_app (goodIn_of _ (by decide +kernel)) ggX11_place_X11_roomOf
theorem dX11_place_0 : decode cX11_place 0 = .ok (.aload_n 0, 1) := by decide +kernel
theorem dX11_place_1 : decode cX11_place 1 = .ok (.iconst 0, 1) := by decide +kernel
theorem dX11_place_2 : decode cX11_place 2 = .ok (.putfield 73, 3) := by decide +kernel
theorem dX11_place_5 : decode cX11_place 5 = .ok (.aload_n 0, 1) := by decide +kernel
theorem dX11_place_6 : decode cX11_place 6 = .ok (.iload_n 1, 1) := by decide +kernel
theorem dX11_place_7 : decode cX11_place 7 = .ok (.invokevirtual 222, 3) := by decide +kernel
theorem dX11_place_10 : decode cX11_place 10 = .ok (.ifCond .eq 20, 3) := by decide +kernel
theorem dX11_place_13 : decode cX11_place 13 = .ok (.iload_n 2, 1) := by decide +kernel
theorem dX11_place_14 : decode cX11_place 14 = .ok (.invokestatic 226, 3) := by decide +kernel
theorem dX11_place_17 : decode cX11_place 17 = .ok (.ifCond .eq 13, 3) := by decide +kernel
theorem dX11_place_20 : decode cX11_place 20 = .ok (.iload_n 3, 1) := by decide +kernel
theorem dX11_place_21 : decode cX11_place 21 = .ok (.i2l, 1) := by decide +kernel
theorem dX11_place_22 : decode cX11_place 22 = .ok (.lconst 0, 1) := by decide +kernel
theorem dX11_place_23 : decode cX11_place 23 = .ok (.lconst 1, 1) := by decide +kernel
theorem dX11_place_24 : decode cX11_place 24 = .ok (.invokestatic 83, 3) := by decide +kernel
theorem dX11_place_27 : decode cX11_place 27 = .ok (.ifCond .ne 6, 3) := by decide +kernel
theorem dX11_place_30 : decode cX11_place 30 = .ok (.bipush (-2), 2) := by decide +kernel
theorem dX11_place_32 : decode cX11_place 32 = .ok (.ireturn, 1) := by decide +kernel
theorem dX11_place_33 : decode cX11_place 33 = .ok (.aload_n 0, 1) := by decide +kernel
theorem dX11_place_34 : decode cX11_place 34 = .ok (.iload_n 1, 1) := by decide +kernel
theorem dX11_place_35 : decode cX11_place 35 = .ok (.iload_n 2, 1) := by decide +kernel
theorem dX11_place_36 : decode cX11_place 36 = .ok (.invokevirtual 155, 3) := by decide +kernel
theorem dX11_place_39 : decode cX11_place 39 = .ok (.istore 4, 2) := by decide +kernel
theorem dX11_place_41 : decode cX11_place 41 = .ok (.iload_n 3, 1) := by decide +kernel
theorem dX11_place_42 : decode cX11_place 42 = .ok (.ifCond .ne 8, 3) := by decide +kernel
theorem dX11_place_45 : decode cX11_place 45 = .ok (.iload 4, 2) := by decide +kernel
theorem dX11_place_47 : decode cX11_place 47 = .ok (.goto 25, 3) := by decide +kernel
theorem dX11_place_50 : decode cX11_place 50 = .ok (.aload_n 0, 1) := by decide +kernel
theorem dX11_place_51 : decode cX11_place 51 = .ok (.iload_n 1, 1) := by decide +kernel
theorem dX11_place_52 : decode cX11_place 52 = .ok (.iload 4, 2) := by decide +kernel
theorem dX11_place_54 : decode cX11_place 54 = .ok (.invokevirtual 137, 3) := by decide +kernel
theorem dX11_place_57 : decode cX11_place 57 = .ok (.ifCond .ne 7, 3) := by decide +kernel
theorem dX11_place_60 : decode cX11_place 60 = .ok (.iconst (-1), 1) := by decide +kernel
theorem dX11_place_61 : decode cX11_place 61 = .ok (.goto 11, 3) := by decide +kernel
theorem dX11_place_64 : decode cX11_place 64 = .ok (.aload_n 0, 1) := by decide +kernel
theorem dX11_place_65 : decode cX11_place 65 = .ok (.iload_n 1, 1) := by decide +kernel
theorem dX11_place_66 : decode cX11_place 66 = .ok (.iload 4, 2) := by decide +kernel
theorem dX11_place_68 : decode cX11_place 68 = .ok (.iload_n 2, 1) := by decide +kernel
theorem dX11_place_69 : decode cX11_place 69 = .ok (.invokevirtual 148, 3) := by decide +kernel
theorem dX11_place_72 : decode cX11_place 72 = .ok (.ireturn, 1) := by decide +kernel
set_option maxRecDepth 20000 in
theorem ggX11_key_X11_isThere : GoodIn wsX11_key wsX11_isThere := goodIn_r _ [7, 8, 9, 10, 6, 11, 12, 13, 14, 15, 16, 21, 22, 23, 24, 25, 26, 27, 28, 29, 30, 31, 32, 33, 34, 35, 36, 37, 38, 39, 40, 41, 42, 43, 44, 45, 46, 47, 48, 49, 50, 51, 52, 53, 54, 55, 56, 57, 58, 59, 60, 61, 62, 63, 64, 65, 66, 67] (by decide +kernel) (by decide +kernel)
set_option maxRecDepth 20000 in
theorem gX11_key_X11_isThere : GoodIn wsX11_key (wsV RX11 222 RX11 yX11_isThere wsX11_isThere) := goodIn_app (goodIn_of _ (by decide +kernel)) ggX11_key_X11_isThere
set_option maxRecDepth 20000 in
theorem ggX11_key_X11_manyOf : GoodIn wsX11_key wsX11_manyOf := goodIn_r _ [20, 12, 13, 14, 6, 15, 16, 21, 22, 23, 24, 25, 26, 27, 28, 29, 30, 31, 32, 33, 34, 35, 36, 37, 38, 39, 40, 41, 42, 43, 44, 45, 46, 47, 48, 49, 50, 51, 52, 53, 54, 55, 56, 57, 58, 59, 60, 61, 62, 63, 64, 65, 66, 67] (by decide +kernel) (by decide +kernel)
set_option maxRecDepth 20000 in
theorem gX11_key_X11_manyOf : GoodIn wsX11_key (wsV RX11 95 RX11 yX11_manyOf wsX11_manyOf) := goodIn_app (goodIn_of _ (by decide +kernel)) ggX11_key_X11_manyOf
set_option maxRecDepth 20000 in
theorem ggX11_key_X11_isIn : GoodIn wsX11_key wsX11_isIn := goodIn_r _ [11] (by decide +kernel) (by decide +kernel)
set_option maxRecDepth 20000 in
theorem gX11_key_X11_isIn : GoodIn wsX11_key (va_wsS RX11 83 yX11_isIn wsX11_isIn) := goodIn_app (goodIn_of _ (by decide +kernel)) ggX11_key_X11_isIn
theorem dX11_key_0 : decode cX11_key 0 = .ok (.aload_n 0, 1) := by decide +kernel
theorem dX11_key_1 : decode cX11_key 1 = .ok (.iconst 0, 1) := by decide +kernel
theorem dX11_key_2 : decode cX11_key 2 = .ok (.putfield 73, 3) := by decide +kernel
theorem dX11_key_5 : decode cX11_key 5 = .ok (.aload_n 0, 1) := by decide +kernel
theorem dX11_key_6 : decode cX11_key 6 = .ok (.iload_n 1, 1) := by decide +kernel
theorem dX11_key_7 : decode cX11_key 7 = .ok (.invokevirtual 222, 3) := by decide +kernel
theorem dX11_key_10 : decode cX11_key 10 = .ok (.ifCond .eq 35, 3) := by decide +kernel
theorem dX11_key_13 : decode cX11_key 13 = .ok (.iload_n 2, 1) := by decide +kernel
theorem dX11_key_14 : decode cX11_key 14 = .ok (.i2l, 1) := by decide +kernel
theorem dX11_key_15 : decode cX11_key 15 = .ok (.lconst 0, 1) := by decide +kernel
theorem dX11_key_16 : decode cX11_key 16 = .ok (.aload_n 0, 1) := by decide +kernel
theorem dX11_key_17 : decode cX11_key 17 = .ok (.iload_n 1, 1) := by decide +kernel
theorem dX11_key_18 : decode cX11_key 18 = .ok (.invokevirtual 95, 3) := by decide +kernel
theorem dX11_key_21 : decode cX11_key 21 = .ok (.iconst 1, 1) := by decide +kernel
theorem dX11_key_22 : decode cX11_key 22 = .ok (.isub, 1) := by decide +kernel
theorem dX11_key_23 : decode cX11_key 23 = .ok (.i2l, 1) := by decide +kernel
theorem dX11_key_24 : decode cX11_key 24 = .ok (.invokestatic 83, 3) := by decide +kernel
theorem dX11_key_27 : decode cX11_key 27 = .ok (.ifCond .eq 18, 3) := by decide +kernel
theorem dX11_key_30 : decode cX11_key 30 = .ok (.aload_n 0, 1) := by decide +kernel
theorem dX11_key_31 : decode cX11_key 31 = .ok (.getfield 17, 3) := by decide +kernel
theorem dX11_key_34 : decode cX11_key 34 = .ok (.sipush 160, 3) := by decide +kernel
theorem dX11_key_37 : decode cX11_key 37 = .ok (.iload_n 1, 1) := by decide +kernel
theorem dX11_key_38 : decode cX11_key 38 = .ok (.imul, 1) := by decide +kernel
theorem dX11_key_39 : decode cX11_key 39 = .ok (.iload_n 2, 1) := by decide +kernel
theorem dX11_key_40 : decode cX11_key 40 = .ok (.iadd, 1) := by decide +kernel
theorem dX11_key_41 : decode cX11_key 41 = .ok (.iaload, 1) := by decide +kernel
theorem dX11_key_42 : decode cX11_key 42 = .ok (.goto 4, 3) := by decide +kernel
theorem dX11_key_45 : decode cX11_key 45 = .ok (.iconst (-1), 1) := by decide +kernel
theorem dX11_key_46 : decode cX11_key 46 = .ok (.ireturn, 1) := by decide +kernel
set_option maxRecDepth 20000 in
theorem ggX11_walk_X11_isThere : GoodIn wsX11_walk wsX11_isThere := goodIn_r _ [7, 8, 9, 10, 6, 11, 12, 13, 14, 15, 16, 30, 31, 32, 33, 34, 35, 36, 37, 38, 39, 40, 41, 42, 43, 44, 45, 46, 47, 48, 49, 50, 51, 52, 53, 54, 55, 56, 57, 58, 59, 60, 61, 62, 63, 64, 65, 66, 67, 68, 69, 70, 71, 72, 73, 74, 75, 76] (by decide +kernel) (by decide +kernel)
set_option maxRecDepth 20000 in
theorem gX11_walk_X11_isThere : GoodIn wsX11_walk (wsV RX11 222 RX11 yX11_isThere wsX11_isThere) := goodIn_app (goodIn_of _ (by decide +kernel)) ggX11_walk_X11_isThere
set_option maxRecDepth 20000 in
theorem ggX11_walk_X11_manyOf : GoodIn wsX11_walk wsX11_manyOf := goodIn_r _ [20, 12, 13, 14, 6, 15, 16, 30, 31, 32, 33, 34, 35, 36, 37, 38, 39, 40, 41, 42, 43, 44, 45, 46, 47, 48, 49, 50, 51, 52, 53, 54, 55, 56, 57, 58, 59, 60, 61, 62, 63, 64, 65, 66, 67, 68, 69, 70, 71, 72, 73, 74, 75, 76] (by decide +kernel) (by decide +kernel)
set_option maxRecDepth 20000 in
theorem gX11_walk_X11_manyOf : GoodIn wsX11_walk (wsV RX11 95 RX11 yX11_manyOf wsX11_manyOf) := goodIn_app (goodIn_of _ (by decide +kernel)) ggX11_walk_X11_manyOf
set_option maxRecDepth 20000 in
theorem ggX11_walk_X11_aheadOf : GoodIn wsX11_walk wsX11_aheadOf := goodIn_r _ [24, 25, 26, 17, 18, 19, 6, 20, 12, 13, 14, 15, 16, 27, 28, 29, 30, 31, 32, 33, 34, 35, 36, 37, 38, 39, 40, 41, 42, 43, 44, 45, 46, 47, 48, 49, 50, 51, 52, 53, 54, 55, 56, 57, 58, 59, 60, 61, 62, 63, 64, 65, 66, 67, 68, 69, 70, 71, 72, 73, 74, 75, 76] (by decide +kernel) (by decide +kernel)
set_option maxRecDepth 20000 in
theorem gX11_walk_X11_aheadOf : GoodIn wsX11_walk (wsV RX11 249 RX11 yX11_aheadOf wsX11_aheadOf) := goodIn_app (goodIn_of _ (by decide +kernel)) ggX11_walk_X11_aheadOf
theorem dX11_walk_0 : decode cX11_walk 0 = .ok (.aload_n 0, 1) := by decide +kernel
theorem dX11_walk_1 : decode cX11_walk 1 = .ok (.iconst 0, 1) := by decide +kernel
theorem dX11_walk_2 : decode cX11_walk 2 = .ok (.putfield 73, 3) := by decide +kernel
theorem dX11_walk_5 : decode cX11_walk 5 = .ok (.aload_n 0, 1) := by decide +kernel
theorem dX11_walk_6 : decode cX11_walk 6 = .ok (.iload_n 1, 1) := by decide +kernel
theorem dX11_walk_7 : decode cX11_walk 7 = .ok (.invokevirtual 222, 3) := by decide +kernel
theorem dX11_walk_10 : decode cX11_walk 10 = .ok (.ifCond .ne 5, 3) := by decide +kernel
theorem dX11_walk_13 : decode cX11_walk 13 = .ok (.iconst (-1), 1) := by decide +kernel
theorem dX11_walk_14 : decode cX11_walk 14 = .ok (.ireturn, 1) := by decide +kernel
theorem dX11_walk_15 : decode cX11_walk 15 = .ok (.sipush 160, 3) := by decide +kernel
theorem dX11_walk_18 : decode cX11_walk 18 = .ok (.iload_n 1, 1) := by decide +kernel
theorem dX11_walk_19 : decode cX11_walk 19 = .ok (.imul, 1) := by decide +kernel
theorem dX11_walk_20 : decode cX11_walk 20 = .ok (.istore_n 3, 1) := by decide +kernel
theorem dX11_walk_21 : decode cX11_walk 21 = .ok (.iload_n 3, 1) := by decide +kernel
theorem dX11_walk_22 : decode cX11_walk 22 = .ok (.sipush 160, 3) := by decide +kernel
theorem dX11_walk_25 : decode cX11_walk 25 = .ok (.iload_n 1, 1) := by decide +kernel
theorem dX11_walk_26 : decode cX11_walk 26 = .ok (.imul, 1) := by decide +kernel
theorem dX11_walk_27 : decode cX11_walk 27 = .ok (.aload_n 0, 1) := by decide +kernel
theorem dX11_walk_28 : decode cX11_walk 28 = .ok (.iload_n 1, 1) := by decide +kernel
theorem dX11_walk_29 : decode cX11_walk 29 = .ok (.invokevirtual 95, 3) := by decide +kernel
theorem dX11_walk_32 : decode cX11_walk 32 = .ok (.iadd, 1) := by decide +kernel
theorem dX11_walk_33 : decode cX11_walk 33 = .ok (.if_icmp .ge 26, 3) := by decide +kernel
theorem dX11_walk_36 : decode cX11_walk 36 = .ok (.aload_n 0, 1) := by decide +kernel
theorem dX11_walk_37 : decode cX11_walk 37 = .ok (.iload_n 1, 1) := by decide +kernel
theorem dX11_walk_38 : decode cX11_walk 38 = .ok (.iload_n 3, 1) := by decide +kernel
theorem dX11_walk_39 : decode cX11_walk 39 = .ok (.invokevirtual 249, 3) := by decide +kernel
theorem dX11_walk_42 : decode cX11_walk 42 = .ok (.iload_n 2, 1) := by decide +kernel
theorem dX11_walk_43 : decode cX11_walk 43 = .ok (.if_icmp .ne 10, 3) := by decide +kernel
theorem dX11_walk_46 : decode cX11_walk 46 = .ok (.aload_n 0, 1) := by decide +kernel
theorem dX11_walk_47 : decode cX11_walk 47 = .ok (.getfield 17, 3) := by decide +kernel
theorem dX11_walk_50 : decode cX11_walk 50 = .ok (.iload_n 3, 1) := by decide +kernel
theorem dX11_walk_51 : decode cX11_walk 51 = .ok (.iaload, 1) := by decide +kernel
theorem dX11_walk_52 : decode cX11_walk 52 = .ok (.ireturn, 1) := by decide +kernel
theorem dX11_walk_53 : decode cX11_walk 53 = .ok (.iinc 3 1, 3) := by decide +kernel
theorem dX11_walk_56 : decode cX11_walk 56 = .ok (.goto (-35), 3) := by decide +kernel
theorem dX11_walk_59 : decode cX11_walk 59 = .ok (.iconst (-1), 1) := by decide +kernel
theorem dX11_walk_60 : decode cX11_walk 60 = .ok (.ireturn, 1) := by decide +kernel
set_option maxRecDepth 20000 in
theorem ggX11_below_X11_isThere : GoodIn wsX11_below wsX11_isThere := goodIn_r _ [7, 8, 9, 10, 6, 11, 12, 13, 14, 15, 16, 26, 27, 28, 29, 30, 31, 32, 33, 34, 35, 36, 37, 38, 39, 40, 41, 42, 43, 44, 45, 46, 47, 48, 49, 50, 51, 52, 53, 54, 55, 56, 57, 58, 59, 60, 61, 62, 63, 64, 65, 66, 67, 68, 69, 70, 71, 72] (by decide +kernel) (by decide +kernel)
set_option maxRecDepth 20000 in
theorem gX11_below_X11_isThere : GoodIn wsX11_below (wsV RX11 222 RX11 yX11_isThere wsX11_isThere) := goodIn_app (goodIn_of _ (by decide +kernel)) ggX11_below_X11_isThere
set_option maxRecDepth 20000 in
theorem ggX11_below_X11_isIn : GoodIn wsX11_below wsX11_isIn := goodIn_r _ [11] (by decide +kernel) (by decide +kernel)
set_option maxRecDepth 20000 in
theorem gX11_below_X11_isIn : GoodIn wsX11_below (va_wsS RX11 83 yX11_isIn wsX11_isIn) := goodIn_app (goodIn_of _ (by decide +kernel)) ggX11_below_X11_isIn
set_option maxRecDepth 20000 in
theorem ggX11_below_X11_whereOf : GoodIn wsX11_below wsX11_whereOf := goodIn_r _ [20, 21, 22, 23, 24, 6, 25, 12, 13, 14, 15, 16, 26, 27, 28, 29, 30, 31, 32, 33, 34, 35, 36, 37, 38, 39, 40, 41, 42, 43, 44, 45, 46, 47, 48, 49, 50, 51, 52, 53, 54, 55, 56, 57, 58, 59, 60, 61, 62, 63, 64, 65, 66, 67, 68, 69, 70, 71, 72] (by decide +kernel) (by decide +kernel)
set_option maxRecDepth 20000 in
theorem gX11_below_X11_whereOf : GoodIn wsX11_below (wsV RX11 99 RX11 yX11_whereOf wsX11_whereOf) := goodIn_app (goodIn_of _ (by decide +kernel)) ggX11_below_X11_whereOf
theorem dX11_below_0 : decode cX11_below 0 = .ok (.aload_n 0, 1) := by decide +kernel
theorem dX11_below_1 : decode cX11_below 1 = .ok (.iconst 0, 1) := by decide +kernel
theorem dX11_below_2 : decode cX11_below 2 = .ok (.putfield 73, 3) := by decide +kernel
theorem dX11_below_5 : decode cX11_below 5 = .ok (.aload_n 0, 1) := by decide +kernel
theorem dX11_below_6 : decode cX11_below 6 = .ok (.iload_n 1, 1) := by decide +kernel
theorem dX11_below_7 : decode cX11_below 7 = .ok (.invokevirtual 222, 3) := by decide +kernel
theorem dX11_below_10 : decode cX11_below 10 = .ok (.ifCond .eq 25, 3) := by decide +kernel
theorem dX11_below_13 : decode cX11_below 13 = .ok (.iload_n 2, 1) := by decide +kernel
theorem dX11_below_14 : decode cX11_below 14 = .ok (.i2l, 1) := by decide +kernel
theorem dX11_below_15 : decode cX11_below 15 = .ok (.lconst 0, 1) := by decide +kernel
theorem dX11_below_16 : decode cX11_below 16 = .ok (.ldc2_w 103, 3) := by decide +kernel
theorem dX11_below_19 : decode cX11_below 19 = .ok (.invokestatic 83, 3) := by decide +kernel
theorem dX11_below_22 : decode cX11_below 22 = .ok (.ifCond .eq 13, 3) := by decide +kernel
theorem dX11_below_25 : decode cX11_below 25 = .ok (.aload_n 0, 1) := by decide +kernel
theorem dX11_below_26 : decode cX11_below 26 = .ok (.iload_n 1, 1) := by decide +kernel
theorem dX11_below_27 : decode cX11_below 27 = .ok (.iload_n 2, 1) := by decide +kernel
theorem dX11_below_28 : decode cX11_below 28 = .ok (.i2l, 1) := by decide +kernel
theorem dX11_below_29 : decode cX11_below 29 = .ok (.invokevirtual 99, 3) := by decide +kernel
theorem dX11_below_32 : decode cX11_below 32 = .ok (.goto 4, 3) := by decide +kernel
theorem dX11_below_35 : decode cX11_below 35 = .ok (.iconst (-1), 1) := by decide +kernel
theorem dX11_below_36 : decode cX11_below 36 = .ok (.ireturn, 1) := by decide +kernel
set_option maxRecDepth 20000 in
theorem ggX11_many_X11_isThere : GoodIn wsX11_many wsX11_isThere := goodIn_r _ [7, 8, 9, 10, 6, 11, 12, 13, 14, 15, 16, 24, 25, 26, 27, 28, 29, 30, 31, 32, 33, 34, 35, 36, 37, 38, 39, 40, 41, 42, 43, 44, 45, 46, 47, 48, 49, 50, 51, 52, 53, 54, 55, 56, 57, 58, 59, 60, 61, 62, 63, 64, 65, 66, 67, 68, 69, 70] (by decide +kernel) (by decide +kernel)
set_option maxRecDepth 20000 in
theorem gX11_many_X11_isThere : GoodIn wsX11_many (wsV RX11 222 RX11 yX11_isThere wsX11_isThere) := goodIn_app (goodIn_of _ (by decide +kernel)) ggX11_many_X11_isThere
set_option maxRecDepth 20000 in
theorem ggX11_many_X11_buckets : GoodIn wsX11_many wsX11_buckets := goodIn_r _ [20, 12, 13, 14, 6, 15, 16, 24, 25, 26, 27, 28, 29, 30, 31, 32, 33, 34, 35, 36, 37, 38, 39, 40, 41, 42, 43, 44, 45, 46, 47, 48, 49, 50, 51, 52, 53, 54, 55, 56, 57, 58, 59, 60, 61, 62, 63, 64, 65, 66, 67, 68, 69, 70] (by decide +kernel) (by decide +kernel)
set_option maxRecDepth 20000 in
theorem gX11_many_X11_buckets : GoodIn wsX11_many (wsV RX11 152 RX11 yX11_buckets wsX11_buckets) := goodIn_app (goodIn_of _ (by decide +kernel)) ggX11_many_X11_buckets
set_option maxRecDepth 20000 in
theorem ggX11_many_X11_flag : GoodIn wsX11_many wsX11_flag := goodIn_r _ [23] (by decide +kernel) (by decide +kernel)
set_option maxRecDepth 20000 in
theorem gX11_many_X11_flag : GoodIn wsX11_many (va_wsS RX11 198 yX11_flag wsX11_flag) := goodIn_app (goodIn_of _ (by decide +kernel)) ggX11_many_X11_flag
theorem dX11_many_0 : decode cX11_many 0 = .ok (.aload_n 0, 1) := by decide +kernel
theorem dX11_many_1 : decode cX11_many 1 = .ok (.iconst 0, 1) := by decide +kernel
theorem dX11_many_2 : decode cX11_many 2 = .ok (.putfield 73, 3) := by decide +kernel
theorem dX11_many_5 : decode cX11_many 5 = .ok (.aload_n 0, 1) := by decide +kernel
theorem dX11_many_6 : decode cX11_many 6 = .ok (.iload_n 1, 1) := by decide +kernel
theorem dX11_many_7 : decode cX11_many 7 = .ok (.invokevirtual 222, 3) := by decide +kernel
theorem dX11_many_10 : decode cX11_many 10 = .ok (.ifCond .eq 7, 3) := by decide +kernel
theorem dX11_many_13 : decode cX11_many 13 = .ok (.iload_n 2, 1) := by decide +kernel
theorem dX11_many_14 : decode cX11_many 14 = .ok (.ifCond .ge 5, 3) := by decide +kernel
theorem dX11_many_17 : decode cX11_many 17 = .ok (.iconst (-1), 1) := by decide +kernel
theorem dX11_many_18 : decode cX11_many 18 = .ok (.ireturn, 1) := by decide +kernel
theorem dX11_many_19 : decode cX11_many 19 = .ok (.iconst 0, 1) := by decide +kernel
theorem dX11_many_20 : decode cX11_many 20 = .ok (.istore_n 3, 1) := by decide +kernel
theorem dX11_many_21 : decode cX11_many 21 = .ok (.iconst 0, 1) := by decide +kernel
theorem dX11_many_22 : decode cX11_many 22 = .ok (.istore 4, 2) := by decide +kernel
theorem dX11_many_24 : decode cX11_many 24 = .ok (.iload 4, 2) := by decide +kernel
theorem dX11_many_26 : decode cX11_many 26 = .ok (.aload_n 0, 1) := by decide +kernel
theorem dX11_many_27 : decode cX11_many 27 = .ok (.iload_n 1, 1) := by decide +kernel
theorem dX11_many_28 : decode cX11_many 28 = .ok (.invokevirtual 152, 3) := by decide +kernel
theorem dX11_many_31 : decode cX11_many 31 = .ok (.if_icmp .ge 37, 3) := by decide +kernel
theorem dX11_many_34 : decode cX11_many 34 = .ok (.iload_n 3, 1) := by decide +kernel
theorem dX11_many_35 : decode cX11_many 35 = .ok (.aload_n 0, 1) := by decide +kernel
theorem dX11_many_36 : decode cX11_many 36 = .ok (.getfield 33, 3) := by decide +kernel
theorem dX11_many_39 : decode cX11_many 39 = .ok (.sipush 2048, 3) := by decide +kernel
theorem dX11_many_42 : decode cX11_many 42 = .ok (.iload_n 1, 1) := by decide +kernel
theorem dX11_many_43 : decode cX11_many 43 = .ok (.imul, 1) := by decide +kernel
theorem dX11_many_44 : decode cX11_many 44 = .ok (.iload 4, 2) := by decide +kernel
theorem dX11_many_46 : decode cX11_many 46 = .ok (.iadd, 1) := by decide +kernel
theorem dX11_many_47 : decode cX11_many 47 = .ok (.iaload, 1) := by decide +kernel
theorem dX11_many_48 : decode cX11_many 48 = .ok (.iload_n 2, 1) := by decide +kernel
theorem dX11_many_49 : decode cX11_many 49 = .ok (.if_icmp .ne 7, 3) := by decide +kernel
theorem dX11_many_52 : decode cX11_many 52 = .ok (.iconst 1, 1) := by decide +kernel
theorem dX11_many_53 : decode cX11_many 53 = .ok (.goto 4, 3) := by decide +kernel
theorem dX11_many_56 : decode cX11_many 56 = .ok (.iconst 0, 1) := by decide +kernel
theorem dX11_many_57 : decode cX11_many 57 = .ok (.invokestatic 198, 3) := by decide +kernel
theorem dX11_many_60 : decode cX11_many 60 = .ok (.iadd, 1) := by decide +kernel
theorem dX11_many_61 : decode cX11_many 61 = .ok (.istore_n 3, 1) := by decide +kernel
theorem dX11_many_62 : decode cX11_many 62 = .ok (.iinc 4 1, 3) := by decide +kernel
theorem dX11_many_65 : decode cX11_many 65 = .ok (.goto (-41), 3) := by decide +kernel
theorem dX11_many_68 : decode cX11_many 68 = .ok (.iload_n 3, 1) := by decide +kernel
theorem dX11_many_69 : decode cX11_many 69 = .ok (.ireturn, 1) := by decide +kernel
set_option maxRecDepth 20000 in
theorem ggX11_crowd_X11_isThere : GoodIn wsX11_crowd wsX11_isThere := goodIn_r _ [8, 2, 9, 10, 7, 11, 12, 13, 14, 15, 16, 21, 22, 23, 24, 25, 26, 27, 28, 29, 30, 31, 32, 33, 34, 35, 36, 37, 38, 39, 40, 41, 42, 43, 44, 45, 46, 47, 48, 49, 50, 51, 52, 53, 54, 55, 56, 57, 58, 59, 60, 61, 62, 63, 64, 65, 66, 67] (by decide +kernel) (by decide +kernel)
set_option maxRecDepth 20000 in
theorem gX11_crowd_X11_isThere : GoodIn wsX11_crowd (wsV RX11 222 RX11 yX11_isThere wsX11_isThere) := goodIn_app (goodIn_of _ (by decide +kernel)) ggX11_crowd_X11_isThere
set_option maxRecDepth 20000 in
theorem ggX11_crowd_X11_isIn : GoodIn wsX11_crowd wsX11_isIn := goodIn_r _ [11] (by decide +kernel) (by decide +kernel)
set_option maxRecDepth 20000 in
theorem gX11_crowd_X11_isIn : GoodIn wsX11_crowd (va_wsS RX11 83 yX11_isIn wsX11_isIn) := goodIn_app (goodIn_of _ (by decide +kernel)) ggX11_crowd_X11_isIn
set_option maxRecDepth 20000 in
theorem ggX11_crowd_X11_buckets : GoodIn wsX11_crowd wsX11_buckets := goodIn_r _ [20, 12, 13, 14, 7, 15, 16, 21, 22, 23, 24, 25, 26, 27, 28, 29, 30, 31, 32, 33, 34, 35, 36, 37, 38, 39, 40, 41, 42, 43, 44, 45, 46, 47, 48, 49, 50, 51, 52, 53, 54, 55, 56, 57, 58, 59, 60, 61, 62, 63, 64, 65, 66, 67] (by decide +kernel) (by decide +kernel)
set_option maxRecDepth 20000 in
theorem gX11_crowd_X11_buckets : GoodIn wsX11_crowd (wsV RX11 152 RX11 yX11_buckets wsX11_buckets) := goodIn_app (goodIn_of _ (by decide +kernel)) ggX11_crowd_X11_buckets
theorem dX11_crowd_0 : decode cX11_crowd 0 = .ok (.aload_n 0, 1) := by decide +kernel
theorem dX11_crowd_1 : decode cX11_crowd 1 = .ok (.iconst 0, 1) := by decide +kernel
theorem dX11_crowd_2 : decode cX11_crowd 2 = .ok (.putfield 73, 3) := by decide +kernel
theorem dX11_crowd_5 : decode cX11_crowd 5 = .ok (.aload_n 0, 1) := by decide +kernel
theorem dX11_crowd_6 : decode cX11_crowd 6 = .ok (.iload_n 1, 1) := by decide +kernel
theorem dX11_crowd_7 : decode cX11_crowd 7 = .ok (.invokevirtual 222, 3) := by decide +kernel
theorem dX11_crowd_10 : decode cX11_crowd 10 = .ok (.ifCond .eq 15, 3) := by decide +kernel
theorem dX11_crowd_13 : decode cX11_crowd 13 = .ok (.iload_n 2, 1) := by decide +kernel
theorem dX11_crowd_14 : decode cX11_crowd 14 = .ok (.i2l, 1) := by decide +kernel
theorem dX11_crowd_15 : decode cX11_crowd 15 = .ok (.lconst 0, 1) := by decide +kernel
theorem dX11_crowd_16 : decode cX11_crowd 16 = .ok (.ldc2_w 87, 3) := by decide +kernel
theorem dX11_crowd_19 : decode cX11_crowd 19 = .ok (.invokestatic 83, 3) := by decide +kernel
theorem dX11_crowd_22 : decode cX11_crowd 22 = .ok (.ifCond .ne 5, 3) := by decide +kernel
theorem dX11_crowd_25 : decode cX11_crowd 25 = .ok (.iconst (-1), 1) := by decide +kernel
theorem dX11_crowd_26 : decode cX11_crowd 26 = .ok (.ireturn, 1) := by decide +kernel
theorem dX11_crowd_27 : decode cX11_crowd 27 = .ok (.iconst 0, 1) := by decide +kernel
theorem dX11_crowd_28 : decode cX11_crowd 28 = .ok (.istore_n 3, 1) := by decide +kernel
theorem dX11_crowd_29 : decode cX11_crowd 29 = .ok (.iconst 0, 1) := by decide +kernel
theorem dX11_crowd_30 : decode cX11_crowd 30 = .ok (.istore 4, 2) := by decide +kernel
theorem dX11_crowd_32 : decode cX11_crowd 32 = .ok (.iconst 0, 1) := by decide +kernel
theorem dX11_crowd_33 : decode cX11_crowd 33 = .ok (.istore 5, 2) := by decide +kernel
theorem dX11_crowd_35 : decode cX11_crowd 35 = .ok (.iconst 0, 1) := by decide +kernel
theorem dX11_crowd_36 : decode cX11_crowd 36 = .ok (.istore 6, 2) := by decide +kernel
theorem dX11_crowd_38 : decode cX11_crowd 38 = .ok (.iload 6, 2) := by decide +kernel
theorem dX11_crowd_40 : decode cX11_crowd 40 = .ok (.aload_n 0, 1) := by decide +kernel
theorem dX11_crowd_41 : decode cX11_crowd 41 = .ok (.iload_n 1, 1) := by decide +kernel
theorem dX11_crowd_42 : decode cX11_crowd 42 = .ok (.invokevirtual 152, 3) := by decide +kernel
theorem dX11_crowd_45 : decode cX11_crowd 45 = .ok (.if_icmp .ge 75, 3) := by decide +kernel
theorem dX11_crowd_48 : decode cX11_crowd 48 = .ok (.aload_n 0, 1) := by decide +kernel
theorem dX11_crowd_49 : decode cX11_crowd 49 = .ok (.getfield 33, 3) := by decide +kernel
theorem dX11_crowd_52 : decode cX11_crowd 52 = .ok (.sipush 2048, 3) := by decide +kernel
theorem dX11_crowd_55 : decode cX11_crowd 55 = .ok (.iload_n 1, 1) := by decide +kernel
theorem dX11_crowd_56 : decode cX11_crowd 56 = .ok (.imul, 1) := by decide +kernel
theorem dX11_crowd_57 : decode cX11_crowd 57 = .ok (.iload 6, 2) := by decide +kernel
theorem dX11_crowd_59 : decode cX11_crowd 59 = .ok (.iadd, 1) := by decide +kernel
theorem dX11_crowd_60 : decode cX11_crowd 60 = .ok (.iaload, 1) := by decide +kernel
theorem dX11_crowd_61 : decode cX11_crowd 61 = .ok (.istore 7, 2) := by decide +kernel
theorem dX11_crowd_63 : decode cX11_crowd 63 = .ok (.iload 7, 2) := by decide +kernel
theorem dX11_crowd_65 : decode cX11_crowd 65 = .ok (.aload_n 0, 1) := by decide +kernel
theorem dX11_crowd_66 : decode cX11_crowd 66 = .ok (.getfield 33, 3) := by decide +kernel
theorem dX11_crowd_69 : decode cX11_crowd 69 = .ok (.sipush 2048, 3) := by decide +kernel
theorem dX11_crowd_72 : decode cX11_crowd 72 = .ok (.iload_n 1, 1) := by decide +kernel
theorem dX11_crowd_73 : decode cX11_crowd 73 = .ok (.imul, 1) := by decide +kernel
theorem dX11_crowd_74 : decode cX11_crowd 74 = .ok (.iload_n 3, 1) := by decide +kernel
theorem dX11_crowd_75 : decode cX11_crowd 75 = .ok (.iadd, 1) := by decide +kernel
theorem dX11_crowd_76 : decode cX11_crowd 76 = .ok (.iaload, 1) := by decide +kernel
theorem dX11_crowd_77 : decode cX11_crowd 77 = .ok (.if_icmp .le 6, 3) := by decide +kernel
theorem dX11_crowd_80 : decode cX11_crowd 80 = .ok (.iload 6, 2) := by decide +kernel
theorem dX11_crowd_82 : decode cX11_crowd 82 = .ok (.istore_n 3, 1) := by decide +kernel
theorem dX11_crowd_83 : decode cX11_crowd 83 = .ok (.iload 4, 2) := by decide +kernel
theorem dX11_crowd_85 : decode cX11_crowd 85 = .ok (.iload 7, 2) := by decide +kernel
theorem dX11_crowd_87 : decode cX11_crowd 87 = .ok (.iconst 1, 1) := by decide +kernel
theorem dX11_crowd_88 : decode cX11_crowd 88 = .ok (.if_icmp .le 8, 3) := by decide +kernel
theorem dX11_crowd_91 : decode cX11_crowd 91 = .ok (.iload 7, 2) := by decide +kernel
theorem dX11_crowd_93 : decode cX11_crowd 93 = .ok (.goto 4, 3) := by decide +kernel
theorem dX11_crowd_96 : decode cX11_crowd 96 = .ok (.iconst 0, 1) := by decide +kernel
theorem dX11_crowd_97 : decode cX11_crowd 97 = .ok (.iadd, 1) := by decide +kernel
theorem dX11_crowd_98 : decode cX11_crowd 98 = .ok (.istore 4, 2) := by decide +kernel
theorem dX11_crowd_100 : decode cX11_crowd 100 = .ok (.iload 5, 2) := by decide +kernel
theorem dX11_crowd_102 : decode cX11_crowd 102 = .ok (.iload 7, 2) := by decide +kernel
theorem dX11_crowd_104 : decode cX11_crowd 104 = .ok (.iload 7, 2) := by decide +kernel
theorem dX11_crowd_106 : decode cX11_crowd 106 = .ok (.iconst 1, 1) := by decide +kernel
theorem dX11_crowd_107 : decode cX11_crowd 107 = .ok (.isub, 1) := by decide +kernel
theorem dX11_crowd_108 : decode cX11_crowd 108 = .ok (.imul, 1) := by decide +kernel
theorem dX11_crowd_109 : decode cX11_crowd 109 = .ok (.iconst 2, 1) := by decide +kernel
theorem dX11_crowd_110 : decode cX11_crowd 110 = .ok (.idiv, 1) := by decide +kernel
theorem dX11_crowd_111 : decode cX11_crowd 111 = .ok (.iadd, 1) := by decide +kernel
theorem dX11_crowd_112 : decode cX11_crowd 112 = .ok (.istore 5, 2) := by decide +kernel
theorem dX11_crowd_114 : decode cX11_crowd 114 = .ok (.iinc 6 1, 3) := by decide +kernel
theorem dX11_crowd_117 : decode cX11_crowd 117 = .ok (.goto (-79), 3) := by decide +kernel
theorem dX11_crowd_120 : decode cX11_crowd 120 = .ok (.iload_n 2, 1) := by decide +kernel
theorem dX11_crowd_121 : decode cX11_crowd 121 = .ok (.ifCond .ne 7, 3) := by decide +kernel
theorem dX11_crowd_124 : decode cX11_crowd 124 = .ok (.iload_n 3, 1) := by decide +kernel
theorem dX11_crowd_125 : decode cX11_crowd 125 = .ok (.goto 35, 3) := by decide +kernel
theorem dX11_crowd_128 : decode cX11_crowd 128 = .ok (.iload_n 2, 1) := by decide +kernel
theorem dX11_crowd_129 : decode cX11_crowd 129 = .ok (.iconst 1, 1) := by decide +kernel
theorem dX11_crowd_130 : decode cX11_crowd 130 = .ok (.if_icmp .ne 18, 3) := by decide +kernel
theorem dX11_crowd_133 : decode cX11_crowd 133 = .ok (.aload_n 0, 1) := by decide +kernel
theorem dX11_crowd_134 : decode cX11_crowd 134 = .ok (.getfield 33, 3) := by decide +kernel
theorem dX11_crowd_137 : decode cX11_crowd 137 = .ok (.sipush 2048, 3) := by decide +kernel
theorem dX11_crowd_140 : decode cX11_crowd 140 = .ok (.iload_n 1, 1) := by decide +kernel
theorem dX11_crowd_141 : decode cX11_crowd 141 = .ok (.imul, 1) := by decide +kernel
theorem dX11_crowd_142 : decode cX11_crowd 142 = .ok (.iload_n 3, 1) := by decide +kernel
theorem dX11_crowd_143 : decode cX11_crowd 143 = .ok (.iadd, 1) := by decide +kernel
theorem dX11_crowd_144 : decode cX11_crowd 144 = .ok (.iaload, 1) := by decide +kernel
theorem dX11_crowd_145 : decode cX11_crowd 145 = .ok (.goto 15, 3) := by decide +kernel
theorem dX11_crowd_148 : decode cX11_crowd 148 = .ok (.iload_n 2, 1) := by decide +kernel
theorem dX11_crowd_149 : decode cX11_crowd 149 = .ok (.iconst 2, 1) := by decide +kernel
theorem dX11_crowd_150 : decode cX11_crowd 150 = .ok (.if_icmp .ne 8, 3) := by decide +kernel
theorem dX11_crowd_153 : decode cX11_crowd 153 = .ok (.iload 4, 2) := by decide +kernel
theorem dX11_crowd_155 : decode cX11_crowd 155 = .ok (.goto 5, 3) := by decide +kernel
theorem dX11_crowd_158 : decode cX11_crowd 158 = .ok (.iload 5, 2) := by decide +kernel
theorem dX11_crowd_160 : decode cX11_crowd 160 = .ok (.ireturn, 1) := by decide +kernel
set_option maxRecDepth 20000 in
theorem ggX11_empty_X11_isThere : GoodIn wsX11_empty wsX11_isThere := goodIn_r _ [6, 7, 8, 9, 5, 10, 11, 12, 13, 14, 15, 20, 21, 22, 23, 24, 25, 26, 27, 28, 29, 30, 31, 32, 33, 34, 35, 36, 37, 38, 39, 40, 41, 42, 43, 44, 45, 46, 47, 48, 49, 50, 51, 52, 53, 54, 55, 56, 57, 58, 59, 60, 61, 62, 63, 64, 65, 66] (by decide +kernel) (by decide +kernel)
set_option maxRecDepth 20000 in
theorem gX11_empty_X11_isThere : GoodIn wsX11_empty (wsV RX11 222 RX11 yX11_isThere wsX11_isThere) := goodIn_app (goodIn_of _ (by decide +kernel)) ggX11_empty_X11_isThere
set_option maxRecDepth 20000 in
theorem ggX11_empty_X11_of : GoodIn wsX11_empty wsX11_of := goodIn_r _ [14, 15, 20, 21, 22, 23, 24, 25, 26, 27, 28, 29, 30, 31, 32, 33, 34, 35, 36, 37, 38, 39, 40, 41, 42, 43, 44, 45, 46, 47, 48, 49, 50, 51, 52, 53, 54, 55, 56, 57, 58, 59, 60, 61, 62, 63, 64, 65, 66] (by decide +kernel) (by decide +kernel)
set_option maxRecDepth 20000 in
theorem gX11_empty_X11_of : GoodIn wsX11_empty (wsV RX11 89 RX11 yX11_of wsX11_of) := goodIn_app (goodIn_of _ (by decide +kernel)) ggX11_empty_X11_of
set_option maxRecDepth 20000 in
theorem ggX11_empty_X11_manyOf : GoodIn wsX11_empty wsX11_manyOf := goodIn_r _ [19, 11, 12, 13, 5, 14, 15, 20, 21, 22, 23, 24, 25, 26, 27, 28, 29, 30, 31, 32, 33, 34, 35, 36, 37, 38, 39, 40, 41, 42, 43, 44, 45, 46, 47, 48, 49, 50, 51, 52, 53, 54, 55, 56, 57, 58, 59, 60, 61, 62, 63, 64, 65, 66] (by decide +kernel) (by decide +kernel)
set_option maxRecDepth 20000 in
theorem gX11_empty_X11_manyOf : GoodIn wsX11_empty (wsV RX11 95 RX11 yX11_manyOf wsX11_manyOf) := goodIn_app (goodIn_of _ (by decide +kernel)) ggX11_empty_X11_manyOf
theorem dX11_empty_0 : decode cX11_empty 0 = .ok (.aload_n 0, 1) := by decide +kernel
theorem dX11_empty_1 : decode cX11_empty 1 = .ok (.iconst 0, 1) := by decide +kernel
theorem dX11_empty_2 : decode cX11_empty 2 = .ok (.putfield 73, 3) := by decide +kernel
theorem dX11_empty_5 : decode cX11_empty 5 = .ok (.aload_n 0, 1) := by decide +kernel
theorem dX11_empty_6 : decode cX11_empty 6 = .ok (.iload_n 1, 1) := by decide +kernel
theorem dX11_empty_7 : decode cX11_empty 7 = .ok (.invokevirtual 222, 3) := by decide +kernel
theorem dX11_empty_10 : decode cX11_empty 10 = .ok (.ifCond .eq 19, 3) := by decide +kernel
theorem dX11_empty_13 : decode cX11_empty 13 = .ok (.aload_n 0, 1) := by decide +kernel
theorem dX11_empty_14 : decode cX11_empty 14 = .ok (.iload_n 1, 1) := by decide +kernel
theorem dX11_empty_15 : decode cX11_empty 15 = .ok (.iconst 5, 1) := by decide +kernel
theorem dX11_empty_16 : decode cX11_empty 16 = .ok (.invokevirtual 89, 3) := by decide +kernel
theorem dX11_empty_19 : decode cX11_empty 19 = .ok (.l2i, 1) := by decide +kernel
theorem dX11_empty_20 : decode cX11_empty 20 = .ok (.aload_n 0, 1) := by decide +kernel
theorem dX11_empty_21 : decode cX11_empty 21 = .ok (.iload_n 1, 1) := by decide +kernel
theorem dX11_empty_22 : decode cX11_empty 22 = .ok (.invokevirtual 95, 3) := by decide +kernel
theorem dX11_empty_25 : decode cX11_empty 25 = .ok (.isub, 1) := by decide +kernel
theorem dX11_empty_26 : decode cX11_empty 26 = .ok (.goto 4, 3) := by decide +kernel
theorem dX11_empty_29 : decode cX11_empty 29 = .ok (.iconst (-1), 1) := by decide +kernel
theorem dX11_empty_30 : decode cX11_empty 30 = .ok (.ireturn, 1) := by decide +kernel
set_option maxRecDepth 20000 in
theorem ggX11_left_X11_isThere : GoodIn wsX11_left wsX11_isThere := goodIn_r _ [6, 7, 8, 9, 5, 10, 11, 12, 13, 14, 15, 16, 17, 18, 19, 20, 21, 22, 23, 24, 25, 26, 27, 28, 29, 30, 31, 32, 33, 34, 35, 36, 37, 38, 39, 40, 41, 42, 43, 44, 45, 46, 47, 48, 49, 50, 51, 52, 53, 54, 55, 56, 57, 58, 59, 60, 61, 62] (by decide +kernel) (by decide +kernel)
set_option maxRecDepth 20000 in
theorem gX11_left_X11_isThere : GoodIn wsX11_left (wsV RX11 222 RX11 yX11_isThere wsX11_isThere) := goodIn_app (goodIn_of _ (by decide +kernel)) ggX11_left_X11_isThere
set_option maxRecDepth 20000 in
theorem ggX11_left_X11_of : GoodIn wsX11_left wsX11_of := goodIn_r _ [14, 15, 16, 17, 18, 19, 20, 21, 22, 23, 24, 25, 26, 27, 28, 29, 30, 31, 32, 33, 34, 35, 36, 37, 38, 39, 40, 41, 42, 43, 44, 45, 46, 47, 48, 49, 50, 51, 52, 53, 54, 55, 56, 57, 58, 59, 60, 61, 62] (by decide +kernel) (by decide +kernel)
set_option maxRecDepth 20000 in
theorem gX11_left_X11_of : GoodIn wsX11_left (wsV RX11 89 RX11 yX11_of wsX11_of) := goodIn_app (goodIn_of _ (by decide +kernel)) ggX11_left_X11_of
theorem dX11_left_0 : decode cX11_left 0 = .ok (.aload_n 0, 1) := by decide +kernel
theorem dX11_left_1 : decode cX11_left 1 = .ok (.iconst 0, 1) := by decide +kernel
theorem dX11_left_2 : decode cX11_left 2 = .ok (.putfield 73, 3) := by decide +kernel
theorem dX11_left_5 : decode cX11_left 5 = .ok (.aload_n 0, 1) := by decide +kernel
theorem dX11_left_6 : decode cX11_left 6 = .ok (.iload_n 1, 1) := by decide +kernel
theorem dX11_left_7 : decode cX11_left 7 = .ok (.invokevirtual 222, 3) := by decide +kernel
theorem dX11_left_10 : decode cX11_left 10 = .ok (.ifCond .eq 22, 3) := by decide +kernel
theorem dX11_left_13 : decode cX11_left 13 = .ok (.aload_n 0, 1) := by decide +kernel
theorem dX11_left_14 : decode cX11_left 14 = .ok (.iload_n 1, 1) := by decide +kernel
theorem dX11_left_15 : decode cX11_left 15 = .ok (.iconst 2, 1) := by decide +kernel
theorem dX11_left_16 : decode cX11_left 16 = .ok (.invokevirtual 89, 3) := by decide +kernel
theorem dX11_left_19 : decode cX11_left 19 = .ok (.aload_n 0, 1) := by decide +kernel
theorem dX11_left_20 : decode cX11_left 20 = .ok (.iload_n 1, 1) := by decide +kernel
theorem dX11_left_21 : decode cX11_left 21 = .ok (.iconst 3, 1) := by decide +kernel
theorem dX11_left_22 : decode cX11_left 22 = .ok (.invokevirtual 89, 3) := by decide +kernel
theorem dX11_left_25 : decode cX11_left 25 = .ok (.lsub, 1) := by decide +kernel
theorem dX11_left_26 : decode cX11_left 26 = .ok (.l2i, 1) := by decide +kernel
theorem dX11_left_27 : decode cX11_left 27 = .ok (.iconst 1, 1) := by decide +kernel
theorem dX11_left_28 : decode cX11_left 28 = .ok (.iadd, 1) := by decide +kernel
theorem dX11_left_29 : decode cX11_left 29 = .ok (.goto 4, 3) := by decide +kernel
theorem dX11_left_32 : decode cX11_left 32 = .ok (.iconst (-1), 1) := by decide +kernel
theorem dX11_left_33 : decode cX11_left 33 = .ok (.ireturn, 1) := by decide +kernel
set_option maxRecDepth 20000 in
theorem ggX11_outer_X11_isThere : GoodIn wsX11_outer wsX11_isThere := goodIn_r _ [12, 3, 13, 14, 11, 15, 16, 17, 18, 19, 20, 36, 37, 38, 39, 40, 41, 42, 43, 44, 45, 46, 47, 48, 49, 50, 51, 52, 53, 54, 55, 56, 57, 58, 59, 60, 61, 62, 63, 64, 65, 66, 67, 68, 69, 70, 71, 72, 73, 74, 75, 76, 77, 78, 79, 80, 81, 82] (by decide +kernel) (by decide +kernel)
set_option maxRecDepth 20000 in
theorem gX11_outer_X11_isThere : GoodIn wsX11_outer (wsV RX11 222 RX11 yX11_isThere wsX11_isThere) := goodIn_app (goodIn_of _ (by decide +kernel)) ggX11_outer_X11_isThere
set_option maxRecDepth 20000 in
theorem ggX11_outer_X11_isPair : GoodIn wsX11_outer wsX11_isPair := goodIn_r _ [23, 24, 13, 14, 11, 15] (by decide +kernel) (by decide +kernel)
set_option maxRecDepth 20000 in
theorem gX11_outer_X11_isPair : GoodIn wsX11_outer (va_wsS RX11 252 yX11_isPair wsX11_isPair) := goodIn_app (goodIn_of _ (by decide +kernel)) ggX11_outer_X11_isPair
set_option maxRecDepth 20000 in
theorem ggX11_outer_X11_isIn : GoodIn wsX11_outer wsX11_isIn := goodIn_r _ [15] (by decide +kernel) (by decide +kernel)
set_option maxRecDepth 20000 in
theorem gX11_outer_X11_isIn : GoodIn wsX11_outer (va_wsS RX11 83 yX11_isIn wsX11_isIn) := goodIn_app (goodIn_of _ (by decide +kernel)) ggX11_outer_X11_isIn
set_option maxRecDepth 20000 in
theorem ggX11_outer_X11_manyOf : GoodIn wsX11_outer wsX11_manyOf := goodIn_r _ [28, 16, 17, 18, 11, 19, 20, 36, 37, 38, 39, 40, 41, 42, 43, 44, 45, 46, 47, 48, 49, 50, 51, 52, 53, 54, 55, 56, 57, 58, 59, 60, 61, 62, 63, 64, 65, 66, 67, 68, 69, 70, 71, 72, 73, 74, 75, 76, 77, 78, 79, 80, 81, 82] (by decide +kernel) (by decide +kernel)
set_option maxRecDepth 20000 in
theorem gX11_outer_X11_manyOf : GoodIn wsX11_outer (wsV RX11 95 RX11 yX11_manyOf wsX11_manyOf) := goodIn_app (goodIn_of _ (by decide +kernel)) ggX11_outer_X11_manyOf
set_option maxRecDepth 20000 in
theorem ggX11_outer_X11_placeOf : GoodIn wsX11_outer wsX11_placeOf := goodIn_r _ [31, 32] (by decide +kernel) (by decide +kernel)
set_option maxRecDepth 20000 in
theorem gX11_outer_X11_placeOf : GoodIn wsX11_outer (va_wsS RX11 133 yX11_placeOf wsX11_placeOf) := goodIn_app (goodIn_of _ (by decide +kernel)) ggX11_outer_X11_placeOf
set_option maxRecDepth 20000 in
theorem ggX11_outer_X11_flag : GoodIn wsX11_outer wsX11_flag := goodIn_r _ [35] (by decide +kernel) (by decide +kernel)
set_option maxRecDepth 20000 in
theorem gX11_outer_X11_flag : GoodIn wsX11_outer (va_wsS RX11 198 yX11_flag wsX11_flag) := goodIn_app (goodIn_of _ (by decide +kernel)) ggX11_outer_X11_flag
theorem dX11_outer_0 : decode cX11_outer 0 = .ok (.aload_n 0, 1) := by decide +kernel
theorem dX11_outer_1 : decode cX11_outer 1 = .ok (.iconst 0, 1) := by decide +kernel
theorem dX11_outer_2 : decode cX11_outer 2 = .ok (.putfield 73, 3) := by decide +kernel
theorem dX11_outer_5 : decode cX11_outer 5 = .ok (.aload_n 0, 1) := by decide +kernel
theorem dX11_outer_6 : decode cX11_outer 6 = .ok (.iload_n 1, 1) := by decide +kernel
theorem dX11_outer_7 : decode cX11_outer 7 = .ok (.invokevirtual 222, 3) := by decide +kernel
theorem dX11_outer_10 : decode cX11_outer 10 = .ok (.ifCond .eq 37, 3) := by decide +kernel
theorem dX11_outer_13 : decode cX11_outer 13 = .ok (.iload_n 2, 1) := by decide +kernel
theorem dX11_outer_14 : decode cX11_outer 14 = .ok (.iload_n 3, 1) := by decide +kernel
theorem dX11_outer_15 : decode cX11_outer 15 = .ok (.invokestatic 252, 3) := by decide +kernel
theorem dX11_outer_18 : decode cX11_outer 18 = .ok (.ifCond .eq 29, 3) := by decide +kernel
theorem dX11_outer_21 : decode cX11_outer 21 = .ok (.iload 4, 2) := by decide +kernel
theorem dX11_outer_23 : decode cX11_outer 23 = .ok (.i2l, 1) := by decide +kernel
theorem dX11_outer_24 : decode cX11_outer 24 = .ok (.lconst 1, 1) := by decide +kernel
theorem dX11_outer_25 : decode cX11_outer 25 = .ok (.ldc2_w 169, 3) := by decide +kernel
theorem dX11_outer_28 : decode cX11_outer 28 = .ok (.invokestatic 83, 3) := by decide +kernel
theorem dX11_outer_31 : decode cX11_outer 31 = .ok (.ifCond .eq 16, 3) := by decide +kernel
theorem dX11_outer_34 : decode cX11_outer 34 = .ok (.iload 5, 2) := by decide +kernel
theorem dX11_outer_36 : decode cX11_outer 36 = .ok (.i2l, 1) := by decide +kernel
theorem dX11_outer_37 : decode cX11_outer 37 = .ok (.lconst 0, 1) := by decide +kernel
theorem dX11_outer_38 : decode cX11_outer 38 = .ok (.ldc2_w 87, 3) := by decide +kernel
theorem dX11_outer_41 : decode cX11_outer 41 = .ok (.invokestatic 83, 3) := by decide +kernel
theorem dX11_outer_44 : decode cX11_outer 44 = .ok (.ifCond .ne 7, 3) := by decide +kernel
theorem dX11_outer_47 : decode cX11_outer 47 = .ok (.ldc2_w 235, 3) := by decide +kernel
theorem dX11_outer_50 : decode cX11_outer 50 = .ok (.lreturn, 1) := by decide +kernel
theorem dX11_outer_51 : decode cX11_outer 51 = .ok (.iconst 0, 1) := by decide +kernel
theorem dX11_outer_52 : decode cX11_outer 52 = .ok (.istore 6, 2) := by decide +kernel
theorem dX11_outer_54 : decode cX11_outer 54 = .ok (.iload 6, 2) := by decide +kernel
theorem dX11_outer_56 : decode cX11_outer 56 = .ok (.iload 4, 2) := by decide +kernel
theorem dX11_outer_58 : decode cX11_outer 58 = .ok (.if_icmp .ge 17, 3) := by decide +kernel
theorem dX11_outer_61 : decode cX11_outer 61 = .ok (.aload_n 0, 1) := by decide +kernel
theorem dX11_outer_62 : decode cX11_outer 62 = .ok (.getfield 42, 3) := by decide +kernel
theorem dX11_outer_65 : decode cX11_outer 65 = .ok (.iload 6, 2) := by decide +kernel
theorem dX11_outer_67 : decode cX11_outer 67 = .ok (.iconst 0, 1) := by decide +kernel
theorem dX11_outer_68 : decode cX11_outer 68 = .ok (.iastore, 1) := by decide +kernel
theorem dX11_outer_69 : decode cX11_outer 69 = .ok (.iinc 6 1, 3) := by decide +kernel
theorem dX11_outer_72 : decode cX11_outer 72 = .ok (.goto (-18), 3) := by decide +kernel
theorem dX11_outer_75 : decode cX11_outer 75 = .ok (.sipush 160, 3) := by decide +kernel
theorem dX11_outer_78 : decode cX11_outer 78 = .ok (.iload_n 1, 1) := by decide +kernel
theorem dX11_outer_79 : decode cX11_outer 79 = .ok (.imul, 1) := by decide +kernel
theorem dX11_outer_80 : decode cX11_outer 80 = .ok (.istore 6, 2) := by decide +kernel
theorem dX11_outer_82 : decode cX11_outer 82 = .ok (.iload 6, 2) := by decide +kernel
theorem dX11_outer_84 : decode cX11_outer 84 = .ok (.sipush 160, 3) := by decide +kernel
theorem dX11_outer_87 : decode cX11_outer 87 = .ok (.iload_n 1, 1) := by decide +kernel
theorem dX11_outer_88 : decode cX11_outer 88 = .ok (.imul, 1) := by decide +kernel
theorem dX11_outer_89 : decode cX11_outer 89 = .ok (.aload_n 0, 1) := by decide +kernel
theorem dX11_outer_90 : decode cX11_outer 90 = .ok (.iload_n 1, 1) := by decide +kernel
theorem dX11_outer_91 : decode cX11_outer 91 = .ok (.invokevirtual 95, 3) := by decide +kernel
theorem dX11_outer_94 : decode cX11_outer 94 = .ok (.iadd, 1) := by decide +kernel
theorem dX11_outer_95 : decode cX11_outer 95 = .ok (.if_icmp .ge 36, 3) := by decide +kernel
theorem dX11_outer_98 : decode cX11_outer 98 = .ok (.aload_n 0, 1) := by decide +kernel
theorem dX11_outer_99 : decode cX11_outer 99 = .ok (.getfield 42, 3) := by decide +kernel
theorem dX11_outer_102 : decode cX11_outer 102 = .ok (.iload_n 2, 1) := by decide +kernel
theorem dX11_outer_103 : decode cX11_outer 103 = .ok (.i2l, 1) := by decide +kernel
theorem dX11_outer_104 : decode cX11_outer 104 = .ok (.iload_n 3, 1) := by decide +kernel
theorem dX11_outer_105 : decode cX11_outer 105 = .ok (.i2l, 1) := by decide +kernel
theorem dX11_outer_106 : decode cX11_outer 106 = .ok (.aload_n 0, 1) := by decide +kernel
theorem dX11_outer_107 : decode cX11_outer 107 = .ok (.getfield 17, 3) := by decide +kernel
theorem dX11_outer_110 : decode cX11_outer 110 = .ok (.iload 6, 2) := by decide +kernel
theorem dX11_outer_112 : decode cX11_outer 112 = .ok (.iaload, 1) := by decide +kernel
theorem dX11_outer_113 : decode cX11_outer 113 = .ok (.i2l, 1) := by decide +kernel
theorem dX11_outer_114 : decode cX11_outer 114 = .ok (.iload 4, 2) := by decide +kernel
theorem dX11_outer_116 : decode cX11_outer 116 = .ok (.i2l, 1) := by decide +kernel
theorem dX11_outer_117 : decode cX11_outer 117 = .ok (.invokestatic 133, 3) := by decide +kernel
theorem dX11_outer_120 : decode cX11_outer 120 = .ok (.dup2, 1) := by decide +kernel
theorem dX11_outer_121 : decode cX11_outer 121 = .ok (.iaload, 1) := by decide +kernel
theorem dX11_outer_122 : decode cX11_outer 122 = .ok (.iconst 1, 1) := by decide +kernel
theorem dX11_outer_123 : decode cX11_outer 123 = .ok (.iadd, 1) := by decide +kernel
theorem dX11_outer_124 : decode cX11_outer 124 = .ok (.iastore, 1) := by decide +kernel
theorem dX11_outer_125 : decode cX11_outer 125 = .ok (.iinc 6 1, 3) := by decide +kernel
theorem dX11_outer_128 : decode cX11_outer 128 = .ok (.goto (-46), 3) := by decide +kernel
theorem dX11_outer_131 : decode cX11_outer 131 = .ok (.lconst 0, 1) := by decide +kernel
theorem dX11_outer_132 : decode cX11_outer 132 = .ok (.lstore 6, 2) := by decide +kernel
theorem dX11_outer_134 : decode cX11_outer 134 = .ok (.iconst 0, 1) := by decide +kernel
theorem dX11_outer_135 : decode cX11_outer 135 = .ok (.istore 8, 2) := by decide +kernel
theorem dX11_outer_137 : decode cX11_outer 137 = .ok (.iconst 0, 1) := by decide +kernel
theorem dX11_outer_138 : decode cX11_outer 138 = .ok (.istore 9, 2) := by decide +kernel
theorem dX11_outer_140 : decode cX11_outer 140 = .ok (.iconst 0, 1) := by decide +kernel
theorem dX11_outer_141 : decode cX11_outer 141 = .ok (.istore 10, 2) := by decide +kernel
theorem dX11_outer_143 : decode cX11_outer 143 = .ok (.iload 10, 2) := by decide +kernel
theorem dX11_outer_145 : decode cX11_outer 145 = .ok (.iload 4, 2) := by decide +kernel
theorem dX11_outer_147 : decode cX11_outer 147 = .ok (.if_icmp .ge 80, 3) := by decide +kernel
theorem dX11_outer_150 : decode cX11_outer 150 = .ok (.lload 6, 2) := by decide +kernel
theorem dX11_outer_152 : decode cX11_outer 152 = .ok (.aload_n 0, 1) := by decide +kernel
theorem dX11_outer_153 : decode cX11_outer 153 = .ok (.getfield 42, 3) := by decide +kernel
theorem dX11_outer_156 : decode cX11_outer 156 = .ok (.iload 10, 2) := by decide +kernel
theorem dX11_outer_158 : decode cX11_outer 158 = .ok (.iaload, 1) := by decide +kernel
theorem dX11_outer_159 : decode cX11_outer 159 = .ok (.i2l, 1) := by decide +kernel
theorem dX11_outer_160 : decode cX11_outer 160 = .ok (.aload_n 0, 1) := by decide +kernel
theorem dX11_outer_161 : decode cX11_outer 161 = .ok (.getfield 42, 3) := by decide +kernel
theorem dX11_outer_164 : decode cX11_outer 164 = .ok (.iload 10, 2) := by decide +kernel
theorem dX11_outer_166 : decode cX11_outer 166 = .ok (.iaload, 1) := by decide +kernel
theorem dX11_outer_167 : decode cX11_outer 167 = .ok (.i2l, 1) := by decide +kernel
theorem dX11_outer_168 : decode cX11_outer 168 = .ok (.lmul, 1) := by decide +kernel
theorem dX11_outer_169 : decode cX11_outer 169 = .ok (.ladd, 1) := by decide +kernel
theorem dX11_outer_170 : decode cX11_outer 170 = .ok (.lstore 6, 2) := by decide +kernel
theorem dX11_outer_172 : decode cX11_outer 172 = .ok (.aload_n 0, 1) := by decide +kernel
theorem dX11_outer_173 : decode cX11_outer 173 = .ok (.getfield 42, 3) := by decide +kernel
theorem dX11_outer_176 : decode cX11_outer 176 = .ok (.iload 10, 2) := by decide +kernel
theorem dX11_outer_178 : decode cX11_outer 178 = .ok (.iaload, 1) := by decide +kernel
theorem dX11_outer_179 : decode cX11_outer 179 = .ok (.iload 8, 2) := by decide +kernel
theorem dX11_outer_181 : decode cX11_outer 181 = .ok (.if_icmp .le 13, 3) := by decide +kernel
theorem dX11_outer_184 : decode cX11_outer 184 = .ok (.aload_n 0, 1) := by decide +kernel
theorem dX11_outer_185 : decode cX11_outer 185 = .ok (.getfield 42, 3) := by decide +kernel
theorem dX11_outer_188 : decode cX11_outer 188 = .ok (.iload 10, 2) := by decide +kernel
theorem dX11_outer_190 : decode cX11_outer 190 = .ok (.iaload, 1) := by decide +kernel
theorem dX11_outer_191 : decode cX11_outer 191 = .ok (.goto 5, 3) := by decide +kernel
theorem dX11_outer_194 : decode cX11_outer 194 = .ok (.iload 8, 2) := by decide +kernel
theorem dX11_outer_196 : decode cX11_outer 196 = .ok (.istore 8, 2) := by decide +kernel
theorem dX11_outer_198 : decode cX11_outer 198 = .ok (.iload 9, 2) := by decide +kernel
theorem dX11_outer_200 : decode cX11_outer 200 = .ok (.aload_n 0, 1) := by decide +kernel
theorem dX11_outer_201 : decode cX11_outer 201 = .ok (.getfield 42, 3) := by decide +kernel
theorem dX11_outer_204 : decode cX11_outer 204 = .ok (.iload 10, 2) := by decide +kernel
theorem dX11_outer_206 : decode cX11_outer 206 = .ok (.iaload, 1) := by decide +kernel
theorem dX11_outer_207 : decode cX11_outer 207 = .ok (.ifCond .ne 7, 3) := by decide +kernel
theorem dX11_outer_210 : decode cX11_outer 210 = .ok (.iconst 1, 1) := by decide +kernel
theorem dX11_outer_211 : decode cX11_outer 211 = .ok (.goto 4, 3) := by decide +kernel
theorem dX11_outer_214 : decode cX11_outer 214 = .ok (.iconst 0, 1) := by decide +kernel
theorem dX11_outer_215 : decode cX11_outer 215 = .ok (.invokestatic 198, 3) := by decide +kernel
theorem dX11_outer_218 : decode cX11_outer 218 = .ok (.iadd, 1) := by decide +kernel
theorem dX11_outer_219 : decode cX11_outer 219 = .ok (.istore 9, 2) := by decide +kernel
theorem dX11_outer_221 : decode cX11_outer 221 = .ok (.iinc 10 1, 3) := by decide +kernel
theorem dX11_outer_224 : decode cX11_outer 224 = .ok (.goto (-81), 3) := by decide +kernel
theorem dX11_outer_227 : decode cX11_outer 227 = .ok (.iload 5, 2) := by decide +kernel
theorem dX11_outer_229 : decode cX11_outer 229 = .ok (.ifCond .ne 12, 3) := by decide +kernel
theorem dX11_outer_232 : decode cX11_outer 232 = .ok (.ldc2_w 160, 3) := by decide +kernel
theorem dX11_outer_235 : decode cX11_outer 235 = .ok (.lload 6, 2) := by decide +kernel
theorem dX11_outer_237 : decode cX11_outer 237 = .ok (.lmul, 1) := by decide +kernel
theorem dX11_outer_238 : decode cX11_outer 238 = .ok (.goto 29, 3) := by decide +kernel
theorem dX11_outer_241 : decode cX11_outer 241 = .ok (.iload 5, 2) := by decide +kernel
theorem dX11_outer_243 : decode cX11_outer 243 = .ok (.iconst 1, 1) := by decide +kernel
theorem dX11_outer_244 : decode cX11_outer 244 = .ok (.if_icmp .ne 8, 3) := by decide +kernel
theorem dX11_outer_247 : decode cX11_outer 247 = .ok (.lload 6, 2) := by decide +kernel
theorem dX11_outer_249 : decode cX11_outer 249 = .ok (.goto 18, 3) := by decide +kernel
theorem dX11_outer_252 : decode cX11_outer 252 = .ok (.iload 5, 2) := by decide +kernel
theorem dX11_outer_254 : decode cX11_outer 254 = .ok (.iconst 2, 1) := by decide +kernel
theorem dX11_outer_255 : decode cX11_outer 255 = .ok (.if_icmp .ne 9, 3) := by decide +kernel
theorem dX11_outer_258 : decode cX11_outer 258 = .ok (.iload 8, 2) := by decide +kernel
theorem dX11_outer_260 : decode cX11_outer 260 = .ok (.i2l, 1) := by decide +kernel
theorem dX11_outer_261 : decode cX11_outer 261 = .ok (.goto 6, 3) := by decide +kernel
theorem dX11_outer_264 : decode cX11_outer 264 = .ok (.iload 9, 2) := by decide +kernel
theorem dX11_outer_266 : decode cX11_outer 266 = .ok (.i2l, 1) := by decide +kernel
theorem dX11_outer_267 : decode cX11_outer 267 = .ok (.lreturn, 1) := by decide +kernel
set_option maxRecDepth 20000 in
theorem ggX11_inner_X11_isBucket : GoodIn wsX11_inner wsX11_isBucket := goodIn_r _ [6, 7, 8, 9, 5, 10, 11, 12, 13, 14, 15, 16, 17, 18, 19, 20, 21, 22, 23, 47, 48, 49, 50, 51, 52, 53, 54, 55, 56, 57, 58, 59, 60, 61, 62, 63, 64, 65, 66, 67, 68, 69, 70, 71, 72, 73, 74, 75, 76, 77, 78, 79, 80, 81, 82, 83, 84, 85, 86, 87, 88, 89, 90, 91, 92, 93] (by decide +kernel) (by decide +kernel)
set_option maxRecDepth 20000 in
theorem gX11_inner_X11_isBucket : GoodIn wsX11_inner (wsV RX11 246 RX11 yX11_isBucket wsX11_isBucket) := goodIn_app (goodIn_of _ (by decide +kernel)) ggX11_inner_X11_isBucket
set_option maxRecDepth 20000 in
theorem ggX11_inner_X11_isPair : GoodIn wsX11_inner wsX11_isPair := goodIn_r _ [26, 27, 12, 13, 5, 14] (by decide +kernel) (by decide +kernel)
set_option maxRecDepth 20000 in
theorem gX11_inner_X11_isPair : GoodIn wsX11_inner (va_wsS RX11 252 yX11_isPair wsX11_isPair) := goodIn_app (goodIn_of _ (by decide +kernel)) ggX11_inner_X11_isPair
set_option maxRecDepth 20000 in
theorem ggX11_inner_X11_roomsOf : GoodIn wsX11_inner wsX11_roomsOf := goodIn_r _ [31, 32, 47, 48, 49, 50, 51, 52, 53, 54, 55, 56, 57, 58, 59, 60, 61, 62, 63, 64, 65, 66, 67, 68, 69, 70, 71, 72, 73, 74, 75, 76, 77, 78, 79, 80, 81, 82, 83, 84, 85, 86, 87, 88, 89, 90, 91, 92, 93] (by decide +kernel) (by decide +kernel)
set_option maxRecDepth 20000 in
theorem gX11_inner_X11_roomsOf : GoodIn wsX11_inner (wsV RX11 137 RX11 yX11_roomsOf wsX11_roomsOf) := goodIn_app (goodIn_of _ (by decide +kernel)) ggX11_inner_X11_roomsOf
set_option maxRecDepth 20000 in
theorem ggX11_inner_X11_clashes : GoodIn wsX11_inner wsX11_clashes := goodIn_r _ [36, 37, 38, 28, 29, 30, 5, 31, 32, 39, 40, 41, 42, 15, 16, 17, 18, 19, 43, 44, 45, 46, 47, 48, 49, 50, 51, 52, 53, 54, 55, 56, 57, 58, 59, 60, 61, 62, 63, 64, 65, 66, 67, 68, 69, 70, 71, 72, 73, 74, 75, 76, 77, 78, 79, 80, 81, 82, 83, 84, 85, 86, 87, 88, 89, 90, 91, 92, 93] (by decide +kernel) (by decide +kernel)
set_option maxRecDepth 20000 in
theorem gX11_inner_X11_clashes : GoodIn wsX11_inner (wsV RX11 144 RX11 yX11_clashes wsX11_clashes) := goodIn_app (goodIn_of _ (by decide +kernel)) ggX11_inner_X11_clashes
theorem dX11_inner_0 : decode cX11_inner 0 = .ok (.aload_n 0, 1) := by decide +kernel
theorem dX11_inner_1 : decode cX11_inner 1 = .ok (.iconst 0, 1) := by decide +kernel
theorem dX11_inner_2 : decode cX11_inner 2 = .ok (.putfield 73, 3) := by decide +kernel
theorem dX11_inner_5 : decode cX11_inner 5 = .ok (.aload_n 0, 1) := by decide +kernel
theorem dX11_inner_6 : decode cX11_inner 6 = .ok (.iload_n 1, 1) := by decide +kernel
theorem dX11_inner_7 : decode cX11_inner 7 = .ok (.iload_n 2, 1) := by decide +kernel
theorem dX11_inner_8 : decode cX11_inner 8 = .ok (.invokevirtual 246, 3) := by decide +kernel
theorem dX11_inner_11 : decode cX11_inner 11 = .ok (.ifCond .eq 35, 3) := by decide +kernel
theorem dX11_inner_14 : decode cX11_inner 14 = .ok (.iload_n 3, 1) := by decide +kernel
theorem dX11_inner_15 : decode cX11_inner 15 = .ok (.iload 4, 2) := by decide +kernel
theorem dX11_inner_17 : decode cX11_inner 17 = .ok (.invokestatic 252, 3) := by decide +kernel
theorem dX11_inner_20 : decode cX11_inner 20 = .ok (.ifCond .eq 26, 3) := by decide +kernel
theorem dX11_inner_23 : decode cX11_inner 23 = .ok (.aload_n 0, 1) := by decide +kernel
theorem dX11_inner_24 : decode cX11_inner 24 = .ok (.iload_n 1, 1) := by decide +kernel
theorem dX11_inner_25 : decode cX11_inner 25 = .ok (.iload_n 2, 1) := by decide +kernel
theorem dX11_inner_26 : decode cX11_inner 26 = .ok (.invokevirtual 137, 3) := by decide +kernel
theorem dX11_inner_29 : decode cX11_inner 29 = .ok (.ifCond .le 17, 3) := by decide +kernel
theorem dX11_inner_32 : decode cX11_inner 32 = .ok (.aload_n 0, 1) := by decide +kernel
theorem dX11_inner_33 : decode cX11_inner 33 = .ok (.iload_n 1, 1) := by decide +kernel
theorem dX11_inner_34 : decode cX11_inner 34 = .ok (.iload_n 2, 1) := by decide +kernel
theorem dX11_inner_35 : decode cX11_inner 35 = .ok (.iload_n 3, 1) := by decide +kernel
theorem dX11_inner_36 : decode cX11_inner 36 = .ok (.i2l, 1) := by decide +kernel
theorem dX11_inner_37 : decode cX11_inner 37 = .ok (.iload 4, 2) := by decide +kernel
theorem dX11_inner_39 : decode cX11_inner 39 = .ok (.i2l, 1) := by decide +kernel
theorem dX11_inner_40 : decode cX11_inner 40 = .ok (.invokevirtual 144, 3) := by decide +kernel
theorem dX11_inner_43 : decode cX11_inner 43 = .ok (.goto 4, 3) := by decide +kernel
theorem dX11_inner_46 : decode cX11_inner 46 = .ok (.iconst (-1), 1) := by decide +kernel
theorem dX11_inner_47 : decode cX11_inner 47 = .ok (.ireturn, 1) := by decide +kernel
set_option maxRecDepth 20000 in
theorem ggX11_tries_X11_isBucket : GoodIn wsX11_tries wsX11_isBucket := goodIn_r _ [10, 11, 12, 13, 9, 14, 15, 16, 17, 18, 19, 20, 21, 22, 23, 24, 25, 26, 27, 59, 60, 61, 62, 63, 64, 65, 66, 67, 68, 69, 70, 71, 72, 73, 74, 75, 76, 77, 78, 79, 80, 81, 82, 83, 84, 85, 86, 87, 88, 89, 90, 91, 92, 93, 94, 95, 96, 97, 98, 99, 100, 101, 102, 103, 104, 105] (by decide +kernel) (by decide +kernel)
set_option maxRecDepth 20000 in
theorem gX11_tries_X11_isBucket : GoodIn wsX11_tries (wsV RX11 246 RX11 yX11_isBucket wsX11_isBucket) := goodIn_app (goodIn_of _ (by decide +kernel)) ggX11_tries_X11_isBucket
set_option maxRecDepth 20000 in
theorem ggX11_tries_X11_isIn : GoodIn wsX11_tries wsX11_isIn := goodIn_r _ [18] (by decide +kernel) (by decide +kernel)
set_option maxRecDepth 20000 in
theorem gX11_tries_X11_isIn : GoodIn wsX11_tries (va_wsS RX11 83 yX11_isIn wsX11_isIn) := goodIn_app (goodIn_of _ (by decide +kernel)) ggX11_tries_X11_isIn
set_option maxRecDepth 20000 in
theorem ggX11_tries_X11_roomsOf : GoodIn wsX11_tries wsX11_roomsOf := goodIn_r _ [31, 32, 59, 60, 61, 62, 63, 64, 65, 66, 67, 68, 69, 70, 71, 72, 73, 74, 75, 76, 77, 78, 79, 80, 81, 82, 83, 84, 85, 86, 87, 88, 89, 90, 91, 92, 93, 94, 95, 96, 97, 98, 99, 100, 101, 102, 103, 104, 105] (by decide +kernel) (by decide +kernel)
set_option maxRecDepth 20000 in
theorem gX11_tries_X11_roomsOf : GoodIn wsX11_tries (wsV RX11 137 RX11 yX11_roomsOf wsX11_roomsOf) := goodIn_app (goodIn_of _ (by decide +kernel)) ggX11_tries_X11_roomsOf
set_option maxRecDepth 20000 in
theorem ggX11_tries_X11_drawsPair : GoodIn wsX11_tries wsX11_drawsPair := goodIn_r _ [36, 37, 4, 38, 5, 39, 40, 41, 42, 9, 43, 3, 44, 45, 59, 60, 61, 62, 63, 64, 65, 66, 67, 68, 69, 70, 71, 72, 73, 74, 75, 76, 77, 78, 79, 80, 81, 82, 83, 84, 85, 86, 87, 88, 89, 90, 91, 92, 93, 94, 95, 96, 97, 98, 99, 100, 101, 102, 103, 104, 105] (by decide +kernel) (by decide +kernel)
set_option maxRecDepth 20000 in
theorem gX11_tries_X11_drawsPair : GoodIn wsX11_tries (wsV RX11 141 RX11 yX11_drawsPair wsX11_drawsPair) := goodIn_app (goodIn_of _ (by decide +kernel)) ggX11_tries_X11_drawsPair
set_option maxRecDepth 20000 in
theorem ggX11_tries_X11_clashes : GoodIn wsX11_tries wsX11_clashes := goodIn_r _ [49, 50, 51, 28, 29, 30, 9, 31, 32, 52, 53, 54, 55, 19, 20, 21, 22, 23, 56, 57, 58, 38, 59, 60, 61, 62, 63, 64, 65, 66, 67, 68, 69, 70, 71, 72, 73, 74, 75, 76, 77, 78, 79, 80, 81, 82, 83, 84, 85, 86, 87, 88, 89, 90, 91, 92, 93, 94, 95, 96, 97, 98, 99, 100, 101, 102, 103, 104, 105] (by decide +kernel) (by decide +kernel)
set_option maxRecDepth 20000 in
theorem gX11_tries_X11_clashes : GoodIn wsX11_tries (wsV RX11 144 RX11 yX11_clashes wsX11_clashes) := goodIn_app (goodIn_of _ (by decide +kernel)) ggX11_tries_X11_clashes
theorem dX11_tries_0 : decode cX11_tries 0 = .ok (.aload_n 0, 1) := by decide +kernel
theorem dX11_tries_1 : decode cX11_tries 1 = .ok (.iconst 0, 1) := by decide +kernel
theorem dX11_tries_2 : decode cX11_tries 2 = .ok (.putfield 73, 3) := by decide +kernel
theorem dX11_tries_5 : decode cX11_tries 5 = .ok (.aload_n 0, 1) := by decide +kernel
theorem dX11_tries_6 : decode cX11_tries 6 = .ok (.iload_n 1, 1) := by decide +kernel
theorem dX11_tries_7 : decode cX11_tries 7 = .ok (.iload_n 2, 1) := by decide +kernel
theorem dX11_tries_8 : decode cX11_tries 8 = .ok (.invokevirtual 246, 3) := by decide +kernel
theorem dX11_tries_11 : decode cX11_tries 11 = .ok (.ifCond .eq 35, 3) := by decide +kernel
theorem dX11_tries_14 : decode cX11_tries 14 = .ok (.iload_n 3, 1) := by decide +kernel
theorem dX11_tries_15 : decode cX11_tries 15 = .ok (.i2l, 1) := by decide +kernel
theorem dX11_tries_16 : decode cX11_tries 16 = .ok (.lconst 1, 1) := by decide +kernel
theorem dX11_tries_17 : decode cX11_tries 17 = .ok (.ldc2_w 186, 3) := by decide +kernel
theorem dX11_tries_20 : decode cX11_tries 20 = .ok (.invokestatic 83, 3) := by decide +kernel
theorem dX11_tries_23 : decode cX11_tries 23 = .ok (.ifCond .eq 23, 3) := by decide +kernel
theorem dX11_tries_26 : decode cX11_tries 26 = .ok (.iload 6, 2) := by decide +kernel
theorem dX11_tries_28 : decode cX11_tries 28 = .ok (.i2l, 1) := by decide +kernel
theorem dX11_tries_29 : decode cX11_tries 29 = .ok (.lconst 0, 1) := by decide +kernel
theorem dX11_tries_30 : decode cX11_tries 30 = .ok (.lconst 1, 1) := by decide +kernel
theorem dX11_tries_31 : decode cX11_tries 31 = .ok (.invokestatic 83, 3) := by decide +kernel
theorem dX11_tries_34 : decode cX11_tries 34 = .ok (.ifCond .eq 12, 3) := by decide +kernel
theorem dX11_tries_37 : decode cX11_tries 37 = .ok (.aload_n 0, 1) := by decide +kernel
theorem dX11_tries_38 : decode cX11_tries 38 = .ok (.iload_n 1, 1) := by decide +kernel
theorem dX11_tries_39 : decode cX11_tries 39 = .ok (.iload_n 2, 1) := by decide +kernel
theorem dX11_tries_40 : decode cX11_tries 40 = .ok (.invokevirtual 137, 3) := by decide +kernel
theorem dX11_tries_43 : decode cX11_tries 43 = .ok (.ifCond .ne 6, 3) := by decide +kernel
theorem dX11_tries_46 : decode cX11_tries 46 = .ok (.bipush (-2), 2) := by decide +kernel
theorem dX11_tries_48 : decode cX11_tries 48 = .ok (.ireturn, 1) := by decide +kernel
theorem dX11_tries_49 : decode cX11_tries 49 = .ok (.aload_n 0, 1) := by decide +kernel
theorem dX11_tries_50 : decode cX11_tries 50 = .ok (.lload 4, 2) := by decide +kernel
theorem dX11_tries_52 : decode cX11_tries 52 = .ok (.putfield 105, 3) := by decide +kernel
theorem dX11_tries_55 : decode cX11_tries 55 = .ok (.iconst (-1), 1) := by decide +kernel
theorem dX11_tries_56 : decode cX11_tries 56 = .ok (.istore 7, 2) := by decide +kernel
theorem dX11_tries_58 : decode cX11_tries 58 = .ok (.iconst 0, 1) := by decide +kernel
theorem dX11_tries_59 : decode cX11_tries 59 = .ok (.istore 8, 2) := by decide +kernel
theorem dX11_tries_61 : decode cX11_tries 61 = .ok (.iconst 0, 1) := by decide +kernel
theorem dX11_tries_62 : decode cX11_tries 62 = .ok (.istore 9, 2) := by decide +kernel
theorem dX11_tries_64 : decode cX11_tries 64 = .ok (.iload 9, 2) := by decide +kernel
theorem dX11_tries_66 : decode cX11_tries 66 = .ok (.iload_n 3, 1) := by decide +kernel
theorem dX11_tries_67 : decode cX11_tries 67 = .ok (.if_icmp .ge 51, 3) := by decide +kernel
theorem dX11_tries_70 : decode cX11_tries 70 = .ok (.aload_n 0, 1) := by decide +kernel
theorem dX11_tries_71 : decode cX11_tries 71 = .ok (.invokevirtual 141, 3) := by decide +kernel
theorem dX11_tries_74 : decode cX11_tries 74 = .ok (.aload_n 0, 1) := by decide +kernel
theorem dX11_tries_75 : decode cX11_tries 75 = .ok (.iload_n 1, 1) := by decide +kernel
theorem dX11_tries_76 : decode cX11_tries 76 = .ok (.iload_n 2, 1) := by decide +kernel
theorem dX11_tries_77 : decode cX11_tries 77 = .ok (.aload_n 0, 1) := by decide +kernel
theorem dX11_tries_78 : decode cX11_tries 78 = .ok (.getfield 117, 3) := by decide +kernel
theorem dX11_tries_81 : decode cX11_tries 81 = .ok (.aload_n 0, 1) := by decide +kernel
theorem dX11_tries_82 : decode cX11_tries 82 = .ok (.getfield 120, 3) := by decide +kernel
theorem dX11_tries_85 : decode cX11_tries 85 = .ok (.invokevirtual 144, 3) := by decide +kernel
theorem dX11_tries_88 : decode cX11_tries 88 = .ok (.ifCond .le 6, 3) := by decide +kernel
theorem dX11_tries_91 : decode cX11_tries 91 = .ok (.goto 21, 3) := by decide +kernel
theorem dX11_tries_94 : decode cX11_tries 94 = .ok (.iload 7, 2) := by decide +kernel
theorem dX11_tries_96 : decode cX11_tries 96 = .ok (.iconst (-1), 1) := by decide +kernel
theorem dX11_tries_97 : decode cX11_tries 97 = .ok (.if_icmp .ne 8, 3) := by decide +kernel
theorem dX11_tries_100 : decode cX11_tries 100 = .ok (.iload 9, 2) := by decide +kernel
theorem dX11_tries_102 : decode cX11_tries 102 = .ok (.goto 5, 3) := by decide +kernel
theorem dX11_tries_105 : decode cX11_tries 105 = .ok (.iload 7, 2) := by decide +kernel
theorem dX11_tries_107 : decode cX11_tries 107 = .ok (.istore 7, 2) := by decide +kernel
theorem dX11_tries_109 : decode cX11_tries 109 = .ok (.iinc 8 1, 3) := by decide +kernel
theorem dX11_tries_112 : decode cX11_tries 112 = .ok (.iinc 9 1, 3) := by decide +kernel
theorem dX11_tries_115 : decode cX11_tries 115 = .ok (.goto (-51), 3) := by decide +kernel
theorem dX11_tries_118 : decode cX11_tries 118 = .ok (.iload 6, 2) := by decide +kernel
theorem dX11_tries_120 : decode cX11_tries 120 = .ok (.ifCond .ne 8, 3) := by decide +kernel
theorem dX11_tries_123 : decode cX11_tries 123 = .ok (.iload 7, 2) := by decide +kernel
theorem dX11_tries_125 : decode cX11_tries 125 = .ok (.goto 5, 3) := by decide +kernel
theorem dX11_tries_128 : decode cX11_tries 128 = .ok (.iload 8, 2) := by decide +kernel
theorem dX11_tries_130 : decode cX11_tries 130 = .ok (.ireturn, 1) := by decide +kernel
set_option maxRecDepth 20000 in
theorem ggX11_best_X11_isThere : GoodIn wsX11_best wsX11_isThere := goodIn_r _ [12, 13, 14, 15, 11, 16, 17, 18, 19, 20, 21, 56, 57, 58, 59, 60, 61, 62, 63, 64, 65, 66, 67, 68, 69, 70, 71, 72, 73, 74, 75, 76, 77, 78, 79, 80, 81, 82, 83, 84, 85, 86, 87, 88, 89, 90, 91, 92, 93, 94, 95, 96, 97, 98, 99, 100, 101, 102] (by decide +kernel) (by decide +kernel)
set_option maxRecDepth 20000 in
theorem gX11_best_X11_isThere : GoodIn wsX11_best (wsV RX11 222 RX11 yX11_isThere wsX11_isThere) := goodIn_app (goodIn_of _ (by decide +kernel)) ggX11_best_X11_isThere
set_option maxRecDepth 20000 in
theorem ggX11_best_X11_isIn : GoodIn wsX11_best wsX11_isIn := goodIn_r _ [16] (by decide +kernel) (by decide +kernel)
set_option maxRecDepth 20000 in
theorem gX11_best_X11_isIn : GoodIn wsX11_best (va_wsS RX11 83 yX11_isIn wsX11_isIn) := goodIn_app (goodIn_of _ (by decide +kernel)) ggX11_best_X11_isIn
set_option maxRecDepth 20000 in
theorem ggX11_best_X11_drawsPair : GoodIn wsX11_best wsX11_drawsPair := goodIn_r _ [25, 26, 6, 27, 7, 28, 29, 30, 31, 11, 32, 5, 33, 34, 56, 57, 58, 59, 60, 61, 62, 63, 64, 65, 66, 67, 68, 69, 70, 71, 72, 73, 74, 75, 76, 77, 78, 79, 80, 81, 82, 83, 84, 85, 86, 87, 88, 89, 90, 91, 92, 93, 94, 95, 96, 97, 98, 99, 100, 101, 102] (by decide +kernel) (by decide +kernel)
set_option maxRecDepth 20000 in
theorem gX11_best_X11_drawsPair : GoodIn wsX11_best (wsV RX11 141 RX11 yX11_drawsPair wsX11_drawsPair) := goodIn_app (goodIn_of _ (by decide +kernel)) ggX11_best_X11_drawsPair
set_option maxRecDepth 20000 in
theorem ggX11_best_X11_sumBy : GoodIn wsX11_best wsX11_sumBy := goodIn_r _ [38, 39, 40, 41, 42, 43, 44, 11, 45, 17, 18, 19, 20, 21, 46, 47, 48, 49, 50, 51, 52, 27, 56, 57, 58, 59, 60, 61, 62, 63, 64, 65, 66, 67, 68, 69, 70, 71, 72, 73, 74, 75, 76, 77, 78, 79, 80, 81, 82, 83, 84, 85, 86, 87, 88, 89, 90, 91, 92, 93, 94, 95, 96, 97, 98, 99, 100, 101, 102] (by decide +kernel) (by decide +kernel)
set_option maxRecDepth 20000 in
theorem gX11_best_X11_sumBy : GoodIn wsX11_best (wsV RX11 255 RX11 yX11_sumBy wsX11_sumBy) := goodIn_app (goodIn_of _ (by decide +kernel)) ggX11_best_X11_sumBy
set_option maxRecDepth 20000 in
theorem ggX11_best_X11_of : GoodIn wsX11_best wsX11_of := goodIn_r _ [20, 21, 56, 57, 58, 59, 60, 61, 62, 63, 64, 65, 66, 67, 68, 69, 70, 71, 72, 73, 74, 75, 76, 77, 78, 79, 80, 81, 82, 83, 84, 85, 86, 87, 88, 89, 90, 91, 92, 93, 94, 95, 96, 97, 98, 99, 100, 101, 102] (by decide +kernel) (by decide +kernel)
set_option maxRecDepth 20000 in
theorem gX11_best_X11_of : GoodIn wsX11_best (wsV RX11 89 RX11 yX11_of wsX11_of) := goodIn_app (goodIn_of _ (by decide +kernel)) ggX11_best_X11_of
set_option maxRecDepth 20000 in
theorem ggX11_best_X11_flag : GoodIn wsX11_best wsX11_flag := goodIn_r _ [55] (by decide +kernel) (by decide +kernel)
set_option maxRecDepth 20000 in
theorem gX11_best_X11_flag : GoodIn wsX11_best (va_wsS RX11 198 yX11_flag wsX11_flag) := goodIn_app (goodIn_of _ (by decide +kernel)) ggX11_best_X11_flag
theorem dX11_best_0 : decode cX11_best 0 = .ok (.aload_n 0, 1) := by decide +kernel
theorem dX11_best_1 : decode cX11_best 1 = .ok (.iconst 0, 1) := by decide +kernel
theorem dX11_best_2 : decode cX11_best 2 = .ok (.putfield 73, 3) := by decide +kernel
theorem dX11_best_5 : decode cX11_best 5 = .ok (.aload_n 0, 1) := by decide +kernel
theorem dX11_best_6 : decode cX11_best 6 = .ok (.iload_n 1, 1) := by decide +kernel
theorem dX11_best_7 : decode cX11_best 7 = .ok (.invokevirtual 222, 3) := by decide +kernel
theorem dX11_best_10 : decode cX11_best 10 = .ok (.ifCond .eq 28, 3) := by decide +kernel
theorem dX11_best_13 : decode cX11_best 13 = .ok (.iload_n 2, 1) := by decide +kernel
theorem dX11_best_14 : decode cX11_best 14 = .ok (.i2l, 1) := by decide +kernel
theorem dX11_best_15 : decode cX11_best 15 = .ok (.lconst 1, 1) := by decide +kernel
theorem dX11_best_16 : decode cX11_best 16 = .ok (.ldc2_w 186, 3) := by decide +kernel
theorem dX11_best_19 : decode cX11_best 19 = .ok (.invokestatic 83, 3) := by decide +kernel
theorem dX11_best_22 : decode cX11_best 22 = .ok (.ifCond .eq 16, 3) := by decide +kernel
theorem dX11_best_25 : decode cX11_best 25 = .ok (.iload 5, 2) := by decide +kernel
theorem dX11_best_27 : decode cX11_best 27 = .ok (.i2l, 1) := by decide +kernel
theorem dX11_best_28 : decode cX11_best 28 = .ok (.lconst 0, 1) := by decide +kernel
theorem dX11_best_29 : decode cX11_best 29 = .ok (.ldc2_w 210, 3) := by decide +kernel
theorem dX11_best_32 : decode cX11_best 32 = .ok (.invokestatic 83, 3) := by decide +kernel
theorem dX11_best_35 : decode cX11_best 35 = .ok (.ifCond .ne 7, 3) := by decide +kernel
theorem dX11_best_38 : decode cX11_best 38 = .ok (.ldc2_w 235, 3) := by decide +kernel
theorem dX11_best_41 : decode cX11_best 41 = .ok (.lreturn, 1) := by decide +kernel
theorem dX11_best_42 : decode cX11_best 42 = .ok (.aload_n 0, 1) := by decide +kernel
theorem dX11_best_43 : decode cX11_best 43 = .ok (.lload_n 3, 1) := by decide +kernel
theorem dX11_best_44 : decode cX11_best 44 = .ok (.putfield 105, 3) := by decide +kernel
theorem dX11_best_47 : decode cX11_best 47 = .ok (.iconst (-1), 1) := by decide +kernel
theorem dX11_best_48 : decode cX11_best 48 = .ok (.istore 6, 2) := by decide +kernel
theorem dX11_best_50 : decode cX11_best 50 = .ok (.iconst 0, 1) := by decide +kernel
theorem dX11_best_51 : decode cX11_best 51 = .ok (.istore 7, 2) := by decide +kernel
theorem dX11_best_53 : decode cX11_best 53 = .ok (.lconst 0, 1) := by decide +kernel
theorem dX11_best_54 : decode cX11_best 54 = .ok (.lstore 8, 2) := by decide +kernel
theorem dX11_best_56 : decode cX11_best 56 = .ok (.iconst 0, 1) := by decide +kernel
theorem dX11_best_57 : decode cX11_best 57 = .ok (.istore 10, 2) := by decide +kernel
theorem dX11_best_59 : decode cX11_best 59 = .ok (.iload 10, 2) := by decide +kernel
theorem dX11_best_61 : decode cX11_best 61 = .ok (.iload_n 2, 1) := by decide +kernel
theorem dX11_best_62 : decode cX11_best 62 = .ok (.if_icmp .ge 86, 3) := by decide +kernel
theorem dX11_best_65 : decode cX11_best 65 = .ok (.aload_n 0, 1) := by decide +kernel
theorem dX11_best_66 : decode cX11_best 66 = .ok (.invokevirtual 141, 3) := by decide +kernel
theorem dX11_best_69 : decode cX11_best 69 = .ok (.aload_n 0, 1) := by decide +kernel
theorem dX11_best_70 : decode cX11_best 70 = .ok (.iload_n 1, 1) := by decide +kernel
theorem dX11_best_71 : decode cX11_best 71 = .ok (.aload_n 0, 1) := by decide +kernel
theorem dX11_best_72 : decode cX11_best 72 = .ok (.getfield 117, 3) := by decide +kernel
theorem dX11_best_75 : decode cX11_best 75 = .ok (.aload_n 0, 1) := by decide +kernel
theorem dX11_best_76 : decode cX11_best 76 = .ok (.getfield 120, 3) := by decide +kernel
theorem dX11_best_79 : decode cX11_best 79 = .ok (.invokevirtual 255, 3) := by decide +kernel
theorem dX11_best_82 : decode cX11_best 82 = .ok (.lstore 11, 2) := by decide +kernel
theorem dX11_best_84 : decode cX11_best 84 = .ok (.iload 7, 2) := by decide +kernel
theorem dX11_best_86 : decode cX11_best 86 = .ok (.lload 11, 2) := by decide +kernel
theorem dX11_best_88 : decode cX11_best 88 = .ok (.aload_n 0, 1) := by decide +kernel
theorem dX11_best_89 : decode cX11_best 89 = .ok (.iload_n 1, 1) := by decide +kernel
theorem dX11_best_90 : decode cX11_best 90 = .ok (.bipush 14, 2) := by decide +kernel
theorem dX11_best_92 : decode cX11_best 92 = .ok (.invokevirtual 89, 3) := by decide +kernel
theorem dX11_best_95 : decode cX11_best 95 = .ok (.aload_n 0, 1) := by decide +kernel
theorem dX11_best_96 : decode cX11_best 96 = .ok (.iload_n 1, 1) := by decide +kernel
theorem dX11_best_97 : decode cX11_best 97 = .ok (.iconst 2, 1) := by decide +kernel
theorem dX11_best_98 : decode cX11_best 98 = .ok (.invokevirtual 89, 3) := by decide +kernel
theorem dX11_best_101 : decode cX11_best 101 = .ok (.lmul, 1) := by decide +kernel
theorem dX11_best_102 : decode cX11_best 102 = .ok (.lcmp, 1) := by decide +kernel
theorem dX11_best_103 : decode cX11_best 103 = .ok (.ifCond .gt 7, 3) := by decide +kernel
theorem dX11_best_106 : decode cX11_best 106 = .ok (.iconst 1, 1) := by decide +kernel
theorem dX11_best_107 : decode cX11_best 107 = .ok (.goto 4, 3) := by decide +kernel
theorem dX11_best_110 : decode cX11_best 110 = .ok (.iconst 0, 1) := by decide +kernel
theorem dX11_best_111 : decode cX11_best 111 = .ok (.invokestatic 198, 3) := by decide +kernel
theorem dX11_best_114 : decode cX11_best 114 = .ok (.iadd, 1) := by decide +kernel
theorem dX11_best_115 : decode cX11_best 115 = .ok (.istore 7, 2) := by decide +kernel
theorem dX11_best_117 : decode cX11_best 117 = .ok (.iload 6, 2) := by decide +kernel
theorem dX11_best_119 : decode cX11_best 119 = .ok (.iconst (-1), 1) := by decide +kernel
theorem dX11_best_120 : decode cX11_best 120 = .ok (.if_icmp .eq 14, 3) := by decide +kernel
theorem dX11_best_123 : decode cX11_best 123 = .ok (.lload 11, 2) := by decide +kernel
theorem dX11_best_125 : decode cX11_best 125 = .ok (.lload 8, 2) := by decide +kernel
theorem dX11_best_127 : decode cX11_best 127 = .ok (.lcmp, 1) := by decide +kernel
theorem dX11_best_128 : decode cX11_best 128 = .ok (.ifCond .lt 6, 3) := by decide +kernel
theorem dX11_best_131 : decode cX11_best 131 = .ok (.goto 11, 3) := by decide +kernel
theorem dX11_best_134 : decode cX11_best 134 = .ok (.iload 10, 2) := by decide +kernel
theorem dX11_best_136 : decode cX11_best 136 = .ok (.istore 6, 2) := by decide +kernel
theorem dX11_best_138 : decode cX11_best 138 = .ok (.lload 11, 2) := by decide +kernel
theorem dX11_best_140 : decode cX11_best 140 = .ok (.lstore 8, 2) := by decide +kernel
theorem dX11_best_142 : decode cX11_best 142 = .ok (.iinc 10 1, 3) := by decide +kernel
theorem dX11_best_145 : decode cX11_best 145 = .ok (.goto (-86), 3) := by decide +kernel
theorem dX11_best_148 : decode cX11_best 148 = .ok (.iload 5, 2) := by decide +kernel
theorem dX11_best_150 : decode cX11_best 150 = .ok (.ifCond .ne 9, 3) := by decide +kernel
theorem dX11_best_153 : decode cX11_best 153 = .ok (.iload 6, 2) := by decide +kernel
theorem dX11_best_155 : decode cX11_best 155 = .ok (.i2l, 1) := by decide +kernel
theorem dX11_best_156 : decode cX11_best 156 = .ok (.goto 17, 3) := by decide +kernel
theorem dX11_best_159 : decode cX11_best 159 = .ok (.iload 5, 2) := by decide +kernel
theorem dX11_best_161 : decode cX11_best 161 = .ok (.iconst 1, 1) := by decide +kernel
theorem dX11_best_162 : decode cX11_best 162 = .ok (.if_icmp .ne 8, 3) := by decide +kernel
theorem dX11_best_165 : decode cX11_best 165 = .ok (.lload 8, 2) := by decide +kernel
theorem dX11_best_167 : decode cX11_best 167 = .ok (.goto 6, 3) := by decide +kernel
theorem dX11_best_170 : decode cX11_best 170 = .ok (.iload 7, 2) := by decide +kernel
theorem dX11_best_172 : decode cX11_best 172 = .ok (.i2l, 1) := by decide +kernel
theorem dX11_best_173 : decode cX11_best 173 = .ok (.lreturn, 1) := by decide +kernel
set_option maxRecDepth 20000 in
theorem ggX11_nearest_X11_isThere : GoodIn wsX11_nearest wsX11_isThere := goodIn_r _ [7, 8, 9, 10, 6, 11, 12, 13, 14, 15, 16, 29, 30, 31, 32, 33, 34, 35, 36, 37, 38, 39, 40, 41, 42, 43, 44, 45, 46, 47, 48, 49, 50, 51, 52, 53, 54, 55, 56, 57, 58, 59, 60, 61, 62, 63, 64, 65, 66, 67, 68, 69, 70, 71, 72, 73, 74, 75] (by decide +kernel) (by decide +kernel)
set_option maxRecDepth 20000 in
theorem gX11_nearest_X11_isThere : GoodIn wsX11_nearest (wsV RX11 222 RX11 yX11_isThere wsX11_isThere) := goodIn_app (goodIn_of _ (by decide +kernel)) ggX11_nearest_X11_isThere
set_option maxRecDepth 20000 in
theorem ggX11_nearest_X11_isKey : GoodIn wsX11_nearest wsX11_isKey := goodIn_r _ [19, 20, 9, 10, 6, 11] (by decide +kernel) (by decide +kernel)
set_option maxRecDepth 20000 in
theorem gX11_nearest_X11_isKey : GoodIn wsX11_nearest (va_wsS RX11 226 yX11_isKey wsX11_isKey) := goodIn_app (goodIn_of _ (by decide +kernel)) ggX11_nearest_X11_isKey
set_option maxRecDepth 20000 in
theorem ggX11_nearest_X11_manyOf : GoodIn wsX11_nearest wsX11_manyOf := goodIn_r _ [24, 12, 13, 14, 6, 15, 16, 29, 30, 31, 32, 33, 34, 35, 36, 37, 38, 39, 40, 41, 42, 43, 44, 45, 46, 47, 48, 49, 50, 51, 52, 53, 54, 55, 56, 57, 58, 59, 60, 61, 62, 63, 64, 65, 66, 67, 68, 69, 70, 71, 72, 73, 74, 75] (by decide +kernel) (by decide +kernel)
set_option maxRecDepth 20000 in
theorem gX11_nearest_X11_manyOf : GoodIn wsX11_nearest (wsV RX11 95 RX11 yX11_manyOf wsX11_manyOf) := goodIn_app (goodIn_of _ (by decide +kernel)) ggX11_nearest_X11_manyOf
set_option maxRecDepth 20000 in
theorem ggX11_nearest_X11_whereOf : GoodIn wsX11_nearest wsX11_whereOf := goodIn_r _ [28, 2, 21, 22, 23, 6, 24, 12, 13, 14, 15, 16, 29, 30, 31, 32, 33, 34, 35, 36, 37, 38, 39, 40, 41, 42, 43, 44, 45, 46, 47, 48, 49, 50, 51, 52, 53, 54, 55, 56, 57, 58, 59, 60, 61, 62, 63, 64, 65, 66, 67, 68, 69, 70, 71, 72, 73, 74, 75] (by decide +kernel) (by decide +kernel)
set_option maxRecDepth 20000 in
theorem gX11_nearest_X11_whereOf : GoodIn wsX11_nearest (wsV RX11 99 RX11 yX11_whereOf wsX11_whereOf) := goodIn_app (goodIn_of _ (by decide +kernel)) ggX11_nearest_X11_whereOf
theorem dX11_nearest_0 : decode cX11_nearest 0 = .ok (.aload_n 0, 1) := by decide +kernel
theorem dX11_nearest_1 : decode cX11_nearest 1 = .ok (.iconst 0, 1) := by decide +kernel
theorem dX11_nearest_2 : decode cX11_nearest 2 = .ok (.putfield 73, 3) := by decide +kernel
theorem dX11_nearest_5 : decode cX11_nearest 5 = .ok (.aload_n 0, 1) := by decide +kernel
theorem dX11_nearest_6 : decode cX11_nearest 6 = .ok (.iload_n 1, 1) := by decide +kernel
theorem dX11_nearest_7 : decode cX11_nearest 7 = .ok (.invokevirtual 222, 3) := by decide +kernel
theorem dX11_nearest_10 : decode cX11_nearest 10 = .ok (.ifCond .eq 18, 3) := by decide +kernel
theorem dX11_nearest_13 : decode cX11_nearest 13 = .ok (.iload_n 2, 1) := by decide +kernel
theorem dX11_nearest_14 : decode cX11_nearest 14 = .ok (.invokestatic 226, 3) := by decide +kernel
theorem dX11_nearest_17 : decode cX11_nearest 17 = .ok (.ifCond .eq 11, 3) := by decide +kernel
theorem dX11_nearest_20 : decode cX11_nearest 20 = .ok (.aload_n 0, 1) := by decide +kernel
theorem dX11_nearest_21 : decode cX11_nearest 21 = .ok (.iload_n 1, 1) := by decide +kernel
theorem dX11_nearest_22 : decode cX11_nearest 22 = .ok (.invokevirtual 95, 3) := by decide +kernel
theorem dX11_nearest_25 : decode cX11_nearest 25 = .ok (.ifCond .ne 5, 3) := by decide +kernel
theorem dX11_nearest_28 : decode cX11_nearest 28 = .ok (.iconst (-1), 1) := by decide +kernel
theorem dX11_nearest_29 : decode cX11_nearest 29 = .ok (.ireturn, 1) := by decide +kernel
theorem dX11_nearest_30 : decode cX11_nearest 30 = .ok (.aload_n 0, 1) := by decide +kernel
theorem dX11_nearest_31 : decode cX11_nearest 31 = .ok (.iload_n 1, 1) := by decide +kernel
theorem dX11_nearest_32 : decode cX11_nearest 32 = .ok (.iload_n 2, 1) := by decide +kernel
theorem dX11_nearest_33 : decode cX11_nearest 33 = .ok (.i2l, 1) := by decide +kernel
theorem dX11_nearest_34 : decode cX11_nearest 34 = .ok (.invokevirtual 99, 3) := by decide +kernel
theorem dX11_nearest_37 : decode cX11_nearest 37 = .ok (.istore_n 3, 1) := by decide +kernel
theorem dX11_nearest_38 : decode cX11_nearest 38 = .ok (.iload_n 3, 1) := by decide +kernel
theorem dX11_nearest_39 : decode cX11_nearest 39 = .ok (.aload_n 0, 1) := by decide +kernel
theorem dX11_nearest_40 : decode cX11_nearest 40 = .ok (.iload_n 1, 1) := by decide +kernel
theorem dX11_nearest_41 : decode cX11_nearest 41 = .ok (.invokevirtual 95, 3) := by decide +kernel
theorem dX11_nearest_44 : decode cX11_nearest 44 = .ok (.if_icmp .ne 18, 3) := by decide +kernel
theorem dX11_nearest_47 : decode cX11_nearest 47 = .ok (.aload_n 0, 1) := by decide +kernel
theorem dX11_nearest_48 : decode cX11_nearest 48 = .ok (.getfield 17, 3) := by decide +kernel
theorem dX11_nearest_51 : decode cX11_nearest 51 = .ok (.sipush 160, 3) := by decide +kernel
theorem dX11_nearest_54 : decode cX11_nearest 54 = .ok (.iload_n 1, 1) := by decide +kernel
theorem dX11_nearest_55 : decode cX11_nearest 55 = .ok (.imul, 1) := by decide +kernel
theorem dX11_nearest_56 : decode cX11_nearest 56 = .ok (.iload_n 3, 1) := by decide +kernel
theorem dX11_nearest_57 : decode cX11_nearest 57 = .ok (.iadd, 1) := by decide +kernel
theorem dX11_nearest_58 : decode cX11_nearest 58 = .ok (.iconst 1, 1) := by decide +kernel
theorem dX11_nearest_59 : decode cX11_nearest 59 = .ok (.isub, 1) := by decide +kernel
theorem dX11_nearest_60 : decode cX11_nearest 60 = .ok (.iaload, 1) := by decide +kernel
theorem dX11_nearest_61 : decode cX11_nearest 61 = .ok (.ireturn, 1) := by decide +kernel
theorem dX11_nearest_62 : decode cX11_nearest 62 = .ok (.aload_n 0, 1) := by decide +kernel
theorem dX11_nearest_63 : decode cX11_nearest 63 = .ok (.getfield 17, 3) := by decide +kernel
theorem dX11_nearest_66 : decode cX11_nearest 66 = .ok (.sipush 160, 3) := by decide +kernel
theorem dX11_nearest_69 : decode cX11_nearest 69 = .ok (.iload_n 1, 1) := by decide +kernel
theorem dX11_nearest_70 : decode cX11_nearest 70 = .ok (.imul, 1) := by decide +kernel
theorem dX11_nearest_71 : decode cX11_nearest 71 = .ok (.iload_n 3, 1) := by decide +kernel
theorem dX11_nearest_72 : decode cX11_nearest 72 = .ok (.iadd, 1) := by decide +kernel
theorem dX11_nearest_73 : decode cX11_nearest 73 = .ok (.iaload, 1) := by decide +kernel
theorem dX11_nearest_74 : decode cX11_nearest 74 = .ok (.istore 4, 2) := by decide +kernel
theorem dX11_nearest_76 : decode cX11_nearest 76 = .ok (.iload_n 3, 1) := by decide +kernel
theorem dX11_nearest_77 : decode cX11_nearest 77 = .ok (.ifCond .ne 6, 3) := by decide +kernel
theorem dX11_nearest_80 : decode cX11_nearest 80 = .ok (.iload 4, 2) := by decide +kernel
theorem dX11_nearest_82 : decode cX11_nearest 82 = .ok (.ireturn, 1) := by decide +kernel
theorem dX11_nearest_83 : decode cX11_nearest 83 = .ok (.aload_n 0, 1) := by decide +kernel
theorem dX11_nearest_84 : decode cX11_nearest 84 = .ok (.getfield 17, 3) := by decide +kernel
theorem dX11_nearest_87 : decode cX11_nearest 87 = .ok (.sipush 160, 3) := by decide +kernel
theorem dX11_nearest_90 : decode cX11_nearest 90 = .ok (.iload_n 1, 1) := by decide +kernel
theorem dX11_nearest_91 : decode cX11_nearest 91 = .ok (.imul, 1) := by decide +kernel
theorem dX11_nearest_92 : decode cX11_nearest 92 = .ok (.iload_n 3, 1) := by decide +kernel
theorem dX11_nearest_93 : decode cX11_nearest 93 = .ok (.iadd, 1) := by decide +kernel
theorem dX11_nearest_94 : decode cX11_nearest 94 = .ok (.iconst 1, 1) := by decide +kernel
theorem dX11_nearest_95 : decode cX11_nearest 95 = .ok (.isub, 1) := by decide +kernel
theorem dX11_nearest_96 : decode cX11_nearest 96 = .ok (.iaload, 1) := by decide +kernel
theorem dX11_nearest_97 : decode cX11_nearest 97 = .ok (.istore 5, 2) := by decide +kernel
theorem dX11_nearest_99 : decode cX11_nearest 99 = .ok (.iload_n 2, 1) := by decide +kernel
theorem dX11_nearest_100 : decode cX11_nearest 100 = .ok (.iload 5, 2) := by decide +kernel
theorem dX11_nearest_102 : decode cX11_nearest 102 = .ok (.isub, 1) := by decide +kernel
theorem dX11_nearest_103 : decode cX11_nearest 103 = .ok (.iload 4, 2) := by decide +kernel
theorem dX11_nearest_105 : decode cX11_nearest 105 = .ok (.iload_n 2, 1) := by decide +kernel
theorem dX11_nearest_106 : decode cX11_nearest 106 = .ok (.isub, 1) := by decide +kernel
theorem dX11_nearest_107 : decode cX11_nearest 107 = .ok (.if_icmp .gt 8, 3) := by decide +kernel
theorem dX11_nearest_110 : decode cX11_nearest 110 = .ok (.iload 5, 2) := by decide +kernel
theorem dX11_nearest_112 : decode cX11_nearest 112 = .ok (.goto 5, 3) := by decide +kernel
theorem dX11_nearest_115 : decode cX11_nearest 115 = .ok (.iload 4, 2) := by decide +kernel
theorem dX11_nearest_117 : decode cX11_nearest 117 = .ok (.ireturn, 1) := by decide +kernel
set_option maxRecDepth 20000 in
theorem ggX11_would_X11_isThere : GoodIn wsX11_would wsX11_isThere := goodIn_r _ [6, 7, 8, 9, 5, 10, 11, 12, 13, 14, 15, 68, 69, 70, 71, 72, 73, 74, 75, 76, 77, 78, 79, 80, 81, 82, 83, 84, 85, 86, 87, 88, 89, 90, 91, 92, 93, 94, 95, 96, 97, 98, 99, 100, 101, 102, 103, 104, 105, 106, 107, 108, 109, 110, 111, 112, 113, 114] (by decide +kernel) (by decide +kernel)
set_option maxRecDepth 20000 in
theorem gX11_would_X11_isThere : GoodIn wsX11_would (wsV RX11 222 RX11 yX11_isThere wsX11_isThere) := goodIn_app (goodIn_of _ (by decide +kernel)) ggX11_would_X11_isThere
set_option maxRecDepth 20000 in
theorem ggX11_would_X11_isKey : GoodIn wsX11_would wsX11_isKey := goodIn_r _ [18, 19, 8, 9, 5, 10] (by decide +kernel) (by decide +kernel)
set_option maxRecDepth 20000 in
theorem gX11_would_X11_isKey : GoodIn wsX11_would (va_wsS RX11 226 yX11_isKey wsX11_isKey) := goodIn_app (goodIn_of _ (by decide +kernel)) ggX11_would_X11_isKey
set_option maxRecDepth 20000 in
theorem ggX11_would_X11_isFull : GoodIn wsX11_would wsX11_isFull := goodIn_r _ [23, 24, 25, 26, 5, 27, 11, 12, 13, 14, 15, 28, 29, 30, 31, 32, 33, 34, 35, 36, 68, 69, 70, 71, 72, 73, 74, 75, 76, 77, 78, 79, 80, 81, 82, 83, 84, 85, 86, 87, 88, 89, 90, 91, 92, 93, 94, 95, 96, 97, 98, 99, 100, 101, 102, 103, 104, 105, 106, 107, 108, 109, 110, 111, 112, 113, 114] (by decide +kernel) (by decide +kernel)
set_option maxRecDepth 20000 in
theorem gX11_would_X11_isFull : GoodIn wsX11_would (wsV RX11 229 RX11 yX11_isFull wsX11_isFull) := goodIn_app (goodIn_of _ (by decide +kernel)) ggX11_would_X11_isFull
set_option maxRecDepth 20000 in
theorem ggX11_would_X11_way : GoodIn wsX11_would wsX11_way := goodIn_r _ [40, 41, 42, 43, 28, 29, 30, 5, 31, 32, 33, 34, 35, 36, 24, 25, 26, 27, 11, 12, 13, 14, 15, 44, 45, 46, 47, 48, 49, 50, 51, 52, 53, 54, 55, 56, 57, 58, 59, 60, 61, 62, 63, 64, 65, 66, 67, 68, 69, 70, 71, 72, 73, 74, 75, 76, 77, 78, 79, 80, 81, 82, 83, 84, 85, 86, 87, 88, 89, 90, 91, 92, 93, 94, 95, 96, 97, 98, 99, 100, 101, 102, 103, 104, 105, 106, 107, 108, 109, 110, 111, 112, 113, 114] (by decide +kernel) (by decide +kernel)
set_option maxRecDepth 20000 in
theorem gX11_would_X11_way : GoodIn wsX11_would (wsV RX11 212 RX11 yX11_way wsX11_way) := goodIn_app (goodIn_of _ (by decide +kernel)) ggX11_would_X11_way
theorem dX11_would_0 : decode cX11_would 0 = .ok (.aload_n 0, 1) := by decide +kernel
theorem dX11_would_1 : decode cX11_would 1 = .ok (.iconst 0, 1) := by decide +kernel
theorem dX11_would_2 : decode cX11_would 2 = .ok (.putfield 73, 3) := by decide +kernel
theorem dX11_would_5 : decode cX11_would 5 = .ok (.aload_n 0, 1) := by decide +kernel
theorem dX11_would_6 : decode cX11_would 6 = .ok (.iload_n 1, 1) := by decide +kernel
theorem dX11_would_7 : decode cX11_would 7 = .ok (.invokevirtual 222, 3) := by decide +kernel
theorem dX11_would_10 : decode cX11_would 10 = .ok (.ifCond .eq 10, 3) := by decide +kernel
theorem dX11_would_13 : decode cX11_would 13 = .ok (.iload_n 2, 1) := by decide +kernel
theorem dX11_would_14 : decode cX11_would 14 = .ok (.invokestatic 226, 3) := by decide +kernel
theorem dX11_would_17 : decode cX11_would 17 = .ok (.ifCond .ne 6, 3) := by decide +kernel
theorem dX11_would_20 : decode cX11_would 20 = .ok (.bipush (-2), 2) := by decide +kernel
theorem dX11_would_22 : decode cX11_would 22 = .ok (.ireturn, 1) := by decide +kernel
theorem dX11_would_23 : decode cX11_would 23 = .ok (.aload_n 0, 1) := by decide +kernel
theorem dX11_would_24 : decode cX11_would 24 = .ok (.iload_n 1, 1) := by decide +kernel
theorem dX11_would_25 : decode cX11_would 25 = .ok (.iload_n 2, 1) := by decide +kernel
theorem dX11_would_26 : decode cX11_would 26 = .ok (.invokevirtual 229, 3) := by decide +kernel
theorem dX11_would_29 : decode cX11_would 29 = .ok (.ifCond .eq 8, 3) := by decide +kernel
theorem dX11_would_32 : decode cX11_would 32 = .ok (.bipush (-3), 2) := by decide +kernel
theorem dX11_would_34 : decode cX11_would 34 = .ok (.goto 9, 3) := by decide +kernel
theorem dX11_would_37 : decode cX11_would 37 = .ok (.aload_n 0, 1) := by decide +kernel
theorem dX11_would_38 : decode cX11_would 38 = .ok (.iload_n 1, 1) := by decide +kernel
theorem dX11_would_39 : decode cX11_would 39 = .ok (.iload_n 2, 1) := by decide +kernel
theorem dX11_would_40 : decode cX11_would 40 = .ok (.invokevirtual 212, 3) := by decide +kernel
theorem dX11_would_43 : decode cX11_would 43 = .ok (.ireturn, 1) := by decide +kernel
set_option maxRecDepth 20000 in
theorem ggX11_frozen_X11_isThere : GoodIn wsX11_frozen wsX11_isThere := goodIn_r _ [11, 12, 13, 14, 10, 15, 16, 17, 18, 19, 20, 95, 96, 97, 98, 99, 100, 101, 102, 103, 104, 105, 106, 107, 108, 109, 110, 111, 112, 113, 114, 115, 116, 117, 118, 119, 120, 121, 122, 123, 124, 125, 126, 127, 128, 129, 130, 131, 132, 133, 134, 135, 136, 137, 138, 139, 140, 141] (by decide +kernel) (by decide +kernel)
set_option maxRecDepth 20000 in
theorem gX11_frozen_X11_isThere : GoodIn wsX11_frozen (wsV RX11 222 RX11 yX11_isThere wsX11_isThere) := goodIn_app (goodIn_of _ (by decide +kernel)) ggX11_frozen_X11_isThere
set_option maxRecDepth 20000 in
theorem ggX11_frozen_X11_isIn : GoodIn wsX11_frozen wsX11_isIn := goodIn_r _ [15] (by decide +kernel) (by decide +kernel)
set_option maxRecDepth 20000 in
theorem gX11_frozen_X11_isIn : GoodIn wsX11_frozen (va_wsS RX11 83 yX11_isIn wsX11_isIn) := goodIn_app (goodIn_of _ (by decide +kernel)) ggX11_frozen_X11_isIn
set_option maxRecDepth 20000 in
theorem ggX11_frozen_X11_freezes : GoodIn wsX11_frozen wsX11_freezes := goodIn_r _ [24, 25, 26, 27, 28, 29, 12, 5, 6, 30, 31, 32, 10, 33, 16, 17, 18, 19, 20, 34, 35, 36, 37, 38, 39, 40, 41, 42, 43, 44, 45, 46, 47, 48, 49, 50, 51, 52, 53, 54, 55, 56, 57, 58, 59, 60, 61, 62, 63, 64, 65, 66, 67, 68, 69, 70, 71, 72, 73, 74, 75, 76, 77, 78, 79, 80, 81, 82, 83, 84, 85, 86, 95, 96, 97, 98, 99, 100, 101, 102, 103, 104, 105, 106, 107, 108, 109, 110, 111, 112, 113, 114, 115, 116, 117, 118, 119, 120, 121, 122, 123, 124, 125, 126, 127, 128, 129, 130, 131, 132, 133, 134, 135, 136, 137, 138, 139, 140, 141] (by decide +kernel) (by decide +kernel)
set_option maxRecDepth 20000 in
theorem gX11_frozen_X11_freezes : GoodIn wsX11_frozen (wsV RX11 268 RX11 yX11_freezes wsX11_freezes) := goodIn_app (goodIn_of _ (by decide +kernel)) ggX11_frozen_X11_freezes
set_option maxRecDepth 20000 in
theorem ggX11_frozen_X11_of : GoodIn wsX11_frozen wsX11_of := goodIn_r _ [19, 20, 95, 96, 97, 98, 99, 100, 101, 102, 103, 104, 105, 106, 107, 108, 109, 110, 111, 112, 113, 114, 115, 116, 117, 118, 119, 120, 121, 122, 123, 124, 125, 126, 127, 128, 129, 130, 131, 132, 133, 134, 135, 136, 137, 138, 139, 140, 141] (by decide +kernel) (by decide +kernel)
set_option maxRecDepth 20000 in
theorem gX11_frozen_X11_of : GoodIn wsX11_frozen (wsV RX11 89 RX11 yX11_of wsX11_of) := goodIn_app (goodIn_of _ (by decide +kernel)) ggX11_frozen_X11_of
set_option maxRecDepth 20000 in
theorem ggX11_frozen_X11_manyOf : GoodIn wsX11_frozen wsX11_manyOf := goodIn_r _ [33, 16, 17, 18, 10, 19, 20, 95, 96, 97, 98, 99, 100, 101, 102, 103, 104, 105, 106, 107, 108, 109, 110, 111, 112, 113, 114, 115, 116, 117, 118, 119, 120, 121, 122, 123, 124, 125, 126, 127, 128, 129, 130, 131, 132, 133, 134, 135, 136, 137, 138, 139, 140, 141] (by decide +kernel) (by decide +kernel)
set_option maxRecDepth 20000 in
theorem gX11_frozen_X11_manyOf : GoodIn wsX11_frozen (wsV RX11 95 RX11 yX11_manyOf wsX11_manyOf) := goodIn_app (goodIn_of _ (by decide +kernel)) ggX11_frozen_X11_manyOf
set_option maxRecDepth 20000 in
theorem ggX11_frozen_X11_frozenRoom : GoodIn wsX11_frozen wsX11_frozenRoom := goodIn_r _ [90, 55, 78, 91, 92, 93, 10, 94, 68, 69, 70, 71, 56, 95, 96, 97, 98, 99, 100, 101, 102, 103, 104, 105, 106, 107, 108, 109, 110, 111, 112, 113, 114, 115, 116, 117, 118, 119, 120, 121, 122, 123, 124, 125, 126, 127, 128, 129, 130, 131, 132, 133, 134, 135, 136, 137, 138, 139, 140, 141] (by decide +kernel) (by decide +kernel)
set_option maxRecDepth 20000 in
theorem gX11_frozen_X11_frozenRoom : GoodIn wsX11_frozen (wsV RX11 274 RX11 yX11_frozenRoom wsX11_frozenRoom) := goodIn_app (goodIn_of _ (by decide +kernel)) ggX11_frozen_X11_frozenRoom
theorem dX11_frozen_0 : decode cX11_frozen 0 = .ok (.aload_n 0, 1) := by decide +kernel
theorem dX11_frozen_1 : decode cX11_frozen 1 = .ok (.iconst 0, 1) := by decide +kernel
theorem dX11_frozen_2 : decode cX11_frozen 2 = .ok (.putfield 73, 3) := by decide +kernel
theorem dX11_frozen_5 : decode cX11_frozen 5 = .ok (.aload_n 0, 1) := by decide +kernel
theorem dX11_frozen_6 : decode cX11_frozen 6 = .ok (.iload_n 1, 1) := by decide +kernel
theorem dX11_frozen_7 : decode cX11_frozen 7 = .ok (.invokevirtual 222, 3) := by decide +kernel
theorem dX11_frozen_10 : decode cX11_frozen 10 = .ok (.ifCond .eq 16, 3) := by decide +kernel
theorem dX11_frozen_13 : decode cX11_frozen 13 = .ok (.iload 4, 2) := by decide +kernel
theorem dX11_frozen_15 : decode cX11_frozen 15 = .ok (.i2l, 1) := by decide +kernel
theorem dX11_frozen_16 : decode cX11_frozen 16 = .ok (.lconst 0, 1) := by decide +kernel
theorem dX11_frozen_17 : decode cX11_frozen 17 = .ok (.ldc2_w 160, 3) := by decide +kernel
theorem dX11_frozen_20 : decode cX11_frozen 20 = .ok (.invokestatic 83, 3) := by decide +kernel
theorem dX11_frozen_23 : decode cX11_frozen 23 = .ok (.ifCond .ne 7, 3) := by decide +kernel
theorem dX11_frozen_26 : decode cX11_frozen 26 = .ok (.ldc2_w 235, 3) := by decide +kernel
theorem dX11_frozen_29 : decode cX11_frozen 29 = .ok (.lreturn, 1) := by decide +kernel
theorem dX11_frozen_30 : decode cX11_frozen 30 = .ok (.aload_n 0, 1) := by decide +kernel
theorem dX11_frozen_31 : decode cX11_frozen 31 = .ok (.iload_n 1, 1) := by decide +kernel
theorem dX11_frozen_32 : decode cX11_frozen 32 = .ok (.lload_n 2, 1) := by decide +kernel
theorem dX11_frozen_33 : decode cX11_frozen 33 = .ok (.invokevirtual 268, 3) := by decide +kernel
theorem dX11_frozen_36 : decode cX11_frozen 36 = .ok (.ifCond .ne 7, 3) := by decide +kernel
theorem dX11_frozen_39 : decode cX11_frozen 39 = .ok (.ldc2_w 272, 3) := by decide +kernel
theorem dX11_frozen_42 : decode cX11_frozen 42 = .ok (.lreturn, 1) := by decide +kernel
theorem dX11_frozen_43 : decode cX11_frozen 43 = .ok (.iload 4, 2) := by decide +kernel
theorem dX11_frozen_45 : decode cX11_frozen 45 = .ok (.ifCond .ne 10, 3) := by decide +kernel
theorem dX11_frozen_48 : decode cX11_frozen 48 = .ok (.aload_n 0, 1) := by decide +kernel
theorem dX11_frozen_49 : decode cX11_frozen 49 = .ok (.iconst 4, 1) := by decide +kernel
theorem dX11_frozen_50 : decode cX11_frozen 50 = .ok (.iconst 5, 1) := by decide +kernel
theorem dX11_frozen_51 : decode cX11_frozen 51 = .ok (.invokevirtual 89, 3) := by decide +kernel
theorem dX11_frozen_54 : decode cX11_frozen 54 = .ok (.lreturn, 1) := by decide +kernel
theorem dX11_frozen_55 : decode cX11_frozen 55 = .ok (.iload 4, 2) := by decide +kernel
theorem dX11_frozen_57 : decode cX11_frozen 57 = .ok (.iconst 3, 1) := by decide +kernel
theorem dX11_frozen_58 : decode cX11_frozen 58 = .ok (.if_icmp .ge 23, 3) := by decide +kernel
theorem dX11_frozen_61 : decode cX11_frozen 61 = .ok (.iload 4, 2) := by decide +kernel
theorem dX11_frozen_63 : decode cX11_frozen 63 = .ok (.iconst 1, 1) := by decide +kernel
theorem dX11_frozen_64 : decode cX11_frozen 64 = .ok (.if_icmp .ne 11, 3) := by decide +kernel
theorem dX11_frozen_67 : decode cX11_frozen 67 = .ok (.aload_n 0, 1) := by decide +kernel
theorem dX11_frozen_68 : decode cX11_frozen 68 = .ok (.getfield 259, 3) := by decide +kernel
theorem dX11_frozen_71 : decode cX11_frozen 71 = .ok (.i2l, 1) := by decide +kernel
theorem dX11_frozen_72 : decode cX11_frozen 72 = .ok (.goto 8, 3) := by decide +kernel
theorem dX11_frozen_75 : decode cX11_frozen 75 = .ok (.aload_n 0, 1) := by decide +kernel
theorem dX11_frozen_76 : decode cX11_frozen 76 = .ok (.getfield 262, 3) := by decide +kernel
theorem dX11_frozen_79 : decode cX11_frozen 79 = .ok (.i2l, 1) := by decide +kernel
theorem dX11_frozen_80 : decode cX11_frozen 80 = .ok (.lreturn, 1) := by decide +kernel
theorem dX11_frozen_81 : decode cX11_frozen 81 = .ok (.iconst (-1), 1) := by decide +kernel
theorem dX11_frozen_82 : decode cX11_frozen 82 = .ok (.istore 5, 2) := by decide +kernel
theorem dX11_frozen_84 : decode cX11_frozen 84 = .ok (.iconst 0, 1) := by decide +kernel
theorem dX11_frozen_85 : decode cX11_frozen 85 = .ok (.istore 6, 2) := by decide +kernel
theorem dX11_frozen_87 : decode cX11_frozen 87 = .ok (.iload 6, 2) := by decide +kernel
theorem dX11_frozen_89 : decode cX11_frozen 89 = .ok (.aload_n 0, 1) := by decide +kernel
theorem dX11_frozen_90 : decode cX11_frozen 90 = .ok (.iload_n 1, 1) := by decide +kernel
theorem dX11_frozen_91 : decode cX11_frozen 91 = .ok (.invokevirtual 95, 3) := by decide +kernel
theorem dX11_frozen_94 : decode cX11_frozen 94 = .ok (.if_icmp .ge 50, 3) := by decide +kernel
theorem dX11_frozen_97 : decode cX11_frozen 97 = .ok (.aload_n 0, 1) := by decide +kernel
theorem dX11_frozen_98 : decode cX11_frozen 98 = .ok (.iload 6, 2) := by decide +kernel
theorem dX11_frozen_100 : decode cX11_frozen 100 = .ok (.invokevirtual 274, 3) := by decide +kernel
theorem dX11_frozen_103 : decode cX11_frozen 103 = .ok (.istore 7, 2) := by decide +kernel
theorem dX11_frozen_105 : decode cX11_frozen 105 = .ok (.iload 5, 2) := by decide +kernel
theorem dX11_frozen_107 : decode cX11_frozen 107 = .ok (.iconst (-1), 1) := by decide +kernel
theorem dX11_frozen_108 : decode cX11_frozen 108 = .ok (.if_icmp .eq 26, 3) := by decide +kernel
theorem dX11_frozen_111 : decode cX11_frozen 111 = .ok (.iload 4, 2) := by decide +kernel
theorem dX11_frozen_113 : decode cX11_frozen 113 = .ok (.iconst 3, 1) := by decide +kernel
theorem dX11_frozen_114 : decode cX11_frozen 114 = .ok (.if_icmp .ne 13, 3) := by decide +kernel
theorem dX11_frozen_117 : decode cX11_frozen 117 = .ok (.iload 7, 2) := by decide +kernel
theorem dX11_frozen_119 : decode cX11_frozen 119 = .ok (.iload 5, 2) := by decide +kernel
theorem dX11_frozen_121 : decode cX11_frozen 121 = .ok (.if_icmp .ge 17, 3) := by decide +kernel
theorem dX11_frozen_124 : decode cX11_frozen 124 = .ok (.goto 10, 3) := by decide +kernel
theorem dX11_frozen_127 : decode cX11_frozen 127 = .ok (.iload 7, 2) := by decide +kernel
theorem dX11_frozen_129 : decode cX11_frozen 129 = .ok (.iload 5, 2) := by decide +kernel
theorem dX11_frozen_131 : decode cX11_frozen 131 = .ok (.if_icmp .le 7, 3) := by decide +kernel
theorem dX11_frozen_134 : decode cX11_frozen 134 = .ok (.iload 7, 2) := by decide +kernel
theorem dX11_frozen_136 : decode cX11_frozen 136 = .ok (.istore 5, 2) := by decide +kernel
theorem dX11_frozen_138 : decode cX11_frozen 138 = .ok (.iinc 6 1, 3) := by decide +kernel
theorem dX11_frozen_141 : decode cX11_frozen 141 = .ok (.goto (-54), 3) := by decide +kernel
theorem dX11_frozen_144 : decode cX11_frozen 144 = .ok (.iload 5, 2) := by decide +kernel
theorem dX11_frozen_146 : decode cX11_frozen 146 = .ok (.i2l, 1) := by decide +kernel
theorem dX11_frozen_147 : decode cX11_frozen 147 = .ok (.lreturn, 1) := by decide +kernel
set_option maxRecDepth 20000 in
theorem ggX11_frozenAt_X11_isThere : GoodIn wsX11_frozenAt wsX11_isThere := goodIn_r _ [6, 7, 8, 9, 5, 10, 11, 12, 13, 14, 15, 103, 104, 105, 106, 107, 108, 109, 110, 111, 112, 113, 114, 115, 116, 117, 118, 119, 120, 121, 122, 123, 124, 125, 126, 127, 128, 129, 130, 131, 132, 133, 134, 135, 136, 137, 138, 139, 140, 141, 142, 143, 144, 145, 146, 147, 148, 149] (by decide +kernel) (by decide +kernel)
set_option maxRecDepth 20000 in
theorem gX11_frozenAt_X11_isThere : GoodIn wsX11_frozenAt (wsV RX11 222 RX11 yX11_isThere wsX11_isThere) := goodIn_app (goodIn_of _ (by decide +kernel)) ggX11_frozenAt_X11_isThere
set_option maxRecDepth 20000 in
theorem ggX11_frozenAt_X11_freezes : GoodIn wsX11_frozenAt wsX11_freezes := goodIn_r _ [19, 20, 21, 22, 23, 24, 7, 25, 26, 27, 28, 29, 5, 30, 11, 12, 13, 14, 15, 31, 32, 33, 34, 35, 36, 37, 38, 39, 40, 41, 42, 43, 44, 45, 46, 47, 48, 49, 50, 51, 52, 53, 54, 55, 56, 57, 58, 59, 60, 61, 62, 63, 64, 65, 66, 67, 68, 69, 70, 71, 72, 73, 74, 75, 76, 77, 78, 79, 80, 81, 82, 83, 103, 104, 105, 106, 107, 108, 109, 110, 111, 112, 113, 114, 115, 116, 117, 118, 119, 120, 121, 122, 123, 124, 125, 126, 127, 128, 129, 130, 131, 132, 133, 134, 135, 136, 137, 138, 139, 140, 141, 142, 143, 144, 145, 146, 147, 148, 149] (by decide +kernel) (by decide +kernel)
set_option maxRecDepth 20000 in
theorem gX11_frozenAt_X11_freezes : GoodIn wsX11_frozenAt (wsV RX11 268 RX11 yX11_freezes wsX11_freezes) := goodIn_app (goodIn_of _ (by decide +kernel)) ggX11_frozenAt_X11_freezes
set_option maxRecDepth 20000 in
theorem ggX11_frozenAt_X11_isKey : GoodIn wsX11_frozenAt wsX11_isKey := goodIn_r _ [86, 39, 8, 9, 5, 10] (by decide +kernel) (by decide +kernel)
set_option maxRecDepth 20000 in
theorem gX11_frozenAt_X11_isKey : GoodIn wsX11_frozenAt (va_wsS RX11 226 yX11_isKey wsX11_isKey) := goodIn_app (goodIn_of _ (by decide +kernel)) ggX11_frozenAt_X11_isKey
set_option maxRecDepth 20000 in
theorem ggX11_frozenAt_X11_hasKey : GoodIn wsX11_frozenAt wsX11_hasKey := goodIn_r _ [90, 20, 91, 92, 93, 5, 94, 27, 28, 29, 30, 11, 12, 13, 14, 15, 103, 104, 105, 106, 107, 108, 109, 110, 111, 112, 113, 114, 115, 116, 117, 118, 119, 120, 121, 122, 123, 124, 125, 126, 127, 128, 129, 130, 131, 132, 133, 134, 135, 136, 137, 138, 139, 140, 141, 142, 143, 144, 145, 146, 147, 148, 149] (by decide +kernel) (by decide +kernel)
set_option maxRecDepth 20000 in
theorem gX11_frozenAt_X11_hasKey : GoodIn wsX11_frozenAt (wsV RX11 202 RX11 yX11_hasKey wsX11_hasKey) := goodIn_app (goodIn_of _ (by decide +kernel)) ggX11_frozenAt_X11_hasKey
set_option maxRecDepth 20000 in
theorem ggX11_frozenAt_X11_whereOf : GoodIn wsX11_frozenAt wsX11_whereOf := goodIn_r _ [94, 20, 27, 28, 29, 5, 30, 11, 12, 13, 14, 15, 103, 104, 105, 106, 107, 108, 109, 110, 111, 112, 113, 114, 115, 116, 117, 118, 119, 120, 121, 122, 123, 124, 125, 126, 127, 128, 129, 130, 131, 132, 133, 134, 135, 136, 137, 138, 139, 140, 141, 142, 143, 144, 145, 146, 147, 148, 149] (by decide +kernel) (by decide +kernel)
set_option maxRecDepth 20000 in
theorem gX11_frozenAt_X11_whereOf : GoodIn wsX11_frozenAt (wsV RX11 99 RX11 yX11_whereOf wsX11_whereOf) := goodIn_app (goodIn_of _ (by decide +kernel)) ggX11_frozenAt_X11_whereOf
set_option maxRecDepth 20000 in
theorem ggX11_frozenAt_X11_frozenRoom : GoodIn wsX11_frozenAt wsX11_frozenRoom := goodIn_r _ [98, 52, 75, 99, 100, 101, 5, 102, 65, 66, 67, 68, 53, 103, 104, 105, 106, 107, 108, 109, 110, 111, 112, 113, 114, 115, 116, 117, 118, 119, 120, 121, 122, 123, 124, 125, 126, 127, 128, 129, 130, 131, 132, 133, 134, 135, 136, 137, 138, 139, 140, 141, 142, 143, 144, 145, 146, 147, 148, 149] (by decide +kernel) (by decide +kernel)
set_option maxRecDepth 20000 in
theorem gX11_frozenAt_X11_frozenRoom : GoodIn wsX11_frozenAt (wsV RX11 274 RX11 yX11_frozenRoom wsX11_frozenRoom) := goodIn_app (goodIn_of _ (by decide +kernel)) ggX11_frozenAt_X11_frozenRoom
theorem dX11_frozenAt_0 : decode cX11_frozenAt 0 = .ok (.aload_n 0, 1) := by decide +kernel
theorem dX11_frozenAt_1 : decode cX11_frozenAt 1 = .ok (.iconst 0, 1) := by decide +kernel
theorem dX11_frozenAt_2 : decode cX11_frozenAt 2 = .ok (.putfield 73, 3) := by decide +kernel
theorem dX11_frozenAt_5 : decode cX11_frozenAt 5 = .ok (.aload_n 0, 1) := by decide +kernel
theorem dX11_frozenAt_6 : decode cX11_frozenAt 6 = .ok (.iload_n 1, 1) := by decide +kernel
theorem dX11_frozenAt_7 : decode cX11_frozenAt 7 = .ok (.invokevirtual 222, 3) := by decide +kernel
theorem dX11_frozenAt_10 : decode cX11_frozenAt 10 = .ok (.ifCond .ne 5, 3) := by decide +kernel
theorem dX11_frozenAt_13 : decode cX11_frozenAt 13 = .ok (.iconst (-1), 1) := by decide +kernel
theorem dX11_frozenAt_14 : decode cX11_frozenAt 14 = .ok (.ireturn, 1) := by decide +kernel
theorem dX11_frozenAt_15 : decode cX11_frozenAt 15 = .ok (.aload_n 0, 1) := by decide +kernel
theorem dX11_frozenAt_16 : decode cX11_frozenAt 16 = .ok (.iload_n 1, 1) := by decide +kernel
theorem dX11_frozenAt_17 : decode cX11_frozenAt 17 = .ok (.lload_n 2, 1) := by decide +kernel
theorem dX11_frozenAt_18 : decode cX11_frozenAt 18 = .ok (.invokevirtual 268, 3) := by decide +kernel
theorem dX11_frozenAt_21 : decode cX11_frozenAt 21 = .ok (.ifCond .ne 6, 3) := by decide +kernel
theorem dX11_frozenAt_24 : decode cX11_frozenAt 24 = .ok (.bipush (-2), 2) := by decide +kernel
theorem dX11_frozenAt_26 : decode cX11_frozenAt 26 = .ok (.ireturn, 1) := by decide +kernel
theorem dX11_frozenAt_27 : decode cX11_frozenAt 27 = .ok (.iload 4, 2) := by decide +kernel
theorem dX11_frozenAt_29 : decode cX11_frozenAt 29 = .ok (.invokestatic 226, 3) := by decide +kernel
theorem dX11_frozenAt_32 : decode cX11_frozenAt 32 = .ok (.ifCond .eq 28, 3) := by decide +kernel
theorem dX11_frozenAt_35 : decode cX11_frozenAt 35 = .ok (.aload_n 0, 1) := by decide +kernel
theorem dX11_frozenAt_36 : decode cX11_frozenAt 36 = .ok (.iload_n 1, 1) := by decide +kernel
theorem dX11_frozenAt_37 : decode cX11_frozenAt 37 = .ok (.iload 4, 2) := by decide +kernel
theorem dX11_frozenAt_39 : decode cX11_frozenAt 39 = .ok (.invokevirtual 202, 3) := by decide +kernel
theorem dX11_frozenAt_42 : decode cX11_frozenAt 42 = .ok (.ifCond .eq 18, 3) := by decide +kernel
theorem dX11_frozenAt_45 : decode cX11_frozenAt 45 = .ok (.aload_n 0, 1) := by decide +kernel
theorem dX11_frozenAt_46 : decode cX11_frozenAt 46 = .ok (.aload_n 0, 1) := by decide +kernel
theorem dX11_frozenAt_47 : decode cX11_frozenAt 47 = .ok (.iload_n 1, 1) := by decide +kernel
theorem dX11_frozenAt_48 : decode cX11_frozenAt 48 = .ok (.iload 4, 2) := by decide +kernel
theorem dX11_frozenAt_50 : decode cX11_frozenAt 50 = .ok (.i2l, 1) := by decide +kernel
theorem dX11_frozenAt_51 : decode cX11_frozenAt 51 = .ok (.invokevirtual 99, 3) := by decide +kernel
theorem dX11_frozenAt_54 : decode cX11_frozenAt 54 = .ok (.invokevirtual 274, 3) := by decide +kernel
theorem dX11_frozenAt_57 : decode cX11_frozenAt 57 = .ok (.goto 4, 3) := by decide +kernel
theorem dX11_frozenAt_60 : decode cX11_frozenAt 60 = .ok (.iconst (-1), 1) := by decide +kernel
theorem dX11_frozenAt_61 : decode cX11_frozenAt 61 = .ok (.ireturn, 1) := by decide +kernel
set_option maxRecDepth 20000 in
theorem ggX11_shared_X11_isThere : GoodIn wsX11_shared wsX11_isThere := goodIn_r _ [9, 2, 10, 11, 8, 12, 13, 14, 15, 16, 17, 37, 38, 39, 40, 41, 42, 43, 44, 45, 46, 47, 48, 49, 50, 51, 52, 53, 54, 55, 56, 57, 58, 59, 60, 61, 62, 63, 64, 65, 66, 67, 68, 69, 70, 71, 72, 73, 74, 75, 76, 77, 78, 79, 80, 81, 82, 83] (by decide +kernel) (by decide +kernel)
set_option maxRecDepth 20000 in
theorem gX11_shared_X11_isThere : GoodIn wsX11_shared (wsV RX11 222 RX11 yX11_isThere wsX11_isThere) := goodIn_app (goodIn_of _ (by decide +kernel)) ggX11_shared_X11_isThere
set_option maxRecDepth 20000 in
theorem ggX11_shared_X11_isIn : GoodIn wsX11_shared wsX11_isIn := goodIn_r _ [12] (by decide +kernel) (by decide +kernel)
set_option maxRecDepth 20000 in
theorem gX11_shared_X11_isIn : GoodIn wsX11_shared (va_wsS RX11 83 yX11_isIn wsX11_isIn) := goodIn_app (goodIn_of _ (by decide +kernel)) ggX11_shared_X11_isIn
set_option maxRecDepth 20000 in
theorem ggX11_shared_X11_manyOf : GoodIn wsX11_shared wsX11_manyOf := goodIn_r _ [21, 13, 14, 15, 8, 16, 17, 37, 38, 39, 40, 41, 42, 43, 44, 45, 46, 47, 48, 49, 50, 51, 52, 53, 54, 55, 56, 57, 58, 59, 60, 61, 62, 63, 64, 65, 66, 67, 68, 69, 70, 71, 72, 73, 74, 75, 76, 77, 78, 79, 80, 81, 82, 83] (by decide +kernel) (by decide +kernel)
set_option maxRecDepth 20000 in
theorem gX11_shared_X11_manyOf : GoodIn wsX11_shared (wsV RX11 95 RX11 yX11_manyOf wsX11_manyOf) := goodIn_app (goodIn_of _ (by decide +kernel)) ggX11_shared_X11_manyOf
set_option maxRecDepth 20000 in
theorem ggX11_shared_X11_hasKey : GoodIn wsX11_shared wsX11_hasKey := goodIn_r _ [25, 3, 26, 27, 28, 8, 29, 18, 19, 20, 21, 13, 14, 15, 16, 17, 37, 38, 39, 40, 41, 42, 43, 44, 45, 46, 47, 48, 49, 50, 51, 52, 53, 54, 55, 56, 57, 58, 59, 60, 61, 62, 63, 64, 65, 66, 67, 68, 69, 70, 71, 72, 73, 74, 75, 76, 77, 78, 79, 80, 81, 82, 83] (by decide +kernel) (by decide +kernel)
set_option maxRecDepth 20000 in
theorem gX11_shared_X11_hasKey : GoodIn wsX11_shared (wsV RX11 202 RX11 yX11_hasKey wsX11_hasKey) := goodIn_app (goodIn_of _ (by decide +kernel)) ggX11_shared_X11_hasKey
set_option maxRecDepth 20000 in
theorem ggX11_shared_X11_valueOf : GoodIn wsX11_shared wsX11_valueOf := goodIn_r _ [33, 4, 26, 27, 28, 8, 29, 3, 18, 19, 20, 21, 13, 14, 15, 16, 17, 37, 38, 39, 40, 41, 42, 43, 44, 45, 46, 47, 48, 49, 50, 51, 52, 53, 54, 55, 56, 57, 58, 59, 60, 61, 62, 63, 64, 65, 66, 67, 68, 69, 70, 71, 72, 73, 74, 75, 76, 77, 78, 79, 80, 81, 82, 83] (by decide +kernel) (by decide +kernel)
set_option maxRecDepth 20000 in
theorem gX11_shared_X11_valueOf : GoodIn wsX11_shared (wsV RX11 277 RX11 yX11_valueOf wsX11_valueOf) := goodIn_app (goodIn_of _ (by decide +kernel)) ggX11_shared_X11_valueOf
set_option maxRecDepth 20000 in
theorem ggX11_shared_X11_flag : GoodIn wsX11_shared wsX11_flag := goodIn_r _ [36] (by decide +kernel) (by decide +kernel)
set_option maxRecDepth 20000 in
theorem gX11_shared_X11_flag : GoodIn wsX11_shared (va_wsS RX11 198 yX11_flag wsX11_flag) := goodIn_app (goodIn_of _ (by decide +kernel)) ggX11_shared_X11_flag
theorem dX11_shared_0 : decode cX11_shared 0 = .ok (.aload_n 0, 1) := by decide +kernel
theorem dX11_shared_1 : decode cX11_shared 1 = .ok (.iconst 0, 1) := by decide +kernel
theorem dX11_shared_2 : decode cX11_shared 2 = .ok (.putfield 73, 3) := by decide +kernel
theorem dX11_shared_5 : decode cX11_shared 5 = .ok (.aload_n 0, 1) := by decide +kernel
theorem dX11_shared_6 : decode cX11_shared 6 = .ok (.iload_n 1, 1) := by decide +kernel
theorem dX11_shared_7 : decode cX11_shared 7 = .ok (.invokevirtual 222, 3) := by decide +kernel
theorem dX11_shared_10 : decode cX11_shared 10 = .ok (.ifCond .eq 23, 3) := by decide +kernel
theorem dX11_shared_13 : decode cX11_shared 13 = .ok (.aload_n 0, 1) := by decide +kernel
theorem dX11_shared_14 : decode cX11_shared 14 = .ok (.iload_n 2, 1) := by decide +kernel
theorem dX11_shared_15 : decode cX11_shared 15 = .ok (.invokevirtual 222, 3) := by decide +kernel
theorem dX11_shared_18 : decode cX11_shared 18 = .ok (.ifCond .eq 15, 3) := by decide +kernel
theorem dX11_shared_21 : decode cX11_shared 21 = .ok (.iload_n 3, 1) := by decide +kernel
theorem dX11_shared_22 : decode cX11_shared 22 = .ok (.i2l, 1) := by decide +kernel
theorem dX11_shared_23 : decode cX11_shared 23 = .ok (.lconst 0, 1) := by decide +kernel
theorem dX11_shared_24 : decode cX11_shared 24 = .ok (.ldc2_w 87, 3) := by decide +kernel
theorem dX11_shared_27 : decode cX11_shared 27 = .ok (.invokestatic 83, 3) := by decide +kernel
theorem dX11_shared_30 : decode cX11_shared 30 = .ok (.ifCond .ne 5, 3) := by decide +kernel
theorem dX11_shared_33 : decode cX11_shared 33 = .ok (.iconst (-1), 1) := by decide +kernel
theorem dX11_shared_34 : decode cX11_shared 34 = .ok (.ireturn, 1) := by decide +kernel
theorem dX11_shared_35 : decode cX11_shared 35 = .ok (.iconst 0, 1) := by decide +kernel
theorem dX11_shared_36 : decode cX11_shared 36 = .ok (.istore 4, 2) := by decide +kernel
theorem dX11_shared_38 : decode cX11_shared 38 = .ok (.iconst 0, 1) := by decide +kernel
theorem dX11_shared_39 : decode cX11_shared 39 = .ok (.istore 5, 2) := by decide +kernel
theorem dX11_shared_41 : decode cX11_shared 41 = .ok (.sipush 160, 3) := by decide +kernel
theorem dX11_shared_44 : decode cX11_shared 44 = .ok (.iload_n 1, 1) := by decide +kernel
theorem dX11_shared_45 : decode cX11_shared 45 = .ok (.imul, 1) := by decide +kernel
theorem dX11_shared_46 : decode cX11_shared 46 = .ok (.istore 6, 2) := by decide +kernel
theorem dX11_shared_48 : decode cX11_shared 48 = .ok (.iload 6, 2) := by decide +kernel
theorem dX11_shared_50 : decode cX11_shared 50 = .ok (.sipush 160, 3) := by decide +kernel
theorem dX11_shared_53 : decode cX11_shared 53 = .ok (.iload_n 1, 1) := by decide +kernel
theorem dX11_shared_54 : decode cX11_shared 54 = .ok (.imul, 1) := by decide +kernel
theorem dX11_shared_55 : decode cX11_shared 55 = .ok (.aload_n 0, 1) := by decide +kernel
theorem dX11_shared_56 : decode cX11_shared 56 = .ok (.iload_n 1, 1) := by decide +kernel
theorem dX11_shared_57 : decode cX11_shared 57 = .ok (.invokevirtual 95, 3) := by decide +kernel
theorem dX11_shared_60 : decode cX11_shared 60 = .ok (.iadd, 1) := by decide +kernel
theorem dX11_shared_61 : decode cX11_shared 61 = .ok (.if_icmp .ge 65, 3) := by decide +kernel
theorem dX11_shared_64 : decode cX11_shared 64 = .ok (.aload_n 0, 1) := by decide +kernel
theorem dX11_shared_65 : decode cX11_shared 65 = .ok (.iload_n 2, 1) := by decide +kernel
theorem dX11_shared_66 : decode cX11_shared 66 = .ok (.aload_n 0, 1) := by decide +kernel
theorem dX11_shared_67 : decode cX11_shared 67 = .ok (.getfield 17, 3) := by decide +kernel
theorem dX11_shared_70 : decode cX11_shared 70 = .ok (.iload 6, 2) := by decide +kernel
theorem dX11_shared_72 : decode cX11_shared 72 = .ok (.iaload, 1) := by decide +kernel
theorem dX11_shared_73 : decode cX11_shared 73 = .ok (.invokevirtual 202, 3) := by decide +kernel
theorem dX11_shared_76 : decode cX11_shared 76 = .ok (.ifCond .ne 6, 3) := by decide +kernel
theorem dX11_shared_79 : decode cX11_shared 79 = .ok (.goto 41, 3) := by decide +kernel
theorem dX11_shared_82 : decode cX11_shared 82 = .ok (.iinc 4 1, 3) := by decide +kernel
theorem dX11_shared_85 : decode cX11_shared 85 = .ok (.iload 5, 2) := by decide +kernel
theorem dX11_shared_87 : decode cX11_shared 87 = .ok (.aload_n 0, 1) := by decide +kernel
theorem dX11_shared_88 : decode cX11_shared 88 = .ok (.iload_n 2, 1) := by decide +kernel
theorem dX11_shared_89 : decode cX11_shared 89 = .ok (.aload_n 0, 1) := by decide +kernel
theorem dX11_shared_90 : decode cX11_shared 90 = .ok (.getfield 17, 3) := by decide +kernel
theorem dX11_shared_93 : decode cX11_shared 93 = .ok (.iload 6, 2) := by decide +kernel
theorem dX11_shared_95 : decode cX11_shared 95 = .ok (.iaload, 1) := by decide +kernel
theorem dX11_shared_96 : decode cX11_shared 96 = .ok (.invokevirtual 277, 3) := by decide +kernel
theorem dX11_shared_99 : decode cX11_shared 99 = .ok (.aload_n 0, 1) := by decide +kernel
theorem dX11_shared_100 : decode cX11_shared 100 = .ok (.getfield 21, 3) := by decide +kernel
theorem dX11_shared_103 : decode cX11_shared 103 = .ok (.iload 6, 2) := by decide +kernel
theorem dX11_shared_105 : decode cX11_shared 105 = .ok (.iaload, 1) := by decide +kernel
theorem dX11_shared_106 : decode cX11_shared 106 = .ok (.if_icmp .ne 7, 3) := by decide +kernel
theorem dX11_shared_109 : decode cX11_shared 109 = .ok (.iconst 1, 1) := by decide +kernel
theorem dX11_shared_110 : decode cX11_shared 110 = .ok (.goto 4, 3) := by decide +kernel
theorem dX11_shared_113 : decode cX11_shared 113 = .ok (.iconst 0, 1) := by decide +kernel
theorem dX11_shared_114 : decode cX11_shared 114 = .ok (.invokestatic 198, 3) := by decide +kernel
theorem dX11_shared_117 : decode cX11_shared 117 = .ok (.iadd, 1) := by decide +kernel
theorem dX11_shared_118 : decode cX11_shared 118 = .ok (.istore 5, 2) := by decide +kernel
theorem dX11_shared_120 : decode cX11_shared 120 = .ok (.iinc 6 1, 3) := by decide +kernel
theorem dX11_shared_123 : decode cX11_shared 123 = .ok (.goto (-75), 3) := by decide +kernel
theorem dX11_shared_126 : decode cX11_shared 126 = .ok (.iload_n 3, 1) := by decide +kernel
theorem dX11_shared_127 : decode cX11_shared 127 = .ok (.ifCond .ne 8, 3) := by decide +kernel
theorem dX11_shared_130 : decode cX11_shared 130 = .ok (.iload 4, 2) := by decide +kernel
theorem dX11_shared_132 : decode cX11_shared 132 = .ok (.goto 43, 3) := by decide +kernel
theorem dX11_shared_135 : decode cX11_shared 135 = .ok (.iload_n 3, 1) := by decide +kernel
theorem dX11_shared_136 : decode cX11_shared 136 = .ok (.iconst 1, 1) := by decide +kernel
theorem dX11_shared_137 : decode cX11_shared 137 = .ok (.if_icmp .ne 20, 3) := by decide +kernel
theorem dX11_shared_140 : decode cX11_shared 140 = .ok (.aload_n 0, 1) := by decide +kernel
theorem dX11_shared_141 : decode cX11_shared 141 = .ok (.iload_n 1, 1) := by decide +kernel
theorem dX11_shared_142 : decode cX11_shared 142 = .ok (.invokevirtual 95, 3) := by decide +kernel
theorem dX11_shared_145 : decode cX11_shared 145 = .ok (.aload_n 0, 1) := by decide +kernel
theorem dX11_shared_146 : decode cX11_shared 146 = .ok (.iload_n 2, 1) := by decide +kernel
theorem dX11_shared_147 : decode cX11_shared 147 = .ok (.invokevirtual 95, 3) := by decide +kernel
theorem dX11_shared_150 : decode cX11_shared 150 = .ok (.iadd, 1) := by decide +kernel
theorem dX11_shared_151 : decode cX11_shared 151 = .ok (.iload 4, 2) := by decide +kernel
theorem dX11_shared_153 : decode cX11_shared 153 = .ok (.isub, 1) := by decide +kernel
theorem dX11_shared_154 : decode cX11_shared 154 = .ok (.goto 21, 3) := by decide +kernel
theorem dX11_shared_157 : decode cX11_shared 157 = .ok (.iload_n 3, 1) := by decide +kernel
theorem dX11_shared_158 : decode cX11_shared 158 = .ok (.iconst 2, 1) := by decide +kernel
theorem dX11_shared_159 : decode cX11_shared 159 = .ok (.if_icmp .ne 14, 3) := by decide +kernel
theorem dX11_shared_162 : decode cX11_shared 162 = .ok (.aload_n 0, 1) := by decide +kernel
theorem dX11_shared_163 : decode cX11_shared 163 = .ok (.iload_n 1, 1) := by decide +kernel
theorem dX11_shared_164 : decode cX11_shared 164 = .ok (.invokevirtual 95, 3) := by decide +kernel
theorem dX11_shared_167 : decode cX11_shared 167 = .ok (.iload 4, 2) := by decide +kernel
theorem dX11_shared_169 : decode cX11_shared 169 = .ok (.isub, 1) := by decide +kernel
theorem dX11_shared_170 : decode cX11_shared 170 = .ok (.goto 5, 3) := by decide +kernel
theorem dX11_shared_173 : decode cX11_shared 173 = .ok (.iload 5, 2) := by decide +kernel
theorem dX11_shared_175 : decode cX11_shared 175 = .ok (.ireturn, 1) := by decide +kernel
set_option maxRecDepth 20000 in
theorem ggX11_join_X11_isThere : GoodIn wsX11_join wsX11_isThere := goodIn_r _ [8, 9, 10, 11, 7, 12, 13, 14, 15, 16, 17, 138, 139, 140, 141, 142, 143, 144, 145, 146, 147, 148, 149, 150, 151, 152, 153, 154, 155, 156, 157, 158, 159, 160, 161, 162, 163, 164, 165, 166, 167, 168, 169, 170, 171, 172, 173, 174, 175, 176, 177, 178, 179, 180, 181, 182, 183, 184] (by decide +kernel) (by decide +kernel)
set_option maxRecDepth 20000 in
theorem gX11_join_X11_isThere : GoodIn wsX11_join (wsV RX11 222 RX11 yX11_isThere wsX11_isThere) := goodIn_app (goodIn_of _ (by decide +kernel)) ggX11_join_X11_isThere
set_option maxRecDepth 20000 in
theorem ggX11_join_X11_manyOf : GoodIn wsX11_join wsX11_manyOf := goodIn_r _ [21, 13, 14, 15, 7, 16, 17, 138, 139, 140, 141, 142, 143, 144, 145, 146, 147, 148, 149, 150, 151, 152, 153, 154, 155, 156, 157, 158, 159, 160, 161, 162, 163, 164, 165, 166, 167, 168, 169, 170, 171, 172, 173, 174, 175, 176, 177, 178, 179, 180, 181, 182, 183, 184] (by decide +kernel) (by decide +kernel)
set_option maxRecDepth 20000 in
theorem gX11_join_X11_manyOf : GoodIn wsX11_join (wsV RX11 95 RX11 yX11_manyOf wsX11_manyOf) := goodIn_app (goodIn_of _ (by decide +kernel)) ggX11_join_X11_manyOf
set_option maxRecDepth 20000 in
theorem ggX11_join_X11_isFull : GoodIn wsX11_join wsX11_isFull := goodIn_r _ [25, 18, 19, 20, 7, 21, 13, 14, 15, 16, 17, 26, 27, 28, 29, 2, 30, 31, 32, 33, 138, 139, 140, 141, 142, 143, 144, 145, 146, 147, 148, 149, 150, 151, 152, 153, 154, 155, 156, 157, 158, 159, 160, 161, 162, 163, 164, 165, 166, 167, 168, 169, 170, 171, 172, 173, 174, 175, 176, 177, 178, 179, 180, 181, 182, 183, 184] (by decide +kernel) (by decide +kernel)
set_option maxRecDepth 20000 in
theorem gX11_join_X11_isFull : GoodIn wsX11_join (wsV RX11 229 RX11 yX11_isFull wsX11_isFull) := goodIn_app (goodIn_of _ (by decide +kernel)) ggX11_join_X11_isFull
set_option maxRecDepth 20000 in
theorem ggX11_join_X11_putsKey : GoodIn wsX11_join wsX11_putsKey := goodIn_r _ [37, 3, 38, 39, 40, 41, 42, 43, 7, 44, 45, 26, 27, 28, 29, 2, 30, 31, 32, 33, 18, 19, 20, 21, 13, 14, 15, 16, 17, 46, 47, 48, 49, 50, 51, 52, 53, 54, 55, 56, 57, 58, 59, 60, 61, 62, 63, 64, 65, 66, 67, 68, 69, 70, 71, 72, 73, 74, 75, 76, 77, 78, 79, 80, 81, 82, 83, 84, 85, 86, 87, 88, 89, 90, 91, 92, 93, 94, 95, 96, 97, 98, 99, 100, 101, 102, 103, 104, 105, 106, 107, 108, 109, 110, 111, 112, 113, 114, 115, 116, 117, 118, 119, 120, 121, 122, 123, 124, 125, 126, 127, 128, 129, 130, 131, 132, 133, 134, 135, 136, 137, 138, 139, 140, 141, 142, 143, 144, 145, 146, 147, 148, 149, 150, 151, 152, 153, 154, 155, 156, 157, 158, 159, 160, 161, 162, 163, 164, 165, 166, 167, 168, 169, 170, 171, 172, 173, 174, 175, 176, 177, 178, 179, 180, 181, 182, 183, 184] (by decide +kernel) (by decide +kernel)
set_option maxRecDepth 20000 in
theorem gX11_join_X11_putsKey : GoodIn wsX11_join (wsV RX11 232 RX11 yX11_putsKey wsX11_putsKey) := goodIn_app (goodIn_of _ (by decide +kernel)) ggX11_join_X11_putsKey
set_option maxRecDepth 20000 in
theorem ggX11_join_X11_flag : GoodIn wsX11_join wsX11_flag := goodIn_r _ [75] (by decide +kernel) (by decide +kernel)
set_option maxRecDepth 20000 in
theorem gX11_join_X11_flag : GoodIn wsX11_join (va_wsS RX11 198 yX11_flag wsX11_flag) := goodIn_app (goodIn_of _ (by decide +kernel)) ggX11_join_X11_flag
theorem dX11_join_0 : decode cX11_join 0 = .ok (.aload_n 0, 1) := by decide +kernel
theorem dX11_join_1 : decode cX11_join 1 = .ok (.iconst 0, 1) := by decide +kernel
theorem dX11_join_2 : decode cX11_join 2 = .ok (.putfield 73, 3) := by decide +kernel
theorem dX11_join_5 : decode cX11_join 5 = .ok (.aload_n 0, 1) := by decide +kernel
theorem dX11_join_6 : decode cX11_join 6 = .ok (.iload_n 1, 1) := by decide +kernel
theorem dX11_join_7 : decode cX11_join 7 = .ok (.invokevirtual 222, 3) := by decide +kernel
theorem dX11_join_10 : decode cX11_join 10 = .ok (.ifCond .eq 16, 3) := by decide +kernel
theorem dX11_join_13 : decode cX11_join 13 = .ok (.aload_n 0, 1) := by decide +kernel
theorem dX11_join_14 : decode cX11_join 14 = .ok (.iload_n 2, 1) := by decide +kernel
theorem dX11_join_15 : decode cX11_join 15 = .ok (.invokevirtual 222, 3) := by decide +kernel
theorem dX11_join_18 : decode cX11_join 18 = .ok (.ifCond .eq 8, 3) := by decide +kernel
theorem dX11_join_21 : decode cX11_join 21 = .ok (.iload_n 1, 1) := by decide +kernel
theorem dX11_join_22 : decode cX11_join 22 = .ok (.iload_n 2, 1) := by decide +kernel
theorem dX11_join_23 : decode cX11_join 23 = .ok (.if_icmp .ne 6, 3) := by decide +kernel
theorem dX11_join_26 : decode cX11_join 26 = .ok (.bipush (-2), 2) := by decide +kernel
theorem dX11_join_28 : decode cX11_join 28 = .ok (.ireturn, 1) := by decide +kernel
theorem dX11_join_29 : decode cX11_join 29 = .ok (.iconst 0, 1) := by decide +kernel
theorem dX11_join_30 : decode cX11_join 30 = .ok (.istore_n 3, 1) := by decide +kernel
theorem dX11_join_31 : decode cX11_join 31 = .ok (.sipush 160, 3) := by decide +kernel
theorem dX11_join_34 : decode cX11_join 34 = .ok (.iload_n 2, 1) := by decide +kernel
theorem dX11_join_35 : decode cX11_join 35 = .ok (.imul, 1) := by decide +kernel
theorem dX11_join_36 : decode cX11_join 36 = .ok (.istore 4, 2) := by decide +kernel
theorem dX11_join_38 : decode cX11_join 38 = .ok (.iload 4, 2) := by decide +kernel
theorem dX11_join_40 : decode cX11_join 40 = .ok (.sipush 160, 3) := by decide +kernel
theorem dX11_join_43 : decode cX11_join 43 = .ok (.iload_n 2, 1) := by decide +kernel
theorem dX11_join_44 : decode cX11_join 44 = .ok (.imul, 1) := by decide +kernel
theorem dX11_join_45 : decode cX11_join 45 = .ok (.aload_n 0, 1) := by decide +kernel
theorem dX11_join_46 : decode cX11_join 46 = .ok (.iload_n 2, 1) := by decide +kernel
theorem dX11_join_47 : decode cX11_join 47 = .ok (.invokevirtual 95, 3) := by decide +kernel
theorem dX11_join_50 : decode cX11_join 50 = .ok (.iadd, 1) := by decide +kernel
theorem dX11_join_51 : decode cX11_join 51 = .ok (.if_icmp .ge 57, 3) := by decide +kernel
theorem dX11_join_54 : decode cX11_join 54 = .ok (.aload_n 0, 1) := by decide +kernel
theorem dX11_join_55 : decode cX11_join 55 = .ok (.iload_n 1, 1) := by decide +kernel
theorem dX11_join_56 : decode cX11_join 56 = .ok (.aload_n 0, 1) := by decide +kernel
theorem dX11_join_57 : decode cX11_join 57 = .ok (.getfield 17, 3) := by decide +kernel
theorem dX11_join_60 : decode cX11_join 60 = .ok (.iload 4, 2) := by decide +kernel
theorem dX11_join_62 : decode cX11_join 62 = .ok (.iaload, 1) := by decide +kernel
theorem dX11_join_63 : decode cX11_join 63 = .ok (.invokevirtual 229, 3) := by decide +kernel
theorem dX11_join_66 : decode cX11_join 66 = .ok (.ifCond .ne 42, 3) := by decide +kernel
theorem dX11_join_69 : decode cX11_join 69 = .ok (.iload_n 3, 1) := by decide +kernel
theorem dX11_join_70 : decode cX11_join 70 = .ok (.aload_n 0, 1) := by decide +kernel
theorem dX11_join_71 : decode cX11_join 71 = .ok (.iload_n 1, 1) := by decide +kernel
theorem dX11_join_72 : decode cX11_join 72 = .ok (.aload_n 0, 1) := by decide +kernel
theorem dX11_join_73 : decode cX11_join 73 = .ok (.getfield 17, 3) := by decide +kernel
theorem dX11_join_76 : decode cX11_join 76 = .ok (.iload 4, 2) := by decide +kernel
theorem dX11_join_78 : decode cX11_join 78 = .ok (.iaload, 1) := by decide +kernel
theorem dX11_join_79 : decode cX11_join 79 = .ok (.aload_n 0, 1) := by decide +kernel
theorem dX11_join_80 : decode cX11_join 80 = .ok (.getfield 21, 3) := by decide +kernel
theorem dX11_join_83 : decode cX11_join 83 = .ok (.iload 4, 2) := by decide +kernel
theorem dX11_join_85 : decode cX11_join 85 = .ok (.iaload, 1) := by decide +kernel
theorem dX11_join_86 : decode cX11_join 86 = .ok (.invokevirtual 232, 3) := by decide +kernel
theorem dX11_join_89 : decode cX11_join 89 = .ok (.ifCond .le 7, 3) := by decide +kernel
theorem dX11_join_92 : decode cX11_join 92 = .ok (.iconst 1, 1) := by decide +kernel
theorem dX11_join_93 : decode cX11_join 93 = .ok (.goto 4, 3) := by decide +kernel
theorem dX11_join_96 : decode cX11_join 96 = .ok (.iconst 0, 1) := by decide +kernel
theorem dX11_join_97 : decode cX11_join 97 = .ok (.invokestatic 198, 3) := by decide +kernel
theorem dX11_join_100 : decode cX11_join 100 = .ok (.iadd, 1) := by decide +kernel
theorem dX11_join_101 : decode cX11_join 101 = .ok (.istore_n 3, 1) := by decide +kernel
theorem dX11_join_102 : decode cX11_join 102 = .ok (.iinc 4 1, 3) := by decide +kernel
theorem dX11_join_105 : decode cX11_join 105 = .ok (.goto (-67), 3) := by decide +kernel
theorem dX11_join_108 : decode cX11_join 108 = .ok (.iload_n 3, 1) := by decide +kernel
theorem dX11_join_109 : decode cX11_join 109 = .ok (.ireturn, 1) := by decide +kernel
set_option maxRecDepth 20000 in
theorem ggX11_cut_X11_isThere : GoodIn wsX11_cut wsX11_isThere := goodIn_r _ [7, 8, 9, 10, 6, 11, 12, 13, 14, 15, 16, 122, 123, 124, 125, 126, 127, 128, 129, 130, 131, 132, 133, 134, 135, 136, 137, 138, 139, 140, 141, 142, 143, 144, 145, 146, 147, 148, 149, 150, 151, 152, 153, 154, 155, 156, 157, 158, 159, 160, 161, 162, 163, 164, 165, 166, 167, 168] (by decide +kernel) (by decide +kernel)
set_option maxRecDepth 20000 in
theorem gX11_cut_X11_isThere : GoodIn wsX11_cut (wsV RX11 222 RX11 yX11_isThere wsX11_isThere) := goodIn_app (goodIn_of _ (by decide +kernel)) ggX11_cut_X11_isThere
set_option maxRecDepth 20000 in
theorem ggX11_cut_X11_manyOf : GoodIn wsX11_cut wsX11_manyOf := goodIn_r _ [20, 12, 13, 14, 6, 15, 16, 122, 123, 124, 125, 126, 127, 128, 129, 130, 131, 132, 133, 134, 135, 136, 137, 138, 139, 140, 141, 142, 143, 144, 145, 146, 147, 148, 149, 150, 151, 152, 153, 154, 155, 156, 157, 158, 159, 160, 161, 162, 163, 164, 165, 166, 167, 168] (by decide +kernel) (by decide +kernel)
set_option maxRecDepth 20000 in
theorem gX11_cut_X11_manyOf : GoodIn wsX11_cut (wsV RX11 95 RX11 yX11_manyOf wsX11_manyOf) := goodIn_app (goodIn_of _ (by decide +kernel)) ggX11_cut_X11_manyOf
set_option maxRecDepth 20000 in
theorem ggX11_cut_X11_hasKey : GoodIn wsX11_cut wsX11_hasKey := goodIn_r _ [24, 2, 25, 26, 27, 6, 28, 17, 18, 19, 20, 12, 13, 14, 15, 16, 122, 123, 124, 125, 126, 127, 128, 129, 130, 131, 132, 133, 134, 135, 136, 137, 138, 139, 140, 141, 142, 143, 144, 145, 146, 147, 148, 149, 150, 151, 152, 153, 154, 155, 156, 157, 158, 159, 160, 161, 162, 163, 164, 165, 166, 167, 168] (by decide +kernel) (by decide +kernel)
set_option maxRecDepth 20000 in
theorem gX11_cut_X11_hasKey : GoodIn wsX11_cut (wsV RX11 202 RX11 yX11_hasKey wsX11_hasKey) := goodIn_app (goodIn_of _ (by decide +kernel)) ggX11_cut_X11_hasKey
set_option maxRecDepth 20000 in
theorem ggX11_cut_X11_drops : GoodIn wsX11_cut wsX11_drops := goodIn_r _ [32, 33, 34, 35, 36, 37, 38, 6, 39, 40, 41, 42, 43, 12, 13, 14, 15, 16, 44, 45, 46, 47, 48, 49, 50, 51, 52, 53, 54, 55, 56, 57, 58, 59, 21, 22, 23, 24, 2, 25, 26, 27, 28, 17, 18, 19, 20, 60, 61, 62, 63, 64, 65, 66, 67, 68, 69, 70, 71, 72, 73, 74, 75, 76, 77, 78, 79, 80, 81, 82, 83, 84, 85, 86, 87, 88, 89, 90, 91, 92, 93, 94, 95, 96, 97, 98, 99, 100, 101, 102, 103, 104, 105, 106, 107, 108, 109, 110, 111, 112, 113, 114, 115, 116, 117, 118, 119, 120, 121, 122, 123, 124, 125, 126, 127, 128, 129, 130, 131, 132, 133, 134, 135, 136, 137, 138, 139, 140, 141, 142, 143, 144, 145, 146, 147, 148, 149, 150, 151, 152, 153, 154, 155, 156, 157, 158, 159, 160, 161, 162, 163, 164, 165, 166, 167, 168] (by decide +kernel) (by decide +kernel)
set_option maxRecDepth 20000 in
theorem gX11_cut_X11_drops : GoodIn wsX11_cut (wsV RX11 239 RX11 yX11_drops wsX11_drops) := goodIn_app (goodIn_of _ (by decide +kernel)) ggX11_cut_X11_drops
set_option maxRecDepth 20000 in
theorem ggX11_cut_X11_flag : GoodIn wsX11_cut wsX11_flag := goodIn_r _ [55] (by decide +kernel) (by decide +kernel)
set_option maxRecDepth 20000 in
theorem gX11_cut_X11_flag : GoodIn wsX11_cut (va_wsS RX11 198 yX11_flag wsX11_flag) := goodIn_app (goodIn_of _ (by decide +kernel)) ggX11_cut_X11_flag
theorem dX11_cut_0 : decode cX11_cut 0 = .ok (.aload_n 0, 1) := by decide +kernel
theorem dX11_cut_1 : decode cX11_cut 1 = .ok (.iconst 0, 1) := by decide +kernel
theorem dX11_cut_2 : decode cX11_cut 2 = .ok (.putfield 73, 3) := by decide +kernel
theorem dX11_cut_5 : decode cX11_cut 5 = .ok (.aload_n 0, 1) := by decide +kernel
theorem dX11_cut_6 : decode cX11_cut 6 = .ok (.iload_n 1, 1) := by decide +kernel
theorem dX11_cut_7 : decode cX11_cut 7 = .ok (.invokevirtual 222, 3) := by decide +kernel
theorem dX11_cut_10 : decode cX11_cut 10 = .ok (.ifCond .eq 16, 3) := by decide +kernel
theorem dX11_cut_13 : decode cX11_cut 13 = .ok (.aload_n 0, 1) := by decide +kernel
theorem dX11_cut_14 : decode cX11_cut 14 = .ok (.iload_n 2, 1) := by decide +kernel
theorem dX11_cut_15 : decode cX11_cut 15 = .ok (.invokevirtual 222, 3) := by decide +kernel
theorem dX11_cut_18 : decode cX11_cut 18 = .ok (.ifCond .eq 8, 3) := by decide +kernel
theorem dX11_cut_21 : decode cX11_cut 21 = .ok (.iload_n 1, 1) := by decide +kernel
theorem dX11_cut_22 : decode cX11_cut 22 = .ok (.iload_n 2, 1) := by decide +kernel
theorem dX11_cut_23 : decode cX11_cut 23 = .ok (.if_icmp .ne 6, 3) := by decide +kernel
theorem dX11_cut_26 : decode cX11_cut 26 = .ok (.bipush (-2), 2) := by decide +kernel
theorem dX11_cut_28 : decode cX11_cut 28 = .ok (.ireturn, 1) := by decide +kernel
theorem dX11_cut_29 : decode cX11_cut 29 = .ok (.iconst 0, 1) := by decide +kernel
theorem dX11_cut_30 : decode cX11_cut 30 = .ok (.istore 4, 2) := by decide +kernel
theorem dX11_cut_32 : decode cX11_cut 32 = .ok (.iconst 0, 1) := by decide +kernel
theorem dX11_cut_33 : decode cX11_cut 33 = .ok (.istore 5, 2) := by decide +kernel
theorem dX11_cut_35 : decode cX11_cut 35 = .ok (.iload 5, 2) := by decide +kernel
theorem dX11_cut_37 : decode cX11_cut 37 = .ok (.aload_n 0, 1) := by decide +kernel
theorem dX11_cut_38 : decode cX11_cut 38 = .ok (.iload_n 1, 1) := by decide +kernel
theorem dX11_cut_39 : decode cX11_cut 39 = .ok (.invokevirtual 95, 3) := by decide +kernel
theorem dX11_cut_42 : decode cX11_cut 42 = .ok (.if_icmp .ge 61, 3) := by decide +kernel
theorem dX11_cut_45 : decode cX11_cut 45 = .ok (.aload_n 0, 1) := by decide +kernel
theorem dX11_cut_46 : decode cX11_cut 46 = .ok (.getfield 17, 3) := by decide +kernel
theorem dX11_cut_49 : decode cX11_cut 49 = .ok (.sipush 160, 3) := by decide +kernel
theorem dX11_cut_52 : decode cX11_cut 52 = .ok (.iload_n 1, 1) := by decide +kernel
theorem dX11_cut_53 : decode cX11_cut 53 = .ok (.imul, 1) := by decide +kernel
theorem dX11_cut_54 : decode cX11_cut 54 = .ok (.iload 5, 2) := by decide +kernel
theorem dX11_cut_56 : decode cX11_cut 56 = .ok (.iadd, 1) := by decide +kernel
theorem dX11_cut_57 : decode cX11_cut 57 = .ok (.iaload, 1) := by decide +kernel
theorem dX11_cut_58 : decode cX11_cut 58 = .ok (.istore 6, 2) := by decide +kernel
theorem dX11_cut_60 : decode cX11_cut 60 = .ok (.aload_n 0, 1) := by decide +kernel
theorem dX11_cut_61 : decode cX11_cut 61 = .ok (.iload_n 2, 1) := by decide +kernel
theorem dX11_cut_62 : decode cX11_cut 62 = .ok (.iload 6, 2) := by decide +kernel
theorem dX11_cut_64 : decode cX11_cut 64 = .ok (.invokevirtual 202, 3) := by decide +kernel
theorem dX11_cut_67 : decode cX11_cut 67 = .ok (.iload_n 3, 1) := by decide +kernel
theorem dX11_cut_68 : decode cX11_cut 68 = .ok (.if_icmp .ne 29, 3) := by decide +kernel
theorem dX11_cut_71 : decode cX11_cut 71 = .ok (.iload 4, 2) := by decide +kernel
theorem dX11_cut_73 : decode cX11_cut 73 = .ok (.aload_n 0, 1) := by decide +kernel
theorem dX11_cut_74 : decode cX11_cut 74 = .ok (.iload_n 1, 1) := by decide +kernel
theorem dX11_cut_75 : decode cX11_cut 75 = .ok (.iload 6, 2) := by decide +kernel
theorem dX11_cut_77 : decode cX11_cut 77 = .ok (.invokevirtual 239, 3) := by decide +kernel
theorem dX11_cut_80 : decode cX11_cut 80 = .ok (.ifCond .le 7, 3) := by decide +kernel
theorem dX11_cut_83 : decode cX11_cut 83 = .ok (.iconst 1, 1) := by decide +kernel
theorem dX11_cut_84 : decode cX11_cut 84 = .ok (.goto 4, 3) := by decide +kernel
theorem dX11_cut_87 : decode cX11_cut 87 = .ok (.iconst 0, 1) := by decide +kernel
theorem dX11_cut_88 : decode cX11_cut 88 = .ok (.invokestatic 198, 3) := by decide +kernel
theorem dX11_cut_91 : decode cX11_cut 91 = .ok (.iadd, 1) := by decide +kernel
theorem dX11_cut_92 : decode cX11_cut 92 = .ok (.istore 4, 2) := by decide +kernel
theorem dX11_cut_94 : decode cX11_cut 94 = .ok (.goto 6, 3) := by decide +kernel
theorem dX11_cut_97 : decode cX11_cut 97 = .ok (.iinc 5 1, 3) := by decide +kernel
theorem dX11_cut_100 : decode cX11_cut 100 = .ok (.goto (-65), 3) := by decide +kernel
theorem dX11_cut_103 : decode cX11_cut 103 = .ok (.iload 4, 2) := by decide +kernel
theorem dX11_cut_105 : decode cX11_cut 105 = .ok (.ireturn, 1) := by decide +kernel
set_option maxRecDepth 20000 in
theorem ggX11_values_X11_isThere : GoodIn wsX11_values wsX11_isThere := goodIn_r _ [11, 12, 13, 14, 10, 15, 16, 17, 18, 19, 20, 25, 26, 27, 28, 29, 30, 31, 32, 33, 34, 35, 36, 37, 38, 39, 40, 41, 42, 43, 44, 45, 46, 47, 48, 49, 50, 51, 52, 53, 54, 55, 56, 57, 58, 59, 60, 61, 62, 63, 64, 65, 66, 67, 68, 69, 70, 71] (by decide +kernel) (by decide +kernel)
set_option maxRecDepth 20000 in
theorem gX11_values_X11_isThere : GoodIn wsX11_values (wsV RX11 222 RX11 yX11_isThere wsX11_isThere) := goodIn_app (goodIn_of _ (by decide +kernel)) ggX11_values_X11_isThere
set_option maxRecDepth 20000 in
theorem ggX11_values_X11_isIn : GoodIn wsX11_values wsX11_isIn := goodIn_r _ [15] (by decide +kernel) (by decide +kernel)
set_option maxRecDepth 20000 in
theorem gX11_values_X11_isIn : GoodIn wsX11_values (va_wsS RX11 83 yX11_isIn wsX11_isIn) := goodIn_app (goodIn_of _ (by decide +kernel)) ggX11_values_X11_isIn
set_option maxRecDepth 20000 in
theorem ggX11_values_X11_manyOf : GoodIn wsX11_values wsX11_manyOf := goodIn_r _ [24, 16, 17, 18, 10, 19, 20, 25, 26, 27, 28, 29, 30, 31, 32, 33, 34, 35, 36, 37, 38, 39, 40, 41, 42, 43, 44, 45, 46, 47, 48, 49, 50, 51, 52, 53, 54, 55, 56, 57, 58, 59, 60, 61, 62, 63, 64, 65, 66, 67, 68, 69, 70, 71] (by decide +kernel) (by decide +kernel)
set_option maxRecDepth 20000 in
theorem gX11_values_X11_manyOf : GoodIn wsX11_values (wsV RX11 95 RX11 yX11_manyOf wsX11_manyOf) := goodIn_app (goodIn_of _ (by decide +kernel)) ggX11_values_X11_manyOf
theorem dX11_values_0 : decode cX11_values 0 = .ok (.aload_n 0, 1) := by decide +kernel
theorem dX11_values_1 : decode cX11_values 1 = .ok (.iconst 0, 1) := by decide +kernel
theorem dX11_values_2 : decode cX11_values 2 = .ok (.putfield 73, 3) := by decide +kernel
theorem dX11_values_5 : decode cX11_values 5 = .ok (.aload_n 0, 1) := by decide +kernel
theorem dX11_values_6 : decode cX11_values 6 = .ok (.iload_n 1, 1) := by decide +kernel
theorem dX11_values_7 : decode cX11_values 7 = .ok (.invokevirtual 222, 3) := by decide +kernel
theorem dX11_values_10 : decode cX11_values 10 = .ok (.ifCond .eq 15, 3) := by decide +kernel
theorem dX11_values_13 : decode cX11_values 13 = .ok (.iload_n 2, 1) := by decide +kernel
theorem dX11_values_14 : decode cX11_values 14 = .ok (.i2l, 1) := by decide +kernel
theorem dX11_values_15 : decode cX11_values 15 = .ok (.lconst 0, 1) := by decide +kernel
theorem dX11_values_16 : decode cX11_values 16 = .ok (.ldc2_w 210, 3) := by decide +kernel
theorem dX11_values_19 : decode cX11_values 19 = .ok (.invokestatic 83, 3) := by decide +kernel
theorem dX11_values_22 : decode cX11_values 22 = .ok (.ifCond .ne 7, 3) := by decide +kernel
theorem dX11_values_25 : decode cX11_values 25 = .ok (.ldc2_w 235, 3) := by decide +kernel
theorem dX11_values_28 : decode cX11_values 28 = .ok (.lreturn, 1) := by decide +kernel
theorem dX11_values_29 : decode cX11_values 29 = .ok (.iconst (-1), 1) := by decide +kernel
theorem dX11_values_30 : decode cX11_values 30 = .ok (.istore_n 3, 1) := by decide +kernel
theorem dX11_values_31 : decode cX11_values 31 = .ok (.lconst 0, 1) := by decide +kernel
theorem dX11_values_32 : decode cX11_values 32 = .ok (.lstore 4, 2) := by decide +kernel
theorem dX11_values_34 : decode cX11_values 34 = .ok (.sipush 160, 3) := by decide +kernel
theorem dX11_values_37 : decode cX11_values 37 = .ok (.iload_n 1, 1) := by decide +kernel
theorem dX11_values_38 : decode cX11_values 38 = .ok (.imul, 1) := by decide +kernel
theorem dX11_values_39 : decode cX11_values 39 = .ok (.istore 6, 2) := by decide +kernel
theorem dX11_values_41 : decode cX11_values 41 = .ok (.iload 6, 2) := by decide +kernel
theorem dX11_values_43 : decode cX11_values 43 = .ok (.sipush 160, 3) := by decide +kernel
theorem dX11_values_46 : decode cX11_values 46 = .ok (.iload_n 1, 1) := by decide +kernel
theorem dX11_values_47 : decode cX11_values 47 = .ok (.imul, 1) := by decide +kernel
theorem dX11_values_48 : decode cX11_values 48 = .ok (.aload_n 0, 1) := by decide +kernel
theorem dX11_values_49 : decode cX11_values 49 = .ok (.iload_n 1, 1) := by decide +kernel
theorem dX11_values_50 : decode cX11_values 50 = .ok (.invokevirtual 95, 3) := by decide +kernel
theorem dX11_values_53 : decode cX11_values 53 = .ok (.iadd, 1) := by decide +kernel
theorem dX11_values_54 : decode cX11_values 54 = .ok (.if_icmp .ge 46, 3) := by decide +kernel
theorem dX11_values_57 : decode cX11_values 57 = .ok (.iload_n 3, 1) := by decide +kernel
theorem dX11_values_58 : decode cX11_values 58 = .ok (.iconst (-1), 1) := by decide +kernel
theorem dX11_values_59 : decode cX11_values 59 = .ok (.if_icmp .eq 19, 3) := by decide +kernel
theorem dX11_values_62 : decode cX11_values 62 = .ok (.aload_n 0, 1) := by decide +kernel
theorem dX11_values_63 : decode cX11_values 63 = .ok (.getfield 21, 3) := by decide +kernel
theorem dX11_values_66 : decode cX11_values 66 = .ok (.iload 6, 2) := by decide +kernel
theorem dX11_values_68 : decode cX11_values 68 = .ok (.iaload, 1) := by decide +kernel
theorem dX11_values_69 : decode cX11_values 69 = .ok (.aload_n 0, 1) := by decide +kernel
theorem dX11_values_70 : decode cX11_values 70 = .ok (.getfield 21, 3) := by decide +kernel
theorem dX11_values_73 : decode cX11_values 73 = .ok (.iload_n 3, 1) := by decide +kernel
theorem dX11_values_74 : decode cX11_values 74 = .ok (.iaload, 1) := by decide +kernel
theorem dX11_values_75 : decode cX11_values 75 = .ok (.if_icmp .le 6, 3) := by decide +kernel
theorem dX11_values_78 : decode cX11_values 78 = .ok (.iload 6, 2) := by decide +kernel
theorem dX11_values_80 : decode cX11_values 80 = .ok (.istore_n 3, 1) := by decide +kernel
theorem dX11_values_81 : decode cX11_values 81 = .ok (.lload 4, 2) := by decide +kernel
theorem dX11_values_83 : decode cX11_values 83 = .ok (.aload_n 0, 1) := by decide +kernel
theorem dX11_values_84 : decode cX11_values 84 = .ok (.getfield 21, 3) := by decide +kernel
theorem dX11_values_87 : decode cX11_values 87 = .ok (.iload 6, 2) := by decide +kernel
theorem dX11_values_89 : decode cX11_values 89 = .ok (.iaload, 1) := by decide +kernel
theorem dX11_values_90 : decode cX11_values 90 = .ok (.i2l, 1) := by decide +kernel
theorem dX11_values_91 : decode cX11_values 91 = .ok (.ladd, 1) := by decide +kernel
theorem dX11_values_92 : decode cX11_values 92 = .ok (.lstore 4, 2) := by decide +kernel
theorem dX11_values_94 : decode cX11_values 94 = .ok (.iinc 6 1, 3) := by decide +kernel
theorem dX11_values_97 : decode cX11_values 97 = .ok (.goto (-56), 3) := by decide +kernel
theorem dX11_values_100 : decode cX11_values 100 = .ok (.iload_n 2, 1) := by decide +kernel
theorem dX11_values_101 : decode cX11_values 101 = .ok (.iconst 2, 1) := by decide +kernel
theorem dX11_values_102 : decode cX11_values 102 = .ok (.if_icmp .ne 6, 3) := by decide +kernel
theorem dX11_values_105 : decode cX11_values 105 = .ok (.lload 4, 2) := by decide +kernel
theorem dX11_values_107 : decode cX11_values 107 = .ok (.lreturn, 1) := by decide +kernel
theorem dX11_values_108 : decode cX11_values 108 = .ok (.iload_n 2, 1) := by decide +kernel
theorem dX11_values_109 : decode cX11_values 109 = .ok (.ifCond .ne 24, 3) := by decide +kernel
theorem dX11_values_112 : decode cX11_values 112 = .ok (.iload_n 3, 1) := by decide +kernel
theorem dX11_values_113 : decode cX11_values 113 = .ok (.iconst (-1), 1) := by decide +kernel
theorem dX11_values_114 : decode cX11_values 114 = .ok (.if_icmp .ne 9, 3) := by decide +kernel
theorem dX11_values_117 : decode cX11_values 117 = .ok (.ldc2_w 237, 3) := by decide +kernel
theorem dX11_values_120 : decode cX11_values 120 = .ok (.goto 31, 3) := by decide +kernel
theorem dX11_values_123 : decode cX11_values 123 = .ok (.aload_n 0, 1) := by decide +kernel
theorem dX11_values_124 : decode cX11_values 124 = .ok (.getfield 17, 3) := by decide +kernel
theorem dX11_values_127 : decode cX11_values 127 = .ok (.iload_n 3, 1) := by decide +kernel
theorem dX11_values_128 : decode cX11_values 128 = .ok (.iaload, 1) := by decide +kernel
theorem dX11_values_129 : decode cX11_values 129 = .ok (.i2l, 1) := by decide +kernel
theorem dX11_values_130 : decode cX11_values 130 = .ok (.goto 21, 3) := by decide +kernel
theorem dX11_values_133 : decode cX11_values 133 = .ok (.iload_n 3, 1) := by decide +kernel
theorem dX11_values_134 : decode cX11_values 134 = .ok (.iconst (-1), 1) := by decide +kernel
theorem dX11_values_135 : decode cX11_values 135 = .ok (.if_icmp .ne 9, 3) := by decide +kernel
theorem dX11_values_138 : decode cX11_values 138 = .ok (.ldc2_w 235, 3) := by decide +kernel
theorem dX11_values_141 : decode cX11_values 141 = .ok (.goto 10, 3) := by decide +kernel
theorem dX11_values_144 : decode cX11_values 144 = .ok (.aload_n 0, 1) := by decide +kernel
theorem dX11_values_145 : decode cX11_values 145 = .ok (.getfield 21, 3) := by decide +kernel
theorem dX11_values_148 : decode cX11_values 148 = .ok (.iload_n 3, 1) := by decide +kernel
theorem dX11_values_149 : decode cX11_values 149 = .ok (.iaload, 1) := by decide +kernel
theorem dX11_values_150 : decode cX11_values 150 = .ok (.i2l, 1) := by decide +kernel
theorem dX11_values_151 : decode cX11_values 151 = .ok (.lreturn, 1) := by decide +kernel
set_option maxRecDepth 20000 in
theorem ggX11_run_X11_isThere : GoodIn wsX11_run wsX11_isThere := goodIn_r _ [11, 12, 13, 14, 10, 15, 16, 17, 18, 19, 20, 303, 304, 305, 306, 307, 308, 309, 310, 311, 312, 313, 314, 315, 316, 317, 318, 319, 320, 321, 322, 323, 324, 325, 326, 327, 328, 329, 330, 331, 332, 333, 334, 335, 336, 337, 338, 339, 340, 341, 342, 343, 344, 345, 346, 347, 348, 349] (by decide +kernel) (by decide +kernel)
set_option maxRecDepth 20000 in
theorem gX11_run_X11_isThere : GoodIn wsX11_run (wsV RX11 222 RX11 yX11_isThere wsX11_isThere) := goodIn_app (goodIn_of _ (by decide +kernel)) ggX11_run_X11_isThere
set_option maxRecDepth 20000 in
theorem ggX11_run_X11_readsProgram : GoodIn wsX11_run wsX11_readsProgram := goodIn_r _ [24, 25, 26, 27, 28, 5, 29, 30, 31, 32, 33, 34, 35, 36, 37, 38, 10, 39, 40, 41, 42, 43, 44, 45, 46, 47, 48, 49, 50, 51, 52, 53, 54, 55, 56, 57, 58, 59, 60, 61, 62, 63, 64, 65, 66, 67, 68, 69, 70, 71, 72, 73, 74, 75, 76, 77, 78, 79, 80, 81, 82, 83, 84, 85, 13, 14, 15, 86, 87, 88, 89, 90, 91, 92, 93, 94, 95, 96, 97, 98, 99, 100, 101, 102, 103, 104, 105, 106, 107, 108, 109, 110, 111, 112, 113, 114, 115, 116, 117, 118, 119, 120, 121, 122, 123, 124, 125, 126, 127, 303, 304, 305, 306, 307, 308, 309, 310, 311, 312, 313, 314, 315, 316, 317, 318, 319, 320, 321, 322, 323, 324, 325, 326, 327, 328, 329, 330, 331, 332, 333, 334, 335, 336, 337, 338, 339, 340, 341, 342, 343, 344, 345, 346, 347, 348, 349] (by decide +kernel) (by decide +kernel)
set_option maxRecDepth 20000 in
theorem gX11_run_X11_readsProgram : GoodIn wsX11_run (wsV RX11 431 RX11 yX11_readsProgram wsX11_readsProgram) := goodIn_app (goodIn_of _ (by decide +kernel)) ggX11_run_X11_readsProgram
set_option maxRecDepth 20000 in
theorem ggX11_run_X11_runs : GoodIn wsX11_run wsX11_runs := goodIn_r _ [131, 6, 2, 3, 132, 133, 4, 31, 58, 134, 135, 136, 137, 10, 138, 139, 140, 141, 142, 143, 144, 145, 146, 147, 148, 149, 150, 151, 152, 153, 154, 155, 156, 157, 158, 159, 160, 161, 162, 163, 164, 165, 166, 167, 168, 169, 170, 171, 172, 13, 14, 15, 173, 174, 175, 176, 177, 178, 179, 180, 16, 17, 18, 19, 20, 181, 182, 183, 184, 185, 186, 187, 188, 189, 190, 191, 192, 193, 194, 195, 196, 197, 198, 199, 200, 201, 202, 203, 204, 205, 206, 207, 208, 209, 210, 211, 212, 213, 214, 215, 216, 217, 218, 219, 220, 221, 222, 223, 224, 225, 226, 227, 228, 229, 230, 231, 232, 233, 234, 235, 236, 237, 238, 239, 240, 241, 242, 243, 244, 245, 246, 247, 248, 249, 250, 251, 252, 253, 254, 255, 256, 257, 258, 259, 260, 261, 262, 263, 264, 265, 266, 267, 268, 269, 270, 271, 272, 273, 274, 275, 276, 277, 278, 279, 280, 281, 282, 283, 284, 285, 286, 287, 288, 289, 290, 291, 292, 293, 294, 295, 296, 297, 298, 299, 300, 301, 302, 303, 304, 305, 306, 307, 308, 309, 310, 311, 312, 313, 314, 315, 316, 317, 318, 319, 320, 321, 322, 323, 324, 325, 326, 327, 328, 329, 330, 331, 332, 333, 334, 335, 336, 337, 338, 339, 340, 341, 342, 343, 344, 345, 346, 347, 348, 349] (by decide +kernel) (by decide +kernel)
set_option maxRecDepth 20000 in
theorem gX11_run_X11_runs : GoodIn wsX11_run (wsV RX11 434 RX11 yX11_runs wsX11_runs) := goodIn_app (goodIn_of _ (by decide +kernel)) ggX11_run_X11_runs
theorem dX11_run_0 : decode cX11_run 0 = .ok (.aload_n 0, 1) := by decide +kernel
theorem dX11_run_1 : decode cX11_run 1 = .ok (.iconst 0, 1) := by decide +kernel
theorem dX11_run_2 : decode cX11_run 2 = .ok (.putfield 73, 3) := by decide +kernel
theorem dX11_run_5 : decode cX11_run 5 = .ok (.aload_n 0, 1) := by decide +kernel
theorem dX11_run_6 : decode cX11_run 6 = .ok (.iload_n 1, 1) := by decide +kernel
theorem dX11_run_7 : decode cX11_run 7 = .ok (.invokevirtual 222, 3) := by decide +kernel
theorem dX11_run_10 : decode cX11_run 10 = .ok (.ifCond .ne 6, 3) := by decide +kernel
theorem dX11_run_13 : decode cX11_run 13 = .ok (.bipush (-2), 2) := by decide +kernel
theorem dX11_run_15 : decode cX11_run 15 = .ok (.ireturn, 1) := by decide +kernel
theorem dX11_run_16 : decode cX11_run 16 = .ok (.aload_n 0, 1) := by decide +kernel
theorem dX11_run_17 : decode cX11_run 17 = .ok (.invokevirtual 431, 3) := by decide +kernel
theorem dX11_run_20 : decode cX11_run 20 = .ok (.aload_n 0, 1) := by decide +kernel
theorem dX11_run_21 : decode cX11_run 21 = .ok (.iconst 0, 1) := by decide +kernel
theorem dX11_run_22 : decode cX11_run 22 = .ok (.putfield 407, 3) := by decide +kernel
theorem dX11_run_25 : decode cX11_run 25 = .ok (.aload_n 0, 1) := by decide +kernel
theorem dX11_run_26 : decode cX11_run 26 = .ok (.iconst 0, 1) := by decide +kernel
theorem dX11_run_27 : decode cX11_run 27 = .ok (.putfield 394, 3) := by decide +kernel
theorem dX11_run_30 : decode cX11_run 30 = .ok (.aload_n 0, 1) := by decide +kernel
theorem dX11_run_31 : decode cX11_run 31 = .ok (.iconst 0, 1) := by decide +kernel
theorem dX11_run_32 : decode cX11_run 32 = .ok (.putfield 403, 3) := by decide +kernel
theorem dX11_run_35 : decode cX11_run 35 = .ok (.aload_n 0, 1) := by decide +kernel
theorem dX11_run_36 : decode cX11_run 36 = .ok (.getfield 280, 3) := by decide +kernel
theorem dX11_run_39 : decode cX11_run 39 = .ok (.ifCond .eq 5, 3) := by decide +kernel
theorem dX11_run_42 : decode cX11_run 42 = .ok (.iconst (-1), 1) := by decide +kernel
theorem dX11_run_43 : decode cX11_run 43 = .ok (.ireturn, 1) := by decide +kernel
theorem dX11_run_44 : decode cX11_run 44 = .ok (.aload_n 0, 1) := by decide +kernel
theorem dX11_run_45 : decode cX11_run 45 = .ok (.iload_n 1, 1) := by decide +kernel
theorem dX11_run_46 : decode cX11_run 46 = .ok (.invokevirtual 434, 3) := by decide +kernel
theorem dX11_run_49 : decode cX11_run 49 = .ok (.aload_n 0, 1) := by decide +kernel
theorem dX11_run_50 : decode cX11_run 50 = .ok (.getfield 400, 3) := by decide +kernel
theorem dX11_run_53 : decode cX11_run 53 = .ok (.ireturn, 1) := by decide +kernel
set_option maxRecDepth 20000 in
theorem ggX11_ran_X11_flag : GoodIn wsX11_ran wsX11_flag := goodIn_r _ [12] (by decide +kernel) (by decide +kernel)
set_option maxRecDepth 20000 in
theorem gX11_ran_X11_flag : GoodIn wsX11_ran (va_wsS RX11 198 yX11_flag wsX11_flag) := goodIn_app (goodIn_of _ (by decide +kernel)) ggX11_ran_X11_flag
theorem dX11_ran_0 : decode cX11_ran 0 = .ok (.aload_n 0, 1) := by decide +kernel
theorem dX11_ran_1 : decode cX11_ran 1 = .ok (.iconst 0, 1) := by decide +kernel
theorem dX11_ran_2 : decode cX11_ran 2 = .ok (.putfield 73, 3) := by decide +kernel
theorem dX11_ran_5 : decode cX11_ran 5 = .ok (.iload_n 1, 1) := by decide +kernel
theorem dX11_ran_6 : decode cX11_ran 6 = .ok (.tableswitch 77 0 5 #[38, 44, 50, 56, 62, 68], 38) := by decide +kernel
theorem dX11_ran_44 : decode cX11_ran 44 = .ok (.aload_n 0, 1) := by decide +kernel
theorem dX11_ran_45 : decode cX11_ran 45 = .ok (.getfield 382, 3) := by decide +kernel
theorem dX11_ran_48 : decode cX11_ran 48 = .ok (.i2l, 1) := by decide +kernel
theorem dX11_ran_49 : decode cX11_ran 49 = .ok (.lreturn, 1) := by decide +kernel
theorem dX11_ran_50 : decode cX11_ran 50 = .ok (.aload_n 0, 1) := by decide +kernel
theorem dX11_ran_51 : decode cX11_ran 51 = .ok (.getfield 54, 3) := by decide +kernel
theorem dX11_ran_54 : decode cX11_ran 54 = .ok (.i2l, 1) := by decide +kernel
theorem dX11_ran_55 : decode cX11_ran 55 = .ok (.lreturn, 1) := by decide +kernel
theorem dX11_ran_56 : decode cX11_ran 56 = .ok (.aload_n 0, 1) := by decide +kernel
theorem dX11_ran_57 : decode cX11_ran 57 = .ok (.getfield 58, 3) := by decide +kernel
theorem dX11_ran_60 : decode cX11_ran 60 = .ok (.i2l, 1) := by decide +kernel
theorem dX11_ran_61 : decode cX11_ran 61 = .ok (.lreturn, 1) := by decide +kernel
theorem dX11_ran_62 : decode cX11_ran 62 = .ok (.aload_n 0, 1) := by decide +kernel
theorem dX11_ran_63 : decode cX11_ran 63 = .ok (.getfield 407, 3) := by decide +kernel
theorem dX11_ran_66 : decode cX11_ran 66 = .ok (.i2l, 1) := by decide +kernel
theorem dX11_ran_67 : decode cX11_ran 67 = .ok (.lreturn, 1) := by decide +kernel
theorem dX11_ran_68 : decode cX11_ran 68 = .ok (.aload_n 0, 1) := by decide +kernel
theorem dX11_ran_69 : decode cX11_ran 69 = .ok (.getfield 394, 3) := by decide +kernel
theorem dX11_ran_72 : decode cX11_ran 72 = .ok (.i2l, 1) := by decide +kernel
theorem dX11_ran_73 : decode cX11_ran 73 = .ok (.lreturn, 1) := by decide +kernel
theorem dX11_ran_74 : decode cX11_ran 74 = .ok (.aload_n 0, 1) := by decide +kernel
theorem dX11_ran_75 : decode cX11_ran 75 = .ok (.getfield 403, 3) := by decide +kernel
theorem dX11_ran_78 : decode cX11_ran 78 = .ok (.invokestatic 198, 3) := by decide +kernel
theorem dX11_ran_81 : decode cX11_ran 81 = .ok (.i2l, 1) := by decide +kernel
theorem dX11_ran_82 : decode cX11_ran 82 = .ok (.lreturn, 1) := by decide +kernel
theorem dX11_ran_83 : decode cX11_ran 83 = .ok (.ldc2_w 235, 3) := by decide +kernel
theorem dX11_ran_86 : decode cX11_ran 86 = .ok (.lreturn, 1) := by decide +kernel
set_option maxRecDepth 20000 in
theorem ggX11_image_X11_isThere : GoodIn wsX11_image wsX11_isThere := goodIn_r _ [10, 11, 12, 13, 9, 14, 15, 16, 17, 18, 19, 33, 34, 35, 36, 37, 38, 39, 40, 41, 42, 43, 44, 45, 46, 47, 48, 49, 50, 51, 52, 53, 54, 55, 56, 57, 58, 59, 60, 61, 62, 63, 64, 65, 66, 67, 68, 69, 70, 71, 72, 73, 74, 75, 76, 77, 78, 79] (by decide +kernel) (by decide +kernel)
set_option maxRecDepth 20000 in
theorem gX11_image_X11_isThere : GoodIn wsX11_image (wsV RX11 222 RX11 yX11_isThere wsX11_isThere) := goodIn_app (goodIn_of _ (by decide +kernel)) ggX11_image_X11_isThere
set_option maxRecDepth 20000 in
theorem ggX11_image_X11_of : GoodIn wsX11_image wsX11_of := goodIn_r _ [18, 19, 33, 34, 35, 36, 37, 38, 39, 40, 41, 42, 43, 44, 45, 46, 47, 48, 49, 50, 51, 52, 53, 54, 55, 56, 57, 58, 59, 60, 61, 62, 63, 64, 65, 66, 67, 68, 69, 70, 71, 72, 73, 74, 75, 76, 77, 78, 79] (by decide +kernel) (by decide +kernel)
set_option maxRecDepth 20000 in
theorem gX11_image_X11_of : GoodIn wsX11_image (wsV RX11 89 RX11 yX11_of wsX11_of) := goodIn_app (goodIn_of _ (by decide +kernel)) ggX11_image_X11_of
set_option maxRecDepth 20000 in
theorem ggX11_image_X11_octetsOf : GoodIn wsX11_image wsX11_octetsOf := goodIn_r _ [23, 24, 25, 26, 9, 27, 5, 2, 28, 33, 34, 35, 36, 37, 38, 39, 40, 41, 42, 43, 44, 45, 46, 47, 48, 49, 50, 51, 52, 53, 54, 55, 56, 57, 58, 59, 60, 61, 62, 63, 64, 65, 66, 67, 68, 69, 70, 71, 72, 73, 74, 75, 76, 77, 78, 79] (by decide +kernel) (by decide +kernel)
set_option maxRecDepth 20000 in
theorem gX11_image_X11_octetsOf : GoodIn wsX11_image (wsV RX11 446 RX11 yX11_octetsOf wsX11_octetsOf) := goodIn_app (goodIn_of _ (by decide +kernel)) ggX11_image_X11_octetsOf
set_option maxRecDepth 20000 in
theorem ggX11_image_X11_manyOf : GoodIn wsX11_image wsX11_manyOf := goodIn_r _ [32, 15, 16, 17, 9, 18, 19, 33, 34, 35, 36, 37, 38, 39, 40, 41, 42, 43, 44, 45, 46, 47, 48, 49, 50, 51, 52, 53, 54, 55, 56, 57, 58, 59, 60, 61, 62, 63, 64, 65, 66, 67, 68, 69, 70, 71, 72, 73, 74, 75, 76, 77, 78, 79] (by decide +kernel) (by decide +kernel)
set_option maxRecDepth 20000 in
theorem gX11_image_X11_manyOf : GoodIn wsX11_image (wsV RX11 95 RX11 yX11_manyOf wsX11_manyOf) := goodIn_app (goodIn_of _ (by decide +kernel)) ggX11_image_X11_manyOf
set_option maxRecDepth 20000 in
theorem ggX11_image_X11_octet1 : GoodIn wsX11_image wsX11_octet1 := goodIn_r _ [27, 5, 2, 28, 33, 34, 35, 36, 37, 38, 39, 40, 41, 42, 43, 44, 45, 46, 47, 48, 49, 50, 51, 52, 53, 54, 55, 56, 57, 58, 59, 60, 61, 62, 63, 64, 65, 66, 67, 68, 69, 70, 71, 72, 73, 74, 75, 76, 77, 78, 79] (by decide +kernel) (by decide +kernel)
set_option maxRecDepth 20000 in
theorem gX11_image_X11_octet1 : GoodIn wsX11_image (wsV RX11 442 RX11 yX11_octet1 wsX11_octet1) := goodIn_app (goodIn_of _ (by decide +kernel)) ggX11_image_X11_octet1
theorem dX11_image_0 : decode cX11_image 0 = .ok (.aload_n 0, 1) := by decide +kernel
theorem dX11_image_1 : decode cX11_image 1 = .ok (.iconst 0, 1) := by decide +kernel
theorem dX11_image_2 : decode cX11_image 2 = .ok (.putfield 73, 3) := by decide +kernel
theorem dX11_image_5 : decode cX11_image 5 = .ok (.aload_n 0, 1) := by decide +kernel
theorem dX11_image_6 : decode cX11_image 6 = .ok (.iload_n 1, 1) := by decide +kernel
theorem dX11_image_7 : decode cX11_image 7 = .ok (.invokevirtual 222, 3) := by decide +kernel
theorem dX11_image_10 : decode cX11_image 10 = .ok (.ifCond .ne 5, 3) := by decide +kernel
theorem dX11_image_13 : decode cX11_image 13 = .ok (.iconst (-1), 1) := by decide +kernel
theorem dX11_image_14 : decode cX11_image 14 = .ok (.ireturn, 1) := by decide +kernel
theorem dX11_image_15 : decode cX11_image 15 = .ok (.aload_n 0, 1) := by decide +kernel
theorem dX11_image_16 : decode cX11_image 16 = .ok (.iconst 0, 1) := by decide +kernel
theorem dX11_image_17 : decode cX11_image 17 = .ok (.putfield 437, 3) := by decide +kernel
theorem dX11_image_20 : decode cX11_image 20 = .ok (.aload_n 0, 1) := by decide +kernel
theorem dX11_image_21 : decode cX11_image 21 = .ok (.aload_n 0, 1) := by decide +kernel
theorem dX11_image_22 : decode cX11_image 22 = .ok (.iload_n 1, 1) := by decide +kernel
theorem dX11_image_23 : decode cX11_image 23 = .ok (.bipush 14, 2) := by decide +kernel
theorem dX11_image_25 : decode cX11_image 25 = .ok (.invokevirtual 89, 3) := by decide +kernel
theorem dX11_image_28 : decode cX11_image 28 = .ok (.iconst 1, 1) := by decide +kernel
theorem dX11_image_29 : decode cX11_image 29 = .ok (.invokevirtual 446, 3) := by decide +kernel
theorem dX11_image_32 : decode cX11_image 32 = .ok (.aload_n 0, 1) := by decide +kernel
theorem dX11_image_33 : decode cX11_image 33 = .ok (.aload_n 0, 1) := by decide +kernel
theorem dX11_image_34 : decode cX11_image 34 = .ok (.iload_n 1, 1) := by decide +kernel
theorem dX11_image_35 : decode cX11_image 35 = .ok (.bipush 15, 2) := by decide +kernel
theorem dX11_image_37 : decode cX11_image 37 = .ok (.invokevirtual 89, 3) := by decide +kernel
theorem dX11_image_40 : decode cX11_image 40 = .ok (.iconst 2, 1) := by decide +kernel
theorem dX11_image_41 : decode cX11_image 41 = .ok (.invokevirtual 446, 3) := by decide +kernel
theorem dX11_image_44 : decode cX11_image 44 = .ok (.aload_n 0, 1) := by decide +kernel
theorem dX11_image_45 : decode cX11_image 45 = .ok (.aload_n 0, 1) := by decide +kernel
theorem dX11_image_46 : decode cX11_image 46 = .ok (.iload_n 1, 1) := by decide +kernel
theorem dX11_image_47 : decode cX11_image 47 = .ok (.bipush 16, 2) := by decide +kernel
theorem dX11_image_49 : decode cX11_image 49 = .ok (.invokevirtual 89, 3) := by decide +kernel
theorem dX11_image_52 : decode cX11_image 52 = .ok (.iconst 1, 1) := by decide +kernel
theorem dX11_image_53 : decode cX11_image 53 = .ok (.invokevirtual 446, 3) := by decide +kernel
theorem dX11_image_56 : decode cX11_image 56 = .ok (.aload_n 0, 1) := by decide +kernel
theorem dX11_image_57 : decode cX11_image 57 = .ok (.aload_n 0, 1) := by decide +kernel
theorem dX11_image_58 : decode cX11_image 58 = .ok (.iload_n 1, 1) := by decide +kernel
theorem dX11_image_59 : decode cX11_image 59 = .ok (.bipush 13, 2) := by decide +kernel
theorem dX11_image_61 : decode cX11_image 61 = .ok (.invokevirtual 89, 3) := by decide +kernel
theorem dX11_image_64 : decode cX11_image 64 = .ok (.bipush 8, 2) := by decide +kernel
theorem dX11_image_66 : decode cX11_image 66 = .ok (.invokevirtual 446, 3) := by decide +kernel
theorem dX11_image_69 : decode cX11_image 69 = .ok (.aload_n 0, 1) := by decide +kernel
theorem dX11_image_70 : decode cX11_image 70 = .ok (.aload_n 0, 1) := by decide +kernel
theorem dX11_image_71 : decode cX11_image 71 = .ok (.iload_n 1, 1) := by decide +kernel
theorem dX11_image_72 : decode cX11_image 72 = .ok (.invokevirtual 95, 3) := by decide +kernel
theorem dX11_image_75 : decode cX11_image 75 = .ok (.i2l, 1) := by decide +kernel
theorem dX11_image_76 : decode cX11_image 76 = .ok (.iconst 1, 1) := by decide +kernel
theorem dX11_image_77 : decode cX11_image 77 = .ok (.invokevirtual 446, 3) := by decide +kernel
theorem dX11_image_80 : decode cX11_image 80 = .ok (.sipush 160, 3) := by decide +kernel
theorem dX11_image_83 : decode cX11_image 83 = .ok (.iload_n 1, 1) := by decide +kernel
theorem dX11_image_84 : decode cX11_image 84 = .ok (.imul, 1) := by decide +kernel
theorem dX11_image_85 : decode cX11_image 85 = .ok (.istore_n 2, 1) := by decide +kernel
theorem dX11_image_86 : decode cX11_image 86 = .ok (.iload_n 2, 1) := by decide +kernel
theorem dX11_image_87 : decode cX11_image 87 = .ok (.sipush 160, 3) := by decide +kernel
theorem dX11_image_90 : decode cX11_image 90 = .ok (.iload_n 1, 1) := by decide +kernel
theorem dX11_image_91 : decode cX11_image 91 = .ok (.imul, 1) := by decide +kernel
theorem dX11_image_92 : decode cX11_image 92 = .ok (.aload_n 0, 1) := by decide +kernel
theorem dX11_image_93 : decode cX11_image 93 = .ok (.iload_n 1, 1) := by decide +kernel
theorem dX11_image_94 : decode cX11_image 94 = .ok (.invokevirtual 95, 3) := by decide +kernel
theorem dX11_image_97 : decode cX11_image 97 = .ok (.iadd, 1) := by decide +kernel
theorem dX11_image_98 : decode cX11_image 98 = .ok (.if_icmp .ge 33, 3) := by decide +kernel
theorem dX11_image_101 : decode cX11_image 101 = .ok (.aload_n 0, 1) := by decide +kernel
theorem dX11_image_102 : decode cX11_image 102 = .ok (.aload_n 0, 1) := by decide +kernel
theorem dX11_image_103 : decode cX11_image 103 = .ok (.getfield 17, 3) := by decide +kernel
theorem dX11_image_106 : decode cX11_image 106 = .ok (.iload_n 2, 1) := by decide +kernel
theorem dX11_image_107 : decode cX11_image 107 = .ok (.iaload, 1) := by decide +kernel
theorem dX11_image_108 : decode cX11_image 108 = .ok (.i2l, 1) := by decide +kernel
theorem dX11_image_109 : decode cX11_image 109 = .ok (.iconst 4, 1) := by decide +kernel
theorem dX11_image_110 : decode cX11_image 110 = .ok (.invokevirtual 446, 3) := by decide +kernel
theorem dX11_image_113 : decode cX11_image 113 = .ok (.aload_n 0, 1) := by decide +kernel
theorem dX11_image_114 : decode cX11_image 114 = .ok (.aload_n 0, 1) := by decide +kernel
theorem dX11_image_115 : decode cX11_image 115 = .ok (.getfield 21, 3) := by decide +kernel
theorem dX11_image_118 : decode cX11_image 118 = .ok (.iload_n 2, 1) := by decide +kernel
theorem dX11_image_119 : decode cX11_image 119 = .ok (.iaload, 1) := by decide +kernel
theorem dX11_image_120 : decode cX11_image 120 = .ok (.i2l, 1) := by decide +kernel
theorem dX11_image_121 : decode cX11_image 121 = .ok (.iconst 4, 1) := by decide +kernel
theorem dX11_image_122 : decode cX11_image 122 = .ok (.invokevirtual 446, 3) := by decide +kernel
theorem dX11_image_125 : decode cX11_image 125 = .ok (.iinc 2 1, 3) := by decide +kernel
theorem dX11_image_128 : decode cX11_image 128 = .ok (.goto (-42), 3) := by decide +kernel
theorem dX11_image_131 : decode cX11_image 131 = .ok (.bipush 7, 2) := by decide +kernel
theorem dX11_image_133 : decode cX11_image 133 = .ok (.istore_n 2, 1) := by decide +kernel
theorem dX11_image_134 : decode cX11_image 134 = .ok (.iconst 0, 1) := by decide +kernel
theorem dX11_image_135 : decode cX11_image 135 = .ok (.istore_n 3, 1) := by decide +kernel
theorem dX11_image_136 : decode cX11_image 136 = .ok (.iload_n 3, 1) := by decide +kernel
theorem dX11_image_137 : decode cX11_image 137 = .ok (.aload_n 0, 1) := by decide +kernel
theorem dX11_image_138 : decode cX11_image 138 = .ok (.getfield 437, 3) := by decide +kernel
theorem dX11_image_141 : decode cX11_image 141 = .ok (.if_icmp .ge 24, 3) := by decide +kernel
theorem dX11_image_144 : decode cX11_image 144 = .ok (.iconst 5, 1) := by decide +kernel
theorem dX11_image_145 : decode cX11_image 145 = .ok (.iload_n 2, 1) := by decide +kernel
theorem dX11_image_146 : decode cX11_image 146 = .ok (.imul, 1) := by decide +kernel
theorem dX11_image_147 : decode cX11_image 147 = .ok (.aload_n 0, 1) := by decide +kernel
theorem dX11_image_148 : decode cX11_image 148 = .ok (.getfield 70, 3) := by decide +kernel
theorem dX11_image_151 : decode cX11_image 151 = .ok (.iload_n 3, 1) := by decide +kernel
theorem dX11_image_152 : decode cX11_image 152 = .ok (.iaload, 1) := by decide +kernel
theorem dX11_image_153 : decode cX11_image 153 = .ok (.iadd, 1) := by decide +kernel
theorem dX11_image_154 : decode cX11_image 154 = .ok (.sipush 253, 3) := by decide +kernel
theorem dX11_image_157 : decode cX11_image 157 = .ok (.irem, 1) := by decide +kernel
theorem dX11_image_158 : decode cX11_image 158 = .ok (.istore_n 2, 1) := by decide +kernel
theorem dX11_image_159 : decode cX11_image 159 = .ok (.iinc 3 1, 3) := by decide +kernel
theorem dX11_image_162 : decode cX11_image 162 = .ok (.goto (-26), 3) := by decide +kernel
theorem dX11_image_165 : decode cX11_image 165 = .ok (.aload_n 0, 1) := by decide +kernel
theorem dX11_image_166 : decode cX11_image 166 = .ok (.iload_n 2, 1) := by decide +kernel
theorem dX11_image_167 : decode cX11_image 167 = .ok (.i2l, 1) := by decide +kernel
theorem dX11_image_168 : decode cX11_image 168 = .ok (.invokevirtual 442, 3) := by decide +kernel
theorem dX11_image_171 : decode cX11_image 171 = .ok (.aload_n 0, 1) := by decide +kernel
theorem dX11_image_172 : decode cX11_image 172 = .ok (.getfield 437, 3) := by decide +kernel
theorem dX11_image_175 : decode cX11_image 175 = .ok (.ireturn, 1) := by decide +kernel
set_option maxRecDepth 20000 in
theorem ggX11_octet_X11_isIn : GoodIn wsX11_octet wsX11_isIn := goodIn_r _ [7] (by decide +kernel) (by decide +kernel)
set_option maxRecDepth 20000 in
theorem gX11_octet_X11_isIn : GoodIn wsX11_octet (va_wsS RX11 83 yX11_isIn wsX11_isIn) := goodIn_app (goodIn_of _ (by decide +kernel)) ggX11_octet_X11_isIn
theorem dX11_octet_0 : decode cX11_octet 0 = .ok (.aload_n 0, 1) := by decide +kernel
theorem dX11_octet_1 : decode cX11_octet 1 = .ok (.iconst 0, 1) := by decide +kernel
theorem dX11_octet_2 : decode cX11_octet 2 = .ok (.putfield 73, 3) := by decide +kernel
theorem dX11_octet_5 : decode cX11_octet 5 = .ok (.iload_n 1, 1) := by decide +kernel
theorem dX11_octet_6 : decode cX11_octet 6 = .ok (.i2l, 1) := by decide +kernel
theorem dX11_octet_7 : decode cX11_octet 7 = .ok (.lconst 0, 1) := by decide +kernel
theorem dX11_octet_8 : decode cX11_octet 8 = .ok (.aload_n 0, 1) := by decide +kernel
theorem dX11_octet_9 : decode cX11_octet 9 = .ok (.getfield 437, 3) := by decide +kernel
theorem dX11_octet_12 : decode cX11_octet 12 = .ok (.iconst 1, 1) := by decide +kernel
theorem dX11_octet_13 : decode cX11_octet 13 = .ok (.isub, 1) := by decide +kernel
theorem dX11_octet_14 : decode cX11_octet 14 = .ok (.i2l, 1) := by decide +kernel
theorem dX11_octet_15 : decode cX11_octet 15 = .ok (.invokestatic 83, 3) := by decide +kernel
theorem dX11_octet_18 : decode cX11_octet 18 = .ok (.ifCond .eq 12, 3) := by decide +kernel
theorem dX11_octet_21 : decode cX11_octet 21 = .ok (.aload_n 0, 1) := by decide +kernel
theorem dX11_octet_22 : decode cX11_octet 22 = .ok (.getfield 70, 3) := by decide +kernel
theorem dX11_octet_25 : decode cX11_octet 25 = .ok (.iload_n 1, 1) := by decide +kernel
theorem dX11_octet_26 : decode cX11_octet 26 = .ok (.iaload, 1) := by decide +kernel
theorem dX11_octet_27 : decode cX11_octet 27 = .ok (.goto 4, 3) := by decide +kernel
theorem dX11_octet_30 : decode cX11_octet 30 = .ok (.iconst (-1), 1) := by decide +kernel
theorem dX11_octet_31 : decode cX11_octet 31 = .ok (.ireturn, 1) := by decide +kernel
set_option maxRecDepth 20000 in
theorem ggX11_isImage_X11_bytesAt : GoodIn wsX11_isImage wsX11_bytesAt := goodIn_r _ [13, 1, 17, 18, 19, 20, 21, 22, 23, 24, 25, 26, 27, 28, 29, 30, 31, 32, 33, 34, 35, 36, 37, 38, 39, 40, 41, 42, 43, 44, 45, 46, 47, 48, 49, 50, 51, 52, 53, 54, 55, 56, 57, 58, 59, 60, 61, 62, 63] (by decide +kernel) (by decide +kernel)
set_option maxRecDepth 20000 in
theorem gX11_isImage_X11_bytesAt : GoodIn wsX11_isImage (wsV RX11 450 RX11 yX11_bytesAt wsX11_bytesAt) := goodIn_app (goodIn_of _ (by decide +kernel)) ggX11_isImage_X11_bytesAt
set_option maxRecDepth 20000 in
theorem ggX11_isImage_X11_isIn : GoodIn wsX11_isImage wsX11_isIn := goodIn_r _ [16] (by decide +kernel) (by decide +kernel)
set_option maxRecDepth 20000 in
theorem gX11_isImage_X11_isIn : GoodIn wsX11_isImage (va_wsS RX11 83 yX11_isIn wsX11_isIn) := goodIn_app (goodIn_of _ (by decide +kernel)) ggX11_isImage_X11_isIn
theorem dX11_isImage_0 : decode cX11_isImage 0 = .ok (.iload_n 1, 1) := by decide +kernel
theorem dX11_isImage_1 : decode cX11_isImage 1 = .ok (.bipush 14, 2) := by decide +kernel
theorem dX11_isImage_3 : decode cX11_isImage 3 = .ok (.if_icmp .lt 41, 3) := by decide +kernel
theorem dX11_isImage_6 : decode cX11_isImage 6 = .ok (.iload_n 1, 1) := by decide +kernel
theorem dX11_isImage_7 : decode cX11_isImage 7 = .ok (.bipush 14, 2) := by decide +kernel
theorem dX11_isImage_9 : decode cX11_isImage 9 = .ok (.bipush 8, 2) := by decide +kernel
theorem dX11_isImage_11 : decode cX11_isImage 11 = .ok (.aload_n 0, 1) := by decide +kernel
theorem dX11_isImage_12 : decode cX11_isImage 12 = .ok (.getfield 7, 3) := by decide +kernel
theorem dX11_isImage_15 : decode cX11_isImage 15 = .ok (.bipush 12, 2) := by decide +kernel
theorem dX11_isImage_17 : decode cX11_isImage 17 = .ok (.baload, 1) := by decide +kernel
theorem dX11_isImage_18 : decode cX11_isImage 18 = .ok (.sipush 255, 3) := by decide +kernel
theorem dX11_isImage_21 : decode cX11_isImage 21 = .ok (.iand, 1) := by decide +kernel
theorem dX11_isImage_22 : decode cX11_isImage 22 = .ok (.imul, 1) := by decide +kernel
theorem dX11_isImage_23 : decode cX11_isImage 23 = .ok (.iadd, 1) := by decide +kernel
theorem dX11_isImage_24 : decode cX11_isImage 24 = .ok (.if_icmp .ne 20, 3) := by decide +kernel
theorem dX11_isImage_27 : decode cX11_isImage 27 = .ok (.aload_n 0, 1) := by decide +kernel
theorem dX11_isImage_28 : decode cX11_isImage 28 = .ok (.getfield 7, 3) := by decide +kernel
theorem dX11_isImage_31 : decode cX11_isImage 31 = .ok (.bipush 12, 2) := by decide +kernel
theorem dX11_isImage_33 : decode cX11_isImage 33 = .ok (.baload, 1) := by decide +kernel
theorem dX11_isImage_34 : decode cX11_isImage 34 = .ok (.sipush 255, 3) := by decide +kernel
theorem dX11_isImage_37 : decode cX11_isImage 37 = .ok (.iand, 1) := by decide +kernel
theorem dX11_isImage_38 : decode cX11_isImage 38 = .ok (.sipush 160, 3) := by decide +kernel
theorem dX11_isImage_41 : decode cX11_isImage 41 = .ok (.if_icmp .le 5, 3) := by decide +kernel
theorem dX11_isImage_44 : decode cX11_isImage 44 = .ok (.iconst 0, 1) := by decide +kernel
theorem dX11_isImage_45 : decode cX11_isImage 45 = .ok (.ireturn, 1) := by decide +kernel
theorem dX11_isImage_46 : decode cX11_isImage 46 = .ok (.bipush 7, 2) := by decide +kernel
theorem dX11_isImage_48 : decode cX11_isImage 48 = .ok (.istore_n 2, 1) := by decide +kernel
theorem dX11_isImage_49 : decode cX11_isImage 49 = .ok (.iconst 0, 1) := by decide +kernel
theorem dX11_isImage_50 : decode cX11_isImage 50 = .ok (.istore_n 3, 1) := by decide +kernel
theorem dX11_isImage_51 : decode cX11_isImage 51 = .ok (.iload_n 3, 1) := by decide +kernel
theorem dX11_isImage_52 : decode cX11_isImage 52 = .ok (.iload_n 1, 1) := by decide +kernel
theorem dX11_isImage_53 : decode cX11_isImage 53 = .ok (.iconst 1, 1) := by decide +kernel
theorem dX11_isImage_54 : decode cX11_isImage 54 = .ok (.isub, 1) := by decide +kernel
theorem dX11_isImage_55 : decode cX11_isImage 55 = .ok (.if_icmp .ge 28, 3) := by decide +kernel
theorem dX11_isImage_58 : decode cX11_isImage 58 = .ok (.iconst 5, 1) := by decide +kernel
theorem dX11_isImage_59 : decode cX11_isImage 59 = .ok (.iload_n 2, 1) := by decide +kernel
theorem dX11_isImage_60 : decode cX11_isImage 60 = .ok (.imul, 1) := by decide +kernel
theorem dX11_isImage_61 : decode cX11_isImage 61 = .ok (.aload_n 0, 1) := by decide +kernel
theorem dX11_isImage_62 : decode cX11_isImage 62 = .ok (.getfield 7, 3) := by decide +kernel
theorem dX11_isImage_65 : decode cX11_isImage 65 = .ok (.iload_n 3, 1) := by decide +kernel
theorem dX11_isImage_66 : decode cX11_isImage 66 = .ok (.baload, 1) := by decide +kernel
theorem dX11_isImage_67 : decode cX11_isImage 67 = .ok (.sipush 255, 3) := by decide +kernel
theorem dX11_isImage_70 : decode cX11_isImage 70 = .ok (.iand, 1) := by decide +kernel
theorem dX11_isImage_71 : decode cX11_isImage 71 = .ok (.iadd, 1) := by decide +kernel
theorem dX11_isImage_72 : decode cX11_isImage 72 = .ok (.sipush 253, 3) := by decide +kernel
theorem dX11_isImage_75 : decode cX11_isImage 75 = .ok (.irem, 1) := by decide +kernel
theorem dX11_isImage_76 : decode cX11_isImage 76 = .ok (.istore_n 2, 1) := by decide +kernel
theorem dX11_isImage_77 : decode cX11_isImage 77 = .ok (.iinc 3 1, 3) := by decide +kernel
theorem dX11_isImage_80 : decode cX11_isImage 80 = .ok (.goto (-29), 3) := by decide +kernel
theorem dX11_isImage_83 : decode cX11_isImage 83 = .ok (.iload_n 2, 1) := by decide +kernel
theorem dX11_isImage_84 : decode cX11_isImage 84 = .ok (.aload_n 0, 1) := by decide +kernel
theorem dX11_isImage_85 : decode cX11_isImage 85 = .ok (.getfield 7, 3) := by decide +kernel
theorem dX11_isImage_88 : decode cX11_isImage 88 = .ok (.iload_n 1, 1) := by decide +kernel
theorem dX11_isImage_89 : decode cX11_isImage 89 = .ok (.iconst 1, 1) := by decide +kernel
theorem dX11_isImage_90 : decode cX11_isImage 90 = .ok (.isub, 1) := by decide +kernel
theorem dX11_isImage_91 : decode cX11_isImage 91 = .ok (.baload, 1) := by decide +kernel
theorem dX11_isImage_92 : decode cX11_isImage 92 = .ok (.sipush 255, 3) := by decide +kernel
theorem dX11_isImage_95 : decode cX11_isImage 95 = .ok (.iand, 1) := by decide +kernel
theorem dX11_isImage_96 : decode cX11_isImage 96 = .ok (.if_icmp .ne 55, 3) := by decide +kernel
theorem dX11_isImage_99 : decode cX11_isImage 99 = .ok (.aload_n 0, 1) := by decide +kernel
theorem dX11_isImage_100 : decode cX11_isImage 100 = .ok (.iconst 0, 1) := by decide +kernel
theorem dX11_isImage_101 : decode cX11_isImage 101 = .ok (.iconst 1, 1) := by decide +kernel
theorem dX11_isImage_102 : decode cX11_isImage 102 = .ok (.invokevirtual 450, 3) := by decide +kernel
theorem dX11_isImage_105 : decode cX11_isImage 105 = .ok (.ldc2_w 178, 3) := by decide +kernel
theorem dX11_isImage_108 : decode cX11_isImage 108 = .ok (.ldc2_w 180, 3) := by decide +kernel
theorem dX11_isImage_111 : decode cX11_isImage 111 = .ok (.invokestatic 83, 3) := by decide +kernel
theorem dX11_isImage_114 : decode cX11_isImage 114 = .ok (.ifCond .eq 37, 3) := by decide +kernel
theorem dX11_isImage_117 : decode cX11_isImage 117 = .ok (.aload_n 0, 1) := by decide +kernel
theorem dX11_isImage_118 : decode cX11_isImage 118 = .ok (.iconst 1, 1) := by decide +kernel
theorem dX11_isImage_119 : decode cX11_isImage 119 = .ok (.iconst 2, 1) := by decide +kernel
theorem dX11_isImage_120 : decode cX11_isImage 120 = .ok (.invokevirtual 450, 3) := by decide +kernel
theorem dX11_isImage_123 : decode cX11_isImage 123 = .ok (.ldc2_w 182, 3) := by decide +kernel
theorem dX11_isImage_126 : decode cX11_isImage 126 = .ok (.ldc2_w 184, 3) := by decide +kernel
theorem dX11_isImage_129 : decode cX11_isImage 129 = .ok (.invokestatic 83, 3) := by decide +kernel
theorem dX11_isImage_132 : decode cX11_isImage 132 = .ok (.ifCond .eq 19, 3) := by decide +kernel
theorem dX11_isImage_135 : decode cX11_isImage 135 = .ok (.aload_n 0, 1) := by decide +kernel
theorem dX11_isImage_136 : decode cX11_isImage 136 = .ok (.iconst 3, 1) := by decide +kernel
theorem dX11_isImage_137 : decode cX11_isImage 137 = .ok (.iconst 1, 1) := by decide +kernel
theorem dX11_isImage_138 : decode cX11_isImage 138 = .ok (.invokevirtual 450, 3) := by decide +kernel
theorem dX11_isImage_141 : decode cX11_isImage 141 = .ok (.lconst 0, 1) := by decide +kernel
theorem dX11_isImage_142 : decode cX11_isImage 142 = .ok (.ldc2_w 186, 3) := by decide +kernel
theorem dX11_isImage_145 : decode cX11_isImage 145 = .ok (.invokestatic 83, 3) := by decide +kernel
theorem dX11_isImage_148 : decode cX11_isImage 148 = .ok (.ifCond .ne 5, 3) := by decide +kernel
theorem dX11_isImage_151 : decode cX11_isImage 151 = .ok (.iconst 0, 1) := by decide +kernel
theorem dX11_isImage_152 : decode cX11_isImage 152 = .ok (.ireturn, 1) := by decide +kernel
theorem dX11_isImage_153 : decode cX11_isImage 153 = .ok (.ldc2_w 237, 3) := by decide +kernel
theorem dX11_isImage_156 : decode cX11_isImage 156 = .ok (.lstore_n 3, 1) := by decide +kernel
theorem dX11_isImage_157 : decode cX11_isImage 157 = .ok (.bipush 13, 2) := by decide +kernel
theorem dX11_isImage_159 : decode cX11_isImage 159 = .ok (.istore 5, 2) := by decide +kernel
theorem dX11_isImage_161 : decode cX11_isImage 161 = .ok (.iload 5, 2) := by decide +kernel
theorem dX11_isImage_163 : decode cX11_isImage 163 = .ok (.iload_n 1, 1) := by decide +kernel
theorem dX11_isImage_164 : decode cX11_isImage 164 = .ok (.iconst 1, 1) := by decide +kernel
theorem dX11_isImage_165 : decode cX11_isImage 165 = .ok (.isub, 1) := by decide +kernel
theorem dX11_isImage_166 : decode cX11_isImage 166 = .ok (.if_icmp .ge 39, 3) := by decide +kernel
theorem dX11_isImage_169 : decode cX11_isImage 169 = .ok (.aload_n 0, 1) := by decide +kernel
theorem dX11_isImage_170 : decode cX11_isImage 170 = .ok (.iload 5, 2) := by decide +kernel
theorem dX11_isImage_172 : decode cX11_isImage 172 = .ok (.iconst 4, 1) := by decide +kernel
theorem dX11_isImage_173 : decode cX11_isImage 173 = .ok (.invokevirtual 450, 3) := by decide +kernel
theorem dX11_isImage_176 : decode cX11_isImage 176 = .ok (.lstore 6, 2) := by decide +kernel
theorem dX11_isImage_178 : decode cX11_isImage 178 = .ok (.lload 6, 2) := by decide +kernel
theorem dX11_isImage_180 : decode cX11_isImage 180 = .ok (.lload_n 3, 1) := by decide +kernel
theorem dX11_isImage_181 : decode cX11_isImage 181 = .ok (.lcmp, 1) := by decide +kernel
theorem dX11_isImage_182 : decode cX11_isImage 182 = .ok (.ifCond .le 12, 3) := by decide +kernel
theorem dX11_isImage_185 : decode cX11_isImage 185 = .ok (.lload 6, 2) := by decide +kernel
theorem dX11_isImage_187 : decode cX11_isImage 187 = .ok (.ldc2_w 103, 3) := by decide +kernel
theorem dX11_isImage_190 : decode cX11_isImage 190 = .ok (.lcmp, 1) := by decide +kernel
theorem dX11_isImage_191 : decode cX11_isImage 191 = .ok (.ifCond .lt 5, 3) := by decide +kernel
theorem dX11_isImage_194 : decode cX11_isImage 194 = .ok (.iconst 0, 1) := by decide +kernel
theorem dX11_isImage_195 : decode cX11_isImage 195 = .ok (.ireturn, 1) := by decide +kernel
theorem dX11_isImage_196 : decode cX11_isImage 196 = .ok (.lload 6, 2) := by decide +kernel
theorem dX11_isImage_198 : decode cX11_isImage 198 = .ok (.lstore_n 3, 1) := by decide +kernel
theorem dX11_isImage_199 : decode cX11_isImage 199 = .ok (.iinc 5 8, 3) := by decide +kernel
theorem dX11_isImage_202 : decode cX11_isImage 202 = .ok (.goto (-41), 3) := by decide +kernel
theorem dX11_isImage_205 : decode cX11_isImage 205 = .ok (.iconst 1, 1) := by decide +kernel
theorem dX11_isImage_206 : decode cX11_isImage 206 = .ok (.ireturn, 1) := by decide +kernel
set_option maxRecDepth 20000 in
theorem ggX11_back_X11_isIn : GoodIn wsX11_back wsX11_isIn := goodIn_r _ [10] (by decide +kernel) (by decide +kernel)
set_option maxRecDepth 20000 in
theorem gX11_back_X11_isIn : GoodIn wsX11_back (va_wsS RX11 83 yX11_isIn wsX11_isIn) := goodIn_app (goodIn_of _ (by decide +kernel)) ggX11_back_X11_isIn
set_option maxRecDepth 20000 in
theorem ggX11_back_X11_isImage : GoodIn wsX11_back wsX11_isImage := goodIn_r _ [14, 4, 15, 16, 17, 18, 19, 20, 21, 22, 23, 24, 9, 25, 7, 8, 10, 114, 115, 116, 117, 118, 119, 120, 121, 122, 123, 124, 125, 126, 127, 128, 129, 130, 131, 132, 133, 134, 135, 136, 137, 138, 139, 140, 141, 142, 143, 144, 145, 146, 147, 148, 149, 150, 151, 152, 153, 154, 155, 156, 157, 158, 159, 160] (by decide +kernel) (by decide +kernel)
set_option maxRecDepth 20000 in
theorem gX11_back_X11_isImage : GoodIn wsX11_back (wsV RX11 453 RX11 yX11_isImage wsX11_isImage) := goodIn_app (goodIn_of _ (by decide +kernel)) ggX11_back_X11_isImage
set_option maxRecDepth 20000 in
theorem ggX11_back_X11_bytesAt : GoodIn wsX11_back wsX11_bytesAt := goodIn_r _ [25, 4, 114, 115, 116, 117, 118, 119, 120, 121, 122, 123, 124, 125, 126, 127, 128, 129, 130, 131, 132, 133, 134, 135, 136, 137, 138, 139, 140, 141, 142, 143, 144, 145, 146, 147, 148, 149, 150, 151, 152, 153, 154, 155, 156, 157, 158, 159, 160] (by decide +kernel) (by decide +kernel)
set_option maxRecDepth 20000 in
theorem gX11_back_X11_bytesAt : GoodIn wsX11_back (wsV RX11 450 RX11 yX11_bytesAt wsX11_bytesAt) := goodIn_app (goodIn_of _ (by decide +kernel)) ggX11_back_X11_bytesAt
set_option maxRecDepth 20000 in
theorem ggX11_back_X11_makes : GoodIn wsX11_back wsX11_makes := goodIn_r _ [29, 30, 31, 32, 9, 33, 34, 114, 115, 116, 117, 118, 119, 120, 121, 122, 123, 124, 125, 126, 127, 128, 129, 130, 131, 132, 133, 134, 135, 136, 137, 138, 139, 140, 141, 142, 143, 144, 145, 146, 147, 148, 149, 150, 151, 152, 153, 154, 155, 156, 157, 158, 159, 160] (by decide +kernel) (by decide +kernel)
set_option maxRecDepth 20000 in
theorem gX11_back_X11_makes : GoodIn wsX11_back (wsV RX11 188 RX11 yX11_makes wsX11_makes) := goodIn_app (goodIn_of _ (by decide +kernel)) ggX11_back_X11_makes
set_option maxRecDepth 20000 in
theorem ggX11_back_X11_lays : GoodIn wsX11_back wsX11_lays := goodIn_r _ [33, 34, 114, 115, 116, 117, 118, 119, 120, 121, 122, 123, 124, 125, 126, 127, 128, 129, 130, 131, 132, 133, 134, 135, 136, 137, 138, 139, 140, 141, 142, 143, 144, 145, 146, 147, 148, 149, 150, 151, 152, 153, 154, 155, 156, 157, 158, 159, 160] (by decide +kernel) (by decide +kernel)
set_option maxRecDepth 20000 in
theorem gX11_back_X11_lays : GoodIn wsX11_back (wsV RX11 126 RX11 yX11_lays wsX11_lays) := goodIn_app (goodIn_of _ (by decide +kernel)) ggX11_back_X11_lays
set_option maxRecDepth 20000 in
theorem ggX11_back_X11_buildsAll : GoodIn wsX11_back wsX11_buildsAll := goodIn_r _ [38, 39, 40, 41, 42, 43, 44, 45, 46, 47, 9, 48, 49, 50, 51, 52, 34, 30, 31, 32, 33, 53, 54, 55, 56, 57, 58, 59, 60, 61, 62, 21, 63, 64, 65, 66, 67, 68, 69, 70, 71, 72, 73, 74, 5, 75, 76, 77, 78, 79, 80, 81, 82, 83, 84, 85, 86, 87, 88, 89, 90, 91, 92, 93, 94, 95, 96, 97, 98, 99, 100, 101, 102, 103, 104, 105, 106, 107, 108, 109, 110, 111, 112, 113, 114, 115, 116, 117, 118, 119, 120, 121, 122, 123, 124, 125, 126, 127, 128, 129, 130, 131, 132, 133, 134, 135, 136, 137, 138, 139, 140, 141, 142, 143, 144, 145, 146, 147, 148, 149, 150, 151, 152, 153, 154, 155, 156, 157, 158, 159, 160] (by decide +kernel) (by decide +kernel)
set_option maxRecDepth 20000 in
theorem gX11_back_X11_buildsAll : GoodIn wsX11_back (wsV RX11 192 RX11 yX11_buildsAll wsX11_buildsAll) := goodIn_app (goodIn_of _ (by decide +kernel)) ggX11_back_X11_buildsAll
theorem dX11_back_0 : decode cX11_back 0 = .ok (.aload_n 0, 1) := by decide +kernel
theorem dX11_back_1 : decode cX11_back 1 = .ok (.iconst 0, 1) := by decide +kernel
theorem dX11_back_2 : decode cX11_back 2 = .ok (.putfield 73, 3) := by decide +kernel
theorem dX11_back_5 : decode cX11_back 5 = .ok (.iload_n 1, 1) := by decide +kernel
theorem dX11_back_6 : decode cX11_back 6 = .ok (.i2l, 1) := by decide +kernel
theorem dX11_back_7 : decode cX11_back 7 = .ok (.lconst 0, 1) := by decide +kernel
theorem dX11_back_8 : decode cX11_back 8 = .ok (.ldc2_w 87, 3) := by decide +kernel
theorem dX11_back_11 : decode cX11_back 11 = .ok (.invokestatic 83, 3) := by decide +kernel
theorem dX11_back_14 : decode cX11_back 14 = .ok (.ifCond .ne 6, 3) := by decide +kernel
theorem dX11_back_17 : decode cX11_back 17 = .ok (.bipush (-2), 2) := by decide +kernel
theorem dX11_back_19 : decode cX11_back 19 = .ok (.ireturn, 1) := by decide +kernel
theorem dX11_back_20 : decode cX11_back 20 = .ok (.aload_n 0, 1) := by decide +kernel
theorem dX11_back_21 : decode cX11_back 21 = .ok (.getfield 76, 3) := by decide +kernel
theorem dX11_back_24 : decode cX11_back 24 = .ok (.istore_n 2, 1) := by decide +kernel
theorem dX11_back_25 : decode cX11_back 25 = .ok (.aload_n 0, 1) := by decide +kernel
theorem dX11_back_26 : decode cX11_back 26 = .ok (.iconst 0, 1) := by decide +kernel
theorem dX11_back_27 : decode cX11_back 27 = .ok (.putfield 76, 3) := by decide +kernel
theorem dX11_back_30 : decode cX11_back 30 = .ok (.aload_n 0, 1) := by decide +kernel
theorem dX11_back_31 : decode cX11_back 31 = .ok (.iload_n 2, 1) := by decide +kernel
theorem dX11_back_32 : decode cX11_back 32 = .ok (.invokevirtual 453, 3) := by decide +kernel
theorem dX11_back_35 : decode cX11_back 35 = .ok (.ifCond .ne 5, 3) := by decide +kernel
theorem dX11_back_38 : decode cX11_back 38 = .ok (.iconst (-1), 1) := by decide +kernel
theorem dX11_back_39 : decode cX11_back 39 = .ok (.ireturn, 1) := by decide +kernel
theorem dX11_back_40 : decode cX11_back 40 = .ok (.aload_n 0, 1) := by decide +kernel
theorem dX11_back_41 : decode cX11_back 41 = .ok (.iload_n 1, 1) := by decide +kernel
theorem dX11_back_42 : decode cX11_back 42 = .ok (.aload_n 0, 1) := by decide +kernel
theorem dX11_back_43 : decode cX11_back 43 = .ok (.iconst 0, 1) := by decide +kernel
theorem dX11_back_44 : decode cX11_back 44 = .ok (.iconst 1, 1) := by decide +kernel
theorem dX11_back_45 : decode cX11_back 45 = .ok (.invokevirtual 450, 3) := by decide +kernel
theorem dX11_back_48 : decode cX11_back 48 = .ok (.l2i, 1) := by decide +kernel
theorem dX11_back_49 : decode cX11_back 49 = .ok (.aload_n 0, 1) := by decide +kernel
theorem dX11_back_50 : decode cX11_back 50 = .ok (.iconst 1, 1) := by decide +kernel
theorem dX11_back_51 : decode cX11_back 51 = .ok (.iconst 2, 1) := by decide +kernel
theorem dX11_back_52 : decode cX11_back 52 = .ok (.invokevirtual 450, 3) := by decide +kernel
theorem dX11_back_55 : decode cX11_back 55 = .ok (.l2i, 1) := by decide +kernel
theorem dX11_back_56 : decode cX11_back 56 = .ok (.aload_n 0, 1) := by decide +kernel
theorem dX11_back_57 : decode cX11_back 57 = .ok (.iconst 3, 1) := by decide +kernel
theorem dX11_back_58 : decode cX11_back 58 = .ok (.iconst 1, 1) := by decide +kernel
theorem dX11_back_59 : decode cX11_back 59 = .ok (.invokevirtual 450, 3) := by decide +kernel
theorem dX11_back_62 : decode cX11_back 62 = .ok (.l2i, 1) := by decide +kernel
theorem dX11_back_63 : decode cX11_back 63 = .ok (.aload_n 0, 1) := by decide +kernel
theorem dX11_back_64 : decode cX11_back 64 = .ok (.iconst 4, 1) := by decide +kernel
theorem dX11_back_65 : decode cX11_back 65 = .ok (.bipush 8, 2) := by decide +kernel
theorem dX11_back_67 : decode cX11_back 67 = .ok (.invokevirtual 450, 3) := by decide +kernel
theorem dX11_back_70 : decode cX11_back 70 = .ok (.invokevirtual 188, 3) := by decide +kernel
theorem dX11_back_73 : decode cX11_back 73 = .ok (.aload_n 0, 1) := by decide +kernel
theorem dX11_back_74 : decode cX11_back 74 = .ok (.getfield 7, 3) := by decide +kernel
theorem dX11_back_77 : decode cX11_back 77 = .ok (.bipush 12, 2) := by decide +kernel
theorem dX11_back_79 : decode cX11_back 79 = .ok (.baload, 1) := by decide +kernel
theorem dX11_back_80 : decode cX11_back 80 = .ok (.sipush 255, 3) := by decide +kernel
theorem dX11_back_83 : decode cX11_back 83 = .ok (.iand, 1) := by decide +kernel
theorem dX11_back_84 : decode cX11_back 84 = .ok (.istore_n 3, 1) := by decide +kernel
theorem dX11_back_85 : decode cX11_back 85 = .ok (.iconst 0, 1) := by decide +kernel
theorem dX11_back_86 : decode cX11_back 86 = .ok (.istore 4, 2) := by decide +kernel
theorem dX11_back_88 : decode cX11_back 88 = .ok (.iload 4, 2) := by decide +kernel
theorem dX11_back_90 : decode cX11_back 90 = .ok (.iload_n 3, 1) := by decide +kernel
theorem dX11_back_91 : decode cX11_back 91 = .ok (.if_icmp .ge 63, 3) := by decide +kernel
theorem dX11_back_94 : decode cX11_back 94 = .ok (.aload_n 0, 1) := by decide +kernel
theorem dX11_back_95 : decode cX11_back 95 = .ok (.getfield 17, 3) := by decide +kernel
theorem dX11_back_98 : decode cX11_back 98 = .ok (.sipush 160, 3) := by decide +kernel
theorem dX11_back_101 : decode cX11_back 101 = .ok (.iload_n 1, 1) := by decide +kernel
theorem dX11_back_102 : decode cX11_back 102 = .ok (.imul, 1) := by decide +kernel
theorem dX11_back_103 : decode cX11_back 103 = .ok (.iload 4, 2) := by decide +kernel
theorem dX11_back_105 : decode cX11_back 105 = .ok (.iadd, 1) := by decide +kernel
theorem dX11_back_106 : decode cX11_back 106 = .ok (.aload_n 0, 1) := by decide +kernel
theorem dX11_back_107 : decode cX11_back 107 = .ok (.bipush 13, 2) := by decide +kernel
theorem dX11_back_109 : decode cX11_back 109 = .ok (.bipush 8, 2) := by decide +kernel
theorem dX11_back_111 : decode cX11_back 111 = .ok (.iload 4, 2) := by decide +kernel
theorem dX11_back_113 : decode cX11_back 113 = .ok (.imul, 1) := by decide +kernel
theorem dX11_back_114 : decode cX11_back 114 = .ok (.iadd, 1) := by decide +kernel
theorem dX11_back_115 : decode cX11_back 115 = .ok (.iconst 4, 1) := by decide +kernel
theorem dX11_back_116 : decode cX11_back 116 = .ok (.invokevirtual 450, 3) := by decide +kernel
theorem dX11_back_119 : decode cX11_back 119 = .ok (.l2i, 1) := by decide +kernel
theorem dX11_back_120 : decode cX11_back 120 = .ok (.iastore, 1) := by decide +kernel
theorem dX11_back_121 : decode cX11_back 121 = .ok (.aload_n 0, 1) := by decide +kernel
theorem dX11_back_122 : decode cX11_back 122 = .ok (.getfield 21, 3) := by decide +kernel
theorem dX11_back_125 : decode cX11_back 125 = .ok (.sipush 160, 3) := by decide +kernel
theorem dX11_back_128 : decode cX11_back 128 = .ok (.iload_n 1, 1) := by decide +kernel
theorem dX11_back_129 : decode cX11_back 129 = .ok (.imul, 1) := by decide +kernel
theorem dX11_back_130 : decode cX11_back 130 = .ok (.iload 4, 2) := by decide +kernel
theorem dX11_back_132 : decode cX11_back 132 = .ok (.iadd, 1) := by decide +kernel
theorem dX11_back_133 : decode cX11_back 133 = .ok (.aload_n 0, 1) := by decide +kernel
theorem dX11_back_134 : decode cX11_back 134 = .ok (.bipush 17, 2) := by decide +kernel
theorem dX11_back_136 : decode cX11_back 136 = .ok (.bipush 8, 2) := by decide +kernel
theorem dX11_back_138 : decode cX11_back 138 = .ok (.iload 4, 2) := by decide +kernel
theorem dX11_back_140 : decode cX11_back 140 = .ok (.imul, 1) := by decide +kernel
theorem dX11_back_141 : decode cX11_back 141 = .ok (.iadd, 1) := by decide +kernel
theorem dX11_back_142 : decode cX11_back 142 = .ok (.iconst 4, 1) := by decide +kernel
theorem dX11_back_143 : decode cX11_back 143 = .ok (.invokevirtual 450, 3) := by decide +kernel
theorem dX11_back_146 : decode cX11_back 146 = .ok (.l2i, 1) := by decide +kernel
theorem dX11_back_147 : decode cX11_back 147 = .ok (.iastore, 1) := by decide +kernel
theorem dX11_back_148 : decode cX11_back 148 = .ok (.iinc 4 1, 3) := by decide +kernel
theorem dX11_back_151 : decode cX11_back 151 = .ok (.goto (-63), 3) := by decide +kernel
theorem dX11_back_154 : decode cX11_back 154 = .ok (.aload_n 0, 1) := by decide +kernel
theorem dX11_back_155 : decode cX11_back 155 = .ok (.iload_n 1, 1) := by decide +kernel
theorem dX11_back_156 : decode cX11_back 156 = .ok (.iconst 1, 1) := by decide +kernel
theorem dX11_back_157 : decode cX11_back 157 = .ok (.iload_n 3, 1) := by decide +kernel
theorem dX11_back_158 : decode cX11_back 158 = .ok (.i2l, 1) := by decide +kernel
theorem dX11_back_159 : decode cX11_back 159 = .ok (.invokevirtual 126, 3) := by decide +kernel
theorem dX11_back_162 : decode cX11_back 162 = .ok (.aload_n 0, 1) := by decide +kernel
theorem dX11_back_163 : decode cX11_back 163 = .ok (.iload_n 1, 1) := by decide +kernel
theorem dX11_back_164 : decode cX11_back 164 = .ok (.invokevirtual 192, 3) := by decide +kernel
theorem dX11_back_167 : decode cX11_back 167 = .ok (.iload_n 3, 1) := by decide +kernel
theorem dX11_back_168 : decode cX11_back 168 = .ok (.ireturn, 1) := by decide +kernel
set_option maxRecDepth 20000 in
theorem ggX11_copy_X11_isIn : GoodIn wsX11_copy wsX11_isIn := goodIn_r _ [10] (by decide +kernel) (by decide +kernel)
set_option maxRecDepth 20000 in
theorem gX11_copy_X11_isIn : GoodIn wsX11_copy (va_wsS RX11 83 yX11_isIn wsX11_isIn) := goodIn_app (goodIn_of _ (by decide +kernel)) ggX11_copy_X11_isIn
set_option maxRecDepth 20000 in
theorem ggX11_copy_X11_isThere : GoodIn wsX11_copy wsX11_isThere := goodIn_r _ [14, 2, 7, 8, 9, 10, 15, 16, 17, 18, 19, 32, 33, 34, 35, 36, 37, 38, 39, 40, 41, 42, 43, 44, 45, 46, 47, 48, 49, 50, 51, 52, 53, 54, 55, 56, 57, 58, 59, 60, 61, 62, 63, 64, 65, 66, 67, 68, 69, 70, 71, 72, 73, 74, 75, 76, 77, 78] (by decide +kernel) (by decide +kernel)
set_option maxRecDepth 20000 in
theorem gX11_copy_X11_isThere : GoodIn wsX11_copy (wsV RX11 222 RX11 yX11_isThere wsX11_isThere) := goodIn_app (goodIn_of _ (by decide +kernel)) ggX11_copy_X11_isThere
set_option maxRecDepth 20000 in
theorem ggX11_copy_X11_of : GoodIn wsX11_copy wsX11_of := goodIn_r _ [18, 19, 32, 33, 34, 35, 36, 37, 38, 39, 40, 41, 42, 43, 44, 45, 46, 47, 48, 49, 50, 51, 52, 53, 54, 55, 56, 57, 58, 59, 60, 61, 62, 63, 64, 65, 66, 67, 68, 69, 70, 71, 72, 73, 74, 75, 76, 77, 78] (by decide +kernel) (by decide +kernel)
set_option maxRecDepth 20000 in
theorem gX11_copy_X11_of : GoodIn wsX11_copy (wsV RX11 89 RX11 yX11_of wsX11_of) := goodIn_app (goodIn_of _ (by decide +kernel)) ggX11_copy_X11_of
set_option maxRecDepth 20000 in
theorem ggX11_copy_X11_lays : GoodIn wsX11_copy wsX11_lays := goodIn_r _ [23, 19, 32, 33, 34, 35, 36, 37, 38, 39, 40, 41, 42, 43, 44, 45, 46, 47, 48, 49, 50, 51, 52, 53, 54, 55, 56, 57, 58, 59, 60, 61, 62, 63, 64, 65, 66, 67, 68, 69, 70, 71, 72, 73, 74, 75, 76, 77, 78] (by decide +kernel) (by decide +kernel)
set_option maxRecDepth 20000 in
theorem gX11_copy_X11_lays : GoodIn wsX11_copy (wsV RX11 126 RX11 yX11_lays wsX11_lays) := goodIn_app (goodIn_of _ (by decide +kernel)) ggX11_copy_X11_lays
set_option maxRecDepth 20000 in
theorem ggX11_copy_X11_moves : GoodIn wsX11_copy wsX11_moves := goodIn_r _ [27, 28, 29, 30, 31, 32, 33, 34, 35, 36, 37, 38, 39, 40, 41, 42, 43, 44, 45, 46, 47, 48, 49, 50, 51, 52, 53, 54, 55, 56, 57, 58, 59, 60, 61, 62, 63, 64, 65, 66, 67, 68, 69, 70, 71, 72, 73, 74, 75, 76, 77, 78] (by decide +kernel) (by decide +kernel)
set_option maxRecDepth 20000 in
theorem gX11_copy_X11_moves : GoodIn wsX11_copy (wsV RX11 195 RX11 yX11_moves wsX11_moves) := goodIn_app (goodIn_of _ (by decide +kernel)) ggX11_copy_X11_moves
theorem dX11_copy_0 : decode cX11_copy 0 = .ok (.aload_n 0, 1) := by decide +kernel
theorem dX11_copy_1 : decode cX11_copy 1 = .ok (.iconst 0, 1) := by decide +kernel
theorem dX11_copy_2 : decode cX11_copy 2 = .ok (.putfield 73, 3) := by decide +kernel
theorem dX11_copy_5 : decode cX11_copy 5 = .ok (.iload_n 1, 1) := by decide +kernel
theorem dX11_copy_6 : decode cX11_copy 6 = .ok (.i2l, 1) := by decide +kernel
theorem dX11_copy_7 : decode cX11_copy 7 = .ok (.lconst 0, 1) := by decide +kernel
theorem dX11_copy_8 : decode cX11_copy 8 = .ok (.ldc2_w 87, 3) := by decide +kernel
theorem dX11_copy_11 : decode cX11_copy 11 = .ok (.invokestatic 83, 3) := by decide +kernel
theorem dX11_copy_14 : decode cX11_copy 14 = .ok (.ifCond .eq 16, 3) := by decide +kernel
theorem dX11_copy_17 : decode cX11_copy 17 = .ok (.aload_n 0, 1) := by decide +kernel
theorem dX11_copy_18 : decode cX11_copy 18 = .ok (.iload_n 2, 1) := by decide +kernel
theorem dX11_copy_19 : decode cX11_copy 19 = .ok (.invokevirtual 222, 3) := by decide +kernel
theorem dX11_copy_22 : decode cX11_copy 22 = .ok (.ifCond .eq 8, 3) := by decide +kernel
theorem dX11_copy_25 : decode cX11_copy 25 = .ok (.iload_n 1, 1) := by decide +kernel
theorem dX11_copy_26 : decode cX11_copy 26 = .ok (.iload_n 2, 1) := by decide +kernel
theorem dX11_copy_27 : decode cX11_copy 27 = .ok (.if_icmp .ne 6, 3) := by decide +kernel
theorem dX11_copy_30 : decode cX11_copy 30 = .ok (.bipush (-2), 2) := by decide +kernel
theorem dX11_copy_32 : decode cX11_copy 32 = .ok (.ireturn, 1) := by decide +kernel
theorem dX11_copy_33 : decode cX11_copy 33 = .ok (.iconst 0, 1) := by decide +kernel
theorem dX11_copy_34 : decode cX11_copy 34 = .ok (.istore_n 3, 1) := by decide +kernel
theorem dX11_copy_35 : decode cX11_copy 35 = .ok (.iload_n 3, 1) := by decide +kernel
theorem dX11_copy_36 : decode cX11_copy 36 = .ok (.bipush 17, 2) := by decide +kernel
theorem dX11_copy_38 : decode cX11_copy 38 = .ok (.if_icmp .ge 21, 3) := by decide +kernel
theorem dX11_copy_41 : decode cX11_copy 41 = .ok (.aload_n 0, 1) := by decide +kernel
theorem dX11_copy_42 : decode cX11_copy 42 = .ok (.iload_n 1, 1) := by decide +kernel
theorem dX11_copy_43 : decode cX11_copy 43 = .ok (.iload_n 3, 1) := by decide +kernel
theorem dX11_copy_44 : decode cX11_copy 44 = .ok (.aload_n 0, 1) := by decide +kernel
theorem dX11_copy_45 : decode cX11_copy 45 = .ok (.iload_n 2, 1) := by decide +kernel
theorem dX11_copy_46 : decode cX11_copy 46 = .ok (.iload_n 3, 1) := by decide +kernel
theorem dX11_copy_47 : decode cX11_copy 47 = .ok (.invokevirtual 89, 3) := by decide +kernel
theorem dX11_copy_50 : decode cX11_copy 50 = .ok (.invokevirtual 126, 3) := by decide +kernel
theorem dX11_copy_53 : decode cX11_copy 53 = .ok (.iinc 3 1, 3) := by decide +kernel
theorem dX11_copy_56 : decode cX11_copy 56 = .ok (.goto (-21), 3) := by decide +kernel
theorem dX11_copy_59 : decode cX11_copy 59 = .ok (.iconst 0, 1) := by decide +kernel
theorem dX11_copy_60 : decode cX11_copy 60 = .ok (.istore_n 3, 1) := by decide +kernel
theorem dX11_copy_61 : decode cX11_copy 61 = .ok (.iload_n 3, 1) := by decide +kernel
theorem dX11_copy_62 : decode cX11_copy 62 = .ok (.sipush 160, 3) := by decide +kernel
theorem dX11_copy_65 : decode cX11_copy 65 = .ok (.if_icmp .ge 27, 3) := by decide +kernel
theorem dX11_copy_68 : decode cX11_copy 68 = .ok (.aload_n 0, 1) := by decide +kernel
theorem dX11_copy_69 : decode cX11_copy 69 = .ok (.sipush 160, 3) := by decide +kernel
theorem dX11_copy_72 : decode cX11_copy 72 = .ok (.iload_n 1, 1) := by decide +kernel
theorem dX11_copy_73 : decode cX11_copy 73 = .ok (.imul, 1) := by decide +kernel
theorem dX11_copy_74 : decode cX11_copy 74 = .ok (.iload_n 3, 1) := by decide +kernel
theorem dX11_copy_75 : decode cX11_copy 75 = .ok (.iadd, 1) := by decide +kernel
theorem dX11_copy_76 : decode cX11_copy 76 = .ok (.sipush 160, 3) := by decide +kernel
theorem dX11_copy_79 : decode cX11_copy 79 = .ok (.iload_n 2, 1) := by decide +kernel
theorem dX11_copy_80 : decode cX11_copy 80 = .ok (.imul, 1) := by decide +kernel
theorem dX11_copy_81 : decode cX11_copy 81 = .ok (.iload_n 3, 1) := by decide +kernel
theorem dX11_copy_82 : decode cX11_copy 82 = .ok (.iadd, 1) := by decide +kernel
theorem dX11_copy_83 : decode cX11_copy 83 = .ok (.invokevirtual 195, 3) := by decide +kernel
theorem dX11_copy_86 : decode cX11_copy 86 = .ok (.iinc 3 1, 3) := by decide +kernel
theorem dX11_copy_89 : decode cX11_copy 89 = .ok (.goto (-28), 3) := by decide +kernel
theorem dX11_copy_92 : decode cX11_copy 92 = .ok (.iconst 0, 1) := by decide +kernel
theorem dX11_copy_93 : decode cX11_copy 93 = .ok (.istore_n 3, 1) := by decide +kernel
theorem dX11_copy_94 : decode cX11_copy 94 = .ok (.iload_n 3, 1) := by decide +kernel
theorem dX11_copy_95 : decode cX11_copy 95 = .ok (.sipush 2048, 3) := by decide +kernel
theorem dX11_copy_98 : decode cX11_copy 98 = .ok (.if_icmp .ge 105, 3) := by decide +kernel
theorem dX11_copy_101 : decode cX11_copy 101 = .ok (.aload_n 0, 1) := by decide +kernel
theorem dX11_copy_102 : decode cX11_copy 102 = .ok (.getfield 30, 3) := by decide +kernel
theorem dX11_copy_105 : decode cX11_copy 105 = .ok (.sipush 2048, 3) := by decide +kernel
theorem dX11_copy_108 : decode cX11_copy 108 = .ok (.iload_n 1, 1) := by decide +kernel
theorem dX11_copy_109 : decode cX11_copy 109 = .ok (.imul, 1) := by decide +kernel
theorem dX11_copy_110 : decode cX11_copy 110 = .ok (.iload_n 3, 1) := by decide +kernel
theorem dX11_copy_111 : decode cX11_copy 111 = .ok (.iadd, 1) := by decide +kernel
theorem dX11_copy_112 : decode cX11_copy 112 = .ok (.aload_n 0, 1) := by decide +kernel
theorem dX11_copy_113 : decode cX11_copy 113 = .ok (.getfield 30, 3) := by decide +kernel
theorem dX11_copy_116 : decode cX11_copy 116 = .ok (.sipush 2048, 3) := by decide +kernel
theorem dX11_copy_119 : decode cX11_copy 119 = .ok (.iload_n 2, 1) := by decide +kernel
theorem dX11_copy_120 : decode cX11_copy 120 = .ok (.imul, 1) := by decide +kernel
theorem dX11_copy_121 : decode cX11_copy 121 = .ok (.iload_n 3, 1) := by decide +kernel
theorem dX11_copy_122 : decode cX11_copy 122 = .ok (.iadd, 1) := by decide +kernel
theorem dX11_copy_123 : decode cX11_copy 123 = .ok (.iaload, 1) := by decide +kernel
theorem dX11_copy_124 : decode cX11_copy 124 = .ok (.iastore, 1) := by decide +kernel
theorem dX11_copy_125 : decode cX11_copy 125 = .ok (.aload_n 0, 1) := by decide +kernel
theorem dX11_copy_126 : decode cX11_copy 126 = .ok (.getfield 33, 3) := by decide +kernel
theorem dX11_copy_129 : decode cX11_copy 129 = .ok (.sipush 2048, 3) := by decide +kernel
theorem dX11_copy_132 : decode cX11_copy 132 = .ok (.iload_n 1, 1) := by decide +kernel
theorem dX11_copy_133 : decode cX11_copy 133 = .ok (.imul, 1) := by decide +kernel
theorem dX11_copy_134 : decode cX11_copy 134 = .ok (.iload_n 3, 1) := by decide +kernel
theorem dX11_copy_135 : decode cX11_copy 135 = .ok (.iadd, 1) := by decide +kernel
theorem dX11_copy_136 : decode cX11_copy 136 = .ok (.aload_n 0, 1) := by decide +kernel
theorem dX11_copy_137 : decode cX11_copy 137 = .ok (.getfield 33, 3) := by decide +kernel
theorem dX11_copy_140 : decode cX11_copy 140 = .ok (.sipush 2048, 3) := by decide +kernel
theorem dX11_copy_143 : decode cX11_copy 143 = .ok (.iload_n 2, 1) := by decide +kernel
theorem dX11_copy_144 : decode cX11_copy 144 = .ok (.imul, 1) := by decide +kernel
theorem dX11_copy_145 : decode cX11_copy 145 = .ok (.iload_n 3, 1) := by decide +kernel
theorem dX11_copy_146 : decode cX11_copy 146 = .ok (.iadd, 1) := by decide +kernel
theorem dX11_copy_147 : decode cX11_copy 147 = .ok (.iaload, 1) := by decide +kernel
theorem dX11_copy_148 : decode cX11_copy 148 = .ok (.iastore, 1) := by decide +kernel
theorem dX11_copy_149 : decode cX11_copy 149 = .ok (.aload_n 0, 1) := by decide +kernel
theorem dX11_copy_150 : decode cX11_copy 150 = .ok (.getfield 36, 3) := by decide +kernel
theorem dX11_copy_153 : decode cX11_copy 153 = .ok (.sipush 2048, 3) := by decide +kernel
theorem dX11_copy_156 : decode cX11_copy 156 = .ok (.iload_n 1, 1) := by decide +kernel
theorem dX11_copy_157 : decode cX11_copy 157 = .ok (.imul, 1) := by decide +kernel
theorem dX11_copy_158 : decode cX11_copy 158 = .ok (.iload_n 3, 1) := by decide +kernel
theorem dX11_copy_159 : decode cX11_copy 159 = .ok (.iadd, 1) := by decide +kernel
theorem dX11_copy_160 : decode cX11_copy 160 = .ok (.aload_n 0, 1) := by decide +kernel
theorem dX11_copy_161 : decode cX11_copy 161 = .ok (.getfield 36, 3) := by decide +kernel
theorem dX11_copy_164 : decode cX11_copy 164 = .ok (.sipush 2048, 3) := by decide +kernel
theorem dX11_copy_167 : decode cX11_copy 167 = .ok (.iload_n 2, 1) := by decide +kernel
theorem dX11_copy_168 : decode cX11_copy 168 = .ok (.imul, 1) := by decide +kernel
theorem dX11_copy_169 : decode cX11_copy 169 = .ok (.iload_n 3, 1) := by decide +kernel
theorem dX11_copy_170 : decode cX11_copy 170 = .ok (.iadd, 1) := by decide +kernel
theorem dX11_copy_171 : decode cX11_copy 171 = .ok (.laload, 1) := by decide +kernel
theorem dX11_copy_172 : decode cX11_copy 172 = .ok (.lastore, 1) := by decide +kernel
theorem dX11_copy_173 : decode cX11_copy 173 = .ok (.aload_n 0, 1) := by decide +kernel
theorem dX11_copy_174 : decode cX11_copy 174 = .ok (.getfield 39, 3) := by decide +kernel
theorem dX11_copy_177 : decode cX11_copy 177 = .ok (.sipush 2048, 3) := by decide +kernel
theorem dX11_copy_180 : decode cX11_copy 180 = .ok (.iload_n 1, 1) := by decide +kernel
theorem dX11_copy_181 : decode cX11_copy 181 = .ok (.imul, 1) := by decide +kernel
theorem dX11_copy_182 : decode cX11_copy 182 = .ok (.iload_n 3, 1) := by decide +kernel
theorem dX11_copy_183 : decode cX11_copy 183 = .ok (.iadd, 1) := by decide +kernel
theorem dX11_copy_184 : decode cX11_copy 184 = .ok (.aload_n 0, 1) := by decide +kernel
theorem dX11_copy_185 : decode cX11_copy 185 = .ok (.getfield 39, 3) := by decide +kernel
theorem dX11_copy_188 : decode cX11_copy 188 = .ok (.sipush 2048, 3) := by decide +kernel
theorem dX11_copy_191 : decode cX11_copy 191 = .ok (.iload_n 2, 1) := by decide +kernel
theorem dX11_copy_192 : decode cX11_copy 192 = .ok (.imul, 1) := by decide +kernel
theorem dX11_copy_193 : decode cX11_copy 193 = .ok (.iload_n 3, 1) := by decide +kernel
theorem dX11_copy_194 : decode cX11_copy 194 = .ok (.iadd, 1) := by decide +kernel
theorem dX11_copy_195 : decode cX11_copy 195 = .ok (.laload, 1) := by decide +kernel
theorem dX11_copy_196 : decode cX11_copy 196 = .ok (.lastore, 1) := by decide +kernel
theorem dX11_copy_197 : decode cX11_copy 197 = .ok (.iinc 3 1, 3) := by decide +kernel
theorem dX11_copy_200 : decode cX11_copy 200 = .ok (.goto (-106), 3) := by decide +kernel
theorem dX11_copy_203 : decode cX11_copy 203 = .ok (.iconst 1, 1) := by decide +kernel
theorem dX11_copy_204 : decode cX11_copy 204 = .ok (.ireturn, 1) := by decide +kernel
set_option maxRecDepth 20000 in
theorem ggX11_count_X11_isThere : GoodIn wsX11_count wsX11_isThere := goodIn_r _ [7, 8, 9, 10, 6, 11, 12, 13, 14, 15, 16, 24, 25, 26, 27, 28, 29, 30, 31, 32, 33, 34, 35, 36, 37, 38, 39, 40, 41, 42, 43, 44, 45, 46, 47, 48, 49, 50, 51, 52, 53, 54, 55, 56, 57, 58, 59, 60, 61, 62, 63, 64, 65, 66, 67, 68, 69, 70] (by decide +kernel) (by decide +kernel)
set_option maxRecDepth 20000 in
theorem gX11_count_X11_isThere : GoodIn wsX11_count (wsV RX11 222 RX11 yX11_isThere wsX11_isThere) := goodIn_app (goodIn_of _ (by decide +kernel)) ggX11_count_X11_isThere
set_option maxRecDepth 20000 in
theorem ggX11_count_X11_flag : GoodIn wsX11_count wsX11_flag := goodIn_r _ [19] (by decide +kernel) (by decide +kernel)
set_option maxRecDepth 20000 in
theorem gX11_count_X11_flag : GoodIn wsX11_count (va_wsS RX11 198 yX11_flag wsX11_flag) := goodIn_app (goodIn_of _ (by decide +kernel)) ggX11_count_X11_flag
set_option maxRecDepth 20000 in
theorem ggX11_count_X11_manyOf : GoodIn wsX11_count wsX11_manyOf := goodIn_r _ [23, 12, 13, 14, 6, 15, 16, 24, 25, 26, 27, 28, 29, 30, 31, 32, 33, 34, 35, 36, 37, 38, 39, 40, 41, 42, 43, 44, 45, 46, 47, 48, 49, 50, 51, 52, 53, 54, 55, 56, 57, 58, 59, 60, 61, 62, 63, 64, 65, 66, 67, 68, 69, 70] (by decide +kernel) (by decide +kernel)
set_option maxRecDepth 20000 in
theorem gX11_count_X11_manyOf : GoodIn wsX11_count (wsV RX11 95 RX11 yX11_manyOf wsX11_manyOf) := goodIn_app (goodIn_of _ (by decide +kernel)) ggX11_count_X11_manyOf
theorem dX11_count_0 : decode cX11_count 0 = .ok (.aload_n 0, 1) := by decide +kernel
theorem dX11_count_1 : decode cX11_count 1 = .ok (.iconst 0, 1) := by decide +kernel
theorem dX11_count_2 : decode cX11_count 2 = .ok (.putfield 73, 3) := by decide +kernel
theorem dX11_count_5 : decode cX11_count 5 = .ok (.iconst 0, 1) := by decide +kernel
theorem dX11_count_6 : decode cX11_count 6 = .ok (.istore_n 2, 1) := by decide +kernel
theorem dX11_count_7 : decode cX11_count 7 = .ok (.iconst 0, 1) := by decide +kernel
theorem dX11_count_8 : decode cX11_count 8 = .ok (.istore_n 3, 1) := by decide +kernel
theorem dX11_count_9 : decode cX11_count 9 = .ok (.iconst 0, 1) := by decide +kernel
theorem dX11_count_10 : decode cX11_count 10 = .ok (.istore 4, 2) := by decide +kernel
theorem dX11_count_12 : decode cX11_count 12 = .ok (.iload 4, 2) := by decide +kernel
theorem dX11_count_14 : decode cX11_count 14 = .ok (.iconst 4, 1) := by decide +kernel
theorem dX11_count_15 : decode cX11_count 15 = .ok (.if_icmp .ge 43, 3) := by decide +kernel
theorem dX11_count_18 : decode cX11_count 18 = .ok (.iload_n 2, 1) := by decide +kernel
theorem dX11_count_19 : decode cX11_count 19 = .ok (.aload_n 0, 1) := by decide +kernel
theorem dX11_count_20 : decode cX11_count 20 = .ok (.iload 4, 2) := by decide +kernel
theorem dX11_count_22 : decode cX11_count 22 = .ok (.invokevirtual 222, 3) := by decide +kernel
theorem dX11_count_25 : decode cX11_count 25 = .ok (.invokestatic 198, 3) := by decide +kernel
theorem dX11_count_28 : decode cX11_count 28 = .ok (.iadd, 1) := by decide +kernel
theorem dX11_count_29 : decode cX11_count 29 = .ok (.istore_n 2, 1) := by decide +kernel
theorem dX11_count_30 : decode cX11_count 30 = .ok (.iload_n 3, 1) := by decide +kernel
theorem dX11_count_31 : decode cX11_count 31 = .ok (.aload_n 0, 1) := by decide +kernel
theorem dX11_count_32 : decode cX11_count 32 = .ok (.iload 4, 2) := by decide +kernel
theorem dX11_count_34 : decode cX11_count 34 = .ok (.invokevirtual 222, 3) := by decide +kernel
theorem dX11_count_37 : decode cX11_count 37 = .ok (.ifCond .eq 12, 3) := by decide +kernel
theorem dX11_count_40 : decode cX11_count 40 = .ok (.aload_n 0, 1) := by decide +kernel
theorem dX11_count_41 : decode cX11_count 41 = .ok (.iload 4, 2) := by decide +kernel
theorem dX11_count_43 : decode cX11_count 43 = .ok (.invokevirtual 95, 3) := by decide +kernel
theorem dX11_count_46 : decode cX11_count 46 = .ok (.goto 4, 3) := by decide +kernel
theorem dX11_count_49 : decode cX11_count 49 = .ok (.iconst 0, 1) := by decide +kernel
theorem dX11_count_50 : decode cX11_count 50 = .ok (.iadd, 1) := by decide +kernel
theorem dX11_count_51 : decode cX11_count 51 = .ok (.istore_n 3, 1) := by decide +kernel
theorem dX11_count_52 : decode cX11_count 52 = .ok (.iinc 4 1, 3) := by decide +kernel
theorem dX11_count_55 : decode cX11_count 55 = .ok (.goto (-43), 3) := by decide +kernel
theorem dX11_count_58 : decode cX11_count 58 = .ok (.iload_n 1, 1) := by decide +kernel
theorem dX11_count_59 : decode cX11_count 59 = .ok (.ifCond .ne 7, 3) := by decide +kernel
theorem dX11_count_62 : decode cX11_count 62 = .ok (.iload_n 2, 1) := by decide +kernel
theorem dX11_count_63 : decode cX11_count 63 = .ok (.goto 25, 3) := by decide +kernel
theorem dX11_count_66 : decode cX11_count 66 = .ok (.iload_n 1, 1) := by decide +kernel
theorem dX11_count_67 : decode cX11_count 67 = .ok (.iconst 1, 1) := by decide +kernel
theorem dX11_count_68 : decode cX11_count 68 = .ok (.if_icmp .ne 7, 3) := by decide +kernel
theorem dX11_count_71 : decode cX11_count 71 = .ok (.iload_n 3, 1) := by decide +kernel
theorem dX11_count_72 : decode cX11_count 72 = .ok (.goto 16, 3) := by decide +kernel
theorem dX11_count_75 : decode cX11_count 75 = .ok (.iload_n 1, 1) := by decide +kernel
theorem dX11_count_76 : decode cX11_count 76 = .ok (.iconst 2, 1) := by decide +kernel
theorem dX11_count_77 : decode cX11_count 77 = .ok (.if_icmp .ne 10, 3) := by decide +kernel
theorem dX11_count_80 : decode cX11_count 80 = .ok (.aload_n 0, 1) := by decide +kernel
theorem dX11_count_81 : decode cX11_count 81 = .ok (.getfield 76, 3) := by decide +kernel
theorem dX11_count_84 : decode cX11_count 84 = .ok (.goto 4, 3) := by decide +kernel
theorem dX11_count_87 : decode cX11_count 87 = .ok (.iconst (-1), 1) := by decide +kernel
theorem dX11_count_88 : decode cX11_count 88 = .ok (.ireturn, 1) := by decide +kernel
