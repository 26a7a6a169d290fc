theorem dX11_has_0 : decode cX11_has 0 = .ok (.aload_n 0, 1) := by decide +kernel
theorem dX11_has_1 : decode cX11_has 1 = .ok (.iconst 0, 1) := by decide +kernel
theorem dX11_has_2 : decode cX11_has 2 = .ok (.putfield 73, 3) := by decide +kernel
theorem dX11_has_5 : decode cX11_has 5 = .ok (.aload_n 0, 1) := by decide +kernel
theorem dX11_has_6 : decode cX11_has 6 = .ok (.iload_n 1, 1) := by decide +kernel
theorem dX11_has_7 : decode cX11_has 7 = .ok (.invokevirtual 222, 3) := by decide +kernel
theorem dX11_has_10 : decode cX11_has 10 = .ok (.ifCond .ne 7, 3) := by decide +kernel
theorem dX11_has_13 : decode cX11_has 13 = .ok (.ldc2_w 235, 3) := by decide +kernel
theorem dX11_has_16 : decode cX11_has 16 = .ok (.lreturn, 1) := by decide +kernel
theorem dX11_has_17 : decode cX11_has 17 = .ok (.iload_n 2, 1) := by decide +kernel
theorem dX11_has_18 : decode cX11_has 18 = .ok (.tableswitch 62 0 5 #[38, 38, 38, 38, 38, 47], 38) := by decide +kernel
theorem dX11_has_56 : decode cX11_has 56 = .ok (.aload_n 0, 1) := by decide +kernel
theorem dX11_has_57 : decode cX11_has 57 = .ok (.iload_n 1, 1) := by decide +kernel
theorem dX11_has_58 : decode cX11_has 58 = .ok (.iconst 1, 1) := by decide +kernel
theorem dX11_has_59 : decode cX11_has 59 = .ok (.iload_n 2, 1) := by decide +kernel
theorem dX11_has_60 : decode cX11_has 60 = .ok (.iadd, 1) := by decide +kernel
theorem dX11_has_61 : decode cX11_has 61 = .ok (.invokevirtual 89, 3) := by decide +kernel
theorem dX11_has_64 : decode cX11_has 64 = .ok (.lreturn, 1) := by decide +kernel
theorem dX11_has_65 : decode cX11_has 65 = .ok (.aload_n 0, 1) := by decide +kernel
theorem dX11_has_66 : decode cX11_has 66 = .ok (.iload_n 1, 1) := by decide +kernel
theorem dX11_has_67 : decode cX11_has 67 = .ok (.bipush 14, 2) := by decide +kernel
theorem dX11_has_69 : decode cX11_has 69 = .ok (.invokevirtual 89, 3) := by decide +kernel
theorem dX11_has_72 : decode cX11_has 72 = .ok (.aload_n 0, 1) := by decide +kernel
theorem dX11_has_73 : decode cX11_has 73 = .ok (.iload_n 1, 1) := by decide +kernel
theorem dX11_has_74 : decode cX11_has 74 = .ok (.iconst 2, 1) := by decide +kernel
theorem dX11_has_75 : decode cX11_has 75 = .ok (.invokevirtual 89, 3) := by decide +kernel
theorem dX11_has_78 : decode cX11_has 78 = .ok (.lmul, 1) := by decide +kernel
theorem dX11_has_79 : decode cX11_has 79 = .ok (.lreturn, 1) := by decide +kernel
theorem dX11_has_80 : decode cX11_has 80 = .ok (.iload_n 2, 1) := by decide +kernel
theorem dX11_has_81 : decode cX11_has 81 = .ok (.i2l, 1) := by decide +kernel
theorem dX11_has_82 : decode cX11_has 82 = .ok (.ldc2_w 242, 3) := by decide +kernel
theorem dX11_has_85 : decode cX11_has 85 = .ok (.ldc2_w 244, 3) := by decide +kernel
theorem dX11_has_88 : decode cX11_has 88 = .ok (.invokestatic 83, 3) := by decide +kernel
theorem dX11_has_91 : decode cX11_has 91 = .ok (.ifCond .eq 12, 3) := by decide +kernel
theorem dX11_has_94 : decode cX11_has 94 = .ok (.aload_n 0, 1) := by decide +kernel
theorem dX11_has_95 : decode cX11_has 95 = .ok (.iload_n 1, 1) := by decide +kernel
theorem dX11_has_96 : decode cX11_has 96 = .ok (.iload_n 2, 1) := by decide +kernel
theorem dX11_has_97 : decode cX11_has 97 = .ok (.invokevirtual 89, 3) := by decide +kernel
theorem dX11_has_100 : decode cX11_has 100 = .ok (.goto 6, 3) := by decide +kernel
theorem dX11_has_103 : decode cX11_has 103 = .ok (.ldc2_w 235, 3) := by decide +kernel
theorem dX11_has_106 : decode cX11_has 106 = .ok (.lreturn, 1) := by decide +kernel
theorem dX11_bucket_0 : decode cX11_bucket 0 = .ok (.aload_n 0, 1) := by decide +kernel
theorem dX11_bucket_1 : decode cX11_bucket 1 = .ok (.iconst 0, 1) := by decide +kernel
theorem dX11_bucket_2 : decode cX11_bucket 2 = .ok (.putfield 73, 3) := by decide +kernel
theorem dX11_bucket_5 : decode cX11_bucket 5 = .ok (.aload_n 0, 1) := by decide +kernel
theorem dX11_bucket_6 : decode cX11_bucket 6 = .ok (.iload_n 1, 1) := by decide +kernel
theorem dX11_bucket_7 : decode cX11_bucket 7 = .ok (.iload_n 2, 1) := by decide +kernel
theorem dX11_bucket_8 : decode cX11_bucket 8 = .ok (.invokevirtual 246, 3) := by decide +kernel
theorem dX11_bucket_11 : decode cX11_bucket 11 = .ok (.ifCond .ne 7, 3) := by decide +kernel
theorem dX11_bucket_14 : decode cX11_bucket 14 = .ok (.ldc2_w 235, 3) := by decide +kernel
theorem dX11_bucket_17 : decode cX11_bucket 17 = .ok (.lreturn, 1) := by decide +kernel
theorem dX11_bucket_18 : decode cX11_bucket 18 = .ok (.sipush 2048, 3) := by decide +kernel
theorem dX11_bucket_21 : decode cX11_bucket 21 = .ok (.iload_n 1, 1) := by decide +kernel
theorem dX11_bucket_22 : decode cX11_bucket 22 = .ok (.imul, 1) := by decide +kernel
theorem dX11_bucket_23 : decode cX11_bucket 23 = .ok (.iload_n 2, 1) := by decide +kernel
theorem dX11_bucket_24 : decode cX11_bucket 24 = .ok (.iadd, 1) := by decide +kernel
theorem dX11_bucket_25 : decode cX11_bucket 25 = .ok (.istore 4, 2) := by decide +kernel
theorem dX11_bucket_27 : decode cX11_bucket 27 = .ok (.iload_n 3, 1) := by decide +kernel
theorem dX11_bucket_28 : decode cX11_bucket 28 = .ok (.tableswitch 98 0 3 #[32, 41, 50, 74], 32) := by decide +kernel
theorem dX11_bucket_60 : decode cX11_bucket 60 = .ok (.aload_n 0, 1) := by decide +kernel
theorem dX11_bucket_61 : decode cX11_bucket 61 = .ok (.getfield 33, 3) := by decide +kernel
theorem dX11_bucket_64 : decode cX11_bucket 64 = .ok (.iload 4, 2) := by decide +kernel
theorem dX11_bucket_66 : decode cX11_bucket 66 = .ok (.iaload, 1) := by decide +kernel
theorem dX11_bucket_67 : decode cX11_bucket 67 = .ok (.i2l, 1) := by decide +kernel
theorem dX11_bucket_68 : decode cX11_bucket 68 = .ok (.lreturn, 1) := by decide +kernel
theorem dX11_bucket_69 : decode cX11_bucket 69 = .ok (.aload_n 0, 1) := by decide +kernel
theorem dX11_bucket_70 : decode cX11_bucket 70 = .ok (.getfield 30, 3) := by decide +kernel
theorem dX11_bucket_73 : decode cX11_bucket 73 = .ok (.iload 4, 2) := by decide +kernel
theorem dX11_bucket_75 : decode cX11_bucket 75 = .ok (.iaload, 1) := by decide +kernel
theorem dX11_bucket_76 : decode cX11_bucket 76 = .ok (.i2l, 1) := by decide +kernel
theorem dX11_bucket_77 : decode cX11_bucket 77 = .ok (.lreturn, 1) := by decide +kernel
theorem dX11_bucket_78 : decode cX11_bucket 78 = .ok (.aload_n 0, 1) := by decide +kernel
theorem dX11_bucket_79 : decode cX11_bucket 79 = .ok (.getfield 30, 3) := by decide +kernel
theorem dX11_bucket_82 : decode cX11_bucket 82 = .ok (.iload 4, 2) := by decide +kernel
theorem dX11_bucket_84 : decode cX11_bucket 84 = .ok (.iaload, 1) := by decide +kernel
theorem dX11_bucket_85 : decode cX11_bucket 85 = .ok (.ifCond .ne 9, 3) := by decide +kernel
theorem dX11_bucket_88 : decode cX11_bucket 88 = .ok (.ldc2_w 237, 3) := by decide +kernel
theorem dX11_bucket_91 : decode cX11_bucket 91 = .ok (.goto 10, 3) := by decide +kernel
theorem dX11_bucket_94 : decode cX11_bucket 94 = .ok (.aload_n 0, 1) := by decide +kernel
theorem dX11_bucket_95 : decode cX11_bucket 95 = .ok (.getfield 36, 3) := by decide +kernel
theorem dX11_bucket_98 : decode cX11_bucket 98 = .ok (.iload 4, 2) := by decide +kernel
theorem dX11_bucket_100 : decode cX11_bucket 100 = .ok (.laload, 1) := by decide +kernel
theorem dX11_bucket_101 : decode cX11_bucket 101 = .ok (.lreturn, 1) := by decide +kernel
theorem dX11_bucket_102 : decode cX11_bucket 102 = .ok (.aload_n 0, 1) := by decide +kernel
theorem dX11_bucket_103 : decode cX11_bucket 103 = .ok (.getfield 30, 3) := by decide +kernel
theorem dX11_bucket_106 : decode cX11_bucket 106 = .ok (.iload 4, 2) := by decide +kernel
theorem dX11_bucket_108 : decode cX11_bucket 108 = .ok (.iaload, 1) := by decide +kernel
theorem dX11_bucket_109 : decode cX11_bucket 109 = .ok (.ifCond .ne 9, 3) := by decide +kernel
theorem dX11_bucket_112 : decode cX11_bucket 112 = .ok (.ldc2_w 237, 3) := by decide +kernel
theorem dX11_bucket_115 : decode cX11_bucket 115 = .ok (.goto 10, 3) := by decide +kernel
theorem dX11_bucket_118 : decode cX11_bucket 118 = .ok (.aload_n 0, 1) := by decide +kernel
theorem dX11_bucket_119 : decode cX11_bucket 119 = .ok (.getfield 39, 3) := by decide +kernel
theorem dX11_bucket_122 : decode cX11_bucket 122 = .ok (.iload 4, 2) := by decide +kernel
theorem dX11_bucket_124 : decode cX11_bucket 124 = .ok (.laload, 1) := by decide +kernel
theorem dX11_bucket_125 : decode cX11_bucket 125 = .ok (.lreturn, 1) := by decide +kernel
theorem dX11_bucket_126 : decode cX11_bucket 126 = .ok (.ldc2_w 235, 3) := by decide +kernel
theorem dX11_bucket_129 : decode cX11_bucket 129 = .ok (.lreturn, 1) := by decide +kernel
theorem dX11_place_0 : decode cX11_place 0 = .ok (.aload_n 0, 1) := by decide +kernel
theorem dX11_place_1 : decode cX11_place 1 = .ok (.iconst 0, 1) := by decide +kernel
theorem dX11_place_2 : decode cX11_place 2 = .ok (.putfield 73, 3) := by decide +kernel
theorem dX11_place_5 : decode cX11_place 5 = .ok (.aload_n 0, 1) := by decide +kernel
theorem dX11_place_6 : decode cX11_place 6 = .ok (.iload_n 1, 1) := by decide +kernel
theorem dX11_place_7 : decode cX11_place 7 = .ok (.invokevirtual 222, 3) := by decide +kernel
theorem dX11_place_10 : decode cX11_place 10 = .ok (.ifCond .eq 20, 3) := by decide +kernel
theorem dX11_place_13 : decode cX11_place 13 = .ok (.iload_n 2, 1) := by decide +kernel
theorem dX11_place_14 : decode cX11_place 14 = .ok (.invokestatic 226, 3) := by decide +kernel
theorem dX11_place_17 : decode cX11_place 17 = .ok (.ifCond .eq 13, 3) := by decide +kernel
theorem dX11_place_20 : decode cX11_place 20 = .ok (.iload_n 3, 1) := by decide +kernel
theorem dX11_place_21 : decode cX11_place 21 = .ok (.i2l, 1) := by decide +kernel
theorem dX11_place_22 : decode cX11_place 22 = .ok (.lconst 0, 1) := by decide +kernel
theorem dX11_place_23 : decode cX11_place 23 = .ok (.lconst 1, 1) := by decide +kernel
theorem dX11_place_24 : decode cX11_place 24 = .ok (.invokestatic 83, 3) := by decide +kernel
theorem dX11_place_27 : decode cX11_place 27 = .ok (.ifCond .ne 6, 3) := by decide +kernel
theorem dX11_place_30 : decode cX11_place 30 = .ok (.bipush (-2), 2) := by decide +kernel
theorem dX11_place_32 : decode cX11_place 32 = .ok (.ireturn, 1) := by decide +kernel
theorem dX11_place_33 : decode cX11_place 33 = .ok (.aload_n 0, 1) := by decide +kernel
theorem dX11_place_34 : decode cX11_place 34 = .ok (.iload_n 1, 1) := by decide +kernel
theorem dX11_place_35 : decode cX11_place 35 = .ok (.iload_n 2, 1) := by decide +kernel
theorem dX11_place_36 : decode cX11_place 36 = .ok (.invokevirtual 155, 3) := by decide +kernel
theorem dX11_place_39 : decode cX11_place 39 = .ok (.istore 4, 2) := by decide +kernel
theorem dX11_place_41 : decode cX11_place 41 = .ok (.iload_n 3, 1) := by decide +kernel
theorem dX11_place_42 : decode cX11_place 42 = .ok (.ifCond .ne 8, 3) := by decide +kernel
theorem dX11_place_45 : decode cX11_place 45 = .ok (.iload 4, 2) := by decide +kernel
theorem dX11_place_47 : decode cX11_place 47 = .ok (.goto 25, 3) := by decide +kernel
theorem dX11_place_50 : decode cX11_place 50 = .ok (.aload_n 0, 1) := by decide +kernel
theorem dX11_place_51 : decode cX11_place 51 = .ok (.iload_n 1, 1) := by decide +kernel
theorem dX11_place_52 : decode cX11_place 52 = .ok (.iload 4, 2) := by decide +kernel
theorem dX11_place_54 : decode cX11_place 54 = .ok (.invokevirtual 137, 3) := by decide +kernel
theorem dX11_place_57 : decode cX11_place 57 = .ok (.ifCond .ne 7, 3) := by decide +kernel
theorem dX11_place_60 : decode cX11_place 60 = .ok (.iconst (-1), 1) := by decide +kernel
theorem dX11_place_61 : decode cX11_place 61 = .ok (.goto 11, 3) := by decide +kernel
theorem dX11_place_64 : decode cX11_place 64 = .ok (.aload_n 0, 1) := by decide +kernel
theorem dX11_place_65 : decode cX11_place 65 = .ok (.iload_n 1, 1) := by decide +kernel
theorem dX11_place_66 : decode cX11_place 66 = .ok (.iload 4, 2) := by decide +kernel
theorem dX11_place_68 : decode cX11_place 68 = .ok (.iload_n 2, 1) := by decide +kernel
theorem dX11_place_69 : decode cX11_place 69 = .ok (.invokevirtual 148, 3) := by decide +kernel
theorem dX11_place_72 : decode cX11_place 72 = .ok (.ireturn, 1) := by decide +kernel
theorem dX11_key_0 : decode cX11_key 0 = .ok (.aload_n 0, 1) := by decide +kernel
theorem dX11_key_1 : decode cX11_key 1 = .ok (.iconst 0, 1) := by decide +kernel
theorem dX11_key_2 : decode cX11_key 2 = .ok (.putfield 73, 3) := by decide +kernel
theorem dX11_key_5 : decode cX11_key 5 = .ok (.aload_n 0, 1) := by decide +kernel
theorem dX11_key_6 : decode cX11_key 6 = .ok (.iload_n 1, 1) := by decide +kernel
theorem dX11_key_7 : decode cX11_key 7 = .ok (.invokevirtual 222, 3) := by decide +kernel
theorem dX11_key_10 : decode cX11_key 10 = .ok (.ifCond .eq 35, 3) := by decide +kernel
theorem dX11_key_13 : decode cX11_key 13 = .ok (.iload_n 2, 1) := by decide +kernel
theorem dX11_key_14 : decode cX11_key 14 = .ok (.i2l, 1) := by decide +kernel
theorem dX11_key_15 : decode cX11_key 15 = .ok (.lconst 0, 1) := by decide +kernel
theorem dX11_key_16 : decode cX11_key 16 = .ok (.aload_n 0, 1) := by decide +kernel
theorem dX11_key_17 : decode cX11_key 17 = .ok (.iload_n 1, 1) := by decide +kernel
theorem dX11_key_18 : decode cX11_key 18 = .ok (.invokevirtual 95, 3) := by decide +kernel
theorem dX11_key_21 : decode cX11_key 21 = .ok (.iconst 1, 1) := by decide +kernel
theorem dX11_key_22 : decode cX11_key 22 = .ok (.isub, 1) := by decide +kernel
theorem dX11_key_23 : decode cX11_key 23 = .ok (.i2l, 1) := by decide +kernel
theorem dX11_key_24 : decode cX11_key 24 = .ok (.invokestatic 83, 3) := by decide +kernel
theorem dX11_key_27 : decode cX11_key 27 = .ok (.ifCond .eq 18, 3) := by decide +kernel
theorem dX11_key_30 : decode cX11_key 30 = .ok (.aload_n 0, 1) := by decide +kernel
theorem dX11_key_31 : decode cX11_key 31 = .ok (.getfield 17, 3) := by decide +kernel
theorem dX11_key_34 : decode cX11_key 34 = .ok (.sipush 160, 3) := by decide +kernel
theorem dX11_key_37 : decode cX11_key 37 = .ok (.iload_n 1, 1) := by decide +kernel
theorem dX11_key_38 : decode cX11_key 38 = .ok (.imul, 1) := by decide +kernel
theorem dX11_key_39 : decode cX11_key 39 = .ok (.iload_n 2, 1) := by decide +kernel
theorem dX11_key_40 : decode cX11_key 40 = .ok (.iadd, 1) := by decide +kernel
theorem dX11_key_41 : decode cX11_key 41 = .ok (.iaload, 1) := by decide +kernel
theorem dX11_key_42 : decode cX11_key 42 = .ok (.goto 4, 3) := by decide +kernel
theorem dX11_key_45 : decode cX11_key 45 = .ok (.iconst (-1), 1) := by decide +kernel
theorem dX11_key_46 : decode cX11_key 46 = .ok (.ireturn, 1) := by decide +kernel
theorem dX11_below_0 : decode cX11_below 0 = .ok (.aload_n 0, 1) := by decide +kernel
theorem dX11_below_1 : decode cX11_below 1 = .ok (.iconst 0, 1) := by decide +kernel
theorem dX11_below_2 : decode cX11_below 2 = .ok (.putfield 73, 3) := by decide +kernel
theorem dX11_below_5 : decode cX11_below 5 = .ok (.aload_n 0, 1) := by decide +kernel
theorem dX11_below_6 : decode cX11_below 6 = .ok (.iload_n 1, 1) := by decide +kernel
theorem dX11_below_7 : decode cX11_below 7 = .ok (.invokevirtual 222, 3) := by decide +kernel
theorem dX11_below_10 : decode cX11_below 10 = .ok (.ifCond .eq 25, 3) := by decide +kernel
theorem dX11_below_13 : decode cX11_below 13 = .ok (.iload_n 2, 1) := by decide +kernel
theorem dX11_below_14 : decode cX11_below 14 = .ok (.i2l, 1) := by decide +kernel
theorem dX11_below_15 : decode cX11_below 15 = .ok (.lconst 0, 1) := by decide +kernel
theorem dX11_below_16 : decode cX11_below 16 = .ok (.ldc2_w 103, 3) := by decide +kernel
theorem dX11_below_19 : decode cX11_below 19 = .ok (.invokestatic 83, 3) := by decide +kernel
theorem dX11_below_22 : decode cX11_below 22 = .ok (.ifCond .eq 13, 3) := by decide +kernel
theorem dX11_below_25 : decode cX11_below 25 = .ok (.aload_n 0, 1) := by decide +kernel
theorem dX11_below_26 : decode cX11_below 26 = .ok (.iload_n 1, 1) := by decide +kernel
theorem dX11_below_27 : decode cX11_below 27 = .ok (.iload_n 2, 1) := by decide +kernel
theorem dX11_below_28 : decode cX11_below 28 = .ok (.i2l, 1) := by decide +kernel
theorem dX11_below_29 : decode cX11_below 29 = .ok (.invokevirtual 99, 3) := by decide +kernel
theorem dX11_below_32 : decode cX11_below 32 = .ok (.goto 4, 3) := by decide +kernel
theorem dX11_below_35 : decode cX11_below 35 = .ok (.iconst (-1), 1) := by decide +kernel
theorem dX11_below_36 : decode cX11_below 36 = .ok (.ireturn, 1) := by decide +kernel
theorem dX11_empty_0 : decode cX11_empty 0 = .ok (.aload_n 0, 1) := by decide +kernel
theorem dX11_empty_1 : decode cX11_empty 1 = .ok (.iconst 0, 1) := by decide +kernel
theorem dX11_empty_2 : decode cX11_empty 2 = .ok (.putfield 73, 3) := by decide +kernel
theorem dX11_empty_5 : decode cX11_empty 5 = .ok (.aload_n 0, 1) := by decide +kernel
theorem dX11_empty_6 : decode cX11_empty 6 = .ok (.iload_n 1, 1) := by decide +kernel
theorem dX11_empty_7 : decode cX11_empty 7 = .ok (.invokevirtual 222, 3) := by decide +kernel
theorem dX11_empty_10 : decode cX11_empty 10 = .ok (.ifCond .eq 19, 3) := by decide +kernel
theorem dX11_empty_13 : decode cX11_empty 13 = .ok (.aload_n 0, 1) := by decide +kernel
theorem dX11_empty_14 : decode cX11_empty 14 = .ok (.iload_n 1, 1) := by decide +kernel
theorem dX11_empty_15 : decode cX11_empty 15 = .ok (.iconst 5, 1) := by decide +kernel
theorem dX11_empty_16 : decode cX11_empty 16 = .ok (.invokevirtual 89, 3) := by decide +kernel
theorem dX11_empty_19 : decode cX11_empty 19 = .ok (.l2i, 1) := by decide +kernel
theorem dX11_empty_20 : decode cX11_empty 20 = .ok (.aload_n 0, 1) := by decide +kernel
theorem dX11_empty_21 : decode cX11_empty 21 = .ok (.iload_n 1, 1) := by decide +kernel
theorem dX11_empty_22 : decode cX11_empty 22 = .ok (.invokevirtual 95, 3) := by decide +kernel
theorem dX11_empty_25 : decode cX11_empty 25 = .ok (.isub, 1) := by decide +kernel
theorem dX11_empty_26 : decode cX11_empty 26 = .ok (.goto 4, 3) := by decide +kernel
theorem dX11_empty_29 : decode cX11_empty 29 = .ok (.iconst (-1), 1) := by decide +kernel
theorem dX11_empty_30 : decode cX11_empty 30 = .ok (.ireturn, 1) := by decide +kernel
theorem dX11_left_0 : decode cX11_left 0 = .ok (.aload_n 0, 1) := by decide +kernel
theorem dX11_left_1 : decode cX11_left 1 = .ok (.iconst 0, 1) := by decide +kernel
theorem dX11_left_2 : decode cX11_left 2 = .ok (.putfield 73, 3) := by decide +kernel
theorem dX11_left_5 : decode cX11_left 5 = .ok (.aload_n 0, 1) := by decide +kernel
theorem dX11_left_6 : decode cX11_left 6 = .ok (.iload_n 1, 1) := by decide +kernel
theorem dX11_left_7 : decode cX11_left 7 = .ok (.invokevirtual 222, 3) := by decide +kernel
theorem dX11_left_10 : decode cX11_left 10 = .ok (.ifCond .eq 22, 3) := by decide +kernel
theorem dX11_left_13 : decode cX11_left 13 = .ok (.aload_n 0, 1) := by decide +kernel
theorem dX11_left_14 : decode cX11_left 14 = .ok (.iload_n 1, 1) := by decide +kernel
theorem dX11_left_15 : decode cX11_left 15 = .ok (.iconst 2, 1) := by decide +kernel
theorem dX11_left_16 : decode cX11_left 16 = .ok (.invokevirtual 89, 3) := by decide +kernel
theorem dX11_left_19 : decode cX11_left 19 = .ok (.aload_n 0, 1) := by decide +kernel
theorem dX11_left_20 : decode cX11_left 20 = .ok (.iload_n 1, 1) := by decide +kernel
theorem dX11_left_21 : decode cX11_left 21 = .ok (.iconst 3, 1) := by decide +kernel
theorem dX11_left_22 : decode cX11_left 22 = .ok (.invokevirtual 89, 3) := by decide +kernel
theorem dX11_left_25 : decode cX11_left 25 = .ok (.lsub, 1) := by decide +kernel
theorem dX11_left_26 : decode cX11_left 26 = .ok (.l2i, 1) := by decide +kernel
theorem dX11_left_27 : decode cX11_left 27 = .ok (.iconst 1, 1) := by decide +kernel
theorem dX11_left_28 : decode cX11_left 28 = .ok (.iadd, 1) := by decide +kernel
theorem dX11_left_29 : decode cX11_left 29 = .ok (.goto 4, 3) := by decide +kernel
theorem dX11_left_32 : decode cX11_left 32 = .ok (.iconst (-1), 1) := by decide +kernel
theorem dX11_left_33 : decode cX11_left 33 = .ok (.ireturn, 1) := by decide +kernel
theorem dX11_inner_0 : decode cX11_inner 0 = .ok (.aload_n 0, 1) := by decide +kernel
theorem dX11_inner_1 : decode cX11_inner 1 = .ok (.iconst 0, 1) := by decide +kernel
theorem dX11_inner_2 : decode cX11_inner 2 = .ok (.putfield 73, 3) := by decide +kernel
theorem dX11_inner_5 : decode cX11_inner 5 = .ok (.aload_n 0, 1) := by decide +kernel
theorem dX11_inner_6 : decode cX11_inner 6 = .ok (.iload_n 1, 1) := by decide +kernel
theorem dX11_inner_7 : decode cX11_inner 7 = .ok (.iload_n 2, 1) := by decide +kernel
theorem dX11_inner_8 : decode cX11_inner 8 = .ok (.invokevirtual 246, 3) := by decide +kernel
theorem dX11_inner_11 : decode cX11_inner 11 = .ok (.ifCond .eq 35, 3) := by decide +kernel
theorem dX11_inner_14 : decode cX11_inner 14 = .ok (.iload_n 3, 1) := by decide +kernel
theorem dX11_inner_15 : decode cX11_inner 15 = .ok (.iload 4, 2) := by decide +kernel
theorem dX11_inner_17 : decode cX11_inner 17 = .ok (.invokestatic 252, 3) := by decide +kernel
theorem dX11_inner_20 : decode cX11_inner 20 = .ok (.ifCond .eq 26, 3) := by decide +kernel
theorem dX11_inner_23 : decode cX11_inner 23 = .ok (.aload_n 0, 1) := by decide +kernel
theorem dX11_inner_24 : decode cX11_inner 24 = .ok (.iload_n 1, 1) := by decide +kernel
theorem dX11_inner_25 : decode cX11_inner 25 = .ok (.iload_n 2, 1) := by decide +kernel
theorem dX11_inner_26 : decode cX11_inner 26 = .ok (.invokevirtual 137, 3) := by decide +kernel
theorem dX11_inner_29 : decode cX11_inner 29 = .ok (.ifCond .le 17, 3) := by decide +kernel
theorem dX11_inner_32 : decode cX11_inner 32 = .ok (.aload_n 0, 1) := by decide +kernel
theorem dX11_inner_33 : decode cX11_inner 33 = .ok (.iload_n 1, 1) := by decide +kernel
theorem dX11_inner_34 : decode cX11_inner 34 = .ok (.iload_n 2, 1) := by decide +kernel
theorem dX11_inner_35 : decode cX11_inner 35 = .ok (.iload_n 3, 1) := by decide +kernel
theorem dX11_inner_36 : decode cX11_inner 36 = .ok (.i2l, 1) := by decide +kernel
theorem dX11_inner_37 : decode cX11_inner 37 = .ok (.iload 4, 2) := by decide +kernel
theorem dX11_inner_39 : decode cX11_inner 39 = .ok (.i2l, 1) := by decide +kernel
theorem dX11_inner_40 : decode cX11_inner 40 = .ok (.invokevirtual 144, 3) := by decide +kernel
theorem dX11_inner_43 : decode cX11_inner 43 = .ok (.goto 4, 3) := by decide +kernel
theorem dX11_inner_46 : decode cX11_inner 46 = .ok (.iconst (-1), 1) := by decide +kernel
theorem dX11_inner_47 : decode cX11_inner 47 = .ok (.ireturn, 1) := by decide +kernel
theorem dX11_nearest_0 : decode cX11_nearest 0 = .ok (.aload_n 0, 1) := by decide +kernel
theorem dX11_nearest_1 : decode cX11_nearest 1 = .ok (.iconst 0, 1) := by decide +kernel
theorem dX11_nearest_2 : decode cX11_nearest 2 = .ok (.putfield 73, 3) := by decide +kernel
theorem dX11_nearest_5 : decode cX11_nearest 5 = .ok (.aload_n 0, 1) := by decide +kernel
theorem dX11_nearest_6 : decode cX11_nearest 6 = .ok (.iload_n 1, 1) := by decide +kernel
theorem dX11_nearest_7 : decode cX11_nearest 7 = .ok (.invokevirtual 222, 3) := by decide +kernel
theorem dX11_nearest_10 : decode cX11_nearest 10 = .ok (.ifCond .eq 18, 3) := by decide +kernel
theorem dX11_nearest_13 : decode cX11_nearest 13 = .ok (.iload_n 2, 1) := by decide +kernel
theorem dX11_nearest_14 : decode cX11_nearest 14 = .ok (.invokestatic 226, 3) := by decide +kernel
theorem dX11_nearest_17 : decode cX11_nearest 17 = .ok (.ifCond .eq 11, 3) := by decide +kernel
theorem dX11_nearest_20 : decode cX11_nearest 20 = .ok (.aload_n 0, 1) := by decide +kernel
theorem dX11_nearest_21 : decode cX11_nearest 21 = .ok (.iload_n 1, 1) := by decide +kernel
theorem dX11_nearest_22 : decode cX11_nearest 22 = .ok (.invokevirtual 95, 3) := by decide +kernel
theorem dX11_nearest_25 : decode cX11_nearest 25 = .ok (.ifCond .ne 5, 3) := by decide +kernel
theorem dX11_nearest_28 : decode cX11_nearest 28 = .ok (.iconst (-1), 1) := by decide +kernel
theorem dX11_nearest_29 : decode cX11_nearest 29 = .ok (.ireturn, 1) := by decide +kernel
theorem dX11_nearest_30 : decode cX11_nearest 30 = .ok (.aload_n 0, 1) := by decide +kernel
theorem dX11_nearest_31 : decode cX11_nearest 31 = .ok (.iload_n 1, 1) := by decide +kernel
theorem dX11_nearest_32 : decode cX11_nearest 32 = .ok (.iload_n 2, 1) := by decide +kernel
theorem dX11_nearest_33 : decode cX11_nearest 33 = .ok (.i2l, 1) := by decide +kernel
theorem dX11_nearest_34 : decode cX11_nearest 34 = .ok (.invokevirtual 99, 3) := by decide +kernel
theorem dX11_nearest_37 : decode cX11_nearest 37 = .ok (.istore_n 3, 1) := by decide +kernel
theorem dX11_nearest_38 : decode cX11_nearest 38 = .ok (.iload_n 3, 1) := by decide +kernel
theorem dX11_nearest_39 : decode cX11_nearest 39 = .ok (.aload_n 0, 1) := by decide +kernel
theorem dX11_nearest_40 : decode cX11_nearest 40 = .ok (.iload_n 1, 1) := by decide +kernel
theorem dX11_nearest_41 : decode cX11_nearest 41 = .ok (.invokevirtual 95, 3) := by decide +kernel
theorem dX11_nearest_44 : decode cX11_nearest 44 = .ok (.if_icmp .ne 18, 3) := by decide +kernel
theorem dX11_nearest_47 : decode cX11_nearest 47 = .ok (.aload_n 0, 1) := by decide +kernel
theorem dX11_nearest_48 : decode cX11_nearest 48 = .ok (.getfield 17, 3) := by decide +kernel
theorem dX11_nearest_51 : decode cX11_nearest 51 = .ok (.sipush 160, 3) := by decide +kernel
theorem dX11_nearest_54 : decode cX11_nearest 54 = .ok (.iload_n 1, 1) := by decide +kernel
theorem dX11_nearest_55 : decode cX11_nearest 55 = .ok (.imul, 1) := by decide +kernel
theorem dX11_nearest_56 : decode cX11_nearest 56 = .ok (.iload_n 3, 1) := by decide +kernel
theorem dX11_nearest_57 : decode cX11_nearest 57 = .ok (.iadd, 1) := by decide +kernel
theorem dX11_nearest_58 : decode cX11_nearest 58 = .ok (.iconst 1, 1) := by decide +kernel
theorem dX11_nearest_59 : decode cX11_nearest 59 = .ok (.isub, 1) := by decide +kernel
theorem dX11_nearest_60 : decode cX11_nearest 60 = .ok (.iaload, 1) := by decide +kernel
theorem dX11_nearest_61 : decode cX11_nearest 61 = .ok (.ireturn, 1) := by decide +kernel
theorem dX11_nearest_62 : decode cX11_nearest 62 = .ok (.aload_n 0, 1) := by decide +kernel
theorem dX11_nearest_63 : decode cX11_nearest 63 = .ok (.getfield 17, 3) := by decide +kernel
theorem dX11_nearest_66 : decode cX11_nearest 66 = .ok (.sipush 160, 3) := by decide +kernel
theorem dX11_nearest_69 : decode cX11_nearest 69 = .ok (.iload_n 1, 1) := by decide +kernel
theorem dX11_nearest_70 : decode cX11_nearest 70 = .ok (.imul, 1) := by decide +kernel
theorem dX11_nearest_71 : decode cX11_nearest 71 = .ok (.iload_n 3, 1) := by decide +kernel
theorem dX11_nearest_72 : decode cX11_nearest 72 = .ok (.iadd, 1) := by decide +kernel
theorem dX11_nearest_73 : decode cX11_nearest 73 = .ok (.iaload, 1) := by decide +kernel
theorem dX11_nearest_74 : decode cX11_nearest 74 = .ok (.istore 4, 2) := by decide +kernel
theorem dX11_nearest_76 : decode cX11_nearest 76 = .ok (.iload_n 3, 1) := by decide +kernel
theorem dX11_nearest_77 : decode cX11_nearest 77 = .ok (.ifCond .ne 6, 3) := by decide +kernel
theorem dX11_nearest_80 : decode cX11_nearest 80 = .ok (.iload 4, 2) := by decide +kernel
theorem dX11_nearest_82 : decode cX11_nearest 82 = .ok (.ireturn, 1) := by decide +kernel
theorem dX11_nearest_83 : decode cX11_nearest 83 = .ok (.aload_n 0, 1) := by decide +kernel
theorem dX11_nearest_84 : decode cX11_nearest 84 = .ok (.getfield 17, 3) := by decide +kernel
theorem dX11_nearest_87 : decode cX11_nearest 87 = .ok (.sipush 160, 3) := by decide +kernel
theorem dX11_nearest_90 : decode cX11_nearest 90 = .ok (.iload_n 1, 1) := by decide +kernel
theorem dX11_nearest_91 : decode cX11_nearest 91 = .ok (.imul, 1) := by decide +kernel
theorem dX11_nearest_92 : decode cX11_nearest 92 = .ok (.iload_n 3, 1) := by decide +kernel
theorem dX11_nearest_93 : decode cX11_nearest 93 = .ok (.iadd, 1) := by decide +kernel
theorem dX11_nearest_94 : decode cX11_nearest 94 = .ok (.iconst 1, 1) := by decide +kernel
theorem dX11_nearest_95 : decode cX11_nearest 95 = .ok (.isub, 1) := by decide +kernel
theorem dX11_nearest_96 : decode cX11_nearest 96 = .ok (.iaload, 1) := by decide +kernel
theorem dX11_nearest_97 : decode cX11_nearest 97 = .ok (.istore 5, 2) := by decide +kernel
theorem dX11_nearest_99 : decode cX11_nearest 99 = .ok (.iload_n 2, 1) := by decide +kernel
theorem dX11_nearest_100 : decode cX11_nearest 100 = .ok (.iload 5, 2) := by decide +kernel
theorem dX11_nearest_102 : decode cX11_nearest 102 = .ok (.isub, 1) := by decide +kernel
theorem dX11_nearest_103 : decode cX11_nearest 103 = .ok (.iload 4, 2) := by decide +kernel
theorem dX11_nearest_105 : decode cX11_nearest 105 = .ok (.iload_n 2, 1) := by decide +kernel
theorem dX11_nearest_106 : decode cX11_nearest 106 = .ok (.isub, 1) := by decide +kernel
theorem dX11_nearest_107 : decode cX11_nearest 107 = .ok (.if_icmp .gt 8, 3) := by decide +kernel
theorem dX11_nearest_110 : decode cX11_nearest 110 = .ok (.iload 5, 2) := by decide +kernel
theorem dX11_nearest_112 : decode cX11_nearest 112 = .ok (.goto 5, 3) := by decide +kernel
theorem dX11_nearest_115 : decode cX11_nearest 115 = .ok (.iload 4, 2) := by decide +kernel
theorem dX11_nearest_117 : decode cX11_nearest 117 = .ok (.ireturn, 1) := by decide +kernel
theorem dX11_would_0 : decode cX11_would 0 = .ok (.aload_n 0, 1) := by decide +kernel
theorem dX11_would_1 : decode cX11_would 1 = .ok (.iconst 0, 1) := by decide +kernel
theorem dX11_would_2 : decode cX11_would 2 = .ok (.putfield 73, 3) := by decide +kernel
theorem dX11_would_5 : decode cX11_would 5 = .ok (.aload_n 0, 1) := by decide +kernel
theorem dX11_would_6 : decode cX11_would 6 = .ok (.iload_n 1, 1) := by decide +kernel
theorem dX11_would_7 : decode cX11_would 7 = .ok (.invokevirtual 222, 3) := by decide +kernel
theorem dX11_would_10 : decode cX11_would 10 = .ok (.ifCond .eq 10, 3) := by decide +kernel
theorem dX11_would_13 : decode cX11_would 13 = .ok (.iload_n 2, 1) := by decide +kernel
theorem dX11_would_14 : decode cX11_would 14 = .ok (.invokestatic 226, 3) := by decide +kernel
theorem dX11_would_17 : decode cX11_would 17 = .ok (.ifCond .ne 6, 3) := by decide +kernel
theorem dX11_would_20 : decode cX11_would 20 = .ok (.bipush (-2), 2) := by decide +kernel
theorem dX11_would_22 : decode cX11_would 22 = .ok (.ireturn, 1) := by decide +kernel
theorem dX11_would_23 : decode cX11_would 23 = .ok (.aload_n 0, 1) := by decide +kernel
theorem dX11_would_24 : decode cX11_would 24 = .ok (.iload_n 1, 1) := by decide +kernel
theorem dX11_would_25 : decode cX11_would 25 = .ok (.iload_n 2, 1) := by decide +kernel
theorem dX11_would_26 : decode cX11_would 26 = .ok (.invokevirtual 229, 3) := by decide +kernel
theorem dX11_would_29 : decode cX11_would 29 = .ok (.ifCond .eq 8, 3) := by decide +kernel
theorem dX11_would_32 : decode cX11_would 32 = .ok (.bipush (-3), 2) := by decide +kernel
theorem dX11_would_34 : decode cX11_would 34 = .ok (.goto 9, 3) := by decide +kernel
theorem dX11_would_37 : decode cX11_would 37 = .ok (.aload_n 0, 1) := by decide +kernel
theorem dX11_would_38 : decode cX11_would 38 = .ok (.iload_n 1, 1) := by decide +kernel
