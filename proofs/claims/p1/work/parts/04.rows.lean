theorem dX10_outer_1 : decode cX10_outer 1 = .ok (.iload_n 1, 1) := by decide +kernel
theorem dX10_outer_2 : decode cX10_outer 2 = .ok (.invokevirtual 74, 3) := by decide +kernel
theorem dX10_outer_5 : decode cX10_outer 5 = .ok (.astore 6, 2) := by decide +kernel
theorem dX10_outer_7 : decode cX10_outer 7 = .ok (.aload 6, 2) := by decide +kernel
theorem dX10_outer_9 : decode cX10_outer 9 = .ok (.ifnull 36, 3) := by decide +kernel
theorem dX10_outer_45 : decode cX10_outer 45 = .ok (.ldc2_w 91, 3) := by decide +kernel
theorem dX10_outer_48 : decode cX10_outer 48 = .ok (.lreturn, 1) := by decide +kernel
theorem dX10_best_0 : decode cX10_best 0 = .ok (.aload_n 0, 1) := by decide +kernel
theorem dX10_best_1 : decode cX10_best 1 = .ok (.iload_n 1, 1) := by decide +kernel
theorem dX10_best_2 : decode cX10_best 2 = .ok (.invokevirtual 74, 3) := by decide +kernel
theorem dX10_best_5 : decode cX10_best 5 = .ok (.astore 6, 2) := by decide +kernel
theorem dX10_best_7 : decode cX10_best 7 = .ok (.aload 6, 2) := by decide +kernel
theorem dX10_best_9 : decode cX10_best 9 = .ok (.ifnull 26, 3) := by decide +kernel
theorem dX10_best_35 : decode cX10_best 35 = .ok (.ldc2_w 91, 3) := by decide +kernel
theorem dX10_best_38 : decode cX10_best 38 = .ok (.lreturn, 1) := by decide +kernel
theorem dX10_inner_0 : decode cX10_inner 0 = .ok (.aload_n 0, 1) := by decide +kernel
theorem dX10_inner_1 : decode cX10_inner 1 = .ok (.iload_n 1, 1) := by decide +kernel
theorem dX10_inner_2 : decode cX10_inner 2 = .ok (.invokevirtual 74, 3) := by decide +kernel
theorem dX10_inner_5 : decode cX10_inner 5 = .ok (.astore 5, 2) := by decide +kernel
theorem dX10_inner_7 : decode cX10_inner 7 = .ok (.aload 5, 2) := by decide +kernel
theorem dX10_inner_9 : decode cX10_inner 9 = .ok (.ifnull 24, 3) := by decide +kernel
theorem dX10_inner_33 : decode cX10_inner 33 = .ok (.iconst (-1), 1) := by decide +kernel
theorem dX10_inner_34 : decode cX10_inner 34 = .ok (.ireturn, 1) := by decide +kernel
theorem dX10_tries_0 : decode cX10_tries 0 = .ok (.aload_n 0, 1) := by decide +kernel
theorem dX10_tries_1 : decode cX10_tries 1 = .ok (.iload_n 1, 1) := by decide +kernel
theorem dX10_tries_2 : decode cX10_tries 2 = .ok (.invokevirtual 74, 3) := by decide +kernel
theorem dX10_tries_5 : decode cX10_tries 5 = .ok (.astore 7, 2) := by decide +kernel
theorem dX10_tries_7 : decode cX10_tries 7 = .ok (.aload 7, 2) := by decide +kernel
theorem dX10_tries_9 : decode cX10_tries 9 = .ok (.ifnull 38, 3) := by decide +kernel
theorem dX10_tries_47 : decode cX10_tries 47 = .ok (.bipush (-2), 2) := by decide +kernel
theorem dX10_tries_49 : decode cX10_tries 49 = .ok (.ireturn, 1) := by decide +kernel
theorem dX10_would_0 : decode cX10_would 0 = .ok (.aload_n 0, 1) := by decide +kernel
theorem dX10_would_1 : decode cX10_would 1 = .ok (.iload_n 1, 1) := by decide +kernel
theorem dX10_would_2 : decode cX10_would 2 = .ok (.invokevirtual 74, 3) := by decide +kernel
theorem dX10_would_5 : decode cX10_would 5 = .ok (.astore_n 3, 1) := by decide +kernel
theorem dX10_would_6 : decode cX10_would 6 = .ok (.aload_n 3, 1) := by decide +kernel
theorem dX10_would_7 : decode cX10_would 7 = .ok (.ifnull 10, 3) := by decide +kernel
theorem dX10_would_17 : decode cX10_would 17 = .ok (.bipush (-2), 2) := by decide +kernel
theorem dX10_would_19 : decode cX10_would 19 = .ok (.ireturn, 1) := by decide +kernel
theorem dX10_frozen_0 : decode cX10_frozen 0 = .ok (.aload_n 0, 1) := by decide +kernel
theorem dX10_frozen_1 : decode cX10_frozen 1 = .ok (.iload_n 1, 1) := by decide +kernel
theorem dX10_frozen_2 : decode cX10_frozen 2 = .ok (.invokevirtual 74, 3) := by decide +kernel
theorem dX10_frozen_5 : decode cX10_frozen 5 = .ok (.astore 5, 2) := by decide +kernel
theorem dX10_frozen_7 : decode cX10_frozen 7 = .ok (.aload 5, 2) := by decide +kernel
theorem dX10_frozen_9 : decode cX10_frozen 9 = .ok (.ifnull 14, 3) := by decide +kernel
theorem dX10_frozen_23 : decode cX10_frozen 23 = .ok (.ldc2_w 91, 3) := by decide +kernel
theorem dX10_frozen_26 : decode cX10_frozen 26 = .ok (.lreturn, 1) := by decide +kernel
theorem dX10_frozenAt_0 : decode cX10_frozenAt 0 = .ok (.aload_n 0, 1) := by decide +kernel
theorem dX10_frozenAt_1 : decode cX10_frozenAt 1 = .ok (.iload_n 1, 1) := by decide +kernel
theorem dX10_frozenAt_2 : decode cX10_frozenAt 2 = .ok (.invokevirtual 74, 3) := by decide +kernel
theorem dX10_frozenAt_5 : decode cX10_frozenAt 5 = .ok (.astore 5, 2) := by decide +kernel
theorem dX10_frozenAt_7 : decode cX10_frozenAt 7 = .ok (.aload 5, 2) := by decide +kernel
theorem dX10_frozenAt_9 : decode cX10_frozenAt 9 = .ok (.ifnonnull 5, 3) := by decide +kernel
theorem dX10_frozenAt_12 : decode cX10_frozenAt 12 = .ok (.iconst (-1), 1) := by decide +kernel
theorem dX10_frozenAt_13 : decode cX10_frozenAt 13 = .ok (.ireturn, 1) := by decide +kernel
theorem dX10_shared_0 : decode cX10_shared 0 = .ok (.aload_n 0, 1) := by decide +kernel
theorem dX10_shared_1 : decode cX10_shared 1 = .ok (.iload_n 1, 1) := by decide +kernel
theorem dX10_shared_2 : decode cX10_shared 2 = .ok (.invokevirtual 74, 3) := by decide +kernel
theorem dX10_shared_5 : decode cX10_shared 5 = .ok (.astore 4, 2) := by decide +kernel
theorem dX10_shared_7 : decode cX10_shared 7 = .ok (.aload_n 0, 1) := by decide +kernel
theorem dX10_shared_8 : decode cX10_shared 8 = .ok (.iload_n 2, 1) := by decide +kernel
theorem dX10_shared_9 : decode cX10_shared 9 = .ok (.invokevirtual 74, 3) := by decide +kernel
theorem dX10_shared_12 : decode cX10_shared 12 = .ok (.astore 5, 2) := by decide +kernel
theorem dX10_shared_14 : decode cX10_shared 14 = .ok (.aload 4, 2) := by decide +kernel
theorem dX10_shared_16 : decode cX10_shared 16 = .ok (.ifnull 8, 3) := by decide +kernel
theorem dX10_shared_24 : decode cX10_shared 24 = .ok (.iconst (-1), 1) := by decide +kernel
theorem dX10_shared_25 : decode cX10_shared 25 = .ok (.ireturn, 1) := by decide +kernel
theorem dX10_join_0 : decode cX10_join 0 = .ok (.aload_n 0, 1) := by decide +kernel
theorem dX10_join_1 : decode cX10_join 1 = .ok (.iload_n 1, 1) := by decide +kernel
theorem dX10_join_2 : decode cX10_join 2 = .ok (.invokevirtual 74, 3) := by decide +kernel
theorem dX10_join_5 : decode cX10_join 5 = .ok (.astore_n 3, 1) := by decide +kernel
theorem dX10_join_6 : decode cX10_join 6 = .ok (.aload_n 0, 1) := by decide +kernel
theorem dX10_join_7 : decode cX10_join 7 = .ok (.iload_n 2, 1) := by decide +kernel
theorem dX10_join_8 : decode cX10_join 8 = .ok (.invokevirtual 74, 3) := by decide +kernel
theorem dX10_join_11 : decode cX10_join 11 = .ok (.astore 4, 2) := by decide +kernel
theorem dX10_join_13 : decode cX10_join 13 = .ok (.aload_n 3, 1) := by decide +kernel
theorem dX10_join_14 : decode cX10_join 14 = .ok (.ifnull 13, 3) := by decide +kernel
theorem dX10_join_27 : decode cX10_join 27 = .ok (.bipush (-2), 2) := by decide +kernel
theorem dX10_join_29 : decode cX10_join 29 = .ok (.ireturn, 1) := by decide +kernel
theorem dX10_cut_0 : decode cX10_cut 0 = .ok (.aload_n 0, 1) := by decide +kernel
theorem dX10_cut_1 : decode cX10_cut 1 = .ok (.iload_n 1, 1) := by decide +kernel
theorem dX10_cut_2 : decode cX10_cut 2 = .ok (.invokevirtual 74, 3) := by decide +kernel
theorem dX10_cut_5 : decode cX10_cut 5 = .ok (.astore 4, 2) := by decide +kernel
theorem dX10_cut_7 : decode cX10_cut 7 = .ok (.aload_n 0, 1) := by decide +kernel
theorem dX10_cut_8 : decode cX10_cut 8 = .ok (.iload_n 2, 1) := by decide +kernel
theorem dX10_cut_9 : decode cX10_cut 9 = .ok (.invokevirtual 74, 3) := by decide +kernel
theorem dX10_cut_12 : decode cX10_cut 12 = .ok (.astore 5, 2) := by decide +kernel
theorem dX10_cut_14 : decode cX10_cut 14 = .ok (.aload 4, 2) := by decide +kernel
theorem dX10_cut_16 : decode cX10_cut 16 = .ok (.ifnull 13, 3) := by decide +kernel
theorem dX10_cut_29 : decode cX10_cut 29 = .ok (.bipush (-2), 2) := by decide +kernel
theorem dX10_cut_31 : decode cX10_cut 31 = .ok (.ireturn, 1) := by decide +kernel
theorem dX10_values_0 : decode cX10_values 0 = .ok (.aload_n 0, 1) := by decide +kernel
theorem dX10_values_1 : decode cX10_values 1 = .ok (.iload_n 1, 1) := by decide +kernel
theorem dX10_values_2 : decode cX10_values 2 = .ok (.invokevirtual 74, 3) := by decide +kernel
theorem dX10_values_5 : decode cX10_values 5 = .ok (.astore_n 3, 1) := by decide +kernel
theorem dX10_values_6 : decode cX10_values 6 = .ok (.aload_n 3, 1) := by decide +kernel
theorem dX10_values_7 : decode cX10_values 7 = .ok (.ifnonnull 7, 3) := by decide +kernel
theorem dX10_values_10 : decode cX10_values 10 = .ok (.ldc2_w 91, 3) := by decide +kernel
theorem dX10_values_13 : decode cX10_values 13 = .ok (.lreturn, 1) := by decide +kernel
theorem dX10_run_0 : decode cX10_run 0 = .ok (.aload_n 0, 1) := by decide +kernel
theorem dX10_run_1 : decode cX10_run 1 = .ok (.iload_n 1, 1) := by decide +kernel
theorem dX10_run_2 : decode cX10_run 2 = .ok (.invokevirtual 74, 3) := by decide +kernel
theorem dX10_run_5 : decode cX10_run 5 = .ok (.astore_n 2, 1) := by decide +kernel
theorem dX10_run_6 : decode cX10_run 6 = .ok (.aload_n 2, 1) := by decide +kernel
theorem dX10_run_7 : decode cX10_run 7 = .ok (.ifnonnull 6, 3) := by decide +kernel
theorem dX10_run_10 : decode cX10_run 10 = .ok (.bipush (-2), 2) := by decide +kernel
theorem dX10_run_12 : decode cX10_run 12 = .ok (.ireturn, 1) := by decide +kernel
theorem dX10_ran_0 : decode cX10_ran 0 = .ok (.aload_n 0, 1) := by decide +kernel
theorem dX10_ran_1 : decode cX10_ran 1 = .ok (.getfield 40, 3) := by decide +kernel
theorem dX10_ran_4 : decode cX10_ran 4 = .ok (.getfield 282, 3) := by decide +kernel
theorem dX10_ran_7 : decode cX10_ran 7 = .ok (.ifCond .eq 7, 3) := by decide +kernel
theorem dX10_ran_14 : decode cX10_ran 14 = .ok (.iconst 0, 1) := by decide +kernel
theorem dX10_ran_15 : decode cX10_ran 15 = .ok (.istore_n 2, 1) := by decide +kernel
theorem dX10_ran_16 : decode cX10_ran 16 = .ok (.iload_n 1, 1) := by decide +kernel
theorem dX10_ran_17 : decode cX10_ran 17 = .ok (.tableswitch 120 0 5 #[39, 48, 67, 86, 95, 104], 39) := by decide +kernel
theorem dX10_ran_56 : decode cX10_ran 56 = .ok (.aload_n 0, 1) := by decide +kernel
theorem dX10_ran_57 : decode cX10_ran 57 = .ok (.getfield 40, 3) := by decide +kernel
theorem dX10_ran_60 : decode cX10_ran 60 = .ok (.getfield 282, 3) := by decide +kernel
theorem dX10_ran_63 : decode cX10_ran 63 = .ok (.i2l, 1) := by decide +kernel
theorem dX10_ran_64 : decode cX10_ran 64 = .ok (.lreturn, 1) := by decide +kernel
theorem dX10_ran_65 : decode cX10_ran 65 = .ok (.iload_n 2, 1) := by decide +kernel
theorem dX10_ran_66 : decode cX10_ran 66 = .ok (.ifCond .eq 14, 3) := by decide +kernel
theorem dX10_ran_80 : decode cX10_ran 80 = .ok (.ldc2_w 183, 3) := by decide +kernel
theorem dX10_ran_83 : decode cX10_ran 83 = .ok (.lreturn, 1) := by decide +kernel
theorem dX10_ran_84 : decode cX10_ran 84 = .ok (.iload_n 2, 1) := by decide +kernel
theorem dX10_ran_85 : decode cX10_ran 85 = .ok (.ifCond .eq 14, 3) := by decide +kernel
theorem dX10_ran_99 : decode cX10_ran 99 = .ok (.ldc2_w 183, 3) := by decide +kernel
theorem dX10_ran_102 : decode cX10_ran 102 = .ok (.lreturn, 1) := by decide +kernel
theorem dX10_ran_103 : decode cX10_ran 103 = .ok (.aload_n 0, 1) := by decide +kernel
theorem dX10_ran_104 : decode cX10_ran 104 = .ok (.getfield 47, 3) := by decide +kernel
theorem dX10_ran_107 : decode cX10_ran 107 = .ok (.getfield 302, 3) := by decide +kernel
theorem dX10_ran_110 : decode cX10_ran 110 = .ok (.i2l, 1) := by decide +kernel
theorem dX10_ran_111 : decode cX10_ran 111 = .ok (.lreturn, 1) := by decide +kernel
theorem dX10_ran_112 : decode cX10_ran 112 = .ok (.aload_n 0, 1) := by decide +kernel
theorem dX10_ran_113 : decode cX10_ran 113 = .ok (.getfield 47, 3) := by decide +kernel
theorem dX10_ran_116 : decode cX10_ran 116 = .ok (.getfield 305, 3) := by decide +kernel
theorem dX10_ran_119 : decode cX10_ran 119 = .ok (.i2l, 1) := by decide +kernel
theorem dX10_ran_120 : decode cX10_ran 120 = .ok (.lreturn, 1) := by decide +kernel
theorem dX10_ran_121 : decode cX10_ran 121 = .ok (.aload_n 0, 1) := by decide +kernel
theorem dX10_ran_122 : decode cX10_ran 122 = .ok (.getfield 47, 3) := by decide +kernel
theorem dX10_ran_125 : decode cX10_ran 125 = .ok (.getfield 308, 3) := by decide +kernel
theorem dX10_ran_128 : decode cX10_ran 128 = .ok (.ifCond .eq 7, 3) := by decide +kernel
theorem dX10_ran_135 : decode cX10_ran 135 = .ok (.lconst 0, 1) := by decide +kernel
theorem dX10_ran_136 : decode cX10_ran 136 = .ok (.lreturn, 1) := by decide +kernel
theorem dX10_ran_137 : decode cX10_ran 137 = .ok (.ldc2_w 91, 3) := by decide +kernel
theorem dX10_ran_140 : decode cX10_ran 140 = .ok (.lreturn, 1) := by decide +kernel
theorem dX10_image_0 : decode cX10_image 0 = .ok (.aload_n 0, 1) := by decide +kernel
theorem dX10_image_1 : decode cX10_image 1 = .ok (.iload_n 1, 1) := by decide +kernel
theorem dX10_image_2 : decode cX10_image 2 = .ok (.invokevirtual 74, 3) := by decide +kernel
theorem dX10_image_5 : decode cX10_image 5 = .ok (.astore_n 2, 1) := by decide +kernel
theorem dX10_image_6 : decode cX10_image 6 = .ok (.aload_n 2, 1) := by decide +kernel
theorem dX10_image_7 : decode cX10_image 7 = .ok (.ifnonnull 5, 3) := by decide +kernel
theorem dX10_image_10 : decode cX10_image 10 = .ok (.iconst (-1), 1) := by decide +kernel
theorem dX10_image_11 : decode cX10_image 11 = .ok (.ireturn, 1) := by decide +kernel
theorem dX10_octet_0 : decode cX10_octet 0 = .ok (.iload_n 1, 1) := by decide +kernel
theorem dX10_octet_1 : decode cX10_octet 1 = .ok (.ifCond .lt 14, 3) := by decide +kernel
theorem dX10_octet_4 : decode cX10_octet 4 = .ok (.iload_n 1, 1) := by decide +kernel
theorem dX10_octet_5 : decode cX10_octet 5 = .ok (.aload_n 0, 1) := by decide +kernel
theorem dX10_octet_6 : decode cX10_octet 6 = .ok (.getfield 33, 3) := by decide +kernel
theorem dX10_octet_9 : decode cX10_octet 9 = .ok (.getfield 316, 3) := by decide +kernel
theorem dX10_octet_12 : decode cX10_octet 12 = .ok (.if_icmp .lt 7, 3) := by decide +kernel
theorem dX10_octet_15 : decode cX10_octet 15 = .ok (.iconst (-1), 1) := by decide +kernel
theorem dX10_octet_16 : decode cX10_octet 16 = .ok (.goto 12, 3) := by decide +kernel
theorem dX10_octet_28 : decode cX10_octet 28 = .ok (.ireturn, 1) := by decide +kernel
theorem dX10_back_0 : decode cX10_back 0 = .ok (.iload_n 1, 1) := by decide +kernel
theorem dX10_back_1 : decode cX10_back 1 = .ok (.invokestatic 55, 3) := by decide +kernel
theorem dX10_back_4 : decode cX10_back 4 = .ok (.ifCond .ne 6, 3) := by decide +kernel
theorem dX10_back_7 : decode cX10_back 7 = .ok (.bipush (-2), 2) := by decide +kernel
theorem dX10_back_9 : decode cX10_back 9 = .ok (.ireturn, 1) := by decide +kernel
theorem dX10_back_10 : decode cX10_back 10 = .ok (.aload_n 0, 1) := by decide +kernel
theorem dX10_back_11 : decode cX10_back 11 = .ok (.getfield 19, 3) := by decide +kernel
theorem dX10_back_14 : decode cX10_back 14 = .ok (.istore_n 2, 1) := by decide +kernel
theorem dX10_back_15 : decode cX10_back 15 = .ok (.aload_n 0, 1) := by decide +kernel
theorem dX10_back_16 : decode cX10_back 16 = .ok (.iconst 0, 1) := by decide +kernel
theorem dX10_back_17 : decode cX10_back 17 = .ok (.putfield 19, 3) := by decide +kernel
theorem dX10_back_20 : decode cX10_back 20 = .ok (.aload_n 0, 1) := by decide +kernel
theorem dX10_back_21 : decode cX10_back 21 = .ok (.getfield 15, 3) := by decide +kernel
theorem dX10_back_24 : decode cX10_back 24 = .ok (.iload_n 2, 1) := by decide +kernel
theorem dX10_back_25 : decode cX10_back 25 = .ok (.invokestatic 322, 3) := by decide +kernel
theorem dX10_back_28 : decode cX10_back 28 = .ok (.ifCond .ne 5, 3) := by decide +kernel
theorem dX10_back_31 : decode cX10_back 31 = .ok (.iconst (-1), 1) := by decide +kernel
theorem dX10_back_32 : decode cX10_back 32 = .ok (.ireturn, 1) := by decide +kernel
theorem dX10_copy_0 : decode cX10_copy 0 = .ok (.aload_n 0, 1) := by decide +kernel
theorem dX10_copy_1 : decode cX10_copy 1 = .ok (.iload_n 2, 1) := by decide +kernel
theorem dX10_copy_2 : decode cX10_copy 2 = .ok (.invokevirtual 74, 3) := by decide +kernel
theorem dX10_copy_5 : decode cX10_copy 5 = .ok (.astore_n 3, 1) := by decide +kernel
theorem dX10_copy_6 : decode cX10_copy 6 = .ok (.iload_n 1, 1) := by decide +kernel
theorem dX10_copy_7 : decode cX10_copy 7 = .ok (.invokestatic 55, 3) := by decide +kernel
theorem dX10_copy_10 : decode cX10_copy 10 = .ok (.ifCond .eq 12, 3) := by decide +kernel
theorem dX10_copy_13 : decode cX10_copy 13 = .ok (.aload_n 3, 1) := by decide +kernel
theorem dX10_copy_14 : decode cX10_copy 14 = .ok (.ifnull 8, 3) := by decide +kernel
theorem dX10_copy_22 : decode cX10_copy 22 = .ok (.bipush (-2), 2) := by decide +kernel
theorem dX10_copy_24 : decode cX10_copy 24 = .ok (.ireturn, 1) := by decide +kernel
theorem dX10_count_0 : decode cX10_count 0 = .ok (.iload_n 1, 1) := by decide +kernel
theorem dX10_count_1 : decode cX10_count 1 = .ok (.tableswitch 42 0 2 #[27, 32, 37], 27) := by decide +kernel
theorem dX10_count_28 : decode cX10_count 28 = .ok (.aload_n 0, 1) := by decide +kernel
theorem dX10_count_29 : decode cX10_count 29 = .ok (.invokevirtual 345, 3) := by decide +kernel
theorem dX10_count_32 : decode cX10_count 32 = .ok (.ireturn, 1) := by decide +kernel
theorem dX10_count_33 : decode cX10_count 33 = .ok (.aload_n 0, 1) := by decide +kernel
theorem dX10_count_34 : decode cX10_count 34 = .ok (.invokevirtual 348, 3) := by decide +kernel
theorem dX10_count_37 : decode cX10_count 37 = .ok (.ireturn, 1) := by decide +kernel
theorem dX10_count_38 : decode cX10_count 38 = .ok (.aload_n 0, 1) := by decide +kernel
theorem dX10_count_39 : decode cX10_count 39 = .ok (.getfield 19, 3) := by decide +kernel
theorem dX10_count_42 : decode cX10_count 42 = .ok (.ireturn, 1) := by decide +kernel
theorem dX10_count_43 : decode cX10_count 43 = .ok (.iconst (-1), 1) := by decide +kernel
theorem dX10_count_44 : decode cX10_count 44 = .ok (.ireturn, 1) := by decide +kernel
theorem dX10_countTables_0 : decode cX10_countTables 0 = .ok (.iconst 0, 1) := by decide +kernel
theorem dX10_countTables_1 : decode cX10_countTables 1 = .ok (.istore_n 1, 1) := by decide +kernel
theorem dX10_countTables_2 : decode cX10_countTables 2 = .ok (.iconst 0, 1) := by decide +kernel
theorem dX10_countTables_3 : decode cX10_countTables 3 = .ok (.istore_n 2, 1) := by decide +kernel
theorem dX10_countTables_4 : decode cX10_countTables 4 = .ok (.iload_n 2, 1) := by decide +kernel
theorem dX10_countTables_5 : decode cX10_countTables 5 = .ok (.iconst 4, 1) := by decide +kernel
theorem dX10_countTables_6 : decode cX10_countTables 6 = .ok (.if_icmp .ge 21, 3) := by decide +kernel
theorem dX10_countTables_9 : decode cX10_countTables 9 = .ok (.aload_n 0, 1) := by decide +kernel
theorem dX10_countTables_10 : decode cX10_countTables 10 = .ok (.getfield 11, 3) := by decide +kernel
theorem dX10_countTables_13 : decode cX10_countTables 13 = .ok (.iload_n 2, 1) := by decide +kernel
theorem dX10_countTables_14 : decode cX10_countTables 14 = .ok (.aaload, 1) := by decide +kernel
theorem dX10_countTables_15 : decode cX10_countTables 15 = .ok (.ifnull 6, 3) := by decide +kernel
theorem dX10_countTables_21 : decode cX10_countTables 21 = .ok (.iinc 2 1, 3) := by decide +kernel
theorem dX10_countTables_24 : decode cX10_countTables 24 = .ok (.goto (-20), 3) := by decide +kernel
theorem dX10_countTables_27 : decode cX10_countTables 27 = .ok (.iload_n 1, 1) := by decide +kernel
theorem dX10_countTables_28 : decode cX10_countTables 28 = .ok (.ireturn, 1) := by decide +kernel
theorem dX10_countKeys_0 : decode cX10_countKeys 0 = .ok (.iconst 0, 1) := by decide +kernel
theorem dX10_countKeys_1 : decode cX10_countKeys 1 = .ok (.istore_n 1, 1) := by decide +kernel
theorem dX10_countKeys_2 : decode cX10_countKeys 2 = .ok (.iconst 0, 1) := by decide +kernel
theorem dX10_countKeys_3 : decode cX10_countKeys 3 = .ok (.istore_n 2, 1) := by decide +kernel
theorem dX10_countKeys_4 : decode cX10_countKeys 4 = .ok (.iload_n 2, 1) := by decide +kernel
theorem dX10_countKeys_5 : decode cX10_countKeys 5 = .ok (.iconst 4, 1) := by decide +kernel
theorem dX10_countKeys_6 : decode cX10_countKeys 6 = .ok (.if_icmp .ge 33, 3) := by decide +kernel
theorem dX10_countKeys_9 : decode cX10_countKeys 9 = .ok (.aload_n 0, 1) := by decide +kernel
theorem dX10_countKeys_10 : decode cX10_countKeys 10 = .ok (.getfield 11, 3) := by decide +kernel
theorem dX10_countKeys_13 : decode cX10_countKeys 13 = .ok (.iload_n 2, 1) := by decide +kernel
theorem dX10_countKeys_14 : decode cX10_countKeys 14 = .ok (.aaload, 1) := by decide +kernel
theorem dX10_countKeys_15 : decode cX10_countKeys 15 = .ok (.ifnull 18, 3) := by decide +kernel
theorem dX10_countKeys_33 : decode cX10_countKeys 33 = .ok (.iinc 2 1, 3) := by decide +kernel
theorem dX10_countKeys_36 : decode cX10_countKeys 36 = .ok (.goto (-32), 3) := by decide +kernel
theorem dX10_countKeys_39 : decode cX10_countKeys 39 = .ok (.iload_n 1, 1) := by decide +kernel
theorem dX10_countKeys_40 : decode cX10_countKeys 40 = .ok (.ireturn, 1) := by decide +kernel
theorem dX10_tableAt_0 : decode cX10_tableAt 0 = .ok (.iload_n 1, 1) := by decide +kernel
theorem dX10_tableAt_1 : decode cX10_tableAt 1 = .ok (.invokestatic 55, 3) := by decide +kernel
theorem dX10_tableAt_4 : decode cX10_tableAt 4 = .ok (.ifCond .eq 12, 3) := by decide +kernel
theorem dX10_tableAt_7 : decode cX10_tableAt 7 = .ok (.aload_n 0, 1) := by decide +kernel
theorem dX10_tableAt_8 : decode cX10_tableAt 8 = .ok (.getfield 11, 3) := by decide +kernel
theorem dX10_tableAt_11 : decode cX10_tableAt 11 = .ok (.iload_n 1, 1) := by decide +kernel
theorem dX10_tableAt_12 : decode cX10_tableAt 12 = .ok (.aaload, 1) := by decide +kernel
theorem dX10_tableAt_13 : decode cX10_tableAt 13 = .ok (.goto 4, 3) := by decide +kernel
theorem dX10_tableAt_16 : decode cX10_tableAt 16 = .ok (.aconst_null, 1) := by decide +kernel
theorem dX10_tableAt_17 : decode cX10_tableAt 17 = .ok (.areturn, 1) := by decide +kernel
theorem dX10_isTableNumber_0 : decode cX10_isTableNumber 0 = .ok (.iload_n 0, 1) := by decide +kernel
theorem dX10_isTableNumber_1 : decode cX10_isTableNumber 1 = .ok (.ifCond .lt 12, 3) := by decide +kernel
theorem dX10_isTableNumber_4 : decode cX10_isTableNumber 4 = .ok (.iload_n 0, 1) := by decide +kernel
theorem dX10_isTableNumber_5 : decode cX10_isTableNumber 5 = .ok (.iconst 4, 1) := by decide +kernel
theorem dX10_isTableNumber_6 : decode cX10_isTableNumber 6 = .ok (.if_icmp .ge 7, 3) := by decide +kernel
theorem dX10_isTableNumber_9 : decode cX10_isTableNumber 9 = .ok (.iconst 1, 1) := by decide +kernel
theorem dX10_isTableNumber_10 : decode cX10_isTableNumber 10 = .ok (.goto 4, 3) := by decide +kernel
theorem dX10_isTableNumber_13 : decode cX10_isTableNumber 13 = .ok (.iconst 0, 1) := by decide +kernel
theorem dX10_isTableNumber_14 : decode cX10_isTableNumber 14 = .ok (.ireturn, 1) := by decide +kernel
theorem dX10_writeInt_0 : decode cX10_writeInt 0 = .ok (.iload_n 1, 1) := by decide +kernel
theorem dX10_writeInt_1 : decode cX10_writeInt 1 = .ok (.ifCond .lt 11, 3) := by decide +kernel
theorem dX10_writeInt_4 : decode cX10_writeInt 4 = .ok (.iload_n 1, 1) := by decide +kernel
theorem dX10_writeInt_5 : decode cX10_writeInt 5 = .ok (.iconst 4, 1) := by decide +kernel
theorem dX10_writeInt_6 : decode cX10_writeInt 6 = .ok (.iadd, 1) := by decide +kernel
theorem dX10_writeInt_7 : decode cX10_writeInt 7 = .ok (.aload_n 0, 1) := by decide +kernel
theorem dX10_writeInt_8 : decode cX10_writeInt 8 = .ok (.arraylength, 1) := by decide +kernel
theorem dX10_writeInt_9 : decode cX10_writeInt 9 = .ok (.if_icmp .le 4, 3) := by decide +kernel
theorem dX10_writeInt_13 : decode cX10_writeInt 13 = .ok (.iconst 0, 1) := by decide +kernel
theorem dX10_writeInt_14 : decode cX10_writeInt 14 = .ok (.istore_n 3, 1) := by decide +kernel
theorem dX10_writeInt_15 : decode cX10_writeInt 15 = .ok (.iload_n 3, 1) := by decide +kernel
theorem dX10_writeInt_16 : decode cX10_writeInt 16 = .ok (.iconst 4, 1) := by decide +kernel
theorem dX10_writeInt_17 : decode cX10_writeInt 17 = .ok (.if_icmp .ge 27, 3) := by decide +kernel
theorem dX10_writeInt_20 : decode cX10_writeInt 20 = .ok (.aload_n 0, 1) := by decide +kernel
theorem dX10_writeInt_21 : decode cX10_writeInt 21 = .ok (.iload_n 1, 1) := by decide +kernel
theorem dX10_writeInt_22 : decode cX10_writeInt 22 = .ok (.iload_n 3, 1) := by decide +kernel
theorem dX10_writeInt_23 : decode cX10_writeInt 23 = .ok (.iadd, 1) := by decide +kernel
theorem dX10_writeInt_24 : decode cX10_writeInt 24 = .ok (.iload_n 2, 1) := by decide +kernel
theorem dX10_writeInt_25 : decode cX10_writeInt 25 = .ok (.bipush 24, 2) := by decide +kernel
theorem dX10_writeInt_27 : decode cX10_writeInt 27 = .ok (.bipush 8, 2) := by decide +kernel
theorem dX10_writeInt_29 : decode cX10_writeInt 29 = .ok (.iload_n 3, 1) := by decide +kernel
theorem dX10_writeInt_30 : decode cX10_writeInt 30 = .ok (.imul, 1) := by decide +kernel
theorem dX10_writeInt_31 : decode cX10_writeInt 31 = .ok (.isub, 1) := by decide +kernel
theorem dX10_writeInt_32 : decode cX10_writeInt 32 = .ok (.iushr, 1) := by decide +kernel
theorem dX10_writeInt_33 : decode cX10_writeInt 33 = .ok (.sipush 255, 3) := by decide +kernel
theorem dX10_writeInt_36 : decode cX10_writeInt 36 = .ok (.iand, 1) := by decide +kernel
theorem dX10_writeInt_37 : decode cX10_writeInt 37 = .ok (.iastore, 1) := by decide +kernel
theorem dX10_writeInt_38 : decode cX10_writeInt 38 = .ok (.iinc 3 1, 3) := by decide +kernel
theorem dX10_writeInt_41 : decode cX10_writeInt 41 = .ok (.goto (-26), 3) := by decide +kernel
theorem dX10_writeInt_44 : decode cX10_writeInt 44 = .ok (.return_, 1) := by decide +kernel
theorem dX10_isImage_0 : decode cX10_isImage 0 = .ok (.iload_n 1, 1) := by decide +kernel
theorem dX10_isImage_1 : decode cX10_isImage 1 = .ok (.bipush 14, 2) := by decide +kernel
theorem dX10_isImage_3 : decode cX10_isImage 3 = .ok (.if_icmp .lt 9, 3) := by decide +kernel
theorem dX10_isImage_12 : decode cX10_isImage 12 = .ok (.iconst 0, 1) := by decide +kernel
theorem dX10_isImage_13 : decode cX10_isImage 13 = .ok (.ireturn, 1) := by decide +kernel
theorem dX11_init_0 : decode cX11_init 0 = .ok (.aload_n 0, 1) := by decide +kernel
theorem dX11_init_1 : decode cX11_init 1 = .ok (.invokespecial 1, 3) := by decide +kernel
theorem dX11_init_4 : decode cX11_init 4 = .ok (.aload_n 0, 1) := by decide +kernel
theorem dX11_init_5 : decode cX11_init 5 = .ok (.sipush 1400, 3) := by decide +kernel
theorem dX11_init_8 : decode cX11_init 8 = .ok (.newarray .byte, 2) := by decide +kernel
theorem dX11_init_10 : decode cX11_init 10 = .ok (.putfield 7, 3) := by decide +kernel
theorem dX11_init_13 : decode cX11_init 13 = .ok (.aload_n 0, 1) := by decide +kernel
theorem dX11_init_14 : decode cX11_init 14 = .ok (.bipush 85, 2) := by decide +kernel
theorem dX11_init_16 : decode cX11_init 16 = .ok (.newarray .long, 2) := by decide +kernel
theorem dX11_init_18 : decode cX11_init 18 = .ok (.putfield 13, 3) := by decide +kernel
theorem dX11_init_21 : decode cX11_init 21 = .ok (.aload_n 0, 1) := by decide +kernel
theorem dX11_init_22 : decode cX11_init 22 = .ok (.sipush 800, 3) := by decide +kernel
theorem dX11_init_25 : decode cX11_init 25 = .ok (.newarray .int, 2) := by decide +kernel
theorem dX11_init_27 : decode cX11_init 27 = .ok (.putfield 17, 3) := by decide +kernel
theorem dX11_init_30 : decode cX11_init 30 = .ok (.aload_n 0, 1) := by decide +kernel
theorem dX11_init_31 : decode cX11_init 31 = .ok (.sipush 800, 3) := by decide +kernel
theorem dX11_init_34 : decode cX11_init 34 = .ok (.newarray .int, 2) := by decide +kernel
theorem dX11_init_36 : decode cX11_init 36 = .ok (.putfield 21, 3) := by decide +kernel
theorem dX11_init_39 : decode cX11_init 39 = .ok (.aload_n 0, 1) := by decide +kernel
theorem dX11_init_40 : decode cX11_init 40 = .ok (.sipush 800, 3) := by decide +kernel
theorem dX11_init_43 : decode cX11_init 43 = .ok (.newarray .int, 2) := by decide +kernel
theorem dX11_init_45 : decode cX11_init 45 = .ok (.putfield 24, 3) := by decide +kernel
theorem dX11_init_48 : decode cX11_init 48 = .ok (.aload_n 0, 1) := by decide +kernel
theorem dX11_init_49 : decode cX11_init 49 = .ok (.sipush 800, 3) := by decide +kernel
theorem dX11_init_52 : decode cX11_init 52 = .ok (.newarray .int, 2) := by decide +kernel
theorem dX11_init_54 : decode cX11_init 54 = .ok (.putfield 27, 3) := by decide +kernel
theorem dX11_init_57 : decode cX11_init 57 = .ok (.aload_n 0, 1) := by decide +kernel
theorem dX11_init_58 : decode cX11_init 58 = .ok (.sipush 10240, 3) := by decide +kernel
theorem dX11_init_61 : decode cX11_init 61 = .ok (.newarray .int, 2) := by decide +kernel
theorem dX11_init_63 : decode cX11_init 63 = .ok (.putfield 30, 3) := by decide +kernel
theorem dX11_init_66 : decode cX11_init 66 = .ok (.aload_n 0, 1) := by decide +kernel
theorem dX11_init_67 : decode cX11_init 67 = .ok (.sipush 10240, 3) := by decide +kernel
theorem dX11_init_70 : decode cX11_init 70 = .ok (.newarray .int, 2) := by decide +kernel
theorem dX11_init_72 : decode cX11_init 72 = .ok (.putfield 33, 3) := by decide +kernel
theorem dX11_init_75 : decode cX11_init 75 = .ok (.aload_n 0, 1) := by decide +kernel
theorem dX11_init_76 : decode cX11_init 76 = .ok (.sipush 10240, 3) := by decide +kernel
theorem dX11_init_79 : decode cX11_init 79 = .ok (.newarray .long, 2) := by decide +kernel
theorem dX11_init_81 : decode cX11_init 81 = .ok (.putfield 36, 3) := by decide +kernel
theorem dX11_init_84 : decode cX11_init 84 = .ok (.aload_n 0, 1) := by decide +kernel
theorem dX11_init_85 : decode cX11_init 85 = .ok (.sipush 10240, 3) := by decide +kernel
theorem dX11_init_88 : decode cX11_init 88 = .ok (.newarray .long, 2) := by decide +kernel
theorem dX11_init_90 : decode cX11_init 90 = .ok (.putfield 39, 3) := by decide +kernel
theorem dX11_init_93 : decode cX11_init 93 = .ok (.aload_n 0, 1) := by decide +kernel
theorem dX11_init_94 : decode cX11_init 94 = .ok (.sipush 2048, 3) := by decide +kernel
theorem dX11_init_97 : decode cX11_init 97 = .ok (.newarray .int, 2) := by decide +kernel
theorem dX11_init_99 : decode cX11_init 99 = .ok (.putfield 42, 3) := by decide +kernel
theorem dX11_init_102 : decode cX11_init 102 = .ok (.aload_n 0, 1) := by decide +kernel
theorem dX11_init_103 : decode cX11_init 103 = .ok (.sipush 2000, 3) := by decide +kernel
theorem dX11_init_106 : decode cX11_init 106 = .ok (.newarray .int, 2) := by decide +kernel
theorem dX11_init_108 : decode cX11_init 108 = .ok (.putfield 45, 3) := by decide +kernel
theorem dX11_init_111 : decode cX11_init 111 = .ok (.aload_n 0, 1) := by decide +kernel
theorem dX11_init_112 : decode cX11_init 112 = .ok (.bipush 6, 2) := by decide +kernel
theorem dX11_init_114 : decode cX11_init 114 = .ok (.newarray .int, 2) := by decide +kernel
theorem dX11_init_116 : decode cX11_init 116 = .ok (.putfield 48, 3) := by decide +kernel
theorem dX11_init_119 : decode cX11_init 119 = .ok (.aload_n 0, 1) := by decide +kernel
theorem dX11_init_120 : decode cX11_init 120 = .ok (.sipush 700, 3) := by decide +kernel
theorem dX11_init_123 : decode cX11_init 123 = .ok (.newarray .int, 2) := by decide +kernel
theorem dX11_init_125 : decode cX11_init 125 = .ok (.putfield 51, 3) := by decide +kernel
