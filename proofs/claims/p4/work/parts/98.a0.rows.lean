theorem dX10_outer_12 : decode cX10_outer 12 = .ok (.iload_n 2, 1) := by decide +kernel
theorem dX10_outer_13 : decode cX10_outer 13 = .ok (.iload_n 3, 1) := by decide +kernel
theorem dX10_outer_14 : decode cX10_outer 14 = .ok (.invokestatic 224, 3) := by decide +kernel
theorem dX10_outer_17 : decode cX10_outer 17 = .ok (.ifCond .eq 28, 3) := by decide +kernel
theorem dX10_outer_20 : decode cX10_outer 20 = .ok (.iload 4, 2) := by decide +kernel
theorem dX10_outer_22 : decode cX10_outer 22 = .ok (.iconst 1, 1) := by decide +kernel
theorem dX10_outer_23 : decode cX10_outer 23 = .ok (.if_icmp .lt 22, 3) := by decide +kernel
theorem dX10_outer_26 : decode cX10_outer 26 = .ok (.iload 4, 2) := by decide +kernel
theorem dX10_outer_28 : decode cX10_outer 28 = .ok (.sipush 2048, 3) := by decide +kernel
theorem dX10_outer_31 : decode cX10_outer 31 = .ok (.if_icmp .gt 14, 3) := by decide +kernel
theorem dX10_outer_34 : decode cX10_outer 34 = .ok (.iload 5, 2) := by decide +kernel
theorem dX10_outer_36 : decode cX10_outer 36 = .ok (.ifCond .lt 9, 3) := by decide +kernel
theorem dX10_outer_39 : decode cX10_outer 39 = .ok (.iload 5, 2) := by decide +kernel
theorem dX10_outer_41 : decode cX10_outer 41 = .ok (.iconst 3, 1) := by decide +kernel
theorem dX10_outer_42 : decode cX10_outer 42 = .ok (.if_icmp .le 7, 3) := by decide +kernel
theorem dX10_outer_49 : decode cX10_outer 49 = .ok (.aload_n 0, 1) := by decide +kernel
theorem dX10_outer_50 : decode cX10_outer 50 = .ok (.getfield 26, 3) := by decide +kernel
theorem dX10_outer_53 : decode cX10_outer 53 = .ok (.aload 6, 2) := by decide +kernel
theorem dX10_outer_55 : decode cX10_outer 55 = .ok (.getfield 93, 3) := by decide +kernel
theorem dX10_outer_58 : decode cX10_outer 58 = .ok (.iload_n 2, 1) := by decide +kernel
theorem dX10_outer_59 : decode cX10_outer 59 = .ok (.iload_n 3, 1) := by decide +kernel
theorem dX10_outer_60 : decode cX10_outer 60 = .ok (.iload 4, 2) := by decide +kernel
theorem dX10_outer_62 : decode cX10_outer 62 = .ok (.iload 5, 2) := by decide +kernel
theorem dX10_outer_64 : decode cX10_outer 64 = .ok (.invokevirtual 228, 3) := by decide +kernel
theorem dX10_outer_67 : decode cX10_outer 67 = .ok (.i2l, 1) := by decide +kernel
theorem dX10_outer_68 : decode cX10_outer 68 = .ok (.lreturn, 1) := by decide +kernel
theorem dX10_best_12 : decode cX10_best 12 = .ok (.iload_n 2, 1) := by decide +kernel
theorem dX10_best_13 : decode cX10_best 13 = .ok (.iconst 1, 1) := by decide +kernel
theorem dX10_best_14 : decode cX10_best 14 = .ok (.if_icmp .lt 21, 3) := by decide +kernel
theorem dX10_best_17 : decode cX10_best 17 = .ok (.iload_n 2, 1) := by decide +kernel
theorem dX10_best_18 : decode cX10_best 18 = .ok (.sipush 200, 3) := by decide +kernel
theorem dX10_best_21 : decode cX10_best 21 = .ok (.if_icmp .gt 14, 3) := by decide +kernel
theorem dX10_best_24 : decode cX10_best 24 = .ok (.iload 5, 2) := by decide +kernel
theorem dX10_best_26 : decode cX10_best 26 = .ok (.ifCond .lt 9, 3) := by decide +kernel
theorem dX10_best_29 : decode cX10_best 29 = .ok (.iload 5, 2) := by decide +kernel
theorem dX10_best_31 : decode cX10_best 31 = .ok (.iconst 2, 1) := by decide +kernel
theorem dX10_best_32 : decode cX10_best 32 = .ok (.if_icmp .le 7, 3) := by decide +kernel
theorem dX10_best_39 : decode cX10_best 39 = .ok (.aload_n 0, 1) := by decide +kernel
theorem dX10_best_40 : decode cX10_best 40 = .ok (.getfield 26, 3) := by decide +kernel
theorem dX10_best_43 : decode cX10_best 43 = .ok (.aload 6, 2) := by decide +kernel
theorem dX10_best_45 : decode cX10_best 45 = .ok (.iload_n 2, 1) := by decide +kernel
theorem dX10_best_46 : decode cX10_best 46 = .ok (.lload_n 3, 1) := by decide +kernel
theorem dX10_best_47 : decode cX10_best 47 = .ok (.iload 5, 2) := by decide +kernel
theorem dX10_best_49 : decode cX10_best 49 = .ok (.invokevirtual 232, 3) := by decide +kernel
theorem dX10_best_52 : decode cX10_best 52 = .ok (.i2l, 1) := by decide +kernel
theorem dX10_best_53 : decode cX10_best 53 = .ok (.lreturn, 1) := by decide +kernel
theorem dX10_inner_12 : decode cX10_inner 12 = .ok (.aload 5, 2) := by decide +kernel
theorem dX10_inner_14 : decode cX10_inner 14 = .ok (.getfield 130, 3) := by decide +kernel
theorem dX10_inner_17 : decode cX10_inner 17 = .ok (.iload_n 2, 1) := by decide +kernel
theorem dX10_inner_18 : decode cX10_inner 18 = .ok (.invokevirtual 191, 3) := by decide +kernel
theorem dX10_inner_21 : decode cX10_inner 21 = .ok (.ifCond .eq 12, 3) := by decide +kernel
theorem dX10_inner_24 : decode cX10_inner 24 = .ok (.iload_n 3, 1) := by decide +kernel
theorem dX10_inner_25 : decode cX10_inner 25 = .ok (.iload 4, 2) := by decide +kernel
theorem dX10_inner_27 : decode cX10_inner 27 = .ok (.invokestatic 224, 3) := by decide +kernel
theorem dX10_inner_30 : decode cX10_inner 30 = .ok (.ifCond .ne 5, 3) := by decide +kernel
theorem dX10_inner_35 : decode cX10_inner 35 = .ok (.aload_n 0, 1) := by decide +kernel
theorem dX10_inner_36 : decode cX10_inner 36 = .ok (.getfield 26, 3) := by decide +kernel
theorem dX10_inner_39 : decode cX10_inner 39 = .ok (.aload 5, 2) := by decide +kernel
theorem dX10_inner_41 : decode cX10_inner 41 = .ok (.iload_n 2, 1) := by decide +kernel
theorem dX10_inner_42 : decode cX10_inner 42 = .ok (.iload_n 3, 1) := by decide +kernel
theorem dX10_inner_43 : decode cX10_inner 43 = .ok (.iload 4, 2) := by decide +kernel
theorem dX10_inner_45 : decode cX10_inner 45 = .ok (.invokevirtual 236, 3) := by decide +kernel
theorem dX10_inner_48 : decode cX10_inner 48 = .ok (.ireturn, 1) := by decide +kernel
theorem dX10_tries_12 : decode cX10_tries 12 = .ok (.aload 7, 2) := by decide +kernel
theorem dX10_tries_14 : decode cX10_tries 14 = .ok (.getfield 130, 3) := by decide +kernel
theorem dX10_tries_17 : decode cX10_tries 17 = .ok (.iload_n 2, 1) := by decide +kernel
theorem dX10_tries_18 : decode cX10_tries 18 = .ok (.invokevirtual 191, 3) := by decide +kernel
theorem dX10_tries_21 : decode cX10_tries 21 = .ok (.ifCond .eq 26, 3) := by decide +kernel
theorem dX10_tries_24 : decode cX10_tries 24 = .ok (.iload_n 3, 1) := by decide +kernel
theorem dX10_tries_25 : decode cX10_tries 25 = .ok (.iconst 1, 1) := by decide +kernel
theorem dX10_tries_26 : decode cX10_tries 26 = .ok (.if_icmp .lt 21, 3) := by decide +kernel
theorem dX10_tries_29 : decode cX10_tries 29 = .ok (.iload_n 3, 1) := by decide +kernel
theorem dX10_tries_30 : decode cX10_tries 30 = .ok (.sipush 200, 3) := by decide +kernel
theorem dX10_tries_33 : decode cX10_tries 33 = .ok (.if_icmp .gt 14, 3) := by decide +kernel
theorem dX10_tries_36 : decode cX10_tries 36 = .ok (.iload 6, 2) := by decide +kernel
theorem dX10_tries_38 : decode cX10_tries 38 = .ok (.ifCond .lt 9, 3) := by decide +kernel
theorem dX10_tries_41 : decode cX10_tries 41 = .ok (.iload 6, 2) := by decide +kernel
theorem dX10_tries_43 : decode cX10_tries 43 = .ok (.iconst 1, 1) := by decide +kernel
theorem dX10_tries_44 : decode cX10_tries 44 = .ok (.if_icmp .le 6, 3) := by decide +kernel
theorem dX10_tries_50 : decode cX10_tries 50 = .ok (.aload_n 0, 1) := by decide +kernel
theorem dX10_tries_51 : decode cX10_tries 51 = .ok (.getfield 26, 3) := by decide +kernel
theorem dX10_tries_54 : decode cX10_tries 54 = .ok (.aload 7, 2) := by decide +kernel
theorem dX10_tries_56 : decode cX10_tries 56 = .ok (.iload_n 2, 1) := by decide +kernel
theorem dX10_tries_57 : decode cX10_tries 57 = .ok (.iload_n 3, 1) := by decide +kernel
theorem dX10_tries_58 : decode cX10_tries 58 = .ok (.lload 4, 2) := by decide +kernel
theorem dX10_tries_60 : decode cX10_tries 60 = .ok (.iload 6, 2) := by decide +kernel
theorem dX10_tries_62 : decode cX10_tries 62 = .ok (.invokevirtual 240, 3) := by decide +kernel
theorem dX10_tries_65 : decode cX10_tries 65 = .ok (.ireturn, 1) := by decide +kernel
theorem dX10_frozen_12 : decode cX10_frozen 12 = .ok (.iload 4, 2) := by decide +kernel
theorem dX10_frozen_14 : decode cX10_frozen 14 = .ok (.ifCond .lt 9, 3) := by decide +kernel
theorem dX10_frozen_17 : decode cX10_frozen 17 = .ok (.iload 4, 2) := by decide +kernel
theorem dX10_frozen_19 : decode cX10_frozen 19 = .ok (.iconst 4, 1) := by decide +kernel
theorem dX10_frozen_20 : decode cX10_frozen 20 = .ok (.if_icmp .le 7, 3) := by decide +kernel
theorem dX10_frozen_27 : decode cX10_frozen 27 = .ok (.aload_n 0, 1) := by decide +kernel
theorem dX10_frozen_28 : decode cX10_frozen 28 = .ok (.getfield 26, 3) := by decide +kernel
theorem dX10_frozen_31 : decode cX10_frozen 31 = .ok (.aload 5, 2) := by decide +kernel
theorem dX10_frozen_33 : decode cX10_frozen 33 = .ok (.getfield 93, 3) := by decide +kernel
theorem dX10_frozen_36 : decode cX10_frozen 36 = .ok (.lload_n 2, 1) := by decide +kernel
theorem dX10_frozen_37 : decode cX10_frozen 37 = .ok (.invokevirtual 247, 3) := by decide +kernel
theorem dX10_frozen_40 : decode cX10_frozen 40 = .ok (.ifCond .ne 7, 3) := by decide +kernel
theorem dX10_frozen_43 : decode cX10_frozen 43 = .ok (.ldc2_w 251, 3) := by decide +kernel
theorem dX10_frozen_46 : decode cX10_frozen 46 = .ok (.lreturn, 1) := by decide +kernel
theorem dX10_frozen_47 : decode cX10_frozen 47 = .ok (.iload 4, 2) := by decide +kernel
theorem dX10_frozen_49 : decode cX10_frozen 49 = .ok (.tableswitch 82 0 3 #[31, 43, 52, 72], 31) := by decide +kernel
theorem dX10_frozen_80 : decode cX10_frozen 80 = .ok (.aload_n 0, 1) := by decide +kernel
theorem dX10_frozen_81 : decode cX10_frozen 81 = .ok (.getfield 26, 3) := by decide +kernel
theorem dX10_frozen_84 : decode cX10_frozen 84 = .ok (.getfield 253, 3) := by decide +kernel
theorem dX10_frozen_87 : decode cX10_frozen 87 = .ok (.getfield 139, 3) := by decide +kernel
theorem dX10_frozen_90 : decode cX10_frozen 90 = .ok (.i2l, 1) := by decide +kernel
theorem dX10_frozen_91 : decode cX10_frozen 91 = .ok (.lreturn, 1) := by decide +kernel
theorem dX10_frozen_92 : decode cX10_frozen 92 = .ok (.aload_n 0, 1) := by decide +kernel
theorem dX10_frozen_93 : decode cX10_frozen 93 = .ok (.getfield 26, 3) := by decide +kernel
theorem dX10_frozen_96 : decode cX10_frozen 96 = .ok (.getfield 254, 3) := by decide +kernel
theorem dX10_frozen_99 : decode cX10_frozen 99 = .ok (.i2l, 1) := by decide +kernel
theorem dX10_frozen_100 : decode cX10_frozen 100 = .ok (.lreturn, 1) := by decide +kernel
theorem dX10_frozen_101 : decode cX10_frozen 101 = .ok (.aload_n 0, 1) := by decide +kernel
theorem dX10_frozen_102 : decode cX10_frozen 102 = .ok (.getfield 26, 3) := by decide +kernel
theorem dX10_frozen_105 : decode cX10_frozen 105 = .ok (.getfield 257, 3) := by decide +kernel
theorem dX10_frozen_108 : decode cX10_frozen 108 = .ok (.getfield 113, 3) := by decide +kernel
theorem dX10_frozen_111 : decode cX10_frozen 111 = .ok (.aload_n 0, 1) := by decide +kernel
theorem dX10_frozen_112 : decode cX10_frozen 112 = .ok (.getfield 26, 3) := by decide +kernel
theorem dX10_frozen_115 : decode cX10_frozen 115 = .ok (.getfield 254, 3) := by decide +kernel
theorem dX10_frozen_118 : decode cX10_frozen 118 = .ok (.isub, 1) := by decide +kernel
theorem dX10_frozen_119 : decode cX10_frozen 119 = .ok (.i2l, 1) := by decide +kernel
theorem dX10_frozen_120 : decode cX10_frozen 120 = .ok (.lreturn, 1) := by decide +kernel
theorem dX10_frozen_121 : decode cX10_frozen 121 = .ok (.aload_n 0, 1) := by decide +kernel
theorem dX10_frozen_122 : decode cX10_frozen 122 = .ok (.getfield 26, 3) := by decide +kernel
theorem dX10_frozen_125 : decode cX10_frozen 125 = .ok (.iconst 0, 1) := by decide +kernel
theorem dX10_frozen_126 : decode cX10_frozen 126 = .ok (.invokevirtual 258, 3) := by decide +kernel
theorem dX10_frozen_129 : decode cX10_frozen 129 = .ok (.i2l, 1) := by decide +kernel
theorem dX10_frozen_130 : decode cX10_frozen 130 = .ok (.lreturn, 1) := by decide +kernel
theorem dX10_frozen_131 : decode cX10_frozen 131 = .ok (.aload_n 0, 1) := by decide +kernel
theorem dX10_frozen_132 : decode cX10_frozen 132 = .ok (.getfield 26, 3) := by decide +kernel
theorem dX10_frozen_135 : decode cX10_frozen 135 = .ok (.iconst 1, 1) := by decide +kernel
theorem dX10_frozen_136 : decode cX10_frozen 136 = .ok (.invokevirtual 258, 3) := by decide +kernel
theorem dX10_frozen_139 : decode cX10_frozen 139 = .ok (.i2l, 1) := by decide +kernel
theorem dX10_frozen_140 : decode cX10_frozen 140 = .ok (.lreturn, 1) := by decide +kernel
theorem dX10_frozenAt_14 : decode cX10_frozenAt 14 = .ok (.aload 5, 2) := by decide +kernel
theorem dX10_frozenAt_16 : decode cX10_frozenAt 16 = .ok (.getfield 93, 3) := by decide +kernel
theorem dX10_frozenAt_19 : decode cX10_frozenAt 19 = .ok (.iload 4, 2) := by decide +kernel
theorem dX10_frozenAt_21 : decode cX10_frozenAt 21 = .ok (.invokevirtual 97, 3) := by decide +kernel
theorem dX10_frozenAt_24 : decode cX10_frozenAt 24 = .ok (.istore 6, 2) := by decide +kernel
theorem dX10_frozenAt_26 : decode cX10_frozenAt 26 = .ok (.iload 6, 2) := by decide +kernel
theorem dX10_frozenAt_28 : decode cX10_frozenAt 28 = .ok (.ifCond .ge 5, 3) := by decide +kernel
theorem dX10_frozenAt_31 : decode cX10_frozenAt 31 = .ok (.iconst (-1), 1) := by decide +kernel
theorem dX10_frozenAt_32 : decode cX10_frozenAt 32 = .ok (.ireturn, 1) := by decide +kernel
theorem dX10_frozenAt_33 : decode cX10_frozenAt 33 = .ok (.aload_n 0, 1) := by decide +kernel
theorem dX10_frozenAt_34 : decode cX10_frozenAt 34 = .ok (.getfield 26, 3) := by decide +kernel
theorem dX10_frozenAt_37 : decode cX10_frozenAt 37 = .ok (.aload 5, 2) := by decide +kernel
theorem dX10_frozenAt_39 : decode cX10_frozenAt 39 = .ok (.getfield 93, 3) := by decide +kernel
theorem dX10_frozenAt_42 : decode cX10_frozenAt 42 = .ok (.lload_n 2, 1) := by decide +kernel
theorem dX10_frozenAt_43 : decode cX10_frozenAt 43 = .ok (.invokevirtual 247, 3) := by decide +kernel
theorem dX10_frozenAt_46 : decode cX10_frozenAt 46 = .ok (.ifCond .eq 18, 3) := by decide +kernel
theorem dX10_frozenAt_49 : decode cX10_frozenAt 49 = .ok (.aload_n 0, 1) := by decide +kernel
theorem dX10_frozenAt_50 : decode cX10_frozenAt 50 = .ok (.getfield 26, 3) := by decide +kernel
theorem dX10_frozenAt_53 : decode cX10_frozenAt 53 = .ok (.getfield 253, 3) := by decide +kernel
theorem dX10_frozenAt_56 : decode cX10_frozenAt 56 = .ok (.iload 6, 2) := by decide +kernel
theorem dX10_frozenAt_58 : decode cX10_frozenAt 58 = .ok (.invokevirtual 262, 3) := by decide +kernel
theorem dX10_frozenAt_61 : decode cX10_frozenAt 61 = .ok (.goto 5, 3) := by decide +kernel
theorem dX10_frozenAt_64 : decode cX10_frozenAt 64 = .ok (.bipush (-2), 2) := by decide +kernel
theorem dX10_frozenAt_66 : decode cX10_frozenAt 66 = .ok (.ireturn, 1) := by decide +kernel
