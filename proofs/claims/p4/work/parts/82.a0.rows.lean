theorem dX5_dealt_0 : decode cX5_dealt 0 = .ok (.aload_n 0, 1) := by decide +kernel
theorem dX5_dealt_1 : decode cX5_dealt 1 = .ok (.getfield 21, 3) := by decide +kernel
theorem dX5_dealt_4 : decode cX5_dealt 4 = .ok (.aload_n 1, 1) := by decide +kernel
theorem dX5_dealt_5 : decode cX5_dealt 5 = .ok (.iload_n 2, 1) := by decide +kernel
theorem dX5_dealt_6 : decode cX5_dealt 6 = .ok (.iload_n 3, 1) := by decide +kernel
theorem dX5_dealt_7 : decode cX5_dealt 7 = .ok (.iload 4, 2) := by decide +kernel
theorem dX5_dealt_9 : decode cX5_dealt 9 = .ok (.invokevirtual 25, 3) := by decide +kernel
theorem dX5_dealt_12 : decode cX5_dealt 12 = .ok (.istore 6, 2) := by decide +kernel
theorem dX5_dealt_14 : decode cX5_dealt 14 = .ok (.iload 5, 2) := by decide +kernel
theorem dX5_dealt_16 : decode cX5_dealt 16 = .ok (.tableswitch 52 0 2 #[28, 33, 36], 28) := by decide +kernel
theorem dX5_dealt_44 : decode cX5_dealt 44 = .ok (.iconst 4, 1) := by decide +kernel
theorem dX5_dealt_45 : decode cX5_dealt 45 = .ok (.iload 6, 2) := by decide +kernel
theorem dX5_dealt_47 : decode cX5_dealt 47 = .ok (.imul, 1) := by decide +kernel
theorem dX5_dealt_48 : decode cX5_dealt 48 = .ok (.ireturn, 1) := by decide +kernel
theorem dX5_dealt_49 : decode cX5_dealt 49 = .ok (.iload 6, 2) := by decide +kernel
theorem dX5_dealt_51 : decode cX5_dealt 51 = .ok (.ireturn, 1) := by decide +kernel
theorem dX5_dealt_52 : decode cX5_dealt 52 = .ok (.aload_n 0, 1) := by decide +kernel
theorem dX5_dealt_53 : decode cX5_dealt 53 = .ok (.getfield 21, 3) := by decide +kernel
theorem dX5_dealt_56 : decode cX5_dealt 56 = .ok (.getfield 29, 3) := by decide +kernel
theorem dX5_dealt_59 : decode cX5_dealt 59 = .ok (.aload_n 0, 1) := by decide +kernel
theorem dX5_dealt_60 : decode cX5_dealt 60 = .ok (.getfield 21, 3) := by decide +kernel
theorem dX5_dealt_63 : decode cX5_dealt 63 = .ok (.invokevirtual 33, 3) := by decide +kernel
theorem dX5_dealt_66 : decode cX5_dealt 66 = .ok (.iaload, 1) := by decide +kernel
theorem dX5_dealt_67 : decode cX5_dealt 67 = .ok (.ireturn, 1) := by decide +kernel
theorem dX5_dealt_68 : decode cX5_dealt 68 = .ok (.aload_n 0, 1) := by decide +kernel
theorem dX5_dealt_69 : decode cX5_dealt 69 = .ok (.getfield 21, 3) := by decide +kernel
theorem dX5_dealt_72 : decode cX5_dealt 72 = .ok (.iconst 0, 1) := by decide +kernel
theorem dX5_dealt_73 : decode cX5_dealt 73 = .ok (.invokevirtual 37, 3) := by decide +kernel
theorem dX5_dealt_76 : decode cX5_dealt 76 = .ok (.ireturn, 1) := by decide +kernel
theorem dX5_leastSum_0 : decode cX5_leastSum 0 = .ok (.aload_n 0, 1) := by decide +kernel
theorem dX5_leastSum_1 : decode cX5_leastSum 1 = .ok (.getfield 12, 3) := by decide +kernel
theorem dX5_leastSum_4 : decode cX5_leastSum 4 = .ok (.lload_n 3, 1) := by decide +kernel
theorem dX5_leastSum_5 : decode cX5_leastSum 5 = .ok (.invokevirtual 41, 3) := by decide +kernel
theorem dX5_leastSum_8 : decode cX5_leastSum 8 = .ok (.iconst 0, 1) := by decide +kernel
theorem dX5_leastSum_9 : decode cX5_leastSum 9 = .ok (.istore 6, 2) := by decide +kernel
theorem dX5_leastSum_11 : decode cX5_leastSum 11 = .ok (.iconst 0, 1) := by decide +kernel
theorem dX5_leastSum_12 : decode cX5_leastSum 12 = .ok (.istore 7, 2) := by decide +kernel
theorem dX5_leastSum_14 : decode cX5_leastSum 14 = .ok (.iconst 0, 1) := by decide +kernel
theorem dX5_leastSum_15 : decode cX5_leastSum 15 = .ok (.istore 8, 2) := by decide +kernel
theorem dX5_leastSum_17 : decode cX5_leastSum 17 = .ok (.iconst 0, 1) := by decide +kernel
theorem dX5_leastSum_18 : decode cX5_leastSum 18 = .ok (.istore 9, 2) := by decide +kernel
theorem dX5_leastSum_20 : decode cX5_leastSum 20 = .ok (.iload 9, 2) := by decide +kernel
theorem dX5_leastSum_22 : decode cX5_leastSum 22 = .ok (.iload_n 2, 1) := by decide +kernel
theorem dX5_leastSum_23 : decode cX5_leastSum 23 = .ok (.if_icmp .ge 84, 3) := by decide +kernel
theorem dX5_leastSum_26 : decode cX5_leastSum 26 = .ok (.aload_n 0, 1) := by decide +kernel
theorem dX5_leastSum_27 : decode cX5_leastSum 27 = .ok (.getfield 12, 3) := by decide +kernel
theorem dX5_leastSum_30 : decode cX5_leastSum 30 = .ok (.invokevirtual 45, 3) := by decide +kernel
theorem dX5_leastSum_33 : decode cX5_leastSum 33 = .ok (.iconst 4, 1) := by decide +kernel
theorem dX5_leastSum_34 : decode cX5_leastSum 34 = .ok (.aload_n 0, 1) := by decide +kernel
theorem dX5_leastSum_35 : decode cX5_leastSum 35 = .ok (.getfield 21, 3) := by decide +kernel
theorem dX5_leastSum_38 : decode cX5_leastSum 38 = .ok (.aload_n 1, 1) := by decide +kernel
theorem dX5_leastSum_39 : decode cX5_leastSum 39 = .ok (.getfield 48, 3) := by decide +kernel
theorem dX5_leastSum_42 : decode cX5_leastSum 42 = .ok (.aload_n 0, 1) := by decide +kernel
theorem dX5_leastSum_43 : decode cX5_leastSum 43 = .ok (.getfield 12, 3) := by decide +kernel
theorem dX5_leastSum_46 : decode cX5_leastSum 46 = .ok (.getfield 54, 3) := by decide +kernel
theorem dX5_leastSum_49 : decode cX5_leastSum 49 = .ok (.aload_n 0, 1) := by decide +kernel
theorem dX5_leastSum_50 : decode cX5_leastSum 50 = .ok (.getfield 12, 3) := by decide +kernel
theorem dX5_leastSum_53 : decode cX5_leastSum 53 = .ok (.getfield 58, 3) := by decide +kernel
theorem dX5_leastSum_56 : decode cX5_leastSum 56 = .ok (.aload_n 1, 1) := by decide +kernel
theorem dX5_leastSum_57 : decode cX5_leastSum 57 = .ok (.getfield 61, 3) := by decide +kernel
theorem dX5_leastSum_60 : decode cX5_leastSum 60 = .ok (.getfield 62, 3) := by decide +kernel
theorem dX5_leastSum_63 : decode cX5_leastSum 63 = .ok (.invokevirtual 25, 3) := by decide +kernel
theorem dX5_leastSum_66 : decode cX5_leastSum 66 = .ok (.imul, 1) := by decide +kernel
theorem dX5_leastSum_67 : decode cX5_leastSum 67 = .ok (.istore 10, 2) := by decide +kernel
theorem dX5_leastSum_69 : decode cX5_leastSum 69 = .ok (.iload 9, 2) := by decide +kernel
theorem dX5_leastSum_71 : decode cX5_leastSum 71 = .ok (.ifCond .eq 10, 3) := by decide +kernel
theorem dX5_leastSum_74 : decode cX5_leastSum 74 = .ok (.iload 10, 2) := by decide +kernel
theorem dX5_leastSum_76 : decode cX5_leastSum 76 = .ok (.iload 7, 2) := by decide +kernel
theorem dX5_leastSum_78 : decode cX5_leastSum 78 = .ok (.if_icmp .ge 11, 3) := by decide +kernel
theorem dX5_leastSum_81 : decode cX5_leastSum 81 = .ok (.iload 9, 2) := by decide +kernel
theorem dX5_leastSum_83 : decode cX5_leastSum 83 = .ok (.istore 6, 2) := by decide +kernel
theorem dX5_leastSum_85 : decode cX5_leastSum 85 = .ok (.iload 10, 2) := by decide +kernel
theorem dX5_leastSum_87 : decode cX5_leastSum 87 = .ok (.istore 7, 2) := by decide +kernel
theorem dX5_leastSum_89 : decode cX5_leastSum 89 = .ok (.iload 10, 2) := by decide +kernel
theorem dX5_leastSum_91 : decode cX5_leastSum 91 = .ok (.aload_n 1, 1) := by decide +kernel
theorem dX5_leastSum_92 : decode cX5_leastSum 92 = .ok (.invokevirtual 65, 3) := by decide +kernel
theorem dX5_leastSum_95 : decode cX5_leastSum 95 = .ok (.if_icmp .gt 6, 3) := by decide +kernel
theorem dX5_leastSum_98 : decode cX5_leastSum 98 = .ok (.iinc 8 1, 3) := by decide +kernel
theorem dX5_leastSum_101 : decode cX5_leastSum 101 = .ok (.iinc 9 1, 3) := by decide +kernel
theorem dX5_leastSum_104 : decode cX5_leastSum 104 = .ok (.goto (-84), 3) := by decide +kernel
theorem dX5_leastSum_107 : decode cX5_leastSum 107 = .ok (.iload 5, 2) := by decide +kernel
theorem dX5_leastSum_109 : decode cX5_leastSum 109 = .ok (.lookupswitch 33 #[(0, 27), (1, 30)], 27) := by decide +kernel
theorem dX5_leastSum_136 : decode cX5_leastSum 136 = .ok (.iload 6, 2) := by decide +kernel
theorem dX5_leastSum_138 : decode cX5_leastSum 138 = .ok (.ireturn, 1) := by decide +kernel
theorem dX5_leastSum_139 : decode cX5_leastSum 139 = .ok (.iload 7, 2) := by decide +kernel
theorem dX5_leastSum_141 : decode cX5_leastSum 141 = .ok (.ireturn, 1) := by decide +kernel
theorem dX5_leastSum_142 : decode cX5_leastSum 142 = .ok (.iload 8, 2) := by decide +kernel
theorem dX5_leastSum_144 : decode cX5_leastSum 144 = .ok (.ireturn, 1) := by decide +kernel
theorem dX5_clashes_0 : decode cX5_clashes 0 = .ok (.aload_n 1, 1) := by decide +kernel
theorem dX5_clashes_1 : decode cX5_clashes 1 = .ok (.getfield 61, 3) := by decide +kernel
theorem dX5_clashes_4 : decode cX5_clashes 4 = .ok (.iload_n 2, 1) := by decide +kernel
theorem dX5_clashes_5 : decode cX5_clashes 5 = .ok (.invokevirtual 68, 3) := by decide +kernel
theorem dX5_clashes_8 : decode cX5_clashes 8 = .ok (.istore 5, 2) := by decide +kernel
theorem dX5_clashes_10 : decode cX5_clashes 10 = .ok (.aload_n 0, 1) := by decide +kernel
theorem dX5_clashes_11 : decode cX5_clashes 11 = .ok (.aload_n 1, 1) := by decide +kernel
theorem dX5_clashes_12 : decode cX5_clashes 12 = .ok (.iload 5, 2) := by decide +kernel
theorem dX5_clashes_14 : decode cX5_clashes 14 = .ok (.aload_n 1, 1) := by decide +kernel
theorem dX5_clashes_15 : decode cX5_clashes 15 = .ok (.getfield 61, 3) := by decide +kernel
theorem dX5_clashes_18 : decode cX5_clashes 18 = .ok (.iload_n 2, 1) := by decide +kernel
theorem dX5_clashes_19 : decode cX5_clashes 19 = .ok (.invokevirtual 71, 3) := by decide +kernel
theorem dX5_clashes_22 : decode cX5_clashes 22 = .ok (.iload_n 3, 1) := by decide +kernel
theorem dX5_clashes_23 : decode cX5_clashes 23 = .ok (.iload 4, 2) := by decide +kernel
theorem dX5_clashes_25 : decode cX5_clashes 25 = .ok (.invokevirtual 74, 3) := by decide +kernel
theorem dX5_clashes_28 : decode cX5_clashes 28 = .ok (.ireturn, 1) := by decide +kernel
theorem dX5_clashesOf_0 : decode cX5_clashesOf 0 = .ok (.iconst 0, 1) := by decide +kernel
theorem dX5_clashesOf_1 : decode cX5_clashesOf 1 = .ok (.istore 6, 2) := by decide +kernel
theorem dX5_clashesOf_3 : decode cX5_clashesOf 3 = .ok (.iconst 0, 1) := by decide +kernel
theorem dX5_clashesOf_4 : decode cX5_clashesOf 4 = .ok (.istore 7, 2) := by decide +kernel
theorem dX5_clashesOf_6 : decode cX5_clashesOf 6 = .ok (.iload 7, 2) := by decide +kernel
theorem dX5_clashesOf_8 : decode cX5_clashesOf 8 = .ok (.iload_n 2, 1) := by decide +kernel
theorem dX5_clashesOf_9 : decode cX5_clashesOf 9 = .ok (.if_icmp .ge 82, 3) := by decide +kernel
theorem dX5_clashesOf_12 : decode cX5_clashesOf 12 = .ok (.iload 4, 2) := by decide +kernel
theorem dX5_clashesOf_14 : decode cX5_clashesOf 14 = .ok (.iload 5, 2) := by decide +kernel
theorem dX5_clashesOf_16 : decode cX5_clashesOf 16 = .ok (.aload_n 1, 1) := by decide +kernel
theorem dX5_clashesOf_17 : decode cX5_clashesOf 17 = .ok (.getfield 48, 3) := by decide +kernel
theorem dX5_clashesOf_20 : decode cX5_clashesOf 20 = .ok (.aload_n 1, 1) := by decide +kernel
theorem dX5_clashesOf_21 : decode cX5_clashesOf 21 = .ok (.getfield 61, 3) := by decide +kernel
theorem dX5_clashesOf_24 : decode cX5_clashesOf 24 = .ok (.getfield 78, 3) := by decide +kernel
theorem dX5_clashesOf_27 : decode cX5_clashesOf 27 = .ok (.iload 7, 2) := by decide +kernel
theorem dX5_clashesOf_29 : decode cX5_clashesOf 29 = .ok (.iaload, 1) := by decide +kernel
theorem dX5_clashesOf_30 : decode cX5_clashesOf 30 = .ok (.invokevirtual 81, 3) := by decide +kernel
theorem dX5_clashesOf_33 : decode cX5_clashesOf 33 = .ok (.iload_n 3, 1) := by decide +kernel
theorem dX5_clashesOf_34 : decode cX5_clashesOf 34 = .ok (.invokestatic 86, 3) := by decide +kernel
theorem dX5_clashesOf_37 : decode cX5_clashesOf 37 = .ok (.istore 8, 2) := by decide +kernel
theorem dX5_clashesOf_39 : decode cX5_clashesOf 39 = .ok (.aload_n 0, 1) := by decide +kernel
theorem dX5_clashesOf_40 : decode cX5_clashesOf 40 = .ok (.getfield 21, 3) := by decide +kernel
theorem dX5_clashesOf_43 : decode cX5_clashesOf 43 = .ok (.getfield 90, 3) := by decide +kernel
theorem dX5_clashesOf_46 : decode cX5_clashesOf 46 = .ok (.iload 7, 2) := by decide +kernel
theorem dX5_clashesOf_48 : decode cX5_clashesOf 48 = .ok (.iload 8, 2) := by decide +kernel
theorem dX5_clashesOf_50 : decode cX5_clashesOf 50 = .ok (.iastore, 1) := by decide +kernel
theorem dX5_clashesOf_51 : decode cX5_clashesOf 51 = .ok (.iconst 0, 1) := by decide +kernel
theorem dX5_clashesOf_52 : decode cX5_clashesOf 52 = .ok (.istore 9, 2) := by decide +kernel
theorem dX5_clashesOf_54 : decode cX5_clashesOf 54 = .ok (.iload 9, 2) := by decide +kernel
theorem dX5_clashesOf_56 : decode cX5_clashesOf 56 = .ok (.iload 7, 2) := by decide +kernel
theorem dX5_clashesOf_58 : decode cX5_clashesOf 58 = .ok (.if_icmp .ge 27, 3) := by decide +kernel
theorem dX5_clashesOf_61 : decode cX5_clashesOf 61 = .ok (.aload_n 0, 1) := by decide +kernel
theorem dX5_clashesOf_62 : decode cX5_clashesOf 62 = .ok (.getfield 21, 3) := by decide +kernel
theorem dX5_clashesOf_65 : decode cX5_clashesOf 65 = .ok (.getfield 90, 3) := by decide +kernel
theorem dX5_clashesOf_68 : decode cX5_clashesOf 68 = .ok (.iload 9, 2) := by decide +kernel
theorem dX5_clashesOf_70 : decode cX5_clashesOf 70 = .ok (.iaload, 1) := by decide +kernel
theorem dX5_clashesOf_71 : decode cX5_clashesOf 71 = .ok (.iload 8, 2) := by decide +kernel
theorem dX5_clashesOf_73 : decode cX5_clashesOf 73 = .ok (.if_icmp .ne 6, 3) := by decide +kernel
theorem dX5_clashesOf_76 : decode cX5_clashesOf 76 = .ok (.iinc 6 1, 3) := by decide +kernel
theorem dX5_clashesOf_79 : decode cX5_clashesOf 79 = .ok (.iinc 9 1, 3) := by decide +kernel
theorem dX5_clashesOf_82 : decode cX5_clashesOf 82 = .ok (.goto (-28), 3) := by decide +kernel
theorem dX5_clashesOf_85 : decode cX5_clashesOf 85 = .ok (.iinc 7 1, 3) := by decide +kernel
theorem dX5_clashesOf_88 : decode cX5_clashesOf 88 = .ok (.goto (-82), 3) := by decide +kernel
theorem dX5_clashesOf_91 : decode cX5_clashesOf 91 = .ok (.iload 6, 2) := by decide +kernel
theorem dX5_clashesOf_93 : decode cX5_clashesOf 93 = .ok (.ireturn, 1) := by decide +kernel
theorem dX5_tried_0 : decode cX5_tried 0 = .ok (.aload_n 1, 1) := by decide +kernel
theorem dX5_tried_1 : decode cX5_tried 1 = .ok (.getfield 61, 3) := by decide +kernel
theorem dX5_tried_4 : decode cX5_tried 4 = .ok (.iload_n 2, 1) := by decide +kernel
theorem dX5_tried_5 : decode cX5_tried 5 = .ok (.invokevirtual 68, 3) := by decide +kernel
theorem dX5_tried_8 : decode cX5_tried 8 = .ok (.istore 7, 2) := by decide +kernel
theorem dX5_tried_10 : decode cX5_tried 10 = .ok (.aload_n 1, 1) := by decide +kernel
theorem dX5_tried_11 : decode cX5_tried 11 = .ok (.getfield 61, 3) := by decide +kernel
theorem dX5_tried_14 : decode cX5_tried 14 = .ok (.iload_n 2, 1) := by decide +kernel
theorem dX5_tried_15 : decode cX5_tried 15 = .ok (.invokevirtual 71, 3) := by decide +kernel
theorem dX5_tried_18 : decode cX5_tried 18 = .ok (.istore 8, 2) := by decide +kernel
theorem dX5_tried_20 : decode cX5_tried 20 = .ok (.iconst (-1), 1) := by decide +kernel
theorem dX5_tried_21 : decode cX5_tried 21 = .ok (.istore 9, 2) := by decide +kernel
theorem dX5_tried_23 : decode cX5_tried 23 = .ok (.iconst 0, 1) := by decide +kernel
theorem dX5_tried_24 : decode cX5_tried 24 = .ok (.istore 10, 2) := by decide +kernel
theorem dX5_tried_26 : decode cX5_tried 26 = .ok (.aload_n 0, 1) := by decide +kernel
theorem dX5_tried_27 : decode cX5_tried 27 = .ok (.getfield 12, 3) := by decide +kernel
theorem dX5_tried_30 : decode cX5_tried 30 = .ok (.lload 4, 2) := by decide +kernel
theorem dX5_tried_32 : decode cX5_tried 32 = .ok (.invokevirtual 41, 3) := by decide +kernel
theorem dX5_tried_35 : decode cX5_tried 35 = .ok (.iconst 0, 1) := by decide +kernel
theorem dX5_tried_36 : decode cX5_tried 36 = .ok (.istore 11, 2) := by decide +kernel
theorem dX5_tried_38 : decode cX5_tried 38 = .ok (.iload 11, 2) := by decide +kernel
theorem dX5_tried_40 : decode cX5_tried 40 = .ok (.iload_n 3, 1) := by decide +kernel
theorem dX5_tried_41 : decode cX5_tried 41 = .ok (.if_icmp .ge 54, 3) := by decide +kernel
theorem dX5_tried_44 : decode cX5_tried 44 = .ok (.aload_n 0, 1) := by decide +kernel
theorem dX5_tried_45 : decode cX5_tried 45 = .ok (.getfield 12, 3) := by decide +kernel
theorem dX5_tried_48 : decode cX5_tried 48 = .ok (.invokevirtual 45, 3) := by decide +kernel
theorem dX5_tried_51 : decode cX5_tried 51 = .ok (.aload_n 0, 1) := by decide +kernel
theorem dX5_tried_52 : decode cX5_tried 52 = .ok (.aload_n 1, 1) := by decide +kernel
theorem dX5_tried_53 : decode cX5_tried 53 = .ok (.iload 7, 2) := by decide +kernel
theorem dX5_tried_55 : decode cX5_tried 55 = .ok (.iload 8, 2) := by decide +kernel
theorem dX5_tried_57 : decode cX5_tried 57 = .ok (.aload_n 0, 1) := by decide +kernel
theorem dX5_tried_58 : decode cX5_tried 58 = .ok (.getfield 12, 3) := by decide +kernel
theorem dX5_tried_61 : decode cX5_tried 61 = .ok (.getfield 54, 3) := by decide +kernel
theorem dX5_tried_64 : decode cX5_tried 64 = .ok (.aload_n 0, 1) := by decide +kernel
theorem dX5_tried_65 : decode cX5_tried 65 = .ok (.getfield 12, 3) := by decide +kernel
theorem dX5_tried_68 : decode cX5_tried 68 = .ok (.getfield 58, 3) := by decide +kernel
theorem dX5_tried_71 : decode cX5_tried 71 = .ok (.invokevirtual 74, 3) := by decide +kernel
theorem dX5_tried_74 : decode cX5_tried 74 = .ok (.ifCond .ne 15, 3) := by decide +kernel
theorem dX5_tried_77 : decode cX5_tried 77 = .ok (.iinc 10 1, 3) := by decide +kernel
theorem dX5_tried_80 : decode cX5_tried 80 = .ok (.iload 9, 2) := by decide +kernel
theorem dX5_tried_82 : decode cX5_tried 82 = .ok (.ifCond .ge 7, 3) := by decide +kernel
theorem dX5_tried_85 : decode cX5_tried 85 = .ok (.iload 11, 2) := by decide +kernel
theorem dX5_tried_87 : decode cX5_tried 87 = .ok (.istore 9, 2) := by decide +kernel
theorem dX5_tried_89 : decode cX5_tried 89 = .ok (.iinc 11 1, 3) := by decide +kernel
theorem dX5_tried_92 : decode cX5_tried 92 = .ok (.goto (-54), 3) := by decide +kernel
theorem dX5_tried_95 : decode cX5_tried 95 = .ok (.iload 6, 2) := by decide +kernel
theorem dX5_tried_97 : decode cX5_tried 97 = .ok (.ifCond .ne 8, 3) := by decide +kernel
theorem dX5_tried_100 : decode cX5_tried 100 = .ok (.iload 9, 2) := by decide +kernel
theorem dX5_tried_102 : decode cX5_tried 102 = .ok (.goto 5, 3) := by decide +kernel
theorem dX5_tried_105 : decode cX5_tried 105 = .ok (.iload 10, 2) := by decide +kernel
theorem dX5_tried_107 : decode cX5_tried 107 = .ok (.ireturn, 1) := by decide +kernel
