theorem dX5_dealt_0 : decode cX5_dealt 0 = .ok (.aload_n 0, 1) := by decide +kernel
theorem dX5_dealt_1 : decode cX5_dealt 1 = .ok (.getfield 21, 3) := by decide +kernel
theorem dX5_dealt_4 : decode cX5_dealt 4 = .ok (.aload_n 1, 1) := by decide +kernel
theorem dX5_dealt_5 : decode cX5_dealt 5 = .ok (.iload_n 2, 1) := by decide +kernel
theorem dX5_dealt_6 : decode cX5_dealt 6 = .ok (.iload_n 3, 1) := by decide +kernel
theorem dX5_dealt_7 : decode cX5_dealt 7 = .ok (.iload 4, 2) := by decide +kernel
theorem dX5_dealt_9 : decode cX5_dealt 9 = .ok (.invokevirtual 25, 3) := by decide +kernel
theorem dX5_dealt_12 : decode cX5_dealt 12 = .ok (.istore 6, 2) := by decide +kernel
theorem dX5_dealt_14 : decode cX5_dealt 14 = .ok (.iload 5, 2) := by decide +kernel
theorem dX5_dealt_16 : decode cX5_dealt 16 = .ok (.tableswitch 52 0 2 #[28, 33, 36], 28) := by decide +kernel
theorem dX5_dealt_44 : decode cX5_dealt 44 = .ok (.iconst 4, 1) := by decide +kernel
theorem dX5_dealt_45 : decode cX5_dealt 45 = .ok (.iload 6, 2) := by decide +kernel
theorem dX5_dealt_47 : decode cX5_dealt 47 = .ok (.imul, 1) := by decide +kernel
theorem dX5_dealt_48 : decode cX5_dealt 48 = .ok (.ireturn, 1) := by decide +kernel
theorem dX5_dealt_49 : decode cX5_dealt 49 = .ok (.iload 6, 2) := by decide +kernel
theorem dX5_dealt_51 : decode cX5_dealt 51 = .ok (.ireturn, 1) := by decide +kernel
theorem dX5_dealt_52 : decode cX5_dealt 52 = .ok (.aload_n 0, 1) := by decide +kernel
theorem dX5_dealt_53 : decode cX5_dealt 53 = .ok (.getfield 21, 3) := by decide +kernel
theorem dX5_dealt_56 : decode cX5_dealt 56 = .ok (.getfield 29, 3) := by decide +kernel
theorem dX5_dealt_59 : decode cX5_dealt 59 = .ok (.aload_n 0, 1) := by decide +kernel
theorem dX5_dealt_60 : decode cX5_dealt 60 = .ok (.getfield 21, 3) := by decide +kernel
theorem dX5_dealt_63 : decode cX5_dealt 63 = .ok (.invokevirtual 33, 3) := by decide +kernel
theorem dX5_dealt_66 : decode cX5_dealt 66 = .ok (.iaload, 1) := by decide +kernel
theorem dX5_dealt_67 : decode cX5_dealt 67 = .ok (.ireturn, 1) := by decide +kernel
theorem dX5_dealt_68 : decode cX5_dealt 68 = .ok (.aload_n 0, 1) := by decide +kernel
theorem dX5_dealt_69 : decode cX5_dealt 69 = .ok (.getfield 21, 3) := by decide +kernel
theorem dX5_dealt_72 : decode cX5_dealt 72 = .ok (.iconst 0, 1) := by decide +kernel
theorem dX5_dealt_73 : decode cX5_dealt 73 = .ok (.invokevirtual 37, 3) := by decide +kernel
theorem dX5_dealt_76 : decode cX5_dealt 76 = .ok (.ireturn, 1) := by decide +kernel
theorem dX5_leastSum_0 : decode cX5_leastSum 0 = .ok (.aload_n 0, 1) := by decide +kernel
theorem dX5_leastSum_1 : decode cX5_leastSum 1 = .ok (.getfield 12, 3) := by decide +kernel
theorem dX5_leastSum_4 : decode cX5_leastSum 4 = .ok (.lload_n 3, 1) := by decide +kernel
theorem dX5_leastSum_5 : decode cX5_leastSum 5 = .ok (.invokevirtual 41, 3) := by decide +kernel
theorem dX5_leastSum_8 : decode cX5_leastSum 8 = .ok (.iconst 0, 1) := by decide +kernel
theorem dX5_leastSum_9 : decode cX5_leastSum 9 = .ok (.istore 6, 2) := by decide +kernel
theorem dX5_leastSum_11 : decode cX5_leastSum 11 = .ok (.iconst 0, 1) := by decide +kernel
theorem dX5_leastSum_12 : decode cX5_leastSum 12 = .ok (.istore 7, 2) := by decide +kernel
theorem dX5_leastSum_14 : decode cX5_leastSum 14 = .ok (.iconst 0, 1) := by decide +kernel
theorem dX5_leastSum_15 : decode cX5_leastSum 15 = .ok (.istore 8, 2) := by decide +kernel
theorem dX5_leastSum_17 : decode cX5_leastSum 17 = .ok (.iconst 0, 1) := by decide +kernel
theorem dX5_leastSum_18 : decode cX5_leastSum 18 = .ok (.istore 9, 2) := by decide +kernel
theorem dX5_leastSum_20 : decode cX5_leastSum 20 = .ok (.iload 9, 2) := by decide +kernel
theorem dX5_leastSum_22 : decode cX5_leastSum 22 = .ok (.iload_n 2, 1) := by decide +kernel
theorem dX5_leastSum_23 : decode cX5_leastSum 23 = .ok (.if_icmp .ge 84, 3) := by decide +kernel
theorem dX5_leastSum_26 : decode cX5_leastSum 26 = .ok (.aload_n 0, 1) := by decide +kernel
theorem dX5_leastSum_27 : decode cX5_leastSum 27 = .ok (.getfield 12, 3) := by decide +kernel
theorem dX5_leastSum_30 : decode cX5_leastSum 30 = .ok (.invokevirtual 45, 3) := by decide +kernel
theorem dX5_leastSum_33 : decode cX5_leastSum 33 = .ok (.iconst 4, 1) := by decide +kernel
theorem dX5_leastSum_34 : decode cX5_leastSum 34 = .ok (.aload_n 0, 1) := by decide +kernel
theorem dX5_leastSum_35 : decode cX5_leastSum 35 = .ok (.getfield 21, 3) := by decide +kernel
theorem dX5_leastSum_38 : decode cX5_leastSum 38 = .ok (.aload_n 1, 1) := by decide +kernel
theorem dX5_leastSum_39 : decode cX5_leastSum 39 = .ok (.getfield 48, 3) := by decide +kernel
theorem dX5_leastSum_42 : decode cX5_leastSum 42 = .ok (.aload_n 0, 1) := by decide +kernel
theorem dX5_leastSum_43 : decode cX5_leastSum 43 = .ok (.getfield 12, 3) := by decide +kernel
theorem dX5_leastSum_46 : decode cX5_leastSum 46 = .ok (.getfield 54, 3) := by decide +kernel
theorem dX5_leastSum_49 : decode cX5_leastSum 49 = .ok (.aload_n 0, 1) := by decide +kernel
theorem dX5_leastSum_50 : decode cX5_leastSum 50 = .ok (.getfield 12, 3) := by decide +kernel
theorem dX5_leastSum_53 : decode cX5_leastSum 53 = .ok (.getfield 58, 3) := by decide +kernel
theorem dX5_leastSum_56 : decode cX5_leastSum 56 = .ok (.aload_n 1, 1) := by decide +kernel
theorem dX5_leastSum_57 : decode cX5_leastSum 57 = .ok (.getfield 61, 3) := by decide +kernel
theorem dX5_leastSum_60 : decode cX5_leastSum 60 = .ok (.getfield 62, 3) := by decide +kernel
theorem dX5_leastSum_63 : decode cX5_leastSum 63 = .ok (.invokevirtual 25, 3) := by decide +kernel
theorem dX5_leastSum_66 : decode cX5_leastSum 66 = .ok (.imul, 1) := by decide +kernel
theorem dX5_leastSum_67 : decode cX5_leastSum 67 = .ok (.istore 10, 2) := by decide +kernel
theorem dX5_leastSum_69 : decode cX5_leastSum 69 = .ok (.iload 9, 2) := by decide +kernel
theorem dX5_leastSum_71 : decode cX5_leastSum 71 = .ok (.ifCond .eq 10, 3) := by decide +kernel
theorem dX5_leastSum_74 : decode cX5_leastSum 74 = .ok (.iload 10, 2) := by decide +kernel
theorem dX5_leastSum_76 : decode cX5_leastSum 76 = .ok (.iload 7, 2) := by decide +kernel
theorem dX5_leastSum_78 : decode cX5_leastSum 78 = .ok (.if_icmp .ge 11, 3) := by decide +kernel
theorem dX5_leastSum_81 : decode cX5_leastSum 81 = .ok (.iload 9, 2) := by decide +kernel
theorem dX5_leastSum_83 : decode cX5_leastSum 83 = .ok (.istore 6, 2) := by decide +kernel
theorem dX5_leastSum_85 : decode cX5_leastSum 85 = .ok (.iload 10, 2) := by decide +kernel
theorem dX5_leastSum_87 : decode cX5_leastSum 87 = .ok (.istore 7, 2) := by decide +kernel
theorem dX5_leastSum_89 : decode cX5_leastSum 89 = .ok (.iload 10, 2) := by decide +kernel
theorem dX5_leastSum_91 : decode cX5_leastSum 91 = .ok (.aload_n 1, 1) := by decide +kernel
theorem dX5_leastSum_92 : decode cX5_leastSum 92 = .ok (.invokevirtual 65, 3) := by decide +kernel
theorem dX5_leastSum_95 : decode cX5_leastSum 95 = .ok (.if_icmp .gt 6, 3) := by decide +kernel
theorem dX5_leastSum_98 : decode cX5_leastSum 98 = .ok (.iinc 8 1, 3) := by decide +kernel
theorem dX5_leastSum_101 : decode cX5_leastSum 101 = .ok (.iinc 9 1, 3) := by decide +kernel
theorem dX5_leastSum_104 : decode cX5_leastSum 104 = .ok (.goto (-84), 3) := by decide +kernel
theorem dX5_leastSum_107 : decode cX5_leastSum 107 = .ok (.iload 5, 2) := by decide +kernel
theorem dX5_leastSum_109 : decode cX5_leastSum 109 = .ok (.lookupswitch 33 #[(0, 27), (1, 30)], 27) := by decide +kernel
theorem dX5_leastSum_136 : decode cX5_leastSum 136 = .ok (.iload 6, 2) := by decide +kernel
theorem dX5_leastSum_138 : decode cX5_leastSum 138 = .ok (.ireturn, 1) := by decide +kernel
theorem dX5_leastSum_139 : decode cX5_leastSum 139 = .ok (.iload 7, 2) := by decide +kernel
theorem dX5_leastSum_141 : decode cX5_leastSum 141 = .ok (.ireturn, 1) := by decide +kernel
theorem dX5_leastSum_142 : decode cX5_leastSum 142 = .ok (.iload 8, 2) := by decide +kernel
theorem dX5_leastSum_144 : decode cX5_leastSum 144 = .ok (.ireturn, 1) := by decide +kernel
theorem dX5_clashes_0 : decode cX5_clashes 0 = .ok (.aload_n 1, 1) := by decide +kernel
theorem dX5_clashes_1 : decode cX5_clashes 1 = .ok (.getfield 61, 3) := by decide +kernel
theorem dX5_clashes_4 : decode cX5_clashes 4 = .ok (.iload_n 2, 1) := by decide +kernel
theorem dX5_clashes_5 : decode cX5_clashes 5 = .ok (.invokevirtual 68, 3) := by decide +kernel
theorem dX5_clashes_8 : decode cX5_clashes 8 = .ok (.istore 5, 2) := by decide +kernel
theorem dX5_clashes_10 : decode cX5_clashes 10 = .ok (.aload_n 0, 1) := by decide +kernel
theorem dX5_clashes_11 : decode cX5_clashes 11 = .ok (.aload_n 1, 1) := by decide +kernel
theorem dX5_clashes_12 : decode cX5_clashes 12 = .ok (.iload 5, 2) := by decide +kernel
theorem dX5_clashes_14 : decode cX5_clashes 14 = .ok (.aload_n 1, 1) := by decide +kernel
theorem dX5_clashes_15 : decode cX5_clashes 15 = .ok (.getfield 61, 3) := by decide +kernel
theorem dX5_clashes_18 : decode cX5_clashes 18 = .ok (.iload_n 2, 1) := by decide +kernel
theorem dX5_clashes_19 : decode cX5_clashes 19 = .ok (.invokevirtual 71, 3) := by decide +kernel
theorem dX5_clashes_22 : decode cX5_clashes 22 = .ok (.iload_n 3, 1) := by decide +kernel
theorem dX5_clashes_23 : decode cX5_clashes 23 = .ok (.iload 4, 2) := by decide +kernel
theorem dX5_clashes_25 : decode cX5_clashes 25 = .ok (.invokevirtual 74, 3) := by decide +kernel
theorem dX5_clashes_28 : decode cX5_clashes 28 = .ok (.ireturn, 1) := by decide +kernel
theorem dX5_clashesOf_0 : decode cX5_clashesOf 0 = .ok (.iconst 0, 1) := by decide +kernel
theorem dX5_clashesOf_1 : decode cX5_clashesOf 1 = .ok (.istore 6, 2) := by decide +kernel
theorem dX5_clashesOf_3 : decode cX5_clashesOf 3 = .ok (.iconst 0, 1) := by decide +kernel
theorem dX5_clashesOf_4 : decode cX5_clashesOf 4 = .ok (.istore 7, 2) := by decide +kernel
theorem dX5_clashesOf_6 : decode cX5_clashesOf 6 = .ok (.iload 7, 2) := by decide +kernel
theorem dX5_clashesOf_8 : decode cX5_clashesOf 8 = .ok (.iload_n 2, 1) := by decide +kernel
theorem dX5_clashesOf_9 : decode cX5_clashesOf 9 = .ok (.if_icmp .ge 82, 3) := by decide +kernel
theorem dX5_clashesOf_12 : decode cX5_clashesOf 12 = .ok (.iload 4, 2) := by decide +kernel
theorem dX5_clashesOf_14 : decode cX5_clashesOf 14 = .ok (.iload 5, 2) := by decide +kernel
theorem dX5_clashesOf_16 : decode cX5_clashesOf 16 = .ok (.aload_n 1, 1) := by decide +kernel
theorem dX5_clashesOf_17 : decode cX5_clashesOf 17 = .ok (.getfield 48, 3) := by decide +kernel
theorem dX5_clashesOf_20 : decode cX5_clashesOf 20 = .ok (.aload_n 1, 1) := by decide +kernel
theorem dX5_clashesOf_21 : decode cX5_clashesOf 21 = .ok (.getfield 61, 3) := by decide +kernel
theorem dX5_clashesOf_24 : decode cX5_clashesOf 24 = .ok (.getfield 78, 3) := by decide +kernel
theorem dX5_clashesOf_27 : decode cX5_clashesOf 27 = .ok (.iload 7, 2) := by decide +kernel
theorem dX5_clashesOf_29 : decode cX5_clashesOf 29 = .ok (.iaload, 1) := by decide +kernel
theorem dX5_clashesOf_30 : decode cX5_clashesOf 30 = .ok (.invokevirtual 81, 3) := by decide +kernel
theorem dX5_clashesOf_33 : decode cX5_clashesOf 33 = .ok (.iload_n 3, 1) := by decide +kernel
theorem dX5_clashesOf_34 : decode cX5_clashesOf 34 = .ok (.invokestatic 86, 3) := by decide +kernel
theorem dX5_clashesOf_37 : decode cX5_clashesOf 37 = .ok (.istore 8, 2) := by decide +kernel
theorem dX5_clashesOf_39 : decode cX5_clashesOf 39 = .ok (.aload_n 0, 1) := by decide +kernel
theorem dX5_clashesOf_40 : decode cX5_clashesOf 40 = .ok (.getfield 21, 3) := by decide +kernel
theorem dX5_clashesOf_43 : decode cX5_clashesOf 43 = .ok (.getfield 90, 3) := by decide +kernel
theorem dX5_clashesOf_46 : decode cX5_clashesOf 46 = .ok (.iload 7, 2) := by decide +kernel
theorem dX5_clashesOf_48 : decode cX5_clashesOf 48 = .ok (.iload 8, 2) := by decide +kernel
theorem dX5_clashesOf_50 : decode cX5_clashesOf 50 = .ok (.iastore, 1) := by decide +kernel
theorem dX5_clashesOf_51 : decode cX5_clashesOf 51 = .ok (.iconst 0, 1) := by decide +kernel
theorem dX5_clashesOf_52 : decode cX5_clashesOf 52 = .ok (.istore 9, 2) := by decide +kernel
theorem dX5_clashesOf_54 : decode cX5_clashesOf 54 = .ok (.iload 9, 2) := by decide +kernel
theorem dX5_clashesOf_56 : decode cX5_clashesOf 56 = .ok (.iload 7, 2) := by decide +kernel
theorem dX5_clashesOf_58 : decode cX5_clashesOf 58 = .ok (.if_icmp .ge 27, 3) := by decide +kernel
theorem dX5_clashesOf_61 : decode cX5_clashesOf 61 = .ok (.aload_n 0, 1) := by decide +kernel
theorem dX5_clashesOf_62 : decode cX5_clashesOf 62 = .ok (.getfield 21, 3) := by decide +kernel
theorem dX5_clashesOf_65 : decode cX5_clashesOf 65 = .ok (.getfield 90, 3) := by decide +kernel
theorem dX5_clashesOf_68 : decode cX5_clashesOf 68 = .ok (.iload 9, 2) := by decide +kernel
theorem dX5_clashesOf_70 : decode cX5_clashesOf 70 = .ok (.iaload, 1) := by decide +kernel
theorem dX5_clashesOf_71 : decode cX5_clashesOf 71 = .ok (.iload 8, 2) := by decide +kernel
theorem dX5_clashesOf_73 : decode cX5_clashesOf 73 = .ok (.if_icmp .ne 6, 3) := by decide +kernel
theorem dX5_clashesOf_76 : decode cX5_clashesOf 76 = .ok (.iinc 6 1, 3) := by decide +kernel
theorem dX5_clashesOf_79 : decode cX5_clashesOf 79 = .ok (.iinc 9 1, 3) := by decide +kernel
theorem dX5_clashesOf_82 : decode cX5_clashesOf 82 = .ok (.goto (-28), 3) := by decide +kernel
theorem dX5_clashesOf_85 : decode cX5_clashesOf 85 = .ok (.iinc 7 1, 3) := by decide +kernel
theorem dX5_clashesOf_88 : decode cX5_clashesOf 88 = .ok (.goto (-82), 3) := by decide +kernel
theorem dX5_clashesOf_91 : decode cX5_clashesOf 91 = .ok (.iload 6, 2) := by decide +kernel
theorem dX5_clashesOf_93 : decode cX5_clashesOf 93 = .ok (.ireturn, 1) := by decide +kernel
theorem dX5_tried_0 : decode cX5_tried 0 = .ok (.aload_n 1, 1) := by decide +kernel
theorem dX5_tried_1 : decode cX5_tried 1 = .ok (.getfield 61, 3) := by decide +kernel
theorem dX5_tried_4 : decode cX5_tried 4 = .ok (.iload_n 2, 1) := by decide +kernel
theorem dX5_tried_5 : decode cX5_tried 5 = .ok (.invokevirtual 68, 3) := by decide +kernel
theorem dX5_tried_8 : decode cX5_tried 8 = .ok (.istore 7, 2) := by decide +kernel
theorem dX5_tried_10 : decode cX5_tried 10 = .ok (.aload_n 1, 1) := by decide +kernel
theorem dX5_tried_11 : decode cX5_tried 11 = .ok (.getfield 61, 3) := by decide +kernel
theorem dX5_tried_14 : decode cX5_tried 14 = .ok (.iload_n 2, 1) := by decide +kernel
theorem dX5_tried_15 : decode cX5_tried 15 = .ok (.invokevirtual 71, 3) := by decide +kernel
theorem dX5_tried_18 : decode cX5_tried 18 = .ok (.istore 8, 2) := by decide +kernel
theorem dX5_tried_20 : decode cX5_tried 20 = .ok (.iconst (-1), 1) := by decide +kernel
theorem dX5_tried_21 : decode cX5_tried 21 = .ok (.istore 9, 2) := by decide +kernel
theorem dX5_tried_23 : decode cX5_tried 23 = .ok (.iconst 0, 1) := by decide +kernel
theorem dX5_tried_24 : decode cX5_tried 24 = .ok (.istore 10, 2) := by decide +kernel
theorem dX5_tried_26 : decode cX5_tried 26 = .ok (.aload_n 0, 1) := by decide +kernel
theorem dX5_tried_27 : decode cX5_tried 27 = .ok (.getfield 12, 3) := by decide +kernel
theorem dX5_tried_30 : decode cX5_tried 30 = .ok (.lload 4, 2) := by decide +kernel
theorem dX5_tried_32 : decode cX5_tried 32 = .ok (.invokevirtual 41, 3) := by decide +kernel
theorem dX5_tried_35 : decode cX5_tried 35 = .ok (.iconst 0, 1) := by decide +kernel
theorem dX5_tried_36 : decode cX5_tried 36 = .ok (.istore 11, 2) := by decide +kernel
theorem dX5_tried_38 : decode cX5_tried 38 = .ok (.iload 11, 2) := by decide +kernel
theorem dX5_tried_40 : decode cX5_tried 40 = .ok (.iload_n 3, 1) := by decide +kernel
theorem dX5_tried_41 : decode cX5_tried 41 = .ok (.if_icmp .ge 54, 3) := by decide +kernel
theorem dX5_tried_44 : decode cX5_tried 44 = .ok (.aload_n 0, 1) := by decide +kernel
theorem dX5_tried_45 : decode cX5_tried 45 = .ok (.getfield 12, 3) := by decide +kernel
theorem dX5_tried_48 : decode cX5_tried 48 = .ok (.invokevirtual 45, 3) := by decide +kernel
theorem dX5_tried_51 : decode cX5_tried 51 = .ok (.aload_n 0, 1) := by decide +kernel
theorem dX5_tried_52 : decode cX5_tried 52 = .ok (.aload_n 1, 1) := by decide +kernel
theorem dX5_tried_53 : decode cX5_tried 53 = .ok (.iload 7, 2) := by decide +kernel
theorem dX5_tried_55 : decode cX5_tried 55 = .ok (.iload 8, 2) := by decide +kernel
theorem dX5_tried_57 : decode cX5_tried 57 = .ok (.aload_n 0, 1) := by decide +kernel
theorem dX5_tried_58 : decode cX5_tried 58 = .ok (.getfield 12, 3) := by decide +kernel
theorem dX5_tried_61 : decode cX5_tried 61 = .ok (.getfield 54, 3) := by decide +kernel
theorem dX5_tried_64 : decode cX5_tried 64 = .ok (.aload_n 0, 1) := by decide +kernel
theorem dX5_tried_65 : decode cX5_tried 65 = .ok (.getfield 12, 3) := by decide +kernel
theorem dX5_tried_68 : decode cX5_tried 68 = .ok (.getfield 58, 3) := by decide +kernel
theorem dX5_tried_71 : decode cX5_tried 71 = .ok (.invokevirtual 74, 3) := by decide +kernel
theorem dX5_tried_74 : decode cX5_tried 74 = .ok (.ifCond .ne 15, 3) := by decide +kernel
theorem dX5_tried_77 : decode cX5_tried 77 = .ok (.iinc 10 1, 3) := by decide +kernel
theorem dX5_tried_80 : decode cX5_tried 80 = .ok (.iload 9, 2) := by decide +kernel
theorem dX5_tried_82 : decode cX5_tried 82 = .ok (.ifCond .ge 7, 3) := by decide +kernel
theorem dX5_tried_85 : decode cX5_tried 85 = .ok (.iload 11, 2) := by decide +kernel
theorem dX5_tried_87 : decode cX5_tried 87 = .ok (.istore 9, 2) := by decide +kernel
theorem dX5_tried_89 : decode cX5_tried 89 = .ok (.iinc 11 1, 3) := by decide +kernel
theorem dX5_tried_92 : decode cX5_tried 92 = .ok (.goto (-54), 3) := by decide +kernel
theorem dX5_tried_95 : decode cX5_tried 95 = .ok (.iload 6, 2) := by decide +kernel
theorem dX5_tried_97 : decode cX5_tried 97 = .ok (.ifCond .ne 8, 3) := by decide +kernel
theorem dX5_tried_100 : decode cX5_tried 100 = .ok (.iload 9, 2) := by decide +kernel
theorem dX5_tried_102 : decode cX5_tried 102 = .ok (.goto 5, 3) := by decide +kernel
theorem dX5_tried_105 : decode cX5_tried 105 = .ok (.iload 10, 2) := by decide +kernel
theorem dX5_tried_107 : decode cX5_tried 107 = .ok (.ireturn, 1) := by decide +kernel
def own_k_dealt : List Cond := [.fieldLink RX5 21 "ClashFree$Paper" "layout" "LClashFree$Layout;", .methodLink RX5 25 yX3_deal, .instanceMethod yX3_deal, .selects RX3 yX3_deal yX3_deal, .initialized RX3, .fieldLink RX5 29 "ClashFree$Layout" "held" "[I", .methodLink RX5 33 yX3_fullest, .instanceMethod yX3_fullest, .selects RX3 yX3_fullest yX3_fullest, .methodLink RX5 37 yX3_bucketsWith, .instanceMethod yX3_bucketsWith, .selects RX3 yX3_bucketsWith yX3_bucketsWith]
def wp_k_dealt : List Cond := .code yX5_dealt cX5_dealt 7 (some .int) :: (own_k_dealt ++ (wp_k_deal ++ (wp_k_fullest ++ (wp_k_bucketsWith ++ (wsX50 ++ (wsX30 ++ ([] : List Cond)))))))
set_option maxRecDepth 20000 in
theorem inown_k_dealt : ∀ w ∈ own_k_dealt, w ∈ lw_tbl := mem_places [240, 810, 572, 573, 109, 192, 811, 784, 785, 812, 776, 777] (by decide +kernel)
set_option maxRecDepth 20000 in
theorem in_k_dealt : ∀ w ∈ wp_k_dealt, w ∈ lw_tbl := List.forall_mem_cons.mpr ⟨List.mem_of_getElem? (i := 809) (by decide +kernel), List.forall_mem_append.mpr ⟨inown_k_dealt, List.forall_mem_append.mpr ⟨in_k_deal, List.forall_mem_append.mpr ⟨in_k_fullest, List.forall_mem_append.mpr ⟨in_k_bucketsWith, List.forall_mem_append.mpr ⟨lwb_X5, List.forall_mem_append.mpr ⟨lwb_X3, fun _ h => absurd h List.not_mem_nil⟩⟩⟩⟩⟩⟩⟩
set_option maxRecDepth 20000 in
theorem good_k_dealt : wp_k_dealt.all goodWord = true := by decide +kernel
set_option maxRecDepth 20000 in
theorem g_k_dealt_k_deal_25 : GoodIn wp_k_dealt (wsV RX5 25 RX3 yX3_deal wp_k_deal) := goodIn_sub (List.forall_mem_append.mpr ⟨List.forall_mem_cons.mpr ⟨(List.mem_of_getElem? (i := 2) rfl), List.forall_mem_cons.mpr ⟨(List.mem_of_getElem? (i := 3) rfl), List.forall_mem_cons.mpr ⟨(List.mem_of_getElem? (i := 4) rfl), List.forall_mem_cons.mpr ⟨(List.mem_of_getElem? (i := 5) rfl), fun _ h => absurd h List.not_mem_nil⟩⟩⟩⟩, (fun _ h => (List.mem_cons_of_mem _ (List.mem_append_right _ (List.mem_append_left _ h))))⟩) (by decide +kernel)
set_option maxRecDepth 20000 in
theorem g_k_dealt_k_fullest_33 : GoodIn wp_k_dealt (wsV RX5 33 RX3 yX3_fullest wp_k_fullest) := goodIn_sub (List.forall_mem_append.mpr ⟨List.forall_mem_cons.mpr ⟨(List.mem_of_getElem? (i := 7) rfl), List.forall_mem_cons.mpr ⟨(List.mem_of_getElem? (i := 8) rfl), List.forall_mem_cons.mpr ⟨(List.mem_of_getElem? (i := 9) rfl), List.forall_mem_cons.mpr ⟨(List.mem_of_getElem? (i := 5) rfl), fun _ h => absurd h List.not_mem_nil⟩⟩⟩⟩, (fun _ h => (List.mem_cons_of_mem _ (List.mem_append_right _ (List.mem_append_right _ (List.mem_append_left _ h)))))⟩) (by decide +kernel)
set_option maxRecDepth 20000 in
theorem g_k_dealt_k_bucketsWith_37 : GoodIn wp_k_dealt (wsV RX5 37 RX3 yX3_bucketsWith wp_k_bucketsWith) := goodIn_sub (List.forall_mem_append.mpr ⟨List.forall_mem_cons.mpr ⟨(List.mem_of_getElem? (i := 10) rfl), List.forall_mem_cons.mpr ⟨(List.mem_of_getElem? (i := 11) rfl), List.forall_mem_cons.mpr ⟨(List.mem_of_getElem? (i := 12) rfl), List.forall_mem_cons.mpr ⟨(List.mem_of_getElem? (i := 5) rfl), fun _ h => absurd h List.not_mem_nil⟩⟩⟩⟩, (fun _ h => (List.mem_cons_of_mem _ (List.mem_append_right _ (List.mem_append_right _ (List.mem_append_right _ (List.mem_append_left _ h))))))⟩) (by decide +kernel)
set_option maxHeartbeats 4000000 in
set_option maxRecDepth 100000 in
theorem k_dealt (l : Launch) (D : va_G) (sz : Nat) (ob : Nat → Nat) (oc : Nat → Nat) (cI : ClassId) (po : Int32) (nb : Nat) (ka : Nat) (kb : Nat) (sm : Int32) (ln : Nat) (fh : Nat → Int32) (fj : Nat → Int32) (cn : Nat) (fk : Nat → Int32) (a1 : Nat) (b1 : Nat) (z4 : Int32) (z5 : Int32) (hL : LyH fj fh nb ln) (hKc : KyC fk cn) (ha1 : a1 < 2147483647) (hb1 : b1 < 2147483647) : Met l yX5_dealt wp_k_dealt ({ frames := 2, cells := 0, slots := 0, locals := 87 }) (PcWC D [.ref (ob 0), .ref (oc 2), .int (nI a1), .int (nI b1), .int z4, .int z5] sz [(ob 0, .inr (5, [.ref (ob 1), .ref (ob 5), .int po])), (ob 5, .inr (3, gY ob (nI nb) (nI ka) (nI kb) sm (nI ln))), (ob 6, .inl (cI, 2048, .inl fh)), (ob 10, .inl (cI, 160, .inl fj)), (oc 2, .inr (2, [.int (nI cn), .ref (oc 3), .ref (oc 4)])), (oc 3, .inl (cI, 160, .inl fk))] [(cI, .int)]) (va_Qi (fun (r : Int32) (u : (Nat) × (Nat) × (Nat) × (Nat) × (Nat → Int32) × (Nat → Int32)) => LyH u.2.2.2.2.2 u.2.2.2.2.1 u.1 u.2.2.2.1) (fun (u : (Nat) × (Nat) × (Nat) × (Nat) × (Nat → Int32) × (Nat → Int32)) t => va_P D vwCl [(ob 0, .inr (5, [.ref (ob 1), .ref (ob 5), .int po])), (ob 5, .inr (3, gY ob (nI u.1) (nI u.2.1) (nI u.2.2.1) sm (nI u.2.2.2.1))), (ob 6, .inl (cI, 2048, .inl u.2.2.2.2.1)), (ob 10, .inl (cI, 160, .inl u.2.2.2.2.2)), (oc 2, .inr (2, [.int (nI cn), .ref (oc 3), .ref (oc 4)])), (oc 3, .inl (cI, 160, .inl fk))] t.heap ∧ va_K D vwCl [(cI, .int)] t ∧ va_D (va_A [(ob 0, .inr (5, [.ref (ob 1), .ref (ob 5), .int po])), (ob 5, .inr (3, gY ob (nI nb) (nI ka) (nI kb) sm (nI ln))), (ob 6, .inl (cI, 2048, .inl fh)), (ob 10, .inl (cI, 160, .inl fj)), (oc 2, .inr (2, [.int (nI cn), .ref (oc 3), .ref (oc 4)])), (oc 3, .inl (cI, 160, .inl fk))] sz) [(ob 0, .inr (5, [.ref (ob 1), .ref (ob 5), .int po])), (ob 5, .inr (3, gY ob (nI u.1) (nI u.2.1) (nI u.2.2.1) sm (nI u.2.2.2.1))), (ob 6, .inl (cI, 2048, .inl u.2.2.2.2.1)), (ob 10, .inl (cI, 160, .inl u.2.2.2.2.2)), (oc 2, .inr (2, [.int (nI cn), .ref (oc 3), .ref (oc 4)])), (oc 3, .inl (cI, 160, .inl fk))]) (va_A [(ob 0, .inr (5, [.ref (ob 1), .ref (ob 5), .int po])), (ob 5, .inr (3, gY ob (nI nb) (nI ka) (nI kb) sm (nI ln))), (ob 6, .inl (cI, 2048, .inl fh)), (ob 10, .inl (cI, 160, .inl fj)), (oc 2, .inr (2, [.int (nI cn), .ref (oc 3), .ref (oc 4)])), (oc 3, .inl (cI, 160, .inl fk))] sz)) 0 0 (va_A [(ob 0, .inr (5, [.ref (ob 1), .ref (ob 5), .int po])), (ob 5, .inr (3, gY ob (nI nb) (nI ka) (nI kb) sm (nI ln))), (ob 6, .inl (cI, 2048, .inl fh)), (ob 10, .inl (cI, 160, .inl fj)), (oc 2, .inr (2, [.int (nI cn), .ref (oc 3), .ref (oc 4)])), (oc 3, .inl (cI, 160, .inl fk))] sz) := by
  refine Met.ofW (cc := cX5_dealt) (maxL := 7) (ret := (some .int)) (by decide) rfl ?_
  intro p e s m args below meth c s₁ B hml hv
  obtain ⟨rfl, hsz, hP, hK, hD0, hN⟩ := hv
  have hx := B.exec
  have hb := B.bytes
  have hr := B.returns
  have hts := atoms_spec (ws := wp_k_dealt) B.pre
  have hin_X5 : ∀ w ∈ wsX50, w ∈ wp_k_dealt := fun _ h => (List.mem_cons_of_mem _ (List.mem_append_right _ (List.mem_append_right _ (List.mem_append_right _ (List.mem_append_right _ (List.mem_append_left _ h))))))
  have hin_X3 : ∀ w ∈ wsX30, w ∈ wp_k_dealt := fun _ h => (List.mem_cons_of_mem _ (List.mem_append_right _ (List.mem_append_right _ (List.mem_append_right _ (List.mem_append_right _ (List.mem_append_right _ (List.mem_append_left _ h)))))))
  have hown : s.vm.findClass RX5 = some m.cls := findClass_of_methodNamed B.named
  have hlocks := B.notSynchronized
  subst hsz
  have hD := hD0.self (sz := s.heap.size)
  generalize hAe : va_A [(ob 0, .inr (5, [.ref (ob 1), .ref (ob 5), .int po])), (ob 5, .inr (3, gY ob (nI nb) (nI ka) (nI kb) sm (nI ln))), (ob 6, .inl (cI, 2048, .inl fh)), (ob 10, .inl (cI, 160, .inl fj)), (oc 2, .inr (2, [.int (nI cn), .ref (oc 3), .ref (oc 4)])), (oc 3, .inl (cI, 160, .inl fk))] s.heap.size = A at hD ⊢
  have hA : ∀ q : Nat, s.heap.size ≤ q → A q := fun q h => by rw [← hAe]; exact Or.inr h
  have hS : va_S A s.heap s.heap [] := va_S.rf
  have hP : va_P D vwCl [(ob 0, .inr (5, [.ref (ob 1), .ref (ob 5), .int po])), (ob 5, .inr (3, gY ob (nI nb) (nI ka) (nI kb) sm (nI ln))), (ob 6, .inl (cI, 2048, .inl fh)), (ob 10, .inl (cI, 160, .inl fj)), (oc 2, .inr (2, [.int (nI cn), .ref (oc 3), .ref (oc 4)])), (oc 3, .inl (cI, 160, .inl fk))] s.heap := hP
  have hl := lv_entry ([.ref (ob 0), .ref (oc 2), .int (nI a1), .int (nI b1), .int z4, .int z5]) (n := 7) (Nat.le_of_ble_eq_true rfl)
  rw [lg_entry_eq]
  generalize (lg_sl ([.ref (ob 0), .ref (oc 2), .int (nI a1), .int (nI b1), .int z4, .int z5]) ++ List.replicate (7 - (lg_sl ([.ref (ob 0), .ref (oc 2), .int (nI a1), .int (nI b1), .int z4, .int z5])).length) Slot.unset).toArray = ls at hl ⊢
  have hl : lv_has ls 7 [(0, .ref (ob 0)), (1, .ref (oc 2)), (2, .int (nI a1)), (3, .int (nI b1)), (4, .int z4), (5, .int z5)] := hl
  have hky := hKc
  refine lv_aload_n hx hb dX5_dealt_0 rfl (lv_at hl 0 rfl) ?_
  refine va_get (D := D) (ci := 5) (v := .ref (ob 5)) (C := RX5) (T := TX5) (N := 3) hx hb hts hin_X5 hown hK hP 0 rfl rfl 1 (by decide) (hts (.fieldLink RX5 21 "ClashFree$Paper" "layout" "LClashFree$Layout;") (List.mem_of_getElem? (i := 1) rfl)) (fun _ h9 => h9) rfl dX5_dealt_1 ?_
  refine lv_aload_n hx hb dX5_dealt_4 rfl (lv_at hl 1 rfl) ?_
  refine lv_iload_n hx hb dX5_dealt_5 rfl (lv_at hl 2 rfl) ?_
  refine lv_iload_n hx hb dX5_dealt_6 rfl (lv_at hl 3 rfl) ?_
  refine lv_iload hx hb dX5_dealt_7 (lv_at hl 4 rfl) ?_
  have hPc := hP.sub (ws' := [(ob 5, .inr (3, gY ob (nI nb) (nI ka) (nI kb) sm (nI ln))), (ob 6, .inl (cI, 2048, .inl fh)), (ob 10, .inl (cI, 160, .inl fj)), (oc 2, .inr (2, [.int (nI cn), .ref (oc 3), .ref (oc 4)])), (oc 3, .inl (cI, 160, .inl fk))]) [1, 2, 3, 4, 5] rfl
  have hKc := hK.sub (tys' := [(cI, .int)]) [0] rfl
  have hDc := hD.sub (ws' := [(ob 5, .inr (3, gY ob (nI nb) (nI ka) (nI kb) sm (nI ln))), (ob 6, .inl (cI, 2048, .inl fh)), (ob 10, .inl (cI, 160, .inl fj)), (oc 2, .inr (2, [.int (nI cn), .ref (oc 3), .ref (oc 4)])), (oc 3, .inl (cI, 160, .inl fk))]) [1, 2, 3, 4, 5] (by decide) rfl
  have hFc := va_free (wc := [(ob 5, .inr (3, gY ob (nI nb) (nI ka) (nI kb) sm (nI ln))), (ob 6, .inl (cI, 2048, .inl fh)), (ob 10, .inl (cI, 160, .inl fj)), (oc 2, .inr (2, [.int (nI cn), .ref (oc 3), .ref (oc 4)])), (oc 3, .inl (cI, 160, .inl fk))]) hD hS hA [1, 2, 3, 4, 5] rfl
  refine va_calli (va_runV (As := [.ref (oc 2), .int (nI a1), .int (nI b1), .int z4]) (rest := []) ⟨hx, hb, hml, hown, hts⟩ (k_deal l D _ ob oc cI nb ka kb sm ln fh fj cn fk a1 b1 z4 hL hky ha1 hb1) (cwV 4 hts g_k_dealt_k_deal_25 rfl rfl rfl (by decide +kernel) ⟨(Nat.le_of_ble_eq_true rfl), (Nat.le_of_ble_eq_true rfl)⟩) (PcWC_V (q0 := 0) hPc hKc hDc hN rfl rfl) rfl rfl hl.1 rfl (lv_room (Nat.le_of_ble_eq_true rfl)) dX5_dealt_9 ⟨(Nat.le_of_ble_eq_true rfl), (Nat.le_of_ble_eq_true rfl)⟩) hS (fun q _ h => hFc q h) hFc (fun r1 uu tt H locs htt hvm hw hB hz1 hk1 hS => ?_)
  obtain ⟨w2, w3, w4, w5, w6, w7⟩ := uu
  obtain ⟨hP1, hK1, hD1⟩ := hB
  rw [htt] at hP1
  have hK1 := va_K.moved hvm.symm hK1
  have hP1 : va_P D vwCl [(ob 5, .inr (3, gY ob (nI w2) (nI w3) (nI w4) sm (nI w5))), (ob 6, .inl (cI, 2048, .inl w6)), (ob 10, .inl (cI, 160, .inl w7)), (oc 2, .inr (2, [.int (nI cn), .ref (oc 3), .ref (oc 4)])), (oc 3, .inl (cI, 160, .inl fk))] H := hP1
  obtain ⟨hP, hD⟩ := va_join (wr := [(ob 0, .inr (5, [.ref (ob 1), .ref (ob 5), .int po]))]) (w1 := [(ob 5, .inr (3, gY ob (nI w2) (nI w3) (nI w4) sm (nI w5))), (ob 6, .inl (cI, 2048, .inl w6)), (ob 10, .inl (cI, 160, .inl w7)), (oc 2, .inr (2, [.int (nI cn), .ref (oc 3), .ref (oc 4)])), (oc 3, .inl (cI, 160, .inl fk))]) hP hD [1, 2, 3, 4, 5] [0] rfl rfl (by decide) (by decide) hk1 hFc hP1 hD1
  have hP : va_P D vwCl [(ob 0, .inr (5, [.ref (ob 1), .ref (ob 5), .int po])), (ob 5, .inr (3, gY ob (nI w2) (nI w3) (nI w4) sm (nI w5))), (ob 6, .inl (cI, 2048, .inl w6)), (ob 10, .inl (cI, 160, .inl w7)), (oc 2, .inr (2, [.int (nI cn), .ref (oc 3), .ref (oc 4)])), (oc 3, .inl (cI, 160, .inl fk))] H := hP
  have hD : va_D A [(ob 0, .inr (5, [.ref (ob 1), .ref (ob 5), .int po])), (ob 5, .inr (3, gY ob (nI w2) (nI w3) (nI w4) sm (nI w5))), (ob 6, .inl (cI, 2048, .inl w6)), (ob 10, .inl (cI, 160, .inl w7)), (oc 2, .inr (2, [.int (nI cn), .ref (oc 3), .ref (oc 4)])), (oc 3, .inl (cI, 160, .inl fk))] := hD
  try dsimp only at hw
  clear hz1 hk1 hFc hPc hKc hDc
  obtain ⟨hL8, hL8_1, hL8_a, hL8_b, hL8_c⟩ := hw
  have hL8_n := hL8.1
  have hL8_l := hL8.2.1
  refine lv_istore (lv' := [(6, .int r1), (0, .ref (ob 0)), (1, .ref (oc 2)), (2, .int (nI a1)), (3, .int (nI b1)), (4, .int z4), (5, .int z5)]) hx hb dX5_dealt_12 hl (by decide) rfl (fun ls hl => ?_)
  refine lv_iload hx hb dX5_dealt_14 (lv_at hl 6 rfl) ?_
  by_cases hs9 : z5 = 0
  ·
    subst hs9
    refine lv_tableIn (off := 28) (tgt := 44) hx hb dX5_dealt_16 (by decide) (by decide) (by decide +kernel) (by decide) ?_
    refine lv_iconst (v := 4) hx hb dX5_dealt_44 (by decide) ?_
    refine lv_iload hx hb dX5_dealt_45 (lv_at hl 0 rfl) ?_
    refine lv_imul hx hb dX5_dealt_47 ?_
    refine lv_topi (fun v10 ev10 => ?_)
    exact W.iret (v := v10) hx hb hr (fun t ht hW => ⟨⟨v10, (w2, w3, w4, w5, w6, w7), rfl, (by (try dsimp only); first | done | exact hL8), by rw [ht]; exact hP.sub [0, 1, 2, 3, 4, 5] rfl, va_K.moved hW.alike (hK.sub [0] rfl), hD.sub [0, 1, 2, 3, 4, 5] (by decide) rfl⟩, hS.F ht⟩) hS.2.2 dX5_dealt_48
  by_cases hs11 : z5 = 1
  ·
    subst hs11
    refine lv_tableIn (off := 33) (tgt := 49) hx hb dX5_dealt_16 (by decide) (by decide) (by decide +kernel) (by decide) ?_
    refine lv_iload hx hb dX5_dealt_49 (lv_at hl 0 rfl) ?_
    exact W.iret (v := r1) hx hb hr (fun t ht hW => ⟨⟨r1, (w2, w3, w4, w5, w6, w7), rfl, (by (try dsimp only); first | done | exact hL8), by rw [ht]; exact hP.sub [0, 1, 2, 3, 4, 5] rfl, va_K.moved hW.alike (hK.sub [0] rfl), hD.sub [0, 1, 2, 3, 4, 5] (by decide) rfl⟩, hS.F ht⟩) hS.2.2 dX5_dealt_51
  by_cases hs12 : z5 = 2
  ·
    subst hs12
    refine lv_tableIn (off := 36) (tgt := 52) hx hb dX5_dealt_16 (by decide) (by decide) (by decide +kernel) (by decide) ?_
    refine lv_aload_n hx hb dX5_dealt_52 rfl (lv_at hl 1 rfl) ?_
    refine va_get (D := D) (ci := 5) (v := .ref (ob 5)) (C := RX5) (T := TX5) (N := 3) hx hb hts hin_X5 hown hK hP 0 rfl rfl 1 (by decide) (hts (.fieldLink RX5 21 "ClashFree$Paper" "layout" "LClashFree$Layout;") (List.mem_of_getElem? (i := 1) rfl)) (fun _ h9 => h9) rfl dX5_dealt_53 ?_
    refine va_get (D := D) (ci := 3) (v := .ref (ob 6)) (C := RX3) (T := TX3) (N := 13) hx hb hts hin_X3 hown hK hP 1 rfl rfl 5 (by decide) (hts (.fieldLink RX5 29 "ClashFree$Layout" "held" "[I") (List.mem_of_getElem? (i := 6) rfl)) (fun _ h9 => h9) rfl dX5_dealt_56 ?_
    refine lv_aload_n hx hb dX5_dealt_59 rfl (lv_at hl 1 rfl) ?_
    refine va_get (D := D) (ci := 5) (v := .ref (ob 5)) (C := RX5) (T := TX5) (N := 3) hx hb hts hin_X5 hown hK hP 0 rfl rfl 1 (by decide) (hts (.fieldLink RX5 21 "ClashFree$Paper" "layout" "LClashFree$Layout;") (List.mem_of_getElem? (i := 1) rfl)) (fun _ h9 => h9) rfl dX5_dealt_60 ?_
    have hPc := hP.sub (ws' := [(ob 5, .inr (3, gY ob (nI w2) (nI w3) (nI w4) sm (nI w5))), (ob 6, .inl (cI, 2048, .inl w6))]) [1, 2] rfl
    have hKc := hK.sub (tys' := [(cI, .int)]) [0] rfl
    have hFc := va_free0 hS hA
    refine va_calli (va_runV (As := []) (rest := [.ref (ob 6)]) ⟨hx, hb, hml, hown, hts⟩ (k_fullest l D _ ob cI w2 w3 w4 sm w5 w6 hL8_n) (cwV 0 hts g_k_dealt_k_fullest_33 rfl rfl rfl (by decide +kernel) ⟨(Nat.le_of_ble_eq_true rfl), (Nat.le_of_ble_eq_true rfl)⟩) (PcRC_V (q0 := 0) hPc hKc hN rfl rfl) rfl rfl hl.1 rfl (lv_room (Nat.le_of_ble_eq_true rfl)) dX5_dealt_63 ⟨(Nat.le_of_ble_eq_true rfl), (Nat.le_of_ble_eq_true rfl)⟩) hS (fun q _ h => hFc q h) hFc (fun r13 uu tt H locs htt hvm hw hB hz1 hk1 hS => ?_)
    have hP := va_keep hP hk1
    try dsimp only at hw
    clear hB hz1 hk1 hFc hPc hKc
    obtain ⟨fu14, hfu14, rfl⟩ := hw
    refine va_iald hx hb hK hP 2 0 rfl rfl (vp_in_nI (by omega) (by decide)) dX5_dealt_66 ?_
    refine lv_topi (fun v15 ev15 => ?_)
    exact W.iret (v := v15) hx hb hr (fun t ht hW => ⟨⟨v15, (w2, w3, w4, w5, w6, w7), rfl, (by (try dsimp only); first | done | exact hL8), by rw [ht]; exact hP.sub [0, 1, 2, 3, 4, 5] rfl, va_K.moved hW.alike (hK.sub [0] rfl), hD.sub [0, 1, 2, 3, 4, 5] (by decide) rfl⟩, hS.F ht⟩) hS.2.2 dX5_dealt_67
  refine lv_tableOut (tgt := 68) hx hb dX5_dealt_16 (sw3 (by assumption) (by assumption) (by assumption)) (by decide) ?_
  refine lv_aload_n hx hb dX5_dealt_68 rfl (lv_at hl 1 rfl) ?_
  refine va_get (D := D) (ci := 5) (v := .ref (ob 5)) (C := RX5) (T := TX5) (N := 3) hx hb hts hin_X5 hown hK hP 0 rfl rfl 1 (by decide) (hts (.fieldLink RX5 21 "ClashFree$Paper" "layout" "LClashFree$Layout;") (List.mem_of_getElem? (i := 1) rfl)) (fun _ h9 => h9) rfl dX5_dealt_69 ?_
  refine lv_iconst (v := 0) hx hb dX5_dealt_72 (by decide) ?_
  have hPc := hP.sub (ws' := [(ob 5, .inr (3, gY ob (nI w2) (nI w3) (nI w4) sm (nI w5))), (ob 6, .inl (cI, 2048, .inl w6))]) [1, 2] rfl
  have hKc := hK.sub (tys' := [(cI, .int)]) [0] rfl
  have hFc := va_free0 hS hA
  refine va_calli (va_runV (As := [.int 0]) (rest := []) ⟨hx, hb, hml, hown, hts⟩ (k_bucketsWith l D _ ob cI w2 w3 w4 sm w5 w6 0 hL8_n) (cwV 1 hts g_k_dealt_k_bucketsWith_37 rfl rfl rfl (by decide +kernel) ⟨(Nat.le_of_ble_eq_true rfl), (Nat.le_of_ble_eq_true rfl)⟩) (PcRC_V (q0 := 0) hPc hKc hN rfl rfl) rfl rfl hl.1 rfl (lv_room (Nat.le_of_ble_eq_true rfl)) dX5_dealt_73 ⟨(Nat.le_of_ble_eq_true rfl), (Nat.le_of_ble_eq_true rfl)⟩) hS (fun q _ h => hFc q h) hFc (fun r16 uu tt H locs htt hvm hw hB hz1 hk1 hS => ?_)
  have hP := va_keep hP hk1
  try dsimp only at hw
  clear hB hz1 hk1 hFc hPc hKc
  exact W.iret (v := r16) hx hb hr (fun t ht hW => ⟨⟨r16, (w2, w3, w4, w5, w6, w7), rfl, (by (try dsimp only); first | done | exact hL8), by rw [ht]; exact hP.sub [0, 1, 2, 3, 4, 5] rfl, va_K.moved hW.alike (hK.sub [0] rfl), hD.sub [0, 1, 2, 3, 4, 5] (by decide) rfl⟩, hS.F ht⟩) hS.2.2 dX5_dealt_76

def own_k_leastSum : List Cond := [.fieldLink RX5 12 "ClashFree$Paper" "draw" "LClashFree$Draw;", .methodLink RX5 45 yX0_pair, .instanceMethod yX0_pair, .selects RX0 yX0_pair yX0_pair, .initialized RX0, .fieldLink RX5 21 "ClashFree$Paper" "layout" "LClashFree$Layout;", .fieldLink RX5 48 "ClashFree$Table" "keys" "LClashFree$Keys;", .fieldLink RX5 54 "ClashFree$Draw" "a" "I", .fieldLink RX5 58 "ClashFree$Draw" "b" "I", .fieldLink RX5 61 "ClashFree$Table" "layout" "LClashFree$Layout;", .fieldLink RX5 62 "ClashFree$Layout" "buckets" "I", .methodLink RX5 25 yX3_deal, .instanceMethod yX3_deal, .selects RX3 yX3_deal yX3_deal, .initialized RX3, .methodLink RX5 65 yX9_mostRooms, .instanceMethod yX9_mostRooms, .selects RX9 yX9_mostRooms yX9_mostRooms, .initialized RX9, .methodLink RX5 41 yX0_begin, .instanceMethod yX0_begin, .selects RX0 yX0_begin yX0_begin]
def wp_k_leastSum : List Cond := .code yX5_leastSum cX5_leastSum 11 (some .int) :: (own_k_leastSum ++ (wp_k_pair ++ (wp_k_deal ++ (wp_k_mostRooms ++ (wp_k_dbegin ++ (wsX50 ++ (wsX90 ++ (wsX00 ++ (wsX30 ++ ([] : List Cond))))))))))
set_option maxRecDepth 20000 in
theorem inown_k_leastSum : ∀ w ∈ own_k_leastSum, w ∈ lw_tbl := mem_places [238, 822, 564, 565, 108, 240, 517, 151, 154, 521, 179, 810, 572, 573, 109, 823, 588, 589, 116, 821, 553, 554] (by decide +kernel)
set_option maxRecDepth 20000 in
theorem in_k_leastSum : ∀ w ∈ wp_k_leastSum, w ∈ lw_tbl := List.forall_mem_cons.mpr ⟨List.mem_of_getElem? (i := 820) (by decide +kernel), List.forall_mem_append.mpr ⟨inown_k_leastSum, List.forall_mem_append.mpr ⟨in_k_pair, List.forall_mem_append.mpr ⟨in_k_deal, List.forall_mem_append.mpr ⟨in_k_mostRooms, List.forall_mem_append.mpr ⟨in_k_dbegin, List.forall_mem_append.mpr ⟨lwb_X5, List.forall_mem_append.mpr ⟨lwb_X9, List.forall_mem_append.mpr ⟨lwb_X0, List.forall_mem_append.mpr ⟨lwb_X3, fun _ h => absurd h List.not_mem_nil⟩⟩⟩⟩⟩⟩⟩⟩⟩⟩
set_option maxRecDepth 20000 in
theorem good_k_leastSum : wp_k_leastSum.all goodWord = true := by decide +kernel
set_option maxRecDepth 20000 in
theorem g_k_leastSum_k_pair_45 : GoodIn wp_k_leastSum (wsV RX5 45 RX0 yX0_pair wp_k_pair) := goodIn_sub (List.forall_mem_append.mpr ⟨List.forall_mem_cons.mpr ⟨(List.mem_of_getElem? (i := 2) rfl), List.forall_mem_cons.mpr ⟨(List.mem_of_getElem? (i := 3) rfl), List.forall_mem_cons.mpr ⟨(List.mem_of_getElem? (i := 4) rfl), List.forall_mem_cons.mpr ⟨(List.mem_of_getElem? (i := 5) rfl), fun _ h => absurd h List.not_mem_nil⟩⟩⟩⟩, (fun _ h => (List.mem_cons_of_mem _ (List.mem_append_right _ (List.mem_append_left _ h))))⟩) (by decide +kernel)
set_option maxRecDepth 20000 in
theorem g_k_leastSum_k_deal_25 : GoodIn wp_k_leastSum (wsV RX5 25 RX3 yX3_deal wp_k_deal) := goodIn_sub (List.forall_mem_append.mpr ⟨List.forall_mem_cons.mpr ⟨(List.mem_of_getElem? (i := 12) rfl), List.forall_mem_cons.mpr ⟨(List.mem_of_getElem? (i := 13) rfl), List.forall_mem_cons.mpr ⟨(List.mem_of_getElem? (i := 14) rfl), List.forall_mem_cons.mpr ⟨(List.mem_of_getElem? (i := 15) rfl), fun _ h => absurd h List.not_mem_nil⟩⟩⟩⟩, (fun _ h => (List.mem_cons_of_mem _ (List.mem_append_right _ (List.mem_append_right _ (List.mem_append_left _ h)))))⟩) (by decide +kernel)
set_option maxRecDepth 20000 in
theorem g_k_leastSum_k_mostRooms_65 : GoodIn wp_k_leastSum (wsV RX5 65 RX9 yX9_mostRooms wp_k_mostRooms) := goodIn_sub (List.forall_mem_append.mpr ⟨List.forall_mem_cons.mpr ⟨(List.mem_of_getElem? (i := 16) rfl), List.forall_mem_cons.mpr ⟨(List.mem_of_getElem? (i := 17) rfl), List.forall_mem_cons.mpr ⟨(List.mem_of_getElem? (i := 18) rfl), List.forall_mem_cons.mpr ⟨(List.mem_of_getElem? (i := 19) rfl), fun _ h => absurd h List.not_mem_nil⟩⟩⟩⟩, (fun _ h => (List.mem_cons_of_mem _ (List.mem_append_right _ (List.mem_append_right _ (List.mem_append_right _ (List.mem_append_left _ h))))))⟩) (by decide +kernel)
set_option maxRecDepth 20000 in
theorem g_k_leastSum_k_dbegin_41 : GoodIn wp_k_leastSum (wsV RX5 41 RX0 yX0_begin wp_k_dbegin) := goodIn_sub (List.forall_mem_append.mpr ⟨List.forall_mem_cons.mpr ⟨(List.mem_of_getElem? (i := 20) rfl), List.forall_mem_cons.mpr ⟨(List.mem_of_getElem? (i := 21) rfl), List.forall_mem_cons.mpr ⟨(List.mem_of_getElem? (i := 22) rfl), List.forall_mem_cons.mpr ⟨(List.mem_of_getElem? (i := 5) rfl), fun _ h => absurd h List.not_mem_nil⟩⟩⟩⟩, (fun _ h => (List.mem_cons_of_mem _ (List.mem_append_right _ (List.mem_append_right _ (List.mem_append_right _ (List.mem_append_right _ (List.mem_append_left _ h)))))))⟩) (by decide +kernel)
set_option maxHeartbeats 4000000 in
set_option maxRecDepth 100000 in
theorem lk_least (l : Launch) {p : Program} {e : Env} {s : State} {m : MethodId} {args : Array Value} {below : List Frame} {meth : Method} {c : Code} {Q : State → Prop} {A : Nat → Prop} (D : va_G) (ob : Nat → Nat) (ob2 : Nat → Nat) (cI : ClassId) (po : Int32) (sm : Int32) (tb2 : Int32) (ts2 : Int32) (tg2 : Int32) (tl2 : Int32) (tc2 : Int32) (tr2 : Int32) (tu2 : Int32) (tv2 : Int32) (tw2 : Int32) (cn2 : Nat) (fk2 : Nat → Int32) (nb2 : Nat) (ka2 : Nat) (kb2 : Nat) (sm2 : Int32) (ln2 : Nat) (nn : Nat) (z5 : Int32) (hKc2 : KyC fk2 cn2) (hnn : nn ≤ 200) (hx : p.tables.exec = Jvm.exec) (hb : c.code = cX5_leastSum) (hml : c.maxLocals = 11) (hown : s.vm.findClass RX5 = some m.cls) (hts : ∀ w ∈ wp_k_leastSum, w.before args s = true) (hA : ∀ q, s.heap.size ≤ q → A q) (hK : va_K D vwCl [(cI, .int)] s) (hN : NC s) (kx107 : ∀ (y : Nat), ∀ (wi : Int32), ∀ (le : Int32), ∀ (fi : Int32), ∀ (n1 : Nat), ∀ (xa : Nat), ∀ (xb : Nat), ∀ (xl : Nat), ∀ (gh : Nat → Int32), ∀ (gj : Nat → Int32), ∀ (sd : Int64), ∀ (ea : Nat), ∀ (eb : Nat), ∀ (pq : Int32), (y ≤ nn) → (LyH gj gh n1 xl) → ∀ (H : Heap) (locs : List Loc) (ls : Array Slot), va_P D vwCl [(ob 0, .inr (5, [.ref (ob 1), .ref (ob 5), .int po])), (ob 1, .inr (0, [.long sd, .int (nI ea), .int (nI eb), .int pq])), (ob 5, .inr (3, gY ob (nI n1) (nI xa) (nI xb) sm (nI xl))), (ob 6, .inl (cI, 2048, .inl gh)), (ob 10, .inl (cI, 160, .inl gj)), (ob2 0, .inr (9, gT ob2 tb2 ts2 tg2 tl2 tc2 tr2 tu2 tv2 tw2)), (ob2 2, .inr (2, [.int (nI cn2), .ref (ob2 3), .ref (ob2 4)])), (ob2 3, .inl (cI, 160, .inl fk2)), (ob2 5, .inr (3, gY ob2 (nI nb2) (nI ka2) (nI kb2) sm2 (nI ln2)))] H → va_D A [(ob 0, .inr (5, [.ref (ob 1), .ref (ob 5), .int po])), (ob 1, .inr (0, [.long sd, .int (nI ea), .int (nI eb), .int pq])), (ob 5, .inr (3, gY ob (nI n1) (nI xa) (nI xb) sm (nI xl))), (ob 6, .inl (cI, 2048, .inl gh)), (ob 10, .inl (cI, 160, .inl gj)), (ob2 0, .inr (9, gT ob2 tb2 ts2 tg2 tl2 tc2 tr2 tu2 tv2 tw2)), (ob2 2, .inr (2, [.int (nI cn2), .ref (ob2 3), .ref (ob2 4)])), (ob2 3, .inl (cI, 160, .inl fk2)), (ob2 5, .inr (3, gY ob2 (nI nb2) (nI ka2) (nI kb2) sm2 (nI ln2)))] → va_S A s.heap H locs → lv_has ls 11 [(8, .int wi), (7, .int le), (6, .int fi), (5, .int z5)] → W p l e ({ frames := 3, cells := 0, slots := 0, locals := 120 }) s m args below meth c H locs 0 0 Q (F0 m 107 ls [])) : ∀ (N : Nat), ∀ (y : Nat), ∀ (wi : Int32), ∀ (le : Int32), ∀ (fi : Int32), ∀ (n1 : Nat), ∀ (xa : Nat), ∀ (xb : Nat), ∀ (xl : Nat), ∀ (gh : Nat → Int32), ∀ (gj : Nat → Int32), ∀ (sd : Int64), ∀ (ea : Nat), ∀ (eb : Nat), ∀ (pq : Int32), (y ≤ nn) → (LyH gj gh n1 xl) → nn - y < N → ∀ (H : Heap) (locs : List Loc) (ls : Array Slot), va_P D vwCl [(ob 0, .inr (5, [.ref (ob 1), .ref (ob 5), .int po])), (ob 1, .inr (0, [.long sd, .int (nI ea), .int (nI eb), .int pq])), (ob 5, .inr (3, gY ob (nI n1) (nI xa) (nI xb) sm (nI xl))), (ob 6, .inl (cI, 2048, .inl gh)), (ob 10, .inl (cI, 160, .inl gj)), (ob2 0, .inr (9, gT ob2 tb2 ts2 tg2 tl2 tc2 tr2 tu2 tv2 tw2)), (ob2 2, .inr (2, [.int (nI cn2), .ref (ob2 3), .ref (ob2 4)])), (ob2 3, .inl (cI, 160, .inl fk2)), (ob2 5, .inr (3, gY ob2 (nI nb2) (nI ka2) (nI kb2) sm2 (nI ln2)))] H → va_D A [(ob 0, .inr (5, [.ref (ob 1), .ref (ob 5), .int po])), (ob 1, .inr (0, [.long sd, .int (nI ea), .int (nI eb), .int pq])), (ob 5, .inr (3, gY ob (nI n1) (nI xa) (nI xb) sm (nI xl))), (ob 6, .inl (cI, 2048, .inl gh)), (ob 10, .inl (cI, 160, .inl gj)), (ob2 0, .inr (9, gT ob2 tb2 ts2 tg2 tl2 tc2 tr2 tu2 tv2 tw2)), (ob2 2, .inr (2, [.int (nI cn2), .ref (ob2 3), .ref (ob2 4)])), (ob2 3, .inl (cI, 160, .inl fk2)), (ob2 5, .inr (3, gY ob2 (nI nb2) (nI ka2) (nI kb2) sm2 (nI ln2)))] → va_S A s.heap H locs → lv_has ls 11 [(9, .int (nI y)), (8, .int wi), (7, .int le), (6, .int fi), (0, .ref (ob 0)), (1, .ref (ob2 0)), (2, .int (nI nn)), (5, .int z5)] → W p l e ({ frames := 3, cells := 0, slots := 0, locals := 120 }) s m args below meth c H locs 0 0 Q (F0 m 20 ls []) := by
  have hin_X5 : ∀ w ∈ wsX50, w ∈ wp_k_leastSum := fun _ h => (List.mem_cons_of_mem _ (List.mem_append_right _ (List.mem_append_right _ (List.mem_append_right _ (List.mem_append_right _ (List.mem_append_right _ (List.mem_append_left _ h)))))))
  have hin_X9 : ∀ w ∈ wsX90, w ∈ wp_k_leastSum := fun _ h => (List.mem_cons_of_mem _ (List.mem_append_right _ (List.mem_append_right _ (List.mem_append_right _ (List.mem_append_right _ (List.mem_append_right _ (List.mem_append_right _ (List.mem_append_left _ h))))))))
  have hin_X0 : ∀ w ∈ wsX00, w ∈ wp_k_leastSum := fun _ h => (List.mem_cons_of_mem _ (List.mem_append_right _ (List.mem_append_right _ (List.mem_append_right _ (List.mem_append_right _ (List.mem_append_right _ (List.mem_append_right _ (List.mem_append_right _ (List.mem_append_left _ h)))))))))
  have hin_X3 : ∀ w ∈ wsX30, w ∈ wp_k_leastSum := fun _ h => (List.mem_cons_of_mem _ (List.mem_append_right _ (List.mem_append_right _ (List.mem_append_right _ (List.mem_append_right _ (List.mem_append_right _ (List.mem_append_right _ (List.mem_append_right _ (List.mem_append_right _ (List.mem_append_left _ h))))))))))
  intro N
  induction N with
  | zero =>
    intro y wi le fi n1 xa xb xl gh gj sd ea eb pq hy1 hLl hm
    exact absurd hm (Nat.not_lt_zero _)
  | succ N ih =>
    intro y wi le fi n1 xa xb xl gh gj sd ea eb pq hy1 hLl hm H locs ls hP hD hS hl
    have hky2 := hKc2
    refine lv_iload hx hb dX5_leastSum_20 (lv_at hl 0 rfl) ?_
    refine lv_iload_n hx hb dX5_leastSum_22 rfl (lv_at hl 6 rfl) ?_
    refine lv_icmp_ge (tgt := 107) hx hb dX5_leastSum_23 (by decide) (fun hc1 => ?_) (fun hc1 => ?_)
    ·
      have hlt : nn ≤ y := (nI_leI (by omega) (by omega)).mp hc1
      exact kx107 y wi le fi n1 xa xb xl gh gj sd ea eb pq (hy1) (hLl) H locs ls (hP.sub [0, 1, 2, 3, 4, 5, 6, 7, 8] rfl) (hD.sub [0, 1, 2, 3, 4, 5, 6, 7, 8] (by decide) rfl) hS (lv_sub hl [1, 2, 3, 7] rfl)
    ·
      have hlt : y < nn := by
        rcases Nat.lt_or_ge y (nn) with z | z
        · exact z
        · exact absurd (nI_le z (by omega)) hc1
      refine lv_aload_n hx hb dX5_leastSum_26 rfl (lv_at hl 4 rfl) ?_
      refine va_get (D := D) (ci := 5) (v := .ref (ob 1)) (C := RX5) (T := TX5) (N := 3) hx hb hts hin_X5 hown hK hP 0 rfl rfl 0 (by decide) (hts (.fieldLink RX5 12 "ClashFree$Paper" "draw" "LClashFree$Draw;") (List.mem_of_getElem? (i := 1) rfl)) (fun _ h9 => h9) rfl dX5_leastSum_27 ?_
      have hPc := hP.sub (ws' := [(ob 1, .inr (0, [.long sd, .int (nI ea), .int (nI eb), .int pq]))]) [1] rfl
      have hKc := hK.sub (tys' := []) [] rfl
      have hDc := hD.sub (ws' := [(ob 1, .inr (0, [.long sd, .int (nI ea), .int (nI eb), .int pq]))]) [1] (by decide) rfl
      have hFc := va_free (wc := [(ob 1, .inr (0, [.long sd, .int (nI ea), .int (nI eb), .int pq]))]) hD hS hA [1] rfl
      refine va_callv (va_runV (As := []) (rest := []) ⟨hx, hb, hml, hown, hts⟩ (k_pair l D _ ob cI sd ea eb pq) (cwV 0 hts g_k_leastSum_k_pair_45 rfl rfl rfl (by decide +kernel) ⟨(Nat.le_of_ble_eq_true rfl), (Nat.le_of_ble_eq_true rfl)⟩) (PcWC_V (q0 := 0) hPc hKc hDc hN rfl rfl) rfl rfl hl.1 rfl (lv_room (Nat.le_of_ble_eq_true rfl)) dX5_leastSum_30 ⟨(Nat.le_of_ble_eq_true rfl), (Nat.le_of_ble_eq_true rfl)⟩) hS (fun q _ h => hFc q h) hFc (fun uu tt H locs htt hvm hw hB hz1 hk1 hS => ?_)
      obtain ⟨w3, w4, w5, w6⟩ := uu
      obtain ⟨hP1, hK1, hD1⟩ := hB
      rw [htt] at hP1
      have hK1 := va_K.moved hvm.symm hK1
      have hP1 : va_P D vwCl [(ob 1, .inr (0, [.long w3, .int (nI w4), .int (nI w5), .int w6]))] H := hP1
      obtain ⟨hP, hD⟩ := va_join (wr := [(ob 0, .inr (5, [.ref (ob 1), .ref (ob 5), .int po])), (ob 5, .inr (3, gY ob (nI n1) (nI xa) (nI xb) sm (nI xl))), (ob 6, .inl (cI, 2048, .inl gh)), (ob 10, .inl (cI, 160, .inl gj)), (ob2 0, .inr (9, gT ob2 tb2 ts2 tg2 tl2 tc2 tr2 tu2 tv2 tw2)), (ob2 2, .inr (2, [.int (nI cn2), .ref (ob2 3), .ref (ob2 4)])), (ob2 3, .inl (cI, 160, .inl fk2)), (ob2 5, .inr (3, gY ob2 (nI nb2) (nI ka2) (nI kb2) sm2 (nI ln2)))]) (w1 := [(ob 1, .inr (0, [.long w3, .int (nI w4), .int (nI w5), .int w6]))]) hP hD [1] [0, 2, 3, 4, 5, 6, 7, 8] rfl rfl (by decide) (by decide) hk1 hFc hP1 hD1
      have hP : va_P D vwCl [(ob 0, .inr (5, [.ref (ob 1), .ref (ob 5), .int po])), (ob 5, .inr (3, gY ob (nI n1) (nI xa) (nI xb) sm (nI xl))), (ob 6, .inl (cI, 2048, .inl gh)), (ob 10, .inl (cI, 160, .inl gj)), (ob2 0, .inr (9, gT ob2 tb2 ts2 tg2 tl2 tc2 tr2 tu2 tv2 tw2)), (ob2 2, .inr (2, [.int (nI cn2), .ref (ob2 3), .ref (ob2 4)])), (ob2 3, .inl (cI, 160, .inl fk2)), (ob2 5, .inr (3, gY ob2 (nI nb2) (nI ka2) (nI kb2) sm2 (nI ln2))), (ob 1, .inr (0, [.long w3, .int (nI w4), .int (nI w5), .int w6]))] H := hP
      have hD : va_D A [(ob 0, .inr (5, [.ref (ob 1), .ref (ob 5), .int po])), (ob 5, .inr (3, gY ob (nI n1) (nI xa) (nI xb) sm (nI xl))), (ob 6, .inl (cI, 2048, .inl gh)), (ob 10, .inl (cI, 160, .inl gj)), (ob2 0, .inr (9, gT ob2 tb2 ts2 tg2 tl2 tc2 tr2 tu2 tv2 tw2)), (ob2 2, .inr (2, [.int (nI cn2), .ref (ob2 3), .ref (ob2 4)])), (ob2 3, .inl (cI, 160, .inl fk2)), (ob2 5, .inr (3, gY ob2 (nI nb2) (nI ka2) (nI kb2) sm2 (nI ln2))), (ob 1, .inr (0, [.long w3, .int (nI w4), .int (nI w5), .int w6]))] := hD
      try dsimp only at hw
      clear hz1 hk1 hFc hPc hKc hDc
      obtain ⟨hd7_a, hd7_b⟩ := hw
      refine lv_iconst (v := 4) hx hb dX5_leastSum_33 (by decide) ?_
      refine lv_aload_n hx hb dX5_leastSum_34 rfl (lv_at hl 4 rfl) ?_
      refine va_get (D := D) (ci := 5) (v := .ref (ob 5)) (C := RX5) (T := TX5) (N := 3) hx hb hts hin_X5 hown hK hP 0 rfl rfl 1 (by decide) (hts (.fieldLink RX5 21 "ClashFree$Paper" "layout" "LClashFree$Layout;") (List.mem_of_getElem? (i := 6) rfl)) (fun _ h9 => h9) rfl dX5_leastSum_35 ?_
      refine lv_aload_n hx hb dX5_leastSum_38 rfl (lv_at hl 5 rfl) ?_
      refine va_get (D := D) (ci := 9) (v := .ref (ob2 2)) (C := RX9) (T := TX9) (N := 12) hx hb hts hin_X9 hown hK hP 4 rfl rfl 10 (by decide) (hts (.fieldLink RX5 48 "ClashFree$Table" "keys" "LClashFree$Keys;") (List.mem_of_getElem? (i := 7) rfl)) (fun _ h9 => h9) rfl dX5_leastSum_39 ?_
      refine lv_aload_n hx hb dX5_leastSum_42 rfl (lv_at hl 4 rfl) ?_
      refine va_get (D := D) (ci := 5) (v := .ref (ob 1)) (C := RX5) (T := TX5) (N := 3) hx hb hts hin_X5 hown hK hP 0 rfl rfl 0 (by decide) (hts (.fieldLink RX5 12 "ClashFree$Paper" "draw" "LClashFree$Draw;") (List.mem_of_getElem? (i := 1) rfl)) (fun _ h9 => h9) rfl dX5_leastSum_43 ?_
      refine va_get (D := D) (ci := 0) (v := .int (nI w4)) (C := RX0) (T := TX0) (N := 4) hx hb hts hin_X0 hown hK hP 8 rfl rfl 1 (by decide) (hts (.fieldLink RX5 54 "ClashFree$Draw" "a" "I") (List.mem_of_getElem? (i := 8) rfl)) (fun _ h9 => h9) rfl dX5_leastSum_46 ?_
      refine lv_aload_n hx hb dX5_leastSum_49 rfl (lv_at hl 4 rfl) ?_
      refine va_get (D := D) (ci := 5) (v := .ref (ob 1)) (C := RX5) (T := TX5) (N := 3) hx hb hts hin_X5 hown hK hP 0 rfl rfl 0 (by decide) (hts (.fieldLink RX5 12 "ClashFree$Paper" "draw" "LClashFree$Draw;") (List.mem_of_getElem? (i := 1) rfl)) (fun _ h9 => h9) rfl dX5_leastSum_50 ?_
      refine va_get (D := D) (ci := 0) (v := .int (nI w5)) (C := RX0) (T := TX0) (N := 4) hx hb hts hin_X0 hown hK hP 8 rfl rfl 2 (by decide) (hts (.fieldLink RX5 58 "ClashFree$Draw" "b" "I") (List.mem_of_getElem? (i := 9) rfl)) (fun _ h9 => h9) rfl dX5_leastSum_53 ?_
      refine lv_aload_n hx hb dX5_leastSum_56 rfl (lv_at hl 5 rfl) ?_
      refine va_get (D := D) (ci := 9) (v := .ref (ob2 5)) (C := RX9) (T := TX9) (N := 12) hx hb hts hin_X9 hown hK hP 4 rfl rfl 11 (by decide) (hts (.fieldLink RX5 61 "ClashFree$Table" "layout" "LClashFree$Layout;") (List.mem_of_getElem? (i := 10) rfl)) (fun _ h9 => h9) rfl dX5_leastSum_57 ?_
      refine va_get (D := D) (ci := 3) (v := .int (nI nb2)) (C := RX3) (T := TX3) (N := 13) hx hb hts hin_X3 hown hK hP 7 rfl rfl 0 (by decide) (hts (.fieldLink RX5 62 "ClashFree$Layout" "buckets" "I") (List.mem_of_getElem? (i := 11) rfl)) (fun _ h9 => h9) rfl dX5_leastSum_60 ?_
      have hPc := hP.sub (ws' := [(ob 5, .inr (3, gY ob (nI n1) (nI xa) (nI xb) sm (nI xl))), (ob 6, .inl (cI, 2048, .inl gh)), (ob 10, .inl (cI, 160, .inl gj)), (ob2 2, .inr (2, [.int (nI cn2), .ref (ob2 3), .ref (ob2 4)])), (ob2 3, .inl (cI, 160, .inl fk2))]) [1, 2, 3, 5, 6] rfl
      have hKc := hK.sub (tys' := [(cI, .int)]) [0] rfl
      have hDc := hD.sub (ws' := [(ob 5, .inr (3, gY ob (nI n1) (nI xa) (nI xb) sm (nI xl))), (ob 6, .inl (cI, 2048, .inl gh)), (ob 10, .inl (cI, 160, .inl gj)), (ob2 2, .inr (2, [.int (nI cn2), .ref (ob2 3), .ref (ob2 4)])), (ob2 3, .inl (cI, 160, .inl fk2))]) [1, 2, 3, 5, 6] (by decide) rfl
      have hFc := va_free (wc := [(ob 5, .inr (3, gY ob (nI n1) (nI xa) (nI xb) sm (nI xl))), (ob 6, .inl (cI, 2048, .inl gh)), (ob 10, .inl (cI, 160, .inl gj)), (ob2 2, .inr (2, [.int (nI cn2), .ref (ob2 3), .ref (ob2 4)])), (ob2 3, .inl (cI, 160, .inl fk2))]) hD hS hA [1, 2, 3, 5, 6] rfl
      refine va_calli (va_runV (As := [.ref (ob2 2), .int (nI w4), .int (nI w5), .int (nI nb2)]) (rest := [.int 4]) ⟨hx, hb, hml, hown, hts⟩ (k_deal l D _ ob ob2 cI n1 xa xb sm xl gh gj cn2 fk2 w4 w5 (nI nb2) hLl hky2 hd7_a hd7_b) (cwV 4 hts g_k_leastSum_k_deal_25 rfl rfl rfl (by decide +kernel) ⟨(Nat.le_of_ble_eq_true rfl), (Nat.le_of_ble_eq_true rfl)⟩) (PcWC_V (q0 := 0) hPc hKc hDc hN rfl rfl) rfl rfl hl.1 rfl (lv_room (Nat.le_of_ble_eq_true rfl)) dX5_leastSum_63 ⟨(Nat.le_of_ble_eq_true rfl), (Nat.le_of_ble_eq_true rfl)⟩) hS (fun q _ h => hFc q h) hFc (fun r8 uu tt H locs htt hvm hw hB hz1 hk1 hS => ?_)
      obtain ⟨w9, w10, w11, w12, w13, w14⟩ := uu
      obtain ⟨hP1, hK1, hD1⟩ := hB
      rw [htt] at hP1
      have hK1 := va_K.moved hvm.symm hK1
      have hP1 : va_P D vwCl [(ob 5, .inr (3, gY ob (nI w9) (nI w10) (nI w11) sm (nI w12))), (ob 6, .inl (cI, 2048, .inl w13)), (ob 10, .inl (cI, 160, .inl w14)), (ob2 2, .inr (2, [.int (nI cn2), .ref (ob2 3), .ref (ob2 4)])), (ob2 3, .inl (cI, 160, .inl fk2))] H := hP1
      obtain ⟨hP, hD⟩ := va_join (wr := [(ob 0, .inr (5, [.ref (ob 1), .ref (ob 5), .int po])), (ob2 0, .inr (9, gT ob2 tb2 ts2 tg2 tl2 tc2 tr2 tu2 tv2 tw2)), (ob2 5, .inr (3, gY ob2 (nI nb2) (nI ka2) (nI kb2) sm2 (nI ln2))), (ob 1, .inr (0, [.long w3, .int (nI w4), .int (nI w5), .int w6]))]) (w1 := [(ob 5, .inr (3, gY ob (nI w9) (nI w10) (nI w11) sm (nI w12))), (ob 6, .inl (cI, 2048, .inl w13)), (ob 10, .inl (cI, 160, .inl w14)), (ob2 2, .inr (2, [.int (nI cn2), .ref (ob2 3), .ref (ob2 4)])), (ob2 3, .inl (cI, 160, .inl fk2))]) hP hD [1, 2, 3, 5, 6] [0, 4, 7, 8] rfl rfl (by decide) (by decide) hk1 hFc hP1 hD1
      have hP : va_P D vwCl [(ob 0, .inr (5, [.ref (ob 1), .ref (ob 5), .int po])), (ob2 0, .inr (9, gT ob2 tb2 ts2 tg2 tl2 tc2 tr2 tu2 tv2 tw2)), (ob2 5, .inr (3, gY ob2 (nI nb2) (nI ka2) (nI kb2) sm2 (nI ln2))), (ob 1, .inr (0, [.long w3, .int (nI w4), .int (nI w5), .int w6])), (ob 5, .inr (3, gY ob (nI w9) (nI w10) (nI w11) sm (nI w12))), (ob 6, .inl (cI, 2048, .inl w13)), (ob 10, .inl (cI, 160, .inl w14)), (ob2 2, .inr (2, [.int (nI cn2), .ref (ob2 3), .ref (ob2 4)])), (ob2 3, .inl (cI, 160, .inl fk2))] H := hP
      have hD : va_D A [(ob 0, .inr (5, [.ref (ob 1), .ref (ob 5), .int po])), (ob2 0, .inr (9, gT ob2 tb2 ts2 tg2 tl2 tc2 tr2 tu2 tv2 tw2)), (ob2 5, .inr (3, gY ob2 (nI nb2) (nI ka2) (nI kb2) sm2 (nI ln2))), (ob 1, .inr (0, [.long w3, .int (nI w4), .int (nI w5), .int w6])), (ob 5, .inr (3, gY ob (nI w9) (nI w10) (nI w11) sm (nI w12))), (ob 6, .inl (cI, 2048, .inl w13)), (ob 10, .inl (cI, 160, .inl w14)), (ob2 2, .inr (2, [.int (nI cn2), .ref (ob2 3), .ref (ob2 4)])), (ob2 3, .inl (cI, 160, .inl fk2))] := hD
      try dsimp only at hw
      clear hz1 hk1 hFc hPc hKc hDc
      obtain ⟨hL15, hL15_1, hL15_a, hL15_b, hL15_c⟩ := hw
      have hL15_n := hL15.1
      have hL15_l := hL15.2.1
      refine lv_imul hx hb dX5_leastSum_66 ?_
      refine lv_topi (fun v16 ev16 => ?_)
      refine lv_istore (lv' := [(10, .int v16), (9, .int (nI y)), (8, .int wi), (7, .int le), (6, .int fi), (0, .ref (ob 0)), (1, .ref (ob2 0)), (2, .int (nI nn)), (5, .int z5)]) hx hb dX5_leastSum_67 hl (by decide) rfl (fun ls hl => ?_)
      refine lv_iload hx hb dX5_leastSum_69 (lv_at hl 1 rfl) ?_
      refine lv_if_eq (tgt := 81) hx hb dX5_leastSum_71 (by decide) (fun hc17 => ?_) (fun hc17 => ?_)
      ·
        refine lv_iload hx hb dX5_leastSum_81 (lv_at hl 1 rfl) ?_
        refine lv_istore (lv' := [(6, .int (nI y)), (10, .int v16), (9, .int (nI y)), (8, .int wi), (7, .int le), (0, .ref (ob 0)), (1, .ref (ob2 0)), (2, .int (nI nn)), (5, .int z5)]) hx hb dX5_leastSum_83 hl (by decide) rfl (fun ls hl => ?_)
        refine lv_iload hx hb dX5_leastSum_85 (lv_at hl 1 rfl) ?_
        refine lv_istore (lv' := [(7, .int v16), (6, .int (nI y)), (10, .int v16), (9, .int (nI y)), (8, .int wi), (0, .ref (ob 0)), (1, .ref (ob2 0)), (2, .int (nI nn)), (5, .int z5)]) hx hb dX5_leastSum_87 hl (by decide) rfl (fun ls hl => ?_)
        refine lv_iload hx hb dX5_leastSum_89 (lv_at hl 2 rfl) ?_
        refine lv_aload_n hx hb dX5_leastSum_91 rfl (lv_at hl 6 rfl) ?_
        have hPc := hP.sub (ws' := [(ob2 0, .inr (9, gT ob2 tb2 ts2 tg2 tl2 tc2 tr2 tu2 tv2 tw2))]) [1] rfl
        have hKc := hK.sub (tys' := []) [] rfl
        have hFc := va_free0 hS hA
        refine va_calli (va_runV (As := []) (rest := [.int v16]) ⟨hx, hb, hml, hown, hts⟩ (k_mostRooms l D _ ob2 cI tb2 ts2 tg2 tl2 tc2 tr2 tu2 tv2 tw2) (cwV 0 hts g_k_leastSum_k_mostRooms_65 rfl rfl rfl (by decide +kernel) ⟨(Nat.le_of_ble_eq_true rfl), (Nat.le_of_ble_eq_true rfl)⟩) (PcRC_V (q0 := 0) hPc hKc hN rfl rfl) rfl rfl hl.1 rfl (lv_room (Nat.le_of_ble_eq_true rfl)) dX5_leastSum_92 ⟨(Nat.le_of_ble_eq_true rfl), (Nat.le_of_ble_eq_true rfl)⟩) hS (fun q _ h => hFc q h) hFc (fun r18 uu tt H locs htt hvm hw hB hz1 hk1 hS => ?_)
        have hP := va_keep hP hk1
        try dsimp only at hw
        clear hB hz1 hk1 hFc hPc hKc
        refine lv_icmp_gt (tgt := 101) hx hb dX5_leastSum_95 (by decide) (fun hc19 => ?_) (fun hc19 => ?_)
        ·
          refine lv_iinc (v := nI (y + 1)) (lv' := [(9, .int (nI (y + 1))), (7, .int v16), (6, .int (nI y)), (10, .int v16), (8, .int wi), (0, .ref (ob 0)), (1, .ref (ob2 0)), (2, .int (nI nn)), (5, .int z5)]) hx hb dX5_leastSum_101 hl (k := 3) rfl (nI_1 _) (by decide) rfl (fun ls hl => ?_)
          refine lv_goto (tgt := 20) hx hb dX5_leastSum_104 (by decide) ?_
          exact ih (y + 1) wi v16 (nI y) w9 w10 w11 w12 w13 w14 w3 w4 w5 w6 (by omega) (hL15) (by omega) H locs ls (hP.sub [0, 3, 4, 5, 6, 1, 7, 8, 2] rfl) (hD.sub [0, 3, 4, 5, 6, 1, 7, 8, 2] (by decide) rfl) hS (lv_sub hl [0, 4, 1, 2, 5, 6, 7, 8] rfl)
        ·
          obtain ⟨v20, ev20⟩ : ∃ y : Int32, y = wi + 1 := ⟨_, rfl⟩
          refine lv_iinc (v := v20) (lv' := [(8, .int v20), (7, .int v16), (6, .int (nI y)), (10, .int v16), (9, .int (nI y)), (0, .ref (ob 0)), (1, .ref (ob2 0)), (2, .int (nI nn)), (5, .int z5)]) hx hb dX5_leastSum_98 hl (k := 4) rfl (by rw [ev20]; rfl) (by decide) rfl (fun ls hl => ?_)
          refine lv_iinc (v := nI (y + 1)) (lv' := [(9, .int (nI (y + 1))), (8, .int v20), (7, .int v16), (6, .int (nI y)), (10, .int v16), (0, .ref (ob 0)), (1, .ref (ob2 0)), (2, .int (nI nn)), (5, .int z5)]) hx hb dX5_leastSum_101 hl (k := 4) rfl (nI_1 _) (by decide) rfl (fun ls hl => ?_)
          refine lv_goto (tgt := 20) hx hb dX5_leastSum_104 (by decide) ?_
          exact ih (y + 1) v20 v16 (nI y) w9 w10 w11 w12 w13 w14 w3 w4 w5 w6 (by omega) (hL15) (by omega) H locs ls (hP.sub [0, 3, 4, 5, 6, 1, 7, 8, 2] rfl) (hD.sub [0, 3, 4, 5, 6, 1, 7, 8, 2] (by decide) rfl) hS (lv_sub hl [0, 1, 2, 3, 5, 6, 7, 8] rfl)
      ·
        refine lv_iload hx hb dX5_leastSum_74 (lv_at hl 0 rfl) ?_
        refine lv_iload hx hb dX5_leastSum_76 (lv_at hl 3 rfl) ?_
        refine lv_icmp_ge (tgt := 89) hx hb dX5_leastSum_78 (by decide) (fun hc21 => ?_) (fun hc21 => ?_)
        ·
          refine lv_iload hx hb dX5_leastSum_89 (lv_at hl 0 rfl) ?_
          refine lv_aload_n hx hb dX5_leastSum_91 rfl (lv_at hl 6 rfl) ?_
          have hPc := hP.sub (ws' := [(ob2 0, .inr (9, gT ob2 tb2 ts2 tg2 tl2 tc2 tr2 tu2 tv2 tw2))]) [1] rfl
          have hKc := hK.sub (tys' := []) [] rfl
          have hFc := va_free0 hS hA
          refine va_calli (va_runV (As := []) (rest := [.int v16]) ⟨hx, hb, hml, hown, hts⟩ (k_mostRooms l D _ ob2 cI tb2 ts2 tg2 tl2 tc2 tr2 tu2 tv2 tw2) (cwV 0 hts g_k_leastSum_k_mostRooms_65 rfl rfl rfl (by decide +kernel) ⟨(Nat.le_of_ble_eq_true rfl), (Nat.le_of_ble_eq_true rfl)⟩) (PcRC_V (q0 := 0) hPc hKc hN rfl rfl) rfl rfl hl.1 rfl (lv_room (Nat.le_of_ble_eq_true rfl)) dX5_leastSum_92 ⟨(Nat.le_of_ble_eq_true rfl), (Nat.le_of_ble_eq_true rfl)⟩) hS (fun q _ h => hFc q h) hFc (fun r22 uu tt H locs htt hvm hw hB hz1 hk1 hS => ?_)
          have hP := va_keep hP hk1
          try dsimp only at hw
          clear hB hz1 hk1 hFc hPc hKc
          refine lv_icmp_gt (tgt := 101) hx hb dX5_leastSum_95 (by decide) (fun hc23 => ?_) (fun hc23 => ?_)
          ·
            refine lv_iinc (v := nI (y + 1)) (lv' := [(9, .int (nI (y + 1))), (10, .int v16), (8, .int wi), (7, .int le), (6, .int fi), (0, .ref (ob 0)), (1, .ref (ob2 0)), (2, .int (nI nn)), (5, .int z5)]) hx hb dX5_leastSum_101 hl (k := 1) rfl (nI_1 _) (by decide) rfl (fun ls hl => ?_)
            refine lv_goto (tgt := 20) hx hb dX5_leastSum_104 (by decide) ?_
            exact ih (y + 1) wi le fi w9 w10 w11 w12 w13 w14 w3 w4 w5 w6 (by omega) (hL15) (by omega) H locs ls (hP.sub [0, 3, 4, 5, 6, 1, 7, 8, 2] rfl) (hD.sub [0, 3, 4, 5, 6, 1, 7, 8, 2] (by decide) rfl) hS (lv_sub hl [0, 2, 3, 4, 5, 6, 7, 8] rfl)
          ·
            obtain ⟨v24, ev24⟩ : ∃ y : Int32, y = wi + 1 := ⟨_, rfl⟩
            refine lv_iinc (v := v24) (lv' := [(8, .int v24), (10, .int v16), (9, .int (nI y)), (7, .int le), (6, .int fi), (0, .ref (ob 0)), (1, .ref (ob2 0)), (2, .int (nI nn)), (5, .int z5)]) hx hb dX5_leastSum_98 hl (k := 2) rfl (by rw [ev24]; rfl) (by decide) rfl (fun ls hl => ?_)
            refine lv_iinc (v := nI (y + 1)) (lv' := [(9, .int (nI (y + 1))), (8, .int v24), (10, .int v16), (7, .int le), (6, .int fi), (0, .ref (ob 0)), (1, .ref (ob2 0)), (2, .int (nI nn)), (5, .int z5)]) hx hb dX5_leastSum_101 hl (k := 2) rfl (nI_1 _) (by decide) rfl (fun ls hl => ?_)
            refine lv_goto (tgt := 20) hx hb dX5_leastSum_104 (by decide) ?_
            exact ih (y + 1) v24 le fi w9 w10 w11 w12 w13 w14 w3 w4 w5 w6 (by omega) (hL15) (by omega) H locs ls (hP.sub [0, 3, 4, 5, 6, 1, 7, 8, 2] rfl) (hD.sub [0, 3, 4, 5, 6, 1, 7, 8, 2] (by decide) rfl) hS (lv_sub hl [0, 1, 3, 4, 5, 6, 7, 8] rfl)
        ·
          refine lv_iload hx hb dX5_leastSum_81 (lv_at hl 1 rfl) ?_
          refine lv_istore (lv' := [(6, .int (nI y)), (10, .int v16), (9, .int (nI y)), (8, .int wi), (7, .int le), (0, .ref (ob 0)), (1, .ref (ob2 0)), (2, .int (nI nn)), (5, .int z5)]) hx hb dX5_leastSum_83 hl (by decide) rfl (fun ls hl => ?_)
          refine lv_iload hx hb dX5_leastSum_85 (lv_at hl 1 rfl) ?_
          refine lv_istore (lv' := [(7, .int v16), (6, .int (nI y)), (10, .int v16), (9, .int (nI y)), (8, .int wi), (0, .ref (ob 0)), (1, .ref (ob2 0)), (2, .int (nI nn)), (5, .int z5)]) hx hb dX5_leastSum_87 hl (by decide) rfl (fun ls hl => ?_)
          refine lv_iload hx hb dX5_leastSum_89 (lv_at hl 2 rfl) ?_
          refine lv_aload_n hx hb dX5_leastSum_91 rfl (lv_at hl 6 rfl) ?_
          have hPc := hP.sub (ws' := [(ob2 0, .inr (9, gT ob2 tb2 ts2 tg2 tl2 tc2 tr2 tu2 tv2 tw2))]) [1] rfl
          have hKc := hK.sub (tys' := []) [] rfl
          have hFc := va_free0 hS hA
          refine va_calli (va_runV (As := []) (rest := [.int v16]) ⟨hx, hb, hml, hown, hts⟩ (k_mostRooms l D _ ob2 cI tb2 ts2 tg2 tl2 tc2 tr2 tu2 tv2 tw2) (cwV 0 hts g_k_leastSum_k_mostRooms_65 rfl rfl rfl (by decide +kernel) ⟨(Nat.le_of_ble_eq_true rfl), (Nat.le_of_ble_eq_true rfl)⟩) (PcRC_V (q0 := 0) hPc hKc hN rfl rfl) rfl rfl hl.1 rfl (lv_room (Nat.le_of_ble_eq_true rfl)) dX5_leastSum_92 ⟨(Nat.le_of_ble_eq_true rfl), (Nat.le_of_ble_eq_true rfl)⟩) hS (fun q _ h => hFc q h) hFc (fun r25 uu tt H locs htt hvm hw hB hz1 hk1 hS => ?_)
          have hP := va_keep hP hk1
          try dsimp only at hw
          clear hB hz1 hk1 hFc hPc hKc
          refine lv_icmp_gt (tgt := 101) hx hb dX5_leastSum_95 (by decide) (fun hc26 => ?_) (fun hc26 => ?_)
          ·
            refine lv_iinc (v := nI (y + 1)) (lv' := [(9, .int (nI (y + 1))), (7, .int v16), (6, .int (nI y)), (10, .int v16), (8, .int wi), (0, .ref (ob 0)), (1, .ref (ob2 0)), (2, .int (nI nn)), (5, .int z5)]) hx hb dX5_leastSum_101 hl (k := 3) rfl (nI_1 _) (by decide) rfl (fun ls hl => ?_)
            refine lv_goto (tgt := 20) hx hb dX5_leastSum_104 (by decide) ?_
            exact ih (y + 1) wi v16 (nI y) w9 w10 w11 w12 w13 w14 w3 w4 w5 w6 (by omega) (hL15) (by omega) H locs ls (hP.sub [0, 3, 4, 5, 6, 1, 7, 8, 2] rfl) (hD.sub [0, 3, 4, 5, 6, 1, 7, 8, 2] (by decide) rfl) hS (lv_sub hl [0, 4, 1, 2, 5, 6, 7, 8] rfl)
          ·
            obtain ⟨v27, ev27⟩ : ∃ y : Int32, y = wi + 1 := ⟨_, rfl⟩
            refine lv_iinc (v := v27) (lv' := [(8, .int v27), (7, .int v16), (6, .int (nI y)), (10, .int v16), (9, .int (nI y)), (0, .ref (ob 0)), (1, .ref (ob2 0)), (2, .int (nI nn)), (5, .int z5)]) hx hb dX5_leastSum_98 hl (k := 4) rfl (by rw [ev27]; rfl) (by decide) rfl (fun ls hl => ?_)
            refine lv_iinc (v := nI (y + 1)) (lv' := [(9, .int (nI (y + 1))), (8, .int v27), (7, .int v16), (6, .int (nI y)), (10, .int v16), (0, .ref (ob 0)), (1, .ref (ob2 0)), (2, .int (nI nn)), (5, .int z5)]) hx hb dX5_leastSum_101 hl (k := 4) rfl (nI_1 _) (by decide) rfl (fun ls hl => ?_)
            refine lv_goto (tgt := 20) hx hb dX5_leastSum_104 (by decide) ?_
            exact ih (y + 1) v27 v16 (nI y) w9 w10 w11 w12 w13 w14 w3 w4 w5 w6 (by omega) (hL15) (by omega) H locs ls (hP.sub [0, 3, 4, 5, 6, 1, 7, 8, 2] rfl) (hD.sub [0, 3, 4, 5, 6, 1, 7, 8, 2] (by decide) rfl) hS (lv_sub hl [0, 1, 2, 3, 5, 6, 7, 8] rfl)
set_option maxHeartbeats 4000000 in
set_option maxRecDepth 100000 in
theorem k_leastSum (l : Launch) (D : va_G) (sz : Nat) (ob : Nat → Nat) (ob2 : Nat → Nat) (cI : ClassId) (po : Int32) (sd : Int64) (da : Nat) (db : Nat) (pr : Int32) (nb : Nat) (ka : Nat) (kb : Nat) (sm : Int32) (ln : Nat) (fh : Nat → Int32) (fj : Nat → Int32) (tb2 : Int32) (ts2 : Int32) (tg2 : Int32) (tl2 : Int32) (tc2 : Int32) (tr2 : Int32) (tu2 : Int32) (tv2 : Int32) (tw2 : Int32) (cn2 : Nat) (fk2 : Nat → Int32) (nb2 : Nat) (ka2 : Nat) (kb2 : Nat) (sm2 : Int32) (ln2 : Nat) (nn : Nat) (y3 : Int64) (z5 : Int32) (hL : LyH fj fh nb ln) (hKc2 : KyC fk2 cn2) (hnn : nn ≤ 200) : Met l yX5_leastSum wp_k_leastSum ({ frames := 3, cells := 0, slots := 0, locals := 120 }) (PcWC D [.ref (ob 0), .ref (ob2 0), .int (nI nn), .long y3, .int z5] sz [(ob 0, .inr (5, [.ref (ob 1), .ref (ob 5), .int po])), (ob 1, .inr (0, [.long sd, .int (nI da), .int (nI db), .int pr])), (ob 5, .inr (3, gY ob (nI nb) (nI ka) (nI kb) sm (nI ln))), (ob 6, .inl (cI, 2048, .inl fh)), (ob 10, .inl (cI, 160, .inl fj)), (ob2 0, .inr (9, gT ob2 tb2 ts2 tg2 tl2 tc2 tr2 tu2 tv2 tw2)), (ob2 2, .inr (2, [.int (nI cn2), .ref (ob2 3), .ref (ob2 4)])), (ob2 3, .inl (cI, 160, .inl fk2)), (ob2 5, .inr (3, gY ob2 (nI nb2) (nI ka2) (nI kb2) sm2 (nI ln2)))] [(cI, .int)]) (va_Qi (fun (r : Int32) (u : (Int64) × (Nat) × (Nat) × (Int32) × (Nat) × (Nat) × (Nat) × (Nat) × (Nat → Int32) × (Nat → Int32)) => LyH u.2.2.2.2.2.2.2.2.2 u.2.2.2.2.2.2.2.2.1 u.2.2.2.2.1 u.2.2.2.2.2.2.2.1) (fun (u : (Int64) × (Nat) × (Nat) × (Int32) × (Nat) × (Nat) × (Nat) × (Nat) × (Nat → Int32) × (Nat → Int32)) t => va_P D vwCl [(ob 0, .inr (5, [.ref (ob 1), .ref (ob 5), .int po])), (ob 1, .inr (0, [.long u.1, .int (nI u.2.1), .int (nI u.2.2.1), .int u.2.2.2.1])), (ob 5, .inr (3, gY ob (nI u.2.2.2.2.1) (nI u.2.2.2.2.2.1) (nI u.2.2.2.2.2.2.1) sm (nI u.2.2.2.2.2.2.2.1))), (ob 6, .inl (cI, 2048, .inl u.2.2.2.2.2.2.2.2.1)), (ob 10, .inl (cI, 160, .inl u.2.2.2.2.2.2.2.2.2)), (ob2 0, .inr (9, gT ob2 tb2 ts2 tg2 tl2 tc2 tr2 tu2 tv2 tw2)), (ob2 2, .inr (2, [.int (nI cn2), .ref (ob2 3), .ref (ob2 4)])), (ob2 3, .inl (cI, 160, .inl fk2)), (ob2 5, .inr (3, gY ob2 (nI nb2) (nI ka2) (nI kb2) sm2 (nI ln2)))] t.heap ∧ va_K D vwCl [(cI, .int)] t ∧ va_D (va_A [(ob 0, .inr (5, [.ref (ob 1), .ref (ob 5), .int po])), (ob 1, .inr (0, [.long sd, .int (nI da), .int (nI db), .int pr])), (ob 5, .inr (3, gY ob (nI nb) (nI ka) (nI kb) sm (nI ln))), (ob 6, .inl (cI, 2048, .inl fh)), (ob 10, .inl (cI, 160, .inl fj)), (ob2 0, .inr (9, gT ob2 tb2 ts2 tg2 tl2 tc2 tr2 tu2 tv2 tw2)), (ob2 2, .inr (2, [.int (nI cn2), .ref (ob2 3), .ref (ob2 4)])), (ob2 3, .inl (cI, 160, .inl fk2)), (ob2 5, .inr (3, gY ob2 (nI nb2) (nI ka2) (nI kb2) sm2 (nI ln2)))] sz) [(ob 0, .inr (5, [.ref (ob 1), .ref (ob 5), .int po])), (ob 1, .inr (0, [.long u.1, .int (nI u.2.1), .int (nI u.2.2.1), .int u.2.2.2.1])), (ob 5, .inr (3, gY ob (nI u.2.2.2.2.1) (nI u.2.2.2.2.2.1) (nI u.2.2.2.2.2.2.1) sm (nI u.2.2.2.2.2.2.2.1))), (ob 6, .inl (cI, 2048, .inl u.2.2.2.2.2.2.2.2.1)), (ob 10, .inl (cI, 160, .inl u.2.2.2.2.2.2.2.2.2)), (ob2 0, .inr (9, gT ob2 tb2 ts2 tg2 tl2 tc2 tr2 tu2 tv2 tw2)), (ob2 2, .inr (2, [.int (nI cn2), .ref (ob2 3), .ref (ob2 4)])), (ob2 3, .inl (cI, 160, .inl fk2)), (ob2 5, .inr (3, gY ob2 (nI nb2) (nI ka2) (nI kb2) sm2 (nI ln2)))]) (va_A [(ob 0, .inr (5, [.ref (ob 1), .ref (ob 5), .int po])), (ob 1, .inr (0, [.long sd, .int (nI da), .int (nI db), .int pr])), (ob 5, .inr (3, gY ob (nI nb) (nI ka) (nI kb) sm (nI ln))), (ob 6, .inl (cI, 2048, .inl fh)), (ob 10, .inl (cI, 160, .inl fj)), (ob2 0, .inr (9, gT ob2 tb2 ts2 tg2 tl2 tc2 tr2 tu2 tv2 tw2)), (ob2 2, .inr (2, [.int (nI cn2), .ref (ob2 3), .ref (ob2 4)])), (ob2 3, .inl (cI, 160, .inl fk2)), (ob2 5, .inr (3, gY ob2 (nI nb2) (nI ka2) (nI kb2) sm2 (nI ln2)))] sz)) 0 0 (va_A [(ob 0, .inr (5, [.ref (ob 1), .ref (ob 5), .int po])), (ob 1, .inr (0, [.long sd, .int (nI da), .int (nI db), .int pr])), (ob 5, .inr (3, gY ob (nI nb) (nI ka) (nI kb) sm (nI ln))), (ob 6, .inl (cI, 2048, .inl fh)), (ob 10, .inl (cI, 160, .inl fj)), (ob2 0, .inr (9, gT ob2 tb2 ts2 tg2 tl2 tc2 tr2 tu2 tv2 tw2)), (ob2 2, .inr (2, [.int (nI cn2), .ref (ob2 3), .ref (ob2 4)])), (ob2 3, .inl (cI, 160, .inl fk2)), (ob2 5, .inr (3, gY ob2 (nI nb2) (nI ka2) (nI kb2) sm2 (nI ln2)))] sz) := by
  refine Met.ofW (cc := cX5_leastSum) (maxL := 11) (ret := (some .int)) (by decide) rfl ?_
  intro p e s m args below meth c s₁ B hml hv
  obtain ⟨rfl, hsz, hP, hK, hD0, hN⟩ := hv
  have hx := B.exec
  have hb := B.bytes
  have hr := B.returns
  have hts := atoms_spec (ws := wp_k_leastSum) B.pre
  have hin_X5 : ∀ w ∈ wsX50, w ∈ wp_k_leastSum := fun _ h => (List.mem_cons_of_mem _ (List.mem_append_right _ (List.mem_append_right _ (List.mem_append_right _ (List.mem_append_right _ (List.mem_append_right _ (List.mem_append_left _ h)))))))
  have hin_X9 : ∀ w ∈ wsX90, w ∈ wp_k_leastSum := fun _ h => (List.mem_cons_of_mem _ (List.mem_append_right _ (List.mem_append_right _ (List.mem_append_right _ (List.mem_append_right _ (List.mem_append_right _ (List.mem_append_right _ (List.mem_append_left _ h))))))))
  have hin_X0 : ∀ w ∈ wsX00, w ∈ wp_k_leastSum := fun _ h => (List.mem_cons_of_mem _ (List.mem_append_right _ (List.mem_append_right _ (List.mem_append_right _ (List.mem_append_right _ (List.mem_append_right _ (List.mem_append_right _ (List.mem_append_right _ (List.mem_append_left _ h)))))))))
  have hin_X3 : ∀ w ∈ wsX30, w ∈ wp_k_leastSum := fun _ h => (List.mem_cons_of_mem _ (List.mem_append_right _ (List.mem_append_right _ (List.mem_append_right _ (List.mem_append_right _ (List.mem_append_right _ (List.mem_append_right _ (List.mem_append_right _ (List.mem_append_right _ (List.mem_append_left _ h))))))))))
  have hown : s.vm.findClass RX5 = some m.cls := findClass_of_methodNamed B.named
  have hlocks := B.notSynchronized
  subst hsz
  have hD := hD0.self (sz := s.heap.size)
  generalize hAe : va_A [(ob 0, .inr (5, [.ref (ob 1), .ref (ob 5), .int po])), (ob 1, .inr (0, [.long sd, .int (nI da), .int (nI db), .int pr])), (ob 5, .inr (3, gY ob (nI nb) (nI ka) (nI kb) sm (nI ln))), (ob 6, .inl (cI, 2048, .inl fh)), (ob 10, .inl (cI, 160, .inl fj)), (ob2 0, .inr (9, gT ob2 tb2 ts2 tg2 tl2 tc2 tr2 tu2 tv2 tw2)), (ob2 2, .inr (2, [.int (nI cn2), .ref (ob2 3), .ref (ob2 4)])), (ob2 3, .inl (cI, 160, .inl fk2)), (ob2 5, .inr (3, gY ob2 (nI nb2) (nI ka2) (nI kb2) sm2 (nI ln2)))] s.heap.size = A at hD ⊢
  have hA : ∀ q : Nat, s.heap.size ≤ q → A q := fun q h => by rw [← hAe]; exact Or.inr h
  have hS : va_S A s.heap s.heap [] := va_S.rf
  have hP : va_P D vwCl [(ob 0, .inr (5, [.ref (ob 1), .ref (ob 5), .int po])), (ob 1, .inr (0, [.long sd, .int (nI da), .int (nI db), .int pr])), (ob 5, .inr (3, gY ob (nI nb) (nI ka) (nI kb) sm (nI ln))), (ob 6, .inl (cI, 2048, .inl fh)), (ob 10, .inl (cI, 160, .inl fj)), (ob2 0, .inr (9, gT ob2 tb2 ts2 tg2 tl2 tc2 tr2 tu2 tv2 tw2)), (ob2 2, .inr (2, [.int (nI cn2), .ref (ob2 3), .ref (ob2 4)])), (ob2 3, .inl (cI, 160, .inl fk2)), (ob2 5, .inr (3, gY ob2 (nI nb2) (nI ka2) (nI kb2) sm2 (nI ln2)))] s.heap := hP
  have hl := lv_entry ([.ref (ob 0), .ref (ob2 0), .int (nI nn), .long y3, .int z5]) (n := 11) (Nat.le_of_ble_eq_true rfl)
  rw [lg_entry_eq]
  generalize (lg_sl ([.ref (ob 0), .ref (ob2 0), .int (nI nn), .long y3, .int z5]) ++ List.replicate (11 - (lg_sl ([.ref (ob 0), .ref (ob2 0), .int (nI nn), .long y3, .int z5])).length) Slot.unset).toArray = ls at hl ⊢
  have hl : lv_has ls 11 [(0, .ref (ob 0)), (1, .ref (ob2 0)), (2, .int (nI nn)), (3, .long y3), (5, .int z5)] := hl
  refine lv_aload_n hx hb dX5_leastSum_0 rfl (lv_at hl 0 rfl) ?_
  refine va_get (D := D) (ci := 5) (v := .ref (ob 1)) (C := RX5) (T := TX5) (N := 3) hx hb hts hin_X5 hown hK hP 0 rfl rfl 0 (by decide) (hts (.fieldLink RX5 12 "ClashFree$Paper" "draw" "LClashFree$Draw;") (List.mem_of_getElem? (i := 1) rfl)) (fun _ h9 => h9) rfl dX5_leastSum_1 ?_
  refine lv_lload_n hx hb dX5_leastSum_4 rfl (lv_at hl 3 rfl) ?_
  have hPc := hP.sub (ws' := [(ob 1, .inr (0, [.long sd, .int (nI da), .int (nI db), .int pr]))]) [1] rfl
  have hKc := hK.sub (tys' := []) [] rfl
  have hDc := hD.sub (ws' := [(ob 1, .inr (0, [.long sd, .int (nI da), .int (nI db), .int pr]))]) [1] (by decide) rfl
  have hFc := va_free (wc := [(ob 1, .inr (0, [.long sd, .int (nI da), .int (nI db), .int pr]))]) hD hS hA [1] rfl
  refine va_callv (va_runV (As := [.long y3]) (rest := []) ⟨hx, hb, hml, hown, hts⟩ (k_dbegin l D _ ob cI sd da db pr y3) (cwV 1 hts g_k_leastSum_k_dbegin_41 rfl rfl rfl (by decide +kernel) ⟨(Nat.le_of_ble_eq_true rfl), (Nat.le_of_ble_eq_true rfl)⟩) (PcWC_V (q0 := 0) hPc hKc hDc hN rfl rfl) rfl rfl hl.1 rfl (lv_room (Nat.le_of_ble_eq_true rfl)) dX5_leastSum_5 ⟨(Nat.le_of_ble_eq_true rfl), (Nat.le_of_ble_eq_true rfl)⟩) hS (fun q _ h => hFc q h) hFc (fun uu tt H locs htt hvm hw hB hz1 hk1 hS => ?_)
  obtain ⟨w2, w3⟩ := uu
  obtain ⟨hP1, hK1, hD1⟩ := hB
  rw [htt] at hP1
  have hK1 := va_K.moved hvm.symm hK1
  have hP1 : va_P D vwCl [(ob 1, .inr (0, [.long w2, .int (nI da), .int (nI db), .int w3]))] H := hP1
  obtain ⟨hP, hD⟩ := va_join (wr := [(ob 0, .inr (5, [.ref (ob 1), .ref (ob 5), .int po])), (ob 5, .inr (3, gY ob (nI nb) (nI ka) (nI kb) sm (nI ln))), (ob 6, .inl (cI, 2048, .inl fh)), (ob 10, .inl (cI, 160, .inl fj)), (ob2 0, .inr (9, gT ob2 tb2 ts2 tg2 tl2 tc2 tr2 tu2 tv2 tw2)), (ob2 2, .inr (2, [.int (nI cn2), .ref (ob2 3), .ref (ob2 4)])), (ob2 3, .inl (cI, 160, .inl fk2)), (ob2 5, .inr (3, gY ob2 (nI nb2) (nI ka2) (nI kb2) sm2 (nI ln2)))]) (w1 := [(ob 1, .inr (0, [.long w2, .int (nI da), .int (nI db), .int w3]))]) hP hD [1] [0, 2, 3, 4, 5, 6, 7, 8] rfl rfl (by decide) (by decide) hk1 hFc hP1 hD1
  have hP : va_P D vwCl [(ob 0, .inr (5, [.ref (ob 1), .ref (ob 5), .int po])), (ob 5, .inr (3, gY ob (nI nb) (nI ka) (nI kb) sm (nI ln))), (ob 6, .inl (cI, 2048, .inl fh)), (ob 10, .inl (cI, 160, .inl fj)), (ob2 0, .inr (9, gT ob2 tb2 ts2 tg2 tl2 tc2 tr2 tu2 tv2 tw2)), (ob2 2, .inr (2, [.int (nI cn2), .ref (ob2 3), .ref (ob2 4)])), (ob2 3, .inl (cI, 160, .inl fk2)), (ob2 5, .inr (3, gY ob2 (nI nb2) (nI ka2) (nI kb2) sm2 (nI ln2))), (ob 1, .inr (0, [.long w2, .int (nI da), .int (nI db), .int w3]))] H := hP
  have hD : va_D A [(ob 0, .inr (5, [.ref (ob 1), .ref (ob 5), .int po])), (ob 5, .inr (3, gY ob (nI nb) (nI ka) (nI kb) sm (nI ln))), (ob 6, .inl (cI, 2048, .inl fh)), (ob 10, .inl (cI, 160, .inl fj)), (ob2 0, .inr (9, gT ob2 tb2 ts2 tg2 tl2 tc2 tr2 tu2 tv2 tw2)), (ob2 2, .inr (2, [.int (nI cn2), .ref (ob2 3), .ref (ob2 4)])), (ob2 3, .inl (cI, 160, .inl fk2)), (ob2 5, .inr (3, gY ob2 (nI nb2) (nI ka2) (nI kb2) sm2 (nI ln2))), (ob 1, .inr (0, [.long w2, .int (nI da), .int (nI db), .int w3]))] := hD
  try dsimp only at hw
  clear hz1 hk1 hFc hPc hKc hDc
  clear hw
  refine lv_iconst (v := 0) hx hb dX5_leastSum_8 (by decide) ?_
  refine lv_istore (lv' := [(6, .int 0), (0, .ref (ob 0)), (1, .ref (ob2 0)), (2, .int (nI nn)), (3, .long y3), (5, .int z5)]) hx hb dX5_leastSum_9 hl (by decide) rfl (fun ls hl => ?_)
  refine lv_iconst (v := 0) hx hb dX5_leastSum_11 (by decide) ?_
  refine lv_istore (lv' := [(7, .int 0), (6, .int 0), (0, .ref (ob 0)), (1, .ref (ob2 0)), (2, .int (nI nn)), (3, .long y3), (5, .int z5)]) hx hb dX5_leastSum_12 hl (by decide) rfl (fun ls hl => ?_)
  refine lv_iconst (v := 0) hx hb dX5_leastSum_14 (by decide) ?_
  refine lv_istore (lv' := [(8, .int 0), (7, .int 0), (6, .int 0), (0, .ref (ob 0)), (1, .ref (ob2 0)), (2, .int (nI nn)), (3, .long y3), (5, .int z5)]) hx hb dX5_leastSum_15 hl (by decide) rfl (fun ls hl => ?_)
  refine lv_iconst (v := 0) hx hb dX5_leastSum_17 (by decide) ?_
  refine lv_istore (lv' := [(9, .int 0), (8, .int 0), (7, .int 0), (6, .int 0), (0, .ref (ob 0)), (1, .ref (ob2 0)), (2, .int (nI nn)), (3, .long y3), (5, .int z5)]) hx hb dX5_leastSum_18 hl (by decide) rfl (fun ls hl => ?_)
  refine lk_least l D ob ob2 cI po sm tb2 ts2 tg2 tl2 tc2 tr2 tu2 tv2 tw2 cn2 fk2 nb2 ka2 kb2 sm2 ln2 nn z5 (hKc2) (hnn) hx hb hml hown hts hA (hK.sub [0] rfl) hN ?_ (nn + 1) 0 0 0 0 nb ka kb ln fh fj w2 da db w3 (Nat.zero_le _) (hL) (by omega) _ _ _ (hP.sub [0, 8, 1, 2, 3, 4, 5, 6, 7] rfl) (hD.sub [0, 8, 1, 2, 3, 4, 5, 6, 7] (by decide) rfl) hS (lv_sub hl [0, 1, 2, 3, 4, 5, 6, 8] rfl)
  intro y_4 wi_5 le_6 fi_7 n1_8 xa_9 xb_10 xl_11 gh_12 gj_13 sd_14 ea_15 eb_16 pq_17 hy1_18 hLl_19 H locs ls hP hD hS hl
  refine lv_iload hx hb dX5_leastSum_107 (lv_at hl 3 rfl) ?_
  by_cases hs20 : z5 = 0
  ·
    subst hs20
    refine lv_lookup (off := 27) (tgt := 136) hx hb dX5_leastSum_109 (by decide +kernel) (by decide +kernel) (by decide) ?_
    refine lv_iload hx hb dX5_leastSum_136 (lv_at hl 2 rfl) ?_
    exact W.iret (v := fi_7) hx hb hr (fun t ht hW => ⟨⟨fi_7, (sd_14, ea_15, eb_16, pq_17, n1_8, xa_9, xb_10, xl_11, gh_12, gj_13), rfl, (by (try dsimp only); first | done | exact hLl_19), by rw [ht]; exact hP.sub [0, 1, 2, 3, 4, 5, 6, 7, 8] rfl, va_K.moved hW.alike (hK.sub [0] rfl), hD.sub [0, 1, 2, 3, 4, 5, 6, 7, 8] (by decide) rfl⟩, hS.F ht⟩) hS.2.2 dX5_leastSum_138
  by_cases hs21 : z5 = 1
  ·
    subst hs21
    refine lv_lookup (off := 30) (tgt := 139) hx hb dX5_leastSum_109 (by decide +kernel) (by decide +kernel) (by decide) ?_
    refine lv_iload hx hb dX5_leastSum_139 (lv_at hl 1 rfl) ?_
    exact W.iret (v := le_6) hx hb hr (fun t ht hW => ⟨⟨le_6, (sd_14, ea_15, eb_16, pq_17, n1_8, xa_9, xb_10, xl_11, gh_12, gj_13), rfl, (by (try dsimp only); first | done | exact hLl_19), by rw [ht]; exact hP.sub [0, 1, 2, 3, 4, 5, 6, 7, 8] rfl, va_K.moved hW.alike (hK.sub [0] rfl), hD.sub [0, 1, 2, 3, 4, 5, 6, 7, 8] (by decide) rfl⟩, hS.F ht⟩) hS.2.2 dX5_leastSum_141
  refine lv_lookup (off := 33) (tgt := 142) hx hb dX5_leastSum_109 (by decide +kernel) (by simp [Op.lookupswitch.offset, List.find?, show ¬ (0 : Int) = Int32.toInt z5 from fun q => sw_ne (n := 0) hs20 (by decide) (by decide) q.symm, show ¬ (1 : Int) = Int32.toInt z5 from fun q => sw_ne (n := 1) hs21 (by decide) (by decide) q.symm]) (by decide) ?_
  refine lv_iload hx hb dX5_leastSum_142 (lv_at hl 0 rfl) ?_
  exact W.iret (v := wi_5) hx hb hr (fun t ht hW => ⟨⟨wi_5, (sd_14, ea_15, eb_16, pq_17, n1_8, xa_9, xb_10, xl_11, gh_12, gj_13), rfl, (by (try dsimp only); first | done | exact hLl_19), by rw [ht]; exact hP.sub [0, 1, 2, 3, 4, 5, 6, 7, 8] rfl, va_K.moved hW.alike (hK.sub [0] rfl), hD.sub [0, 1, 2, 3, 4, 5, 6, 7, 8] (by decide) rfl⟩, hS.F ht⟩) hS.2.2 dX5_leastSum_144

def own_k_clashesOf : List Cond := [.fieldLink RX5 21 "ClashFree$Paper" "layout" "LClashFree$Layout;", .fieldLink RX5 90 "ClashFree$Layout" "lies" "[I", .fieldLink RX5 48 "ClashFree$Table" "keys" "LClashFree$Keys;", .fieldLink RX5 61 "ClashFree$Table" "layout" "LClashFree$Layout;", .fieldLink RX5 78 "ClashFree$Layout" "order" "[I", .methodLink RX5 81 yX2_keyAt, .instanceMethod yX2_keyAt, .selects RX2 yX2_keyAt yX2_keyAt, .initialized RX2, .initialized RX10, .static yX10_spot]
def wp_k_clashesOf : List Cond := .code yX5_clashesOf cX5_clashesOf 10 (some .int) :: (own_k_clashesOf ++ (wp_k_keyAt ++ (wp_k_spot ++ (wsX50 ++ (wsX30 ++ (wsX90 ++ ([] : List Cond)))))))
set_option maxRecDepth 20000 in
theorem inown_k_clashesOf : ∀ w ∈ own_k_clashesOf, w ∈ lw_tbl := mem_places [240, 204, 517, 521, 207, 838, 735, 736, 117, 106, 584] (by decide +kernel)
set_option maxRecDepth 20000 in
theorem in_k_clashesOf : ∀ w ∈ wp_k_clashesOf, w ∈ lw_tbl := List.forall_mem_cons.mpr ⟨List.mem_of_getElem? (i := 837) (by decide +kernel), List.forall_mem_append.mpr ⟨inown_k_clashesOf, List.forall_mem_append.mpr ⟨in_k_keyAt, List.forall_mem_append.mpr ⟨in_k_spot, List.forall_mem_append.mpr ⟨lwb_X5, List.forall_mem_append.mpr ⟨lwb_X3, List.forall_mem_append.mpr ⟨lwb_X9, fun _ h => absurd h List.not_mem_nil⟩⟩⟩⟩⟩⟩⟩
set_option maxRecDepth 20000 in
theorem good_k_clashesOf : wp_k_clashesOf.all goodWord = true := by decide +kernel
set_option maxRecDepth 20000 in
theorem g_k_clashesOf_k_keyAt_81 : GoodIn wp_k_clashesOf (wsV RX5 81 RX2 yX2_keyAt wp_k_keyAt) := goodIn_sub (List.forall_mem_append.mpr ⟨List.forall_mem_cons.mpr ⟨(List.mem_of_getElem? (i := 6) rfl), List.forall_mem_cons.mpr ⟨(List.mem_of_getElem? (i := 7) rfl), List.forall_mem_cons.mpr ⟨(List.mem_of_getElem? (i := 8) rfl), List.forall_mem_cons.mpr ⟨(List.mem_of_getElem? (i := 9) rfl), fun _ h => absurd h List.not_mem_nil⟩⟩⟩⟩, (fun _ h => (List.mem_cons_of_mem _ (List.mem_append_right _ (List.mem_append_left _ h))))⟩) (by decide +kernel)
set_option maxRecDepth 20000 in
theorem g_k_clashesOf_k_spot_86 : GoodIn wp_k_clashesOf (wp_k_spot) := goodIn_sub ((fun _ h => (List.mem_cons_of_mem _ (List.mem_append_right _ (List.mem_append_right _ (List.mem_append_left _ h)))))) (by decide +kernel)
set_option maxHeartbeats 4000000 in
set_option maxRecDepth 100000 in
theorem lk_co2 (l : Launch) {p : Program} {e : Env} {s : State} {m : MethodId} {args : Array Value} {below : List Frame} {meth : Method} {c : Code} {Q : State → Prop} {A : Nat → Prop} (D : va_G) (ob : Nat → Nat) (ob2 : Nat → Nat) (cI : ClassId) (po : Int32) (nb : Nat) (ka : Nat) (kb : Nat) (sm : Int32) (ln : Nat) (tb2 : Int32) (ts2 : Int32) (tg2 : Int32) (tl2 : Int32) (tc2 : Int32) (tr2 : Int32) (tu2 : Int32) (tv2 : Int32) (tw2 : Int32) (cn2 : Nat) (fk2 : Nat → Int32) (nb2 : Nat) (ka2 : Nat) (kb2 : Nat) (sm2 : Int32) (ln2 : Nat) (fo2 : Nat → Int32) (me : Nat) (z3 : Int32) (z4 : Int32) (z5 : Int32) (y : Nat) (ro : Int32) (gr : Nat → Int32) (hme : me ≤ 160) (hc2 : cn2 ≤ 160) (hyme : y < me) (hx : p.tables.exec = Jvm.exec) (hb : c.code = cX5_clashesOf) (hml : c.maxLocals = 10) (hown : s.vm.findClass RX5 = some m.cls) (hts : ∀ w ∈ wp_k_clashesOf, w.before args s = true) (hA : ∀ q, s.heap.size ≤ q → A q) (hK : va_K D vwCl [(cI, .int)] s) (hN : NC s) (kx85 : ∀ (x : Nat), ∀ (su : Int32), (x ≤ y) → ∀ (H : Heap) (locs : List Loc) (ls : Array Slot), va_P D vwCl [(ob 0, .inr (5, [.ref (ob 1), .ref (ob 5), .int po])), (ob 5, .inr (3, gY ob (nI nb) (nI ka) (nI kb) sm (nI ln))), (ob 11, .inl (cI, 160, .inl gr)), (ob2 0, .inr (9, gT ob2 tb2 ts2 tg2 tl2 tc2 tr2 tu2 tv2 tw2)), (ob2 2, .inr (2, [.int (nI cn2), .ref (ob2 3), .ref (ob2 4)])), (ob2 3, .inl (cI, 160, .inl fk2)), (ob2 5, .inr (3, gY ob2 (nI nb2) (nI ka2) (nI kb2) sm2 (nI ln2))), (ob2 12, .inl (cI, 160, .inl fo2))] H → va_D A [(ob 0, .inr (5, [.ref (ob 1), .ref (ob 5), .int po])), (ob 5, .inr (3, gY ob (nI nb) (nI ka) (nI kb) sm (nI ln))), (ob 11, .inl (cI, 160, .inl gr)), (ob2 0, .inr (9, gT ob2 tb2 ts2 tg2 tl2 tc2 tr2 tu2 tv2 tw2)), (ob2 2, .inr (2, [.int (nI cn2), .ref (ob2 3), .ref (ob2 4)])), (ob2 3, .inl (cI, 160, .inl fk2)), (ob2 5, .inr (3, gY ob2 (nI nb2) (nI ka2) (nI kb2) sm2 (nI ln2))), (ob2 12, .inl (cI, 160, .inl fo2))] → va_S A s.heap H locs → lv_has ls 10 [(7, .int (nI y)), (6, .int su), (0, .ref (ob 0)), (1, .ref (ob2 0)), (2, .int (nI me)), (3, .int z3), (4, .int z4), (5, .int z5)] → W p l e ({ frames := 1, cells := 0, slots := 0, locals := 60 }) s m args below meth c H locs 0 0 Q (F0 m 85 ls [])) : ∀ (N : Nat), ∀ (x : Nat), ∀ (su : Int32), (x ≤ y) → y - x < N → ∀ (H : Heap) (locs : List Loc) (ls : Array Slot), va_P D vwCl [(ob 0, .inr (5, [.ref (ob 1), .ref (ob 5), .int po])), (ob 5, .inr (3, gY ob (nI nb) (nI ka) (nI kb) sm (nI ln))), (ob 11, .inl (cI, 160, .inl gr)), (ob2 0, .inr (9, gT ob2 tb2 ts2 tg2 tl2 tc2 tr2 tu2 tv2 tw2)), (ob2 2, .inr (2, [.int (nI cn2), .ref (ob2 3), .ref (ob2 4)])), (ob2 3, .inl (cI, 160, .inl fk2)), (ob2 5, .inr (3, gY ob2 (nI nb2) (nI ka2) (nI kb2) sm2 (nI ln2))), (ob2 12, .inl (cI, 160, .inl fo2))] H → va_D A [(ob 0, .inr (5, [.ref (ob 1), .ref (ob 5), .int po])), (ob 5, .inr (3, gY ob (nI nb) (nI ka) (nI kb) sm (nI ln))), (ob 11, .inl (cI, 160, .inl gr)), (ob2 0, .inr (9, gT ob2 tb2 ts2 tg2 tl2 tc2 tr2 tu2 tv2 tw2)), (ob2 2, .inr (2, [.int (nI cn2), .ref (ob2 3), .ref (ob2 4)])), (ob2 3, .inl (cI, 160, .inl fk2)), (ob2 5, .inr (3, gY ob2 (nI nb2) (nI ka2) (nI kb2) sm2 (nI ln2))), (ob2 12, .inl (cI, 160, .inl fo2))] → va_S A s.heap H locs → lv_has ls 10 [(9, .int (nI x)), (8, .int ro), (7, .int (nI y)), (6, .int su), (0, .ref (ob 0)), (1, .ref (ob2 0)), (2, .int (nI me)), (3, .int z3), (4, .int z4), (5, .int z5)] → W p l e ({ frames := 1, cells := 0, slots := 0, locals := 60 }) s m args below meth c H locs 0 0 Q (F0 m 54 ls []) := by
  have hin_X5 : ∀ w ∈ wsX50, w ∈ wp_k_clashesOf := fun _ h => (List.mem_cons_of_mem _ (List.mem_append_right _ (List.mem_append_right _ (List.mem_append_right _ (List.mem_append_left _ h)))))
  have hin_X3 : ∀ w ∈ wsX30, w ∈ wp_k_clashesOf := fun _ h => (List.mem_cons_of_mem _ (List.mem_append_right _ (List.mem_append_right _ (List.mem_append_right _ (List.mem_append_right _ (List.mem_append_left _ h))))))
  have hin_X9 : ∀ w ∈ wsX90, w ∈ wp_k_clashesOf := fun _ h => (List.mem_cons_of_mem _ (List.mem_append_right _ (List.mem_append_right _ (List.mem_append_right _ (List.mem_append_right _ (List.mem_append_right _ (List.mem_append_left _ h)))))))
  intro N
  induction N with
  | zero =>
    intro x su hx1 hm
    exact absurd hm (Nat.not_lt_zero _)
  | succ N ih =>
    intro x su hx1 hm H locs ls hP hD hS hl
    refine lv_iload hx hb dX5_clashesOf_54 (lv_at hl 0 rfl) ?_
    refine lv_iload hx hb dX5_clashesOf_56 (lv_at hl 2 rfl) ?_
    refine lv_icmp_ge (tgt := 85) hx hb dX5_clashesOf_58 (by decide) (fun hc1 => ?_) (fun hc1 => ?_)
    ·
      have hlt : y ≤ x := (nI_leI (by omega) (by omega)).mp hc1
      exact kx85 x su (hx1) H locs ls (hP.sub [0, 1, 2, 3, 4, 5, 6, 7] rfl) (hD.sub [0, 1, 2, 3, 4, 5, 6, 7] (by decide) rfl) hS (lv_sub hl [2, 3, 4, 5, 6, 7, 8, 9] rfl)
    ·
      have hlt : x < y := by
        rcases Nat.lt_or_ge x (y) with z | z
        · exact z
        · exact absurd (nI_le z (by omega)) hc1
      refine lv_aload_n hx hb dX5_clashesOf_61 rfl (lv_at hl 4 rfl) ?_
      refine va_get (D := D) (ci := 5) (v := .ref (ob 5)) (C := RX5) (T := TX5) (N := 3) hx hb hts hin_X5 hown hK hP 0 rfl rfl 1 (by decide) (hts (.fieldLink RX5 21 "ClashFree$Paper" "layout" "LClashFree$Layout;") (List.mem_of_getElem? (i := 1) rfl)) (fun _ h9 => h9) rfl dX5_clashesOf_62 ?_
      refine va_get (D := D) (ci := 3) (v := .ref (ob 11)) (C := RX3) (T := TX3) (N := 13) hx hb hts hin_X3 hown hK hP 1 rfl rfl 10 (by decide) (hts (.fieldLink RX5 90 "ClashFree$Layout" "lies" "[I") (List.mem_of_getElem? (i := 2) rfl)) (fun _ h9 => h9) rfl dX5_clashesOf_65 ?_
      refine lv_iload hx hb dX5_clashesOf_68 (lv_at hl 0 rfl) ?_
      refine va_iald hx hb hK hP 2 0 rfl rfl (vp_in_nI (by omega) (by decide)) dX5_clashesOf_70 ?_
      refine lv_topi (fun v2 ev2 => ?_)
      refine lv_iload hx hb dX5_clashesOf_71 (lv_at hl 1 rfl) ?_
      refine lv_icmp_ne (tgt := 79) hx hb dX5_clashesOf_73 (by decide) (fun hc3 => ?_) (fun hc3 => ?_)
      ·
        refine lv_iinc (v := nI (x + 1)) (lv' := [(9, .int (nI (x + 1))), (8, .int ro), (7, .int (nI y)), (6, .int su), (0, .ref (ob 0)), (1, .ref (ob2 0)), (2, .int (nI me)), (3, .int z3), (4, .int z4), (5, .int z5)]) hx hb dX5_clashesOf_79 hl (k := 0) rfl (nI_1 _) (by decide) rfl (fun ls hl => ?_)
        refine lv_goto (tgt := 54) hx hb dX5_clashesOf_82 (by decide) ?_
        exact ih (x + 1) su (by omega) (by omega) H locs ls (hP.sub [0, 1, 2, 3, 4, 5, 6, 7] rfl) (hD.sub [0, 1, 2, 3, 4, 5, 6, 7] (by decide) rfl) hS (lv_sub hl [0, 1, 2, 3, 4, 5, 6, 7, 8, 9] rfl)
      ·
        obtain ⟨v4, ev4⟩ : ∃ y : Int32, y = su + 1 := ⟨_, rfl⟩
        refine lv_iinc (v := v4) (lv' := [(6, .int v4), (9, .int (nI x)), (8, .int ro), (7, .int (nI y)), (0, .ref (ob 0)), (1, .ref (ob2 0)), (2, .int (nI me)), (3, .int z3), (4, .int z4), (5, .int z5)]) hx hb dX5_clashesOf_76 hl (k := 3) rfl (by rw [ev4]; rfl) (by decide) rfl (fun ls hl => ?_)
        refine lv_iinc (v := nI (x + 1)) (lv' := [(9, .int (nI (x + 1))), (6, .int v4), (8, .int ro), (7, .int (nI y)), (0, .ref (ob 0)), (1, .ref (ob2 0)), (2, .int (nI me)), (3, .int z3), (4, .int z4), (5, .int z5)]) hx hb dX5_clashesOf_79 hl (k := 1) rfl (nI_1 _) (by decide) rfl (fun ls hl => ?_)
        refine lv_goto (tgt := 54) hx hb dX5_clashesOf_82 (by decide) ?_
        exact ih (x + 1) v4 (by omega) (by omega) H locs ls (hP.sub [0, 1, 2, 3, 4, 5, 6, 7] rfl) (hD.sub [0, 1, 2, 3, 4, 5, 6, 7] (by decide) rfl) hS (lv_sub hl [0, 2, 3, 1, 4, 5, 6, 7, 8, 9] rfl)
set_option maxHeartbeats 4000000 in
set_option maxRecDepth 100000 in
theorem lk_co1 (l : Launch) {p : Program} {e : Env} {s : State} {m : MethodId} {args : Array Value} {below : List Frame} {meth : Method} {c : Code} {Q : State → Prop} {A : Nat → Prop} (D : va_G) (ob : Nat → Nat) (ob2 : Nat → Nat) (cI : ClassId) (po : Int32) (nb : Nat) (ka : Nat) (kb : Nat) (sm : Int32) (ln : Nat) (tb2 : Int32) (ts2 : Int32) (tg2 : Int32) (tl2 : Int32) (tc2 : Int32) (tr2 : Int32) (tu2 : Int32) (tv2 : Int32) (tw2 : Int32) (cn2 : Nat) (fk2 : Nat → Int32) (nb2 : Nat) (ka2 : Nat) (kb2 : Nat) (sm2 : Int32) (ln2 : Nat) (fo2 : Nat → Int32) (me : Nat) (z3 : Int32) (z4 : Int32) (z5 : Int32) (hme : me ≤ 160) (hc2 : cn2 ≤ 160) (hx : p.tables.exec = Jvm.exec) (hb : c.code = cX5_clashesOf) (hml : c.maxLocals = 10) (hown : s.vm.findClass RX5 = some m.cls) (hts : ∀ w ∈ wp_k_clashesOf, w.before args s = true) (hA : ∀ q, s.heap.size ≤ q → A q) (hK : va_K D vwCl [(cI, .int)] s) (hN : NC s) (kx91 : ∀ (y : Nat), ∀ (su : Int32), ∀ (gr : Nat → Int32), (y ≤ me) → ∀ (H : Heap) (locs : List Loc) (ls : Array Slot), va_P D vwCl [(ob 0, .inr (5, [.ref (ob 1), .ref (ob 5), .int po])), (ob 5, .inr (3, gY ob (nI nb) (nI ka) (nI kb) sm (nI ln))), (ob 11, .inl (cI, 160, .inl gr)), (ob2 0, .inr (9, gT ob2 tb2 ts2 tg2 tl2 tc2 tr2 tu2 tv2 tw2)), (ob2 2, .inr (2, [.int (nI cn2), .ref (ob2 3), .ref (ob2 4)])), (ob2 3, .inl (cI, 160, .inl fk2)), (ob2 5, .inr (3, gY ob2 (nI nb2) (nI ka2) (nI kb2) sm2 (nI ln2))), (ob2 12, .inl (cI, 160, .inl fo2))] H → va_D A [(ob 0, .inr (5, [.ref (ob 1), .ref (ob 5), .int po])), (ob 5, .inr (3, gY ob (nI nb) (nI ka) (nI kb) sm (nI ln))), (ob 11, .inl (cI, 160, .inl gr)), (ob2 0, .inr (9, gT ob2 tb2 ts2 tg2 tl2 tc2 tr2 tu2 tv2 tw2)), (ob2 2, .inr (2, [.int (nI cn2), .ref (ob2 3), .ref (ob2 4)])), (ob2 3, .inl (cI, 160, .inl fk2)), (ob2 5, .inr (3, gY ob2 (nI nb2) (nI ka2) (nI kb2) sm2 (nI ln2))), (ob2 12, .inl (cI, 160, .inl fo2))] → va_S A s.heap H locs → lv_has ls 10 [(6, .int su)] → W p l e ({ frames := 1, cells := 0, slots := 0, locals := 60 }) s m args below meth c H locs 0 0 Q (F0 m 91 ls [])) : ∀ (N : Nat), ∀ (y : Nat), ∀ (su : Int32), ∀ (gr : Nat → Int32), (y ≤ me) → me - y < N → ∀ (H : Heap) (locs : List Loc) (ls : Array Slot), va_P D vwCl [(ob 0, .inr (5, [.ref (ob 1), .ref (ob 5), .int po])), (ob 5, .inr (3, gY ob (nI nb) (nI ka) (nI kb) sm (nI ln))), (ob 11, .inl (cI, 160, .inl gr)), (ob2 0, .inr (9, gT ob2 tb2 ts2 tg2 tl2 tc2 tr2 tu2 tv2 tw2)), (ob2 2, .inr (2, [.int (nI cn2), .ref (ob2 3), .ref (ob2 4)])), (ob2 3, .inl (cI, 160, .inl fk2)), (ob2 5, .inr (3, gY ob2 (nI nb2) (nI ka2) (nI kb2) sm2 (nI ln2))), (ob2 12, .inl (cI, 160, .inl fo2))] H → va_D A [(ob 0, .inr (5, [.ref (ob 1), .ref (ob 5), .int po])), (ob 5, .inr (3, gY ob (nI nb) (nI ka) (nI kb) sm (nI ln))), (ob 11, .inl (cI, 160, .inl gr)), (ob2 0, .inr (9, gT ob2 tb2 ts2 tg2 tl2 tc2 tr2 tu2 tv2 tw2)), (ob2 2, .inr (2, [.int (nI cn2), .ref (ob2 3), .ref (ob2 4)])), (ob2 3, .inl (cI, 160, .inl fk2)), (ob2 5, .inr (3, gY ob2 (nI nb2) (nI ka2) (nI kb2) sm2 (nI ln2))), (ob2 12, .inl (cI, 160, .inl fo2))] → va_S A s.heap H locs → lv_has ls 10 [(7, .int (nI y)), (6, .int su), (0, .ref (ob 0)), (1, .ref (ob2 0)), (2, .int (nI me)), (3, .int z3), (4, .int z4), (5, .int z5)] → W p l e ({ frames := 1, cells := 0, slots := 0, locals := 60 }) s m args below meth c H locs 0 0 Q (F0 m 6 ls []) := by
  have hin_X5 : ∀ w ∈ wsX50, w ∈ wp_k_clashesOf := fun _ h => (List.mem_cons_of_mem _ (List.mem_append_right _ (List.mem_append_right _ (List.mem_append_right _ (List.mem_append_left _ h)))))
  have hin_X3 : ∀ w ∈ wsX30, w ∈ wp_k_clashesOf := fun _ h => (List.mem_cons_of_mem _ (List.mem_append_right _ (List.mem_append_right _ (List.mem_append_right _ (List.mem_append_right _ (List.mem_append_left _ h))))))
  have hin_X9 : ∀ w ∈ wsX90, w ∈ wp_k_clashesOf := fun _ h => (List.mem_cons_of_mem _ (List.mem_append_right _ (List.mem_append_right _ (List.mem_append_right _ (List.mem_append_right _ (List.mem_append_right _ (List.mem_append_left _ h)))))))
  intro N
  induction N with
  | zero =>
    intro y su gr hy1 hm
    exact absurd hm (Nat.not_lt_zero _)
  | succ N ih =>
    intro y su gr hy1 hm H locs ls hP hD hS hl
    refine lv_iload hx hb dX5_clashesOf_6 (lv_at hl 0 rfl) ?_
    refine lv_iload_n hx hb dX5_clashesOf_8 rfl (lv_at hl 4 rfl) ?_
    refine lv_icmp_ge (tgt := 91) hx hb dX5_clashesOf_9 (by decide) (fun hc1 => ?_) (fun hc1 => ?_)
    ·
      have hlt : me ≤ y := (nI_leI (by omega) (by omega)).mp hc1
      exact kx91 y su gr (hy1) H locs ls (hP.sub [0, 1, 2, 3, 4, 5, 6, 7] rfl) (hD.sub [0, 1, 2, 3, 4, 5, 6, 7] (by decide) rfl) hS (lv_sub hl [1] rfl)
    ·
      have hlt : y < me := by
        rcases Nat.lt_or_ge y (me) with z | z
        · exact z
        · exact absurd (nI_le z (by omega)) hc1
      refine lv_iload hx hb dX5_clashesOf_12 (lv_at hl 6 rfl) ?_
      refine lv_iload hx hb dX5_clashesOf_14 (lv_at hl 7 rfl) ?_
      refine lv_aload_n hx hb dX5_clashesOf_16 rfl (lv_at hl 3 rfl) ?_
      refine va_get (D := D) (ci := 9) (v := .ref (ob2 2)) (C := RX9) (T := TX9) (N := 12) hx hb hts hin_X9 hown hK hP 3 rfl rfl 10 (by decide) (hts (.fieldLink RX5 48 "ClashFree$Table" "keys" "LClashFree$Keys;") (List.mem_of_getElem? (i := 3) rfl)) (fun _ h9 => h9) rfl dX5_clashesOf_17 ?_
      refine lv_aload_n hx hb dX5_clashesOf_20 rfl (lv_at hl 3 rfl) ?_
      refine va_get (D := D) (ci := 9) (v := .ref (ob2 5)) (C := RX9) (T := TX9) (N := 12) hx hb hts hin_X9 hown hK hP 3 rfl rfl 11 (by decide) (hts (.fieldLink RX5 61 "ClashFree$Table" "layout" "LClashFree$Layout;") (List.mem_of_getElem? (i := 4) rfl)) (fun _ h9 => h9) rfl dX5_clashesOf_21 ?_
      refine va_get (D := D) (ci := 3) (v := .ref (ob2 12)) (C := RX3) (T := TX3) (N := 13) hx hb hts hin_X3 hown hK hP 6 rfl rfl 11 (by decide) (hts (.fieldLink RX5 78 "ClashFree$Layout" "order" "[I") (List.mem_of_getElem? (i := 5) rfl)) (fun _ h9 => h9) rfl dX5_clashesOf_24 ?_
      refine lv_iload hx hb dX5_clashesOf_27 (lv_at hl 0 rfl) ?_
      refine va_iald hx hb hK hP 7 0 rfl rfl (vp_in_nI (by omega) (by decide)) dX5_clashesOf_29 ?_
      refine lv_topi (fun v2 ev2 => ?_)
      have hPc := hP.sub (ws' := [(ob2 2, .inr (2, [.int (nI cn2), .ref (ob2 3), .ref (ob2 4)])), (ob2 3, .inl (cI, 160, .inl fk2))]) [4, 5] rfl
      have hKc := hK.sub (tys' := [(cI, .int)]) [0] rfl
      have hFc := va_free0 hS hA
      refine va_calli (va_runV (As := [.int v2]) (rest := [.int z5, .int z4]) ⟨hx, hb, hml, hown, hts⟩ (k_keyAt l D _ ob2 cI cn2 fk2 v2 hc2) (cwV 1 hts g_k_clashesOf_k_keyAt_81 rfl rfl rfl (by decide +kernel) ⟨(Nat.le_of_ble_eq_true rfl), (Nat.le_of_ble_eq_true rfl)⟩) (PcRC_V (q0 := 0) hPc hKc hN rfl rfl) rfl rfl hl.1 rfl (lv_room (Nat.le_of_ble_eq_true rfl)) dX5_clashesOf_30 ⟨(Nat.le_of_ble_eq_true rfl), (Nat.le_of_ble_eq_true rfl)⟩) hS (fun q _ h => hFc q h) hFc (fun r3 uu tt H locs htt hvm hw hB hz1 hk1 hS => ?_)
      have hP := va_keep hP hk1
      try dsimp only at hw
      clear hB hz1 hk1 hFc hPc hKc
      obtain ⟨hka_r3, hkb_r3⟩ := hw
      refine lv_iload_n hx hb dX5_clashesOf_33 rfl (lv_at hl 5 rfl) ?_
      have hPc := hP.sub (ws' := []) [] rfl
      have hKc := hK.sub (tys' := []) [] rfl
      have hFc := va_free0 hS hA
      refine va_calli (va_runSN (As := [.int z4, .int z5, .int r3, .int z3]) (rest := []) ⟨hx, hb, hml, hown, hts⟩ (k_spot l D _ cI z4 z5 r3 z3) ⟨va_cnB 4 hts g_k_clashesOf_k_spot_86 rfl rfl rfl hN.2.2.2.2.2.1 (hts (.initialized RX10) (List.mem_of_getElem? (i := 10) rfl)) (by decide +kernel) ⟨(Nat.le_of_ble_eq_true rfl), (Nat.le_of_ble_eq_true rfl)⟩, (hts (.static yX10_spot) (List.mem_of_getElem? (i := 11) rfl)), trivial⟩ (PcRC_S hPc hKc hN) rfl rfl hl.1 rfl (lv_room (Nat.le_of_ble_eq_true rfl)) dX5_clashesOf_34 ⟨(Nat.le_of_ble_eq_true rfl), (Nat.le_of_ble_eq_true rfl)⟩) hS (fun q _ h => hFc q h) hFc (fun r4 uu tt H locs htt hvm hw hB hz1 hk1 hS => ?_)
      have hP := va_keep hP hk1
      try dsimp only at hw
      clear hB hz1 hk1 hFc hPc hKc
      have hsp_r4 := hw
      refine lv_istore (lv' := [(8, .int r4), (7, .int (nI y)), (6, .int su), (0, .ref (ob 0)), (1, .ref (ob2 0)), (2, .int (nI me)), (3, .int z3), (4, .int z4), (5, .int z5)]) hx hb dX5_clashesOf_37 hl (by decide) rfl (fun ls hl => ?_)
      refine lv_aload_n hx hb dX5_clashesOf_39 rfl (lv_at hl 3 rfl) ?_
      refine va_get (D := D) (ci := 5) (v := .ref (ob 5)) (C := RX5) (T := TX5) (N := 3) hx hb hts hin_X5 hown hK hP 0 rfl rfl 1 (by decide) (hts (.fieldLink RX5 21 "ClashFree$Paper" "layout" "LClashFree$Layout;") (List.mem_of_getElem? (i := 1) rfl)) (fun _ h9 => h9) rfl dX5_clashesOf_40 ?_
      refine va_get (D := D) (ci := 3) (v := .ref (ob 11)) (C := RX3) (T := TX3) (N := 13) hx hb hts hin_X3 hown hK hP 1 rfl rfl 10 (by decide) (hts (.fieldLink RX5 90 "ClashFree$Layout" "lies" "[I") (List.mem_of_getElem? (i := 2) rfl)) (fun _ h9 => h9) rfl dX5_clashesOf_43 ?_
      refine lv_iload hx hb dX5_clashesOf_46 (lv_at hl 1 rfl) ?_
      refine lv_iload hx hb dX5_clashesOf_48 (lv_at hl 0 rfl) ?_
      refine va_iast hx hb hK hP hD hS 2 0 rfl rfl (vp_in_nI (by omega) (by decide)) dX5_clashesOf_50 (fun H locs hP hD hS => ?_)
      have hP : va_P D vwCl [(ob 0, .inr (5, [.ref (ob 1), .ref (ob 5), .int po])), (ob 5, .inr (3, gY ob (nI nb) (nI ka) (nI kb) sm (nI ln))), (ob 11, .inl (cI, 160, .inl (upd gr (Int32.toNatClampNeg (nI y)) r4))), (ob2 0, .inr (9, gT ob2 tb2 ts2 tg2 tl2 tc2 tr2 tu2 tv2 tw2)), (ob2 2, .inr (2, [.int (nI cn2), .ref (ob2 3), .ref (ob2 4)])), (ob2 3, .inl (cI, 160, .inl fk2)), (ob2 5, .inr (3, gY ob2 (nI nb2) (nI ka2) (nI kb2) sm2 (nI ln2))), (ob2 12, .inl (cI, 160, .inl fo2))] H := hP
      have hD : va_D A [(ob 0, .inr (5, [.ref (ob 1), .ref (ob 5), .int po])), (ob 5, .inr (3, gY ob (nI nb) (nI ka) (nI kb) sm (nI ln))), (ob 11, .inl (cI, 160, .inl (upd gr (Int32.toNatClampNeg (nI y)) r4))), (ob2 0, .inr (9, gT ob2 tb2 ts2 tg2 tl2 tc2 tr2 tu2 tv2 tw2)), (ob2 2, .inr (2, [.int (nI cn2), .ref (ob2 3), .ref (ob2 4)])), (ob2 3, .inl (cI, 160, .inl fk2)), (ob2 5, .inr (3, gY ob2 (nI nb2) (nI ka2) (nI kb2) sm2 (nI ln2))), (ob2 12, .inl (cI, 160, .inl fo2))] := hD
      generalize upd gr (Int32.toNatClampNeg (nI y)) r4 = g5 at hP hD
      refine lv_iconst (v := 0) hx hb dX5_clashesOf_51 (by decide) ?_
      refine lv_istore (lv' := [(9, .int 0), (8, .int r4), (7, .int (nI y)), (6, .int su), (0, .ref (ob 0)), (1, .ref (ob2 0)), (2, .int (nI me)), (3, .int z3), (4, .int z4), (5, .int z5)]) hx hb dX5_clashesOf_52 hl (by decide) rfl (fun ls hl => ?_)
      refine lk_co2 l D ob ob2 cI po nb ka kb sm ln tb2 ts2 tg2 tl2 tc2 tr2 tu2 tv2 tw2 cn2 fk2 nb2 ka2 kb2 sm2 ln2 fo2 me z3 z4 z5 y r4 g5 (hme) (hc2) (hlt) hx hb hml hown hts hA (hK.sub [0] rfl) hN ?_ (y + 1) 0 su (Nat.zero_le _) (by omega) _ _ _ (hP.sub [0, 1, 2, 3, 4, 5, 6, 7] rfl) (hD.sub [0, 1, 2, 3, 4, 5, 6, 7] (by decide) rfl) hS (lv_sub hl [0, 1, 2, 3, 4, 5, 6, 7, 8, 9] rfl)
      intro x_6 su_7 hx1_8 H locs ls hP hD hS hl
      refine lv_iinc (v := nI (y + 1)) (lv' := [(7, .int (nI (y + 1))), (6, .int su_7), (0, .ref (ob 0)), (1, .ref (ob2 0)), (2, .int (nI me)), (3, .int z3), (4, .int z4), (5, .int z5)]) hx hb dX5_clashesOf_85 hl (k := 0) rfl (nI_1 _) (by decide) rfl (fun ls hl => ?_)
      refine lv_goto (tgt := 6) hx hb dX5_clashesOf_88 (by decide) ?_
      exact ih (y + 1) su_7 g5 (by omega) (by omega) H locs ls (hP.sub [0, 1, 2, 3, 4, 5, 6, 7] rfl) (hD.sub [0, 1, 2, 3, 4, 5, 6, 7] (by decide) rfl) hS (lv_sub hl [0, 1, 2, 3, 4, 5, 6, 7] rfl)
set_option maxHeartbeats 4000000 in
set_option maxRecDepth 100000 in
theorem k_clashesOf (l : Launch) (D : va_G) (sz : Nat) (ob : Nat → Nat) (ob2 : Nat → Nat) (cI : ClassId) (po : Int32) (nb : Nat) (ka : Nat) (kb : Nat) (sm : Int32) (ln : Nat) (fr : Nat → Int32) (tb2 : Int32) (ts2 : Int32) (tg2 : Int32) (tl2 : Int32) (tc2 : Int32) (tr2 : Int32) (tu2 : Int32) (tv2 : Int32) (tw2 : Int32) (cn2 : Nat) (fk2 : Nat → Int32) (nb2 : Nat) (ka2 : Nat) (kb2 : Nat) (sm2 : Int32) (ln2 : Nat) (fo2 : Nat → Int32) (me : Nat) (z3 : Int32) (z4 : Int32) (z5 : Int32) (hme : me ≤ 160) (hc2 : cn2 ≤ 160) : Met l yX5_clashesOf wp_k_clashesOf ({ frames := 1, cells := 0, slots := 0, locals := 60 }) (PcWC D [.ref (ob 0), .ref (ob2 0), .int (nI me), .int z3, .int z4, .int z5] sz [(ob 0, .inr (5, [.ref (ob 1), .ref (ob 5), .int po])), (ob 5, .inr (3, gY ob (nI nb) (nI ka) (nI kb) sm (nI ln))), (ob 11, .inl (cI, 160, .inl fr)), (ob2 0, .inr (9, gT ob2 tb2 ts2 tg2 tl2 tc2 tr2 tu2 tv2 tw2)), (ob2 2, .inr (2, [.int (nI cn2), .ref (ob2 3), .ref (ob2 4)])), (ob2 3, .inl (cI, 160, .inl fk2)), (ob2 5, .inr (3, gY ob2 (nI nb2) (nI ka2) (nI kb2) sm2 (nI ln2))), (ob2 12, .inl (cI, 160, .inl fo2))] [(cI, .int)]) (va_Qi (fun (r : Int32) (u : (Nat → Int32)) => True) (fun (u : (Nat → Int32)) t => va_P D vwCl [(ob 0, .inr (5, [.ref (ob 1), .ref (ob 5), .int po])), (ob 5, .inr (3, gY ob (nI nb) (nI ka) (nI kb) sm (nI ln))), (ob 11, .inl (cI, 160, .inl u)), (ob2 0, .inr (9, gT ob2 tb2 ts2 tg2 tl2 tc2 tr2 tu2 tv2 tw2)), (ob2 2, .inr (2, [.int (nI cn2), .ref (ob2 3), .ref (ob2 4)])), (ob2 3, .inl (cI, 160, .inl fk2)), (ob2 5, .inr (3, gY ob2 (nI nb2) (nI ka2) (nI kb2) sm2 (nI ln2))), (ob2 12, .inl (cI, 160, .inl fo2))] t.heap ∧ va_K D vwCl [(cI, .int)] t ∧ va_D (va_A [(ob 0, .inr (5, [.ref (ob 1), .ref (ob 5), .int po])), (ob 5, .inr (3, gY ob (nI nb) (nI ka) (nI kb) sm (nI ln))), (ob 11, .inl (cI, 160, .inl fr)), (ob2 0, .inr (9, gT ob2 tb2 ts2 tg2 tl2 tc2 tr2 tu2 tv2 tw2)), (ob2 2, .inr (2, [.int (nI cn2), .ref (ob2 3), .ref (ob2 4)])), (ob2 3, .inl (cI, 160, .inl fk2)), (ob2 5, .inr (3, gY ob2 (nI nb2) (nI ka2) (nI kb2) sm2 (nI ln2))), (ob2 12, .inl (cI, 160, .inl fo2))] sz) [(ob 0, .inr (5, [.ref (ob 1), .ref (ob 5), .int po])), (ob 5, .inr (3, gY ob (nI nb) (nI ka) (nI kb) sm (nI ln))), (ob 11, .inl (cI, 160, .inl u)), (ob2 0, .inr (9, gT ob2 tb2 ts2 tg2 tl2 tc2 tr2 tu2 tv2 tw2)), (ob2 2, .inr (2, [.int (nI cn2), .ref (ob2 3), .ref (ob2 4)])), (ob2 3, .inl (cI, 160, .inl fk2)), (ob2 5, .inr (3, gY ob2 (nI nb2) (nI ka2) (nI kb2) sm2 (nI ln2))), (ob2 12, .inl (cI, 160, .inl fo2))]) (va_A [(ob 0, .inr (5, [.ref (ob 1), .ref (ob 5), .int po])), (ob 5, .inr (3, gY ob (nI nb) (nI ka) (nI kb) sm (nI ln))), (ob 11, .inl (cI, 160, .inl fr)), (ob2 0, .inr (9, gT ob2 tb2 ts2 tg2 tl2 tc2 tr2 tu2 tv2 tw2)), (ob2 2, .inr (2, [.int (nI cn2), .ref (ob2 3), .ref (ob2 4)])), (ob2 3, .inl (cI, 160, .inl fk2)), (ob2 5, .inr (3, gY ob2 (nI nb2) (nI ka2) (nI kb2) sm2 (nI ln2))), (ob2 12, .inl (cI, 160, .inl fo2))] sz)) 0 0 (va_A [(ob 0, .inr (5, [.ref (ob 1), .ref (ob 5), .int po])), (ob 5, .inr (3, gY ob (nI nb) (nI ka) (nI kb) sm (nI ln))), (ob 11, .inl (cI, 160, .inl fr)), (ob2 0, .inr (9, gT ob2 tb2 ts2 tg2 tl2 tc2 tr2 tu2 tv2 tw2)), (ob2 2, .inr (2, [.int (nI cn2), .ref (ob2 3), .ref (ob2 4)])), (ob2 3, .inl (cI, 160, .inl fk2)), (ob2 5, .inr (3, gY ob2 (nI nb2) (nI ka2) (nI kb2) sm2 (nI ln2))), (ob2 12, .inl (cI, 160, .inl fo2))] sz) := by
  refine Met.ofW (cc := cX5_clashesOf) (maxL := 10) (ret := (some .int)) (by decide) rfl ?_
  intro p e s m args below meth c s₁ B hml hv
  obtain ⟨rfl, hsz, hP, hK, hD0, hN⟩ := hv
  have hx := B.exec
  have hb := B.bytes
  have hr := B.returns
  have hts := atoms_spec (ws := wp_k_clashesOf) B.pre
  have hin_X5 : ∀ w ∈ wsX50, w ∈ wp_k_clashesOf := fun _ h => (List.mem_cons_of_mem _ (List.mem_append_right _ (List.mem_append_right _ (List.mem_append_right _ (List.mem_append_left _ h)))))
  have hin_X3 : ∀ w ∈ wsX30, w ∈ wp_k_clashesOf := fun _ h => (List.mem_cons_of_mem _ (List.mem_append_right _ (List.mem_append_right _ (List.mem_append_right _ (List.mem_append_right _ (List.mem_append_left _ h))))))
  have hin_X9 : ∀ w ∈ wsX90, w ∈ wp_k_clashesOf := fun _ h => (List.mem_cons_of_mem _ (List.mem_append_right _ (List.mem_append_right _ (List.mem_append_right _ (List.mem_append_right _ (List.mem_append_right _ (List.mem_append_left _ h)))))))
  have hown : s.vm.findClass RX5 = some m.cls := findClass_of_methodNamed B.named
  have hlocks := B.notSynchronized
  subst hsz
  have hD := hD0.self (sz := s.heap.size)
  generalize hAe : va_A [(ob 0, .inr (5, [.ref (ob 1), .ref (ob 5), .int po])), (ob 5, .inr (3, gY ob (nI nb) (nI ka) (nI kb) sm (nI ln))), (ob 11, .inl (cI, 160, .inl fr)), (ob2 0, .inr (9, gT ob2 tb2 ts2 tg2 tl2 tc2 tr2 tu2 tv2 tw2)), (ob2 2, .inr (2, [.int (nI cn2), .ref (ob2 3), .ref (ob2 4)])), (ob2 3, .inl (cI, 160, .inl fk2)), (ob2 5, .inr (3, gY ob2 (nI nb2) (nI ka2) (nI kb2) sm2 (nI ln2))), (ob2 12, .inl (cI, 160, .inl fo2))] s.heap.size = A at hD ⊢
  have hA : ∀ q : Nat, s.heap.size ≤ q → A q := fun q h => by rw [← hAe]; exact Or.inr h
  have hS : va_S A s.heap s.heap [] := va_S.rf
  have hP : va_P D vwCl [(ob 0, .inr (5, [.ref (ob 1), .ref (ob 5), .int po])), (ob 5, .inr (3, gY ob (nI nb) (nI ka) (nI kb) sm (nI ln))), (ob 11, .inl (cI, 160, .inl fr)), (ob2 0, .inr (9, gT ob2 tb2 ts2 tg2 tl2 tc2 tr2 tu2 tv2 tw2)), (ob2 2, .inr (2, [.int (nI cn2), .ref (ob2 3), .ref (ob2 4)])), (ob2 3, .inl (cI, 160, .inl fk2)), (ob2 5, .inr (3, gY ob2 (nI nb2) (nI ka2) (nI kb2) sm2 (nI ln2))), (ob2 12, .inl (cI, 160, .inl fo2))] s.heap := hP
  have hl := lv_entry ([.ref (ob 0), .ref (ob2 0), .int (nI me), .int z3, .int z4, .int z5]) (n := 10) (Nat.le_of_ble_eq_true rfl)
  rw [lg_entry_eq]
  generalize (lg_sl ([.ref (ob 0), .ref (ob2 0), .int (nI me), .int z3, .int z4, .int z5]) ++ List.replicate (10 - (lg_sl ([.ref (ob 0), .ref (ob2 0), .int (nI me), .int z3, .int z4, .int z5])).length) Slot.unset).toArray = ls at hl ⊢
  have hl : lv_has ls 10 [(0, .ref (ob 0)), (1, .ref (ob2 0)), (2, .int (nI me)), (3, .int z3), (4, .int z4), (5, .int z5)] := hl
  refine lv_iconst (v := 0) hx hb dX5_clashesOf_0 (by decide) ?_
  refine lv_istore (lv' := [(6, .int 0), (0, .ref (ob 0)), (1, .ref (ob2 0)), (2, .int (nI me)), (3, .int z3), (4, .int z4), (5, .int z5)]) hx hb dX5_clashesOf_1 hl (by decide) rfl (fun ls hl => ?_)
  refine lv_iconst (v := 0) hx hb dX5_clashesOf_3 (by decide) ?_
  refine lv_istore (lv' := [(7, .int 0), (6, .int 0), (0, .ref (ob 0)), (1, .ref (ob2 0)), (2, .int (nI me)), (3, .int z3), (4, .int z4), (5, .int z5)]) hx hb dX5_clashesOf_4 hl (by decide) rfl (fun ls hl => ?_)
  refine lk_co1 l D ob ob2 cI po nb ka kb sm ln tb2 ts2 tg2 tl2 tc2 tr2 tu2 tv2 tw2 cn2 fk2 nb2 ka2 kb2 sm2 ln2 fo2 me z3 z4 z5 (hme) (hc2) hx hb hml hown hts hA (hK.sub [0] rfl) hN ?_ (me + 1) 0 0 fr (Nat.zero_le _) (by omega) _ _ _ (hP.sub [0, 1, 2, 3, 4, 5, 6, 7] rfl) (hD.sub [0, 1, 2, 3, 4, 5, 6, 7] (by decide) rfl) hS (lv_sub hl [0, 1, 2, 3, 4, 5, 6, 7] rfl)
  intro y_1 su_2 gr_3 hy1_4 H locs ls hP hD hS hl
  refine lv_iload hx hb dX5_clashesOf_91 (lv_at hl 0 rfl) ?_
  exact W.iret (v := su_2) hx hb hr (fun t ht hW => ⟨⟨su_2, gr_3, rfl, trivial, by rw [ht]; exact hP.sub [0, 1, 2, 3, 4, 5, 6, 7] rfl, va_K.moved hW.alike (hK.sub [0] rfl), hD.sub [0, 1, 2, 3, 4, 5, 6, 7] (by decide) rfl⟩, hS.F ht⟩) hS.2.2 dX5_clashesOf_93

def own_k_clashesC : List Cond := [.fieldLink RX5 61 "ClashFree$Table" "layout" "LClashFree$Layout;", .methodLink RX5 68 yX3_gather, .instanceMethod yX3_gather, .selects RX3 yX3_gather yX3_gather, .initialized RX3, .methodLink RX5 71 yX3_roomsOf, .instanceMethod yX3_roomsOf, .selects RX3 yX3_roomsOf yX3_roomsOf, .methodLink RX5 74 yX5_clashesOf, .instanceMethod yX5_clashesOf, .selects RX5 yX5_clashesOf yX5_clashesOf, .initialized RX5]
def wp_k_clashesC : List Cond := .code yX5_clashes cX5_clashes 6 (some .int) :: (own_k_clashesC ++ (wp_k_gather ++ (wp_k_roomsOf ++ (wp_k_clashesOf ++ (wsX90 ++ ([] : List Cond))))))
set_option maxRecDepth 20000 in
theorem inown_k_clashesC : ∀ w ∈ own_k_clashesC, w ∈ lw_tbl := mem_places [521, 832, 684, 685, 109, 833, 601, 602, 834, 836, 3, 107] (by decide +kernel)
set_option maxRecDepth 20000 in
theorem in_k_clashesC : ∀ w ∈ wp_k_clashesC, w ∈ lw_tbl := List.forall_mem_cons.mpr ⟨List.mem_of_getElem? (i := 831) (by decide +kernel), List.forall_mem_append.mpr ⟨inown_k_clashesC, List.forall_mem_append.mpr ⟨in_k_gather, List.forall_mem_append.mpr ⟨in_k_roomsOf, List.forall_mem_append.mpr ⟨in_k_clashesOf, List.forall_mem_append.mpr ⟨lwb_X9, fun _ h => absurd h List.not_mem_nil⟩⟩⟩⟩⟩⟩
set_option maxRecDepth 20000 in
theorem good_k_clashesC : wp_k_clashesC.all goodWord = true := by decide +kernel
set_option maxRecDepth 20000 in
theorem g_k_clashesC_k_gather_68 : GoodIn wp_k_clashesC (wsV RX5 68 RX3 yX3_gather wp_k_gather) := goodIn_sub (List.forall_mem_append.mpr ⟨List.forall_mem_cons.mpr ⟨(List.mem_of_getElem? (i := 2) rfl), List.forall_mem_cons.mpr ⟨(List.mem_of_getElem? (i := 3) rfl), List.forall_mem_cons.mpr ⟨(List.mem_of_getElem? (i := 4) rfl), List.forall_mem_cons.mpr ⟨(List.mem_of_getElem? (i := 5) rfl), fun _ h => absurd h List.not_mem_nil⟩⟩⟩⟩, (fun _ h => (List.mem_cons_of_mem _ (List.mem_append_right _ (List.mem_append_left _ h))))⟩) (by decide +kernel)
set_option maxRecDepth 20000 in
theorem g_k_clashesC_k_roomsOf_71 : GoodIn wp_k_clashesC (wsV RX5 71 RX3 yX3_roomsOf wp_k_roomsOf) := goodIn_sub (List.forall_mem_append.mpr ⟨List.forall_mem_cons.mpr ⟨(List.mem_of_getElem? (i := 6) rfl), List.forall_mem_cons.mpr ⟨(List.mem_of_getElem? (i := 7) rfl), List.forall_mem_cons.mpr ⟨(List.mem_of_getElem? (i := 8) rfl), List.forall_mem_cons.mpr ⟨(List.mem_of_getElem? (i := 5) rfl), fun _ h => absurd h List.not_mem_nil⟩⟩⟩⟩, (fun _ h => (List.mem_cons_of_mem _ (List.mem_append_right _ (List.mem_append_right _ (List.mem_append_left _ h)))))⟩) (by decide +kernel)
set_option maxRecDepth 20000 in
theorem g_k_clashesC_k_clashesOf_74 : GoodIn wp_k_clashesC (wsV RX5 74 RX5 yX5_clashesOf wp_k_clashesOf) := goodIn_sub (List.forall_mem_append.mpr ⟨List.forall_mem_cons.mpr ⟨(List.mem_of_getElem? (i := 9) rfl), List.forall_mem_cons.mpr ⟨(List.mem_of_getElem? (i := 10) rfl), List.forall_mem_cons.mpr ⟨(List.mem_of_getElem? (i := 11) rfl), List.forall_mem_cons.mpr ⟨(List.mem_of_getElem? (i := 12) rfl), fun _ h => absurd h List.not_mem_nil⟩⟩⟩⟩, (fun _ h => (List.mem_cons_of_mem _ (List.mem_append_right _ (List.mem_append_right _ (List.mem_append_right _ (List.mem_append_left _ h))))))⟩) (by decide +kernel)
set_option maxHeartbeats 4000000 in
set_option maxRecDepth 100000 in
theorem k_clashesC (l : Launch) (D : va_G) (sz : Nat) (ob : Nat → Nat) (ob2 : Nat → Nat) (cI : ClassId) (po : Int32) (nb : Nat) (ka : Nat) (kb : Nat) (sm : Int32) (ln : Nat) (fr : Nat → Int32) (tb2 : Int32) (ts2 : Int32) (tg2 : Int32) (tl2 : Int32) (tc2 : Int32) (tr2 : Int32) (tu2 : Int32) (tv2 : Int32) (tw2 : Int32) (cn2 : Nat) (fk2 : Nat → Int32) (nb2 : Nat) (ka2 : Nat) (kb2 : Nat) (sm2 : Int32) (ln2 : Nat) (fo2 : Nat → Int32) (ff2 : Nat → Int32) (fj2 : Nat → Int32) (z2 : Int32) (z3 : Int32) (z4 : Int32) (hc2 : cn2 ≤ 160) (hnb2 : nb2 ≤ 2048) (hln2 : ln2 ≤ 160) (hO2 : OrC fo2) : Met l yX5_clashes wp_k_clashesC ({ frames := 2, cells := 0, slots := 0, locals := 89 }) (PcWC D [.ref (ob 0), .ref (ob2 0), .int z2, .int z3, .int z4] sz [(ob 0, .inr (5, [.ref (ob 1), .ref (ob 5), .int po])), (ob 5, .inr (3, gY ob (nI nb) (nI ka) (nI kb) sm (nI ln))), (ob 11, .inl (cI, 160, .inl fr)), (ob2 0, .inr (9, gT ob2 tb2 ts2 tg2 tl2 tc2 tr2 tu2 tv2 tw2)), (ob2 2, .inr (2, [.int (nI cn2), .ref (ob2 3), .ref (ob2 4)])), (ob2 3, .inl (cI, 160, .inl fk2)), (ob2 5, .inr (3, gY ob2 (nI nb2) (nI ka2) (nI kb2) sm2 (nI ln2))), (ob2 12, .inl (cI, 160, .inl fo2)), (ob2 7, .inl (cI, 2048, .inl ff2)), (ob2 10, .inl (cI, 160, .inl fj2))] [(cI, .int)]) (va_Qi (fun (r : Int32) (u : (Nat → Int32) × (Nat → Int32)) => OrC u.2) (fun (u : (Nat → Int32) × (Nat → Int32)) t => va_P D vwCl [(ob 0, .inr (5, [.ref (ob 1), .ref (ob 5), .int po])), (ob 5, .inr (3, gY ob (nI nb) (nI ka) (nI kb) sm (nI ln))), (ob 11, .inl (cI, 160, .inl u.1)), (ob2 0, .inr (9, gT ob2 tb2 ts2 tg2 tl2 tc2 tr2 tu2 tv2 tw2)), (ob2 2, .inr (2, [.int (nI cn2), .ref (ob2 3), .ref (ob2 4)])), (ob2 3, .inl (cI, 160, .inl fk2)), (ob2 5, .inr (3, gY ob2 (nI nb2) (nI ka2) (nI kb2) sm2 (nI ln2))), (ob2 12, .inl (cI, 160, .inl u.2)), (ob2 7, .inl (cI, 2048, .inl ff2)), (ob2 10, .inl (cI, 160, .inl fj2))] t.heap ∧ va_K D vwCl [(cI, .int)] t ∧ va_D (va_A [(ob 0, .inr (5, [.ref (ob 1), .ref (ob 5), .int po])), (ob 5, .inr (3, gY ob (nI nb) (nI ka) (nI kb) sm (nI ln))), (ob 11, .inl (cI, 160, .inl fr)), (ob2 0, .inr (9, gT ob2 tb2 ts2 tg2 tl2 tc2 tr2 tu2 tv2 tw2)), (ob2 2, .inr (2, [.int (nI cn2), .ref (ob2 3), .ref (ob2 4)])), (ob2 3, .inl (cI, 160, .inl fk2)), (ob2 5, .inr (3, gY ob2 (nI nb2) (nI ka2) (nI kb2) sm2 (nI ln2))), (ob2 12, .inl (cI, 160, .inl fo2)), (ob2 7, .inl (cI, 2048, .inl ff2)), (ob2 10, .inl (cI, 160, .inl fj2))] sz) [(ob 0, .inr (5, [.ref (ob 1), .ref (ob 5), .int po])), (ob 5, .inr (3, gY ob (nI nb) (nI ka) (nI kb) sm (nI ln))), (ob 11, .inl (cI, 160, .inl u.1)), (ob2 0, .inr (9, gT ob2 tb2 ts2 tg2 tl2 tc2 tr2 tu2 tv2 tw2)), (ob2 2, .inr (2, [.int (nI cn2), .ref (ob2 3), .ref (ob2 4)])), (ob2 3, .inl (cI, 160, .inl fk2)), (ob2 5, .inr (3, gY ob2 (nI nb2) (nI ka2) (nI kb2) sm2 (nI ln2))), (ob2 12, .inl (cI, 160, .inl u.2)), (ob2 7, .inl (cI, 2048, .inl ff2)), (ob2 10, .inl (cI, 160, .inl fj2))]) (va_A [(ob 0, .inr (5, [.ref (ob 1), .ref (ob 5), .int po])), (ob 5, .inr (3, gY ob (nI nb) (nI ka) (nI kb) sm (nI ln))), (ob 11, .inl (cI, 160, .inl fr)), (ob2 0, .inr (9, gT ob2 tb2 ts2 tg2 tl2 tc2 tr2 tu2 tv2 tw2)), (ob2 2, .inr (2, [.int (nI cn2), .ref (ob2 3), .ref (ob2 4)])), (ob2 3, .inl (cI, 160, .inl fk2)), (ob2 5, .inr (3, gY ob2 (nI nb2) (nI ka2) (nI kb2) sm2 (nI ln2))), (ob2 12, .inl (cI, 160, .inl fo2)), (ob2 7, .inl (cI, 2048, .inl ff2)), (ob2 10, .inl (cI, 160, .inl fj2))] sz)) 0 0 (va_A [(ob 0, .inr (5, [.ref (ob 1), .ref (ob 5), .int po])), (ob 5, .inr (3, gY ob (nI nb) (nI ka) (nI kb) sm (nI ln))), (ob 11, .inl (cI, 160, .inl fr)), (ob2 0, .inr (9, gT ob2 tb2 ts2 tg2 tl2 tc2 tr2 tu2 tv2 tw2)), (ob2 2, .inr (2, [.int (nI cn2), .ref (ob2 3), .ref (ob2 4)])), (ob2 3, .inl (cI, 160, .inl fk2)), (ob2 5, .inr (3, gY ob2 (nI nb2) (nI ka2) (nI kb2) sm2 (nI ln2))), (ob2 12, .inl (cI, 160, .inl fo2)), (ob2 7, .inl (cI, 2048, .inl ff2)), (ob2 10, .inl (cI, 160, .inl fj2))] sz) := by
  refine Met.ofW (cc := cX5_clashes) (maxL := 6) (ret := (some .int)) (by decide) rfl ?_
  intro p e s m args below meth c s₁ B hml hv
  obtain ⟨rfl, hsz, hP, hK, hD0, hN⟩ := hv
  have hx := B.exec
  have hb := B.bytes
  have hr := B.returns
  have hts := atoms_spec (ws := wp_k_clashesC) B.pre
  have hin_X9 : ∀ w ∈ wsX90, w ∈ wp_k_clashesC := fun _ h => (List.mem_cons_of_mem _ (List.mem_append_right _ (List.mem_append_right _ (List.mem_append_right _ (List.mem_append_right _ (List.mem_append_left _ h))))))
  have hown : s.vm.findClass RX5 = some m.cls := findClass_of_methodNamed B.named
  have hlocks := B.notSynchronized
  subst hsz
  have hD := hD0.self (sz := s.heap.size)
  generalize hAe : va_A [(ob 0, .inr (5, [.ref (ob 1), .ref (ob 5), .int po])), (ob 5, .inr (3, gY ob (nI nb) (nI ka) (nI kb) sm (nI ln))), (ob 11, .inl (cI, 160, .inl fr)), (ob2 0, .inr (9, gT ob2 tb2 ts2 tg2 tl2 tc2 tr2 tu2 tv2 tw2)), (ob2 2, .inr (2, [.int (nI cn2), .ref (ob2 3), .ref (ob2 4)])), (ob2 3, .inl (cI, 160, .inl fk2)), (ob2 5, .inr (3, gY ob2 (nI nb2) (nI ka2) (nI kb2) sm2 (nI ln2))), (ob2 12, .inl (cI, 160, .inl fo2)), (ob2 7, .inl (cI, 2048, .inl ff2)), (ob2 10, .inl (cI, 160, .inl fj2))] s.heap.size = A at hD ⊢
  have hA : ∀ q : Nat, s.heap.size ≤ q → A q := fun q h => by rw [← hAe]; exact Or.inr h
  have hS : va_S A s.heap s.heap [] := va_S.rf
  have hP : va_P D vwCl [(ob 0, .inr (5, [.ref (ob 1), .ref (ob 5), .int po])), (ob 5, .inr (3, gY ob (nI nb) (nI ka) (nI kb) sm (nI ln))), (ob 11, .inl (cI, 160, .inl fr)), (ob2 0, .inr (9, gT ob2 tb2 ts2 tg2 tl2 tc2 tr2 tu2 tv2 tw2)), (ob2 2, .inr (2, [.int (nI cn2), .ref (ob2 3), .ref (ob2 4)])), (ob2 3, .inl (cI, 160, .inl fk2)), (ob2 5, .inr (3, gY ob2 (nI nb2) (nI ka2) (nI kb2) sm2 (nI ln2))), (ob2 12, .inl (cI, 160, .inl fo2)), (ob2 7, .inl (cI, 2048, .inl ff2)), (ob2 10, .inl (cI, 160, .inl fj2))] s.heap := hP
  have hl := lv_entry ([.ref (ob 0), .ref (ob2 0), .int z2, .int z3, .int z4]) (n := 6) (Nat.le_of_ble_eq_true rfl)
  rw [lg_entry_eq]
  generalize (lg_sl ([.ref (ob 0), .ref (ob2 0), .int z2, .int z3, .int z4]) ++ List.replicate (6 - (lg_sl ([.ref (ob 0), .ref (ob2 0), .int z2, .int z3, .int z4])).length) Slot.unset).toArray = ls at hl ⊢
  have hl : lv_has ls 6 [(0, .ref (ob 0)), (1, .ref (ob2 0)), (2, .int z2), (3, .int z3), (4, .int z4)] := hl
  refine lv_aload_n hx hb dX5_clashes_0 rfl (lv_at hl 1 rfl) ?_
  refine va_get (D := D) (ci := 9) (v := .ref (ob2 5)) (C := RX9) (T := TX9) (N := 12) hx hb hts hin_X9 hown hK hP 3 rfl rfl 11 (by decide) (hts (.fieldLink RX5 61 "ClashFree$Table" "layout" "LClashFree$Layout;") (List.mem_of_getElem? (i := 1) rfl)) (fun _ h9 => h9) rfl dX5_clashes_1 ?_
  refine lv_iload_n hx hb dX5_clashes_4 rfl (lv_at hl 2 rfl) ?_
  have hPc := hP.sub (ws' := [(ob2 5, .inr (3, gY ob2 (nI nb2) (nI ka2) (nI kb2) sm2 (nI ln2))), (ob2 10, .inl (cI, 160, .inl fj2)), (ob2 12, .inl (cI, 160, .inl fo2))]) [6, 9, 7] rfl
  have hKc := hK.sub (tys' := [(cI, .int)]) [0] rfl
  have hDc := hD.sub (ws' := [(ob2 5, .inr (3, gY ob2 (nI nb2) (nI ka2) (nI kb2) sm2 (nI ln2))), (ob2 10, .inl (cI, 160, .inl fj2)), (ob2 12, .inl (cI, 160, .inl fo2))]) [6, 9, 7] (by decide) rfl
  have hFc := va_free (wc := [(ob2 5, .inr (3, gY ob2 (nI nb2) (nI ka2) (nI kb2) sm2 (nI ln2))), (ob2 10, .inl (cI, 160, .inl fj2)), (ob2 12, .inl (cI, 160, .inl fo2))]) hD hS hA [6, 9, 7] rfl
  refine va_calli (va_runV (As := [.int z2]) (rest := []) ⟨hx, hb, hml, hown, hts⟩ (k_gather l D _ ob2 cI nb2 ka2 kb2 sm2 ln2 fj2 fo2 z2 hln2 hO2) (cwV 1 hts g_k_clashesC_k_gather_68 rfl rfl rfl (by decide +kernel) ⟨(Nat.le_of_ble_eq_true rfl), (Nat.le_of_ble_eq_true rfl)⟩) (PcWC_V (q0 := 0) hPc hKc hDc hN rfl rfl) rfl rfl hl.1 rfl (lv_room (Nat.le_of_ble_eq_true rfl)) dX5_clashes_5 ⟨(Nat.le_of_ble_eq_true rfl), (Nat.le_of_ble_eq_true rfl)⟩) hS (fun q _ h => hFc q h) hFc (fun r1 uu tt H locs htt hvm hw hB hz1 hk1 hS => ?_)
  obtain ⟨w2, rfl⟩ : ∃ z, z = uu := ⟨_, rfl⟩
  obtain ⟨hP1, hK1, hD1⟩ := hB
  rw [htt] at hP1
  have hK1 := va_K.moved hvm.symm hK1
  have hP1 : va_P D vwCl [(ob2 5, .inr (3, gY ob2 (nI nb2) (nI ka2) (nI kb2) sm2 (nI ln2))), (ob2 10, .inl (cI, 160, .inl fj2)), (ob2 12, .inl (cI, 160, .inl w2))] H := hP1
  obtain ⟨hP, hD⟩ := va_join (wr := [(ob 0, .inr (5, [.ref (ob 1), .ref (ob 5), .int po])), (ob 5, .inr (3, gY ob (nI nb) (nI ka) (nI kb) sm (nI ln))), (ob 11, .inl (cI, 160, .inl fr)), (ob2 0, .inr (9, gT ob2 tb2 ts2 tg2 tl2 tc2 tr2 tu2 tv2 tw2)), (ob2 2, .inr (2, [.int (nI cn2), .ref (ob2 3), .ref (ob2 4)])), (ob2 3, .inl (cI, 160, .inl fk2)), (ob2 7, .inl (cI, 2048, .inl ff2))]) (w1 := [(ob2 5, .inr (3, gY ob2 (nI nb2) (nI ka2) (nI kb2) sm2 (nI ln2))), (ob2 10, .inl (cI, 160, .inl fj2)), (ob2 12, .inl (cI, 160, .inl w2))]) hP hD [6, 9, 7] [0, 1, 2, 3, 4, 5, 8] rfl rfl (by decide) (by decide) hk1 hFc hP1 hD1
  have hP : va_P D vwCl [(ob 0, .inr (5, [.ref (ob 1), .ref (ob 5), .int po])), (ob 5, .inr (3, gY ob (nI nb) (nI ka) (nI kb) sm (nI ln))), (ob 11, .inl (cI, 160, .inl fr)), (ob2 0, .inr (9, gT ob2 tb2 ts2 tg2 tl2 tc2 tr2 tu2 tv2 tw2)), (ob2 2, .inr (2, [.int (nI cn2), .ref (ob2 3), .ref (ob2 4)])), (ob2 3, .inl (cI, 160, .inl fk2)), (ob2 7, .inl (cI, 2048, .inl ff2)), (ob2 5, .inr (3, gY ob2 (nI nb2) (nI ka2) (nI kb2) sm2 (nI ln2))), (ob2 10, .inl (cI, 160, .inl fj2)), (ob2 12, .inl (cI, 160, .inl w2))] H := hP
  have hD : va_D A [(ob 0, .inr (5, [.ref (ob 1), .ref (ob 5), .int po])), (ob 5, .inr (3, gY ob (nI nb) (nI ka) (nI kb) sm (nI ln))), (ob 11, .inl (cI, 160, .inl fr)), (ob2 0, .inr (9, gT ob2 tb2 ts2 tg2 tl2 tc2 tr2 tu2 tv2 tw2)), (ob2 2, .inr (2, [.int (nI cn2), .ref (ob2 3), .ref (ob2 4)])), (ob2 3, .inl (cI, 160, .inl fk2)), (ob2 7, .inl (cI, 2048, .inl ff2)), (ob2 5, .inr (3, gY ob2 (nI nb2) (nI ka2) (nI kb2) sm2 (nI ln2))), (ob2 10, .inl (cI, 160, .inl fj2)), (ob2 12, .inl (cI, 160, .inl w2))] := hD
  try dsimp only at hw
  clear hz1 hk1 hFc hPc hKc hDc
  obtain ⟨hO_ga3, ga3, hga3, rfl⟩ := hw
  refine lv_istore (lv' := [(5, .int (nI ga3)), (0, .ref (ob 0)), (1, .ref (ob2 0)), (2, .int z2), (3, .int z3), (4, .int z4)]) hx hb dX5_clashes_8 hl (by decide) rfl (fun ls hl => ?_)
  refine lv_aload_n hx hb dX5_clashes_10 rfl (lv_at hl 1 rfl) ?_
  refine lv_aload_n hx hb dX5_clashes_11 rfl (lv_at hl 2 rfl) ?_
  refine lv_iload hx hb dX5_clashes_12 (lv_at hl 0 rfl) ?_
  refine lv_aload_n hx hb dX5_clashes_14 rfl (lv_at hl 2 rfl) ?_
  refine va_get (D := D) (ci := 9) (v := .ref (ob2 5)) (C := RX9) (T := TX9) (N := 12) hx hb hts hin_X9 hown hK hP 3 rfl rfl 11 (by decide) (hts (.fieldLink RX5 61 "ClashFree$Table" "layout" "LClashFree$Layout;") (List.mem_of_getElem? (i := 1) rfl)) (fun _ h9 => h9) rfl dX5_clashes_15 ?_
  refine lv_iload_n hx hb dX5_clashes_18 rfl (lv_at hl 3 rfl) ?_
  have hPc := hP.sub (ws' := [(ob2 5, .inr (3, gY ob2 (nI nb2) (nI ka2) (nI kb2) sm2 (nI ln2))), (ob2 7, .inl (cI, 2048, .inl ff2))]) [7, 6] rfl
  have hKc := hK.sub (tys' := [(cI, .int)]) [0] rfl
  have hFc := va_free0 hS hA
  refine va_calli (va_runV (As := [.int z2]) (rest := [.int (nI ga3), .ref (ob2 0), .ref (ob 0)]) ⟨hx, hb, hml, hown, hts⟩ (k_roomsOf l D _ ob2 cI nb2 ka2 kb2 sm2 ln2 ff2 z2 hnb2) (cwV 1 hts g_k_clashesC_k_roomsOf_71 rfl rfl rfl (by decide +kernel) ⟨(Nat.le_of_ble_eq_true rfl), (Nat.le_of_ble_eq_true rfl)⟩) (PcRC_V (q0 := 0) hPc hKc hN rfl rfl) rfl rfl hl.1 rfl (lv_room (Nat.le_of_ble_eq_true rfl)) dX5_clashes_19 ⟨(Nat.le_of_ble_eq_true rfl), (Nat.le_of_ble_eq_true rfl)⟩) hS (fun q _ h => hFc q h) hFc (fun r4 uu tt H locs htt hvm hw hB hz1 hk1 hS => ?_)
  have hP := va_keep hP hk1
  try dsimp only at hw
  clear hB hz1 hk1 hFc hPc hKc
  have hro_r4 := hw
  refine lv_iload_n hx hb dX5_clashes_22 rfl (lv_at hl 4 rfl) ?_
  refine lv_iload hx hb dX5_clashes_23 (lv_at hl 5 rfl) ?_
  have hPc := hP.sub (ws' := [(ob 0, .inr (5, [.ref (ob 1), .ref (ob 5), .int po])), (ob 5, .inr (3, gY ob (nI nb) (nI ka) (nI kb) sm (nI ln))), (ob 11, .inl (cI, 160, .inl fr)), (ob2 0, .inr (9, gT ob2 tb2 ts2 tg2 tl2 tc2 tr2 tu2 tv2 tw2)), (ob2 2, .inr (2, [.int (nI cn2), .ref (ob2 3), .ref (ob2 4)])), (ob2 3, .inl (cI, 160, .inl fk2)), (ob2 5, .inr (3, gY ob2 (nI nb2) (nI ka2) (nI kb2) sm2 (nI ln2))), (ob2 12, .inl (cI, 160, .inl w2))]) [0, 1, 2, 3, 4, 5, 7, 9] rfl
  have hKc := hK.sub (tys' := [(cI, .int)]) [0] rfl
  have hDc := hD.sub (ws' := [(ob 0, .inr (5, [.ref (ob 1), .ref (ob 5), .int po])), (ob 5, .inr (3, gY ob (nI nb) (nI ka) (nI kb) sm (nI ln))), (ob 11, .inl (cI, 160, .inl fr)), (ob2 0, .inr (9, gT ob2 tb2 ts2 tg2 tl2 tc2 tr2 tu2 tv2 tw2)), (ob2 2, .inr (2, [.int (nI cn2), .ref (ob2 3), .ref (ob2 4)])), (ob2 3, .inl (cI, 160, .inl fk2)), (ob2 5, .inr (3, gY ob2 (nI nb2) (nI ka2) (nI kb2) sm2 (nI ln2))), (ob2 12, .inl (cI, 160, .inl w2))]) [0, 1, 2, 3, 4, 5, 7, 9] (by decide) rfl
  have hFc := va_free (wc := [(ob 0, .inr (5, [.ref (ob 1), .ref (ob 5), .int po])), (ob 5, .inr (3, gY ob (nI nb) (nI ka) (nI kb) sm (nI ln))), (ob 11, .inl (cI, 160, .inl fr)), (ob2 0, .inr (9, gT ob2 tb2 ts2 tg2 tl2 tc2 tr2 tu2 tv2 tw2)), (ob2 2, .inr (2, [.int (nI cn2), .ref (ob2 3), .ref (ob2 4)])), (ob2 3, .inl (cI, 160, .inl fk2)), (ob2 5, .inr (3, gY ob2 (nI nb2) (nI ka2) (nI kb2) sm2 (nI ln2))), (ob2 12, .inl (cI, 160, .inl w2))]) hD hS hA [0, 1, 2, 3, 4, 5, 7, 9] rfl
  refine va_calli (va_runV (As := [.ref (ob2 0), .int (nI ga3), .int r4, .int z3, .int z4]) (rest := []) ⟨hx, hb, hml, hown, hts⟩ (k_clashesOf l D _ ob ob2 cI po nb ka kb sm ln fr tb2 ts2 tg2 tl2 tc2 tr2 tu2 tv2 tw2 cn2 fk2 nb2 ka2 kb2 sm2 ln2 w2 ga3 r4 z3 z4 (by first | assumption | omega) hc2) (cwV 5 hts g_k_clashesC_k_clashesOf_74 rfl rfl rfl (by decide +kernel) ⟨(Nat.le_of_ble_eq_true rfl), (Nat.le_of_ble_eq_true rfl)⟩) (PcWC_V (q0 := 0) hPc hKc hDc hN rfl rfl) rfl rfl hl.1 rfl (lv_room (Nat.le_of_ble_eq_true rfl)) dX5_clashes_25 ⟨(Nat.le_of_ble_eq_true rfl), (Nat.le_of_ble_eq_true rfl)⟩) hS (fun q _ h => hFc q h) hFc (fun r5 uu tt H locs htt hvm hw hB hz1 hk1 hS => ?_)
  obtain ⟨w6, rfl⟩ : ∃ z, z = uu := ⟨_, rfl⟩
  obtain ⟨hP1, hK1, hD1⟩ := hB
  rw [htt] at hP1
  have hK1 := va_K.moved hvm.symm hK1
  have hP1 : va_P D vwCl [(ob 0, .inr (5, [.ref (ob 1), .ref (ob 5), .int po])), (ob 5, .inr (3, gY ob (nI nb) (nI ka) (nI kb) sm (nI ln))), (ob 11, .inl (cI, 160, .inl w6)), (ob2 0, .inr (9, gT ob2 tb2 ts2 tg2 tl2 tc2 tr2 tu2 tv2 tw2)), (ob2 2, .inr (2, [.int (nI cn2), .ref (ob2 3), .ref (ob2 4)])), (ob2 3, .inl (cI, 160, .inl fk2)), (ob2 5, .inr (3, gY ob2 (nI nb2) (nI ka2) (nI kb2) sm2 (nI ln2))), (ob2 12, .inl (cI, 160, .inl w2))] H := hP1
  obtain ⟨hP, hD⟩ := va_join (wr := [(ob2 7, .inl (cI, 2048, .inl ff2)), (ob2 10, .inl (cI, 160, .inl fj2))]) (w1 := [(ob 0, .inr (5, [.ref (ob 1), .ref (ob 5), .int po])), (ob 5, .inr (3, gY ob (nI nb) (nI ka) (nI kb) sm (nI ln))), (ob 11, .inl (cI, 160, .inl w6)), (ob2 0, .inr (9, gT ob2 tb2 ts2 tg2 tl2 tc2 tr2 tu2 tv2 tw2)), (ob2 2, .inr (2, [.int (nI cn2), .ref (ob2 3), .ref (ob2 4)])), (ob2 3, .inl (cI, 160, .inl fk2)), (ob2 5, .inr (3, gY ob2 (nI nb2) (nI ka2) (nI kb2) sm2 (nI ln2))), (ob2 12, .inl (cI, 160, .inl w2))]) hP hD [0, 1, 2, 3, 4, 5, 7, 9] [6, 8] rfl rfl (by decide) (by decide) hk1 hFc hP1 hD1
  have hP : va_P D vwCl [(ob2 7, .inl (cI, 2048, .inl ff2)), (ob2 10, .inl (cI, 160, .inl fj2)), (ob 0, .inr (5, [.ref (ob 1), .ref (ob 5), .int po])), (ob 5, .inr (3, gY ob (nI nb) (nI ka) (nI kb) sm (nI ln))), (ob 11, .inl (cI, 160, .inl w6)), (ob2 0, .inr (9, gT ob2 tb2 ts2 tg2 tl2 tc2 tr2 tu2 tv2 tw2)), (ob2 2, .inr (2, [.int (nI cn2), .ref (ob2 3), .ref (ob2 4)])), (ob2 3, .inl (cI, 160, .inl fk2)), (ob2 5, .inr (3, gY ob2 (nI nb2) (nI ka2) (nI kb2) sm2 (nI ln2))), (ob2 12, .inl (cI, 160, .inl w2))] H := hP
  have hD : va_D A [(ob2 7, .inl (cI, 2048, .inl ff2)), (ob2 10, .inl (cI, 160, .inl fj2)), (ob 0, .inr (5, [.ref (ob 1), .ref (ob 5), .int po])), (ob 5, .inr (3, gY ob (nI nb) (nI ka) (nI kb) sm (nI ln))), (ob 11, .inl (cI, 160, .inl w6)), (ob2 0, .inr (9, gT ob2 tb2 ts2 tg2 tl2 tc2 tr2 tu2 tv2 tw2)), (ob2 2, .inr (2, [.int (nI cn2), .ref (ob2 3), .ref (ob2 4)])), (ob2 3, .inl (cI, 160, .inl fk2)), (ob2 5, .inr (3, gY ob2 (nI nb2) (nI ka2) (nI kb2) sm2 (nI ln2))), (ob2 12, .inl (cI, 160, .inl w2))] := hD
  try dsimp only at hw
  clear hz1 hk1 hFc hPc hKc hDc
  exact W.iret (v := r5) hx hb hr (fun t ht hW => ⟨⟨r5, (w6, w2), rfl, (by (try dsimp only); first | done | exact hO_ga3), by rw [ht]; exact hP.sub [2, 3, 4, 5, 6, 7, 8, 9, 0, 1] rfl, va_K.moved hW.alike (hK.sub [0] rfl), hD.sub [2, 3, 4, 5, 6, 7, 8, 9, 0, 1] (by decide) rfl⟩, hS.F ht⟩) hS.2.2 dX5_clashes_28

def own_k_tried : List Cond := [.fieldLink RX5 12 "ClashFree$Paper" "draw" "LClashFree$Draw;", .methodLink RX5 45 yX0_pair, .instanceMethod yX0_pair, .selects RX0 yX0_pair yX0_pair, .initialized RX0, .fieldLink RX5 54 "ClashFree$Draw" "a" "I", .fieldLink RX5 58 "ClashFree$Draw" "b" "I", .methodLink RX5 74 yX5_clashesOf, .instanceMethod yX5_clashesOf, .selects RX5 yX5_clashesOf yX5_clashesOf, .initialized RX5, .fieldLink RX5 61 "ClashFree$Table" "layout" "LClashFree$Layout;", .methodLink RX5 68 yX3_gather, .instanceMethod yX3_gather, .selects RX3 yX3_gather yX3_gather, .initialized RX3, .methodLink RX5 71 yX3_roomsOf, .instanceMethod yX3_roomsOf, .selects RX3 yX3_roomsOf yX3_roomsOf, .methodLink RX5 41 yX0_begin, .instanceMethod yX0_begin, .selects RX0 yX0_begin yX0_begin]
def wp_k_tried : List Cond := .code yX5_tried cX5_tried 12 (some .int) :: (own_k_tried ++ (wp_k_pair ++ (wp_k_clashesOf ++ (wp_k_gather ++ (wp_k_roomsOf ++ (wp_k_dbegin ++ (wsX50 ++ (wsX00 ++ (wsX90 ++ ([] : List Cond))))))))))
set_option maxRecDepth 20000 in
theorem inown_k_tried : ∀ w ∈ own_k_tried, w ∈ lw_tbl := mem_places [238, 822, 564, 565, 108, 151, 154, 834, 836, 3, 107, 521, 832, 684, 685, 109, 833, 601, 602, 821, 553, 554] (by decide +kernel)
set_option maxRecDepth 20000 in
theorem in_k_tried : ∀ w ∈ wp_k_tried, w ∈ lw_tbl := List.forall_mem_cons.mpr ⟨List.mem_of_getElem? (i := 847) (by decide +kernel), List.forall_mem_append.mpr ⟨inown_k_tried, List.forall_mem_append.mpr ⟨in_k_pair, List.forall_mem_append.mpr ⟨in_k_clashesOf, List.forall_mem_append.mpr ⟨in_k_gather, List.forall_mem_append.mpr ⟨in_k_roomsOf, List.forall_mem_append.mpr ⟨in_k_dbegin, List.forall_mem_append.mpr ⟨lwb_X5, List.forall_mem_append.mpr ⟨lwb_X0, List.forall_mem_append.mpr ⟨lwb_X9, fun _ h => absurd h List.not_mem_nil⟩⟩⟩⟩⟩⟩⟩⟩⟩⟩
set_option maxRecDepth 20000 in
theorem good_k_tried : wp_k_tried.all goodWord = true := by decide +kernel
set_option maxRecDepth 20000 in
theorem g_k_tried_k_pair_45 : GoodIn wp_k_tried (wsV RX5 45 RX0 yX0_pair wp_k_pair) := goodIn_sub (List.forall_mem_append.mpr ⟨List.forall_mem_cons.mpr ⟨(List.mem_of_getElem? (i := 2) rfl), List.forall_mem_cons.mpr ⟨(List.mem_of_getElem? (i := 3) rfl), List.forall_mem_cons.mpr ⟨(List.mem_of_getElem? (i := 4) rfl), List.forall_mem_cons.mpr ⟨(List.mem_of_getElem? (i := 5) rfl), fun _ h => absurd h List.not_mem_nil⟩⟩⟩⟩, (fun _ h => (List.mem_cons_of_mem _ (List.mem_append_right _ (List.mem_append_left _ h))))⟩) (by decide +kernel)
set_option maxRecDepth 20000 in
theorem g_k_tried_k_clashesOf_74 : GoodIn wp_k_tried (wsV RX5 74 RX5 yX5_clashesOf wp_k_clashesOf) := goodIn_sub (List.forall_mem_append.mpr ⟨List.forall_mem_cons.mpr ⟨(List.mem_of_getElem? (i := 8) rfl), List.forall_mem_cons.mpr ⟨(List.mem_of_getElem? (i := 9) rfl), List.forall_mem_cons.mpr ⟨(List.mem_of_getElem? (i := 10) rfl), List.forall_mem_cons.mpr ⟨(List.mem_of_getElem? (i := 11) rfl), fun _ h => absurd h List.not_mem_nil⟩⟩⟩⟩, (fun _ h => (List.mem_cons_of_mem _ (List.mem_append_right _ (List.mem_append_right _ (List.mem_append_left _ h)))))⟩) (by decide +kernel)
set_option maxRecDepth 20000 in
theorem g_k_tried_k_gather_68 : GoodIn wp_k_tried (wsV RX5 68 RX3 yX3_gather wp_k_gather) := goodIn_sub (List.forall_mem_append.mpr ⟨List.forall_mem_cons.mpr ⟨(List.mem_of_getElem? (i := 13) rfl), List.forall_mem_cons.mpr ⟨(List.mem_of_getElem? (i := 14) rfl), List.forall_mem_cons.mpr ⟨(List.mem_of_getElem? (i := 15) rfl), List.forall_mem_cons.mpr ⟨(List.mem_of_getElem? (i := 16) rfl), fun _ h => absurd h List.not_mem_nil⟩⟩⟩⟩, (fun _ h => (List.mem_cons_of_mem _ (List.mem_append_right _ (List.mem_append_right _ (List.mem_append_right _ (List.mem_append_left _ h))))))⟩) (by decide +kernel)
set_option maxRecDepth 20000 in
theorem g_k_tried_k_roomsOf_71 : GoodIn wp_k_tried (wsV RX5 71 RX3 yX3_roomsOf wp_k_roomsOf) := goodIn_sub (List.forall_mem_append.mpr ⟨List.forall_mem_cons.mpr ⟨(List.mem_of_getElem? (i := 17) rfl), List.forall_mem_cons.mpr ⟨(List.mem_of_getElem? (i := 18) rfl), List.forall_mem_cons.mpr ⟨(List.mem_of_getElem? (i := 19) rfl), List.forall_mem_cons.mpr ⟨(List.mem_of_getElem? (i := 16) rfl), fun _ h => absurd h List.not_mem_nil⟩⟩⟩⟩, (fun _ h => (List.mem_cons_of_mem _ (List.mem_append_right _ (List.mem_append_right _ (List.mem_append_right _ (List.mem_append_right _ (List.mem_append_left _ h)))))))⟩) (by decide +kernel)
set_option maxRecDepth 20000 in
theorem g_k_tried_k_dbegin_41 : GoodIn wp_k_tried (wsV RX5 41 RX0 yX0_begin wp_k_dbegin) := goodIn_sub (List.forall_mem_append.mpr ⟨List.forall_mem_cons.mpr ⟨(List.mem_of_getElem? (i := 20) rfl), List.forall_mem_cons.mpr ⟨(List.mem_of_getElem? (i := 21) rfl), List.forall_mem_cons.mpr ⟨(List.mem_of_getElem? (i := 22) rfl), List.forall_mem_cons.mpr ⟨(List.mem_of_getElem? (i := 5) rfl), fun _ h => absurd h List.not_mem_nil⟩⟩⟩⟩, (fun _ h => (List.mem_cons_of_mem _ (List.mem_append_right _ (List.mem_append_right _ (List.mem_append_right _ (List.mem_append_right _ (List.mem_append_right _ (List.mem_append_left _ h))))))))⟩) (by decide +kernel)
set_option maxHeartbeats 4000000 in
set_option maxRecDepth 100000 in
theorem lk_tried (l : Launch) {p : Program} {e : Env} {s : State} {m : MethodId} {args : Array Value} {below : List Frame} {meth : Method} {c : Code} {Q : State → Prop} {A : Nat → Prop} (D : va_G) (ob : Nat → Nat) (ob2 : Nat → Nat) (cI : ClassId) (po : Int32) (nb : Nat) (ka : Nat) (kb : Nat) (sm : Int32) (ln : Nat) (tb2 : Int32) (ts2 : Int32) (tg2 : Int32) (tl2 : Int32) (tc2 : Int32) (tr2 : Int32) (tu2 : Int32) (tv2 : Int32) (tw2 : Int32) (cn2 : Nat) (fk2 : Nat → Int32) (nb2 : Nat) (ka2 : Nat) (kb2 : Nat) (sm2 : Int32) (ln2 : Nat) (fo2 : Nat → Int32) (ff2 : Nat → Int32) (fj2 : Nat → Int32) (z2 : Int32) (nn : Nat) (z6 : Int32) (me : Nat) (ro : Int32) (hc2 : cn2 ≤ 160) (hnn : nn ≤ 200) (hme : me ≤ 160) (hx : p.tables.exec = Jvm.exec) (hb : c.code = cX5_tried) (hml : c.maxLocals = 12) (hown : s.vm.findClass RX5 = some m.cls) (hts : ∀ w ∈ wp_k_tried, w.before args s = true) (hA : ∀ q, s.heap.size ≤ q → A q) (hK : va_K D vwCl [(cI, .int)] s) (hN : NC s) (kx95 : ∀ (y : Nat), ∀ (go : Int32), ∀ (fi : Int32), ∀ (gr : Nat → Int32), ∀ (sd : Int64), ∀ (ea : Nat), ∀ (eb : Nat), ∀ (pq : Int32), (y ≤ nn) → ∀ (H : Heap) (locs : List Loc) (ls : Array Slot), va_P D vwCl [(ob 0, .inr (5, [.ref (ob 1), .ref (ob 5), .int po])), (ob 5, .inr (3, gY ob (nI nb) (nI ka) (nI kb) sm (nI ln))), (ob 11, .inl (cI, 160, .inl gr)), (ob2 0, .inr (9, gT ob2 tb2 ts2 tg2 tl2 tc2 tr2 tu2 tv2 tw2)), (ob2 2, .inr (2, [.int (nI cn2), .ref (ob2 3), .ref (ob2 4)])), (ob2 3, .inl (cI, 160, .inl fk2)), (ob2 5, .inr (3, gY ob2 (nI nb2) (nI ka2) (nI kb2) sm2 (nI ln2))), (ob2 12, .inl (cI, 160, .inl fo2)), (ob2 7, .inl (cI, 2048, .inl ff2)), (ob2 10, .inl (cI, 160, .inl fj2)), (ob 1, .inr (0, [.long sd, .int (nI ea), .int (nI eb), .int pq]))] H → va_D A [(ob 0, .inr (5, [.ref (ob 1), .ref (ob 5), .int po])), (ob 5, .inr (3, gY ob (nI nb) (nI ka) (nI kb) sm (nI ln))), (ob 11, .inl (cI, 160, .inl gr)), (ob2 0, .inr (9, gT ob2 tb2 ts2 tg2 tl2 tc2 tr2 tu2 tv2 tw2)), (ob2 2, .inr (2, [.int (nI cn2), .ref (ob2 3), .ref (ob2 4)])), (ob2 3, .inl (cI, 160, .inl fk2)), (ob2 5, .inr (3, gY ob2 (nI nb2) (nI ka2) (nI kb2) sm2 (nI ln2))), (ob2 12, .inl (cI, 160, .inl fo2)), (ob2 7, .inl (cI, 2048, .inl ff2)), (ob2 10, .inl (cI, 160, .inl fj2)), (ob 1, .inr (0, [.long sd, .int (nI ea), .int (nI eb), .int pq]))] → va_S A s.heap H locs → lv_has ls 12 [(10, .int go), (9, .int fi), (6, .int z6)] → W p l e ({ frames := 3, cells := 0, slots := 0, locals := 140 }) s m args below meth c H locs 0 0 Q (F0 m 95 ls [])) : ∀ (N : Nat), ∀ (y : Nat), ∀ (go : Int32), ∀ (fi : Int32), ∀ (gr : Nat → Int32), ∀ (sd : Int64), ∀ (ea : Nat), ∀ (eb : Nat), ∀ (pq : Int32), (y ≤ nn) → nn - y < N → ∀ (H : Heap) (locs : List Loc) (ls : Array Slot), va_P D vwCl [(ob 0, .inr (5, [.ref (ob 1), .ref (ob 5), .int po])), (ob 5, .inr (3, gY ob (nI nb) (nI ka) (nI kb) sm (nI ln))), (ob 11, .inl (cI, 160, .inl gr)), (ob2 0, .inr (9, gT ob2 tb2 ts2 tg2 tl2 tc2 tr2 tu2 tv2 tw2)), (ob2 2, .inr (2, [.int (nI cn2), .ref (ob2 3), .ref (ob2 4)])), (ob2 3, .inl (cI, 160, .inl fk2)), (ob2 5, .inr (3, gY ob2 (nI nb2) (nI ka2) (nI kb2) sm2 (nI ln2))), (ob2 12, .inl (cI, 160, .inl fo2)), (ob2 7, .inl (cI, 2048, .inl ff2)), (ob2 10, .inl (cI, 160, .inl fj2)), (ob 1, .inr (0, [.long sd, .int (nI ea), .int (nI eb), .int pq]))] H → va_D A [(ob 0, .inr (5, [.ref (ob 1), .ref (ob 5), .int po])), (ob 5, .inr (3, gY ob (nI nb) (nI ka) (nI kb) sm (nI ln))), (ob 11, .inl (cI, 160, .inl gr)), (ob2 0, .inr (9, gT ob2 tb2 ts2 tg2 tl2 tc2 tr2 tu2 tv2 tw2)), (ob2 2, .inr (2, [.int (nI cn2), .ref (ob2 3), .ref (ob2 4)])), (ob2 3, .inl (cI, 160, .inl fk2)), (ob2 5, .inr (3, gY ob2 (nI nb2) (nI ka2) (nI kb2) sm2 (nI ln2))), (ob2 12, .inl (cI, 160, .inl fo2)), (ob2 7, .inl (cI, 2048, .inl ff2)), (ob2 10, .inl (cI, 160, .inl fj2)), (ob 1, .inr (0, [.long sd, .int (nI ea), .int (nI eb), .int pq]))] → va_S A s.heap H locs → lv_has ls 12 [(11, .int (nI y)), (10, .int go), (9, .int fi), (7, .int (nI me)), (8, .int ro), (0, .ref (ob 0)), (1, .ref (ob2 0)), (2, .int z2), (3, .int (nI nn)), (6, .int z6)] → W p l e ({ frames := 3, cells := 0, slots := 0, locals := 140 }) s m args below meth c H locs 0 0 Q (F0 m 38 ls []) := by
  have hin_X5 : ∀ w ∈ wsX50, w ∈ wp_k_tried := fun _ h => (List.mem_cons_of_mem _ (List.mem_append_right _ (List.mem_append_right _ (List.mem_append_right _ (List.mem_append_right _ (List.mem_append_right _ (List.mem_append_right _ (List.mem_append_left _ h))))))))
  have hin_X0 : ∀ w ∈ wsX00, w ∈ wp_k_tried := fun _ h => (List.mem_cons_of_mem _ (List.mem_append_right _ (List.mem_append_right _ (List.mem_append_right _ (List.mem_append_right _ (List.mem_append_right _ (List.mem_append_right _ (List.mem_append_right _ (List.mem_append_left _ h)))))))))
  have hin_X9 : ∀ w ∈ wsX90, w ∈ wp_k_tried := fun _ h => (List.mem_cons_of_mem _ (List.mem_append_right _ (List.mem_append_right _ (List.mem_append_right _ (List.mem_append_right _ (List.mem_append_right _ (List.mem_append_right _ (List.mem_append_right _ (List.mem_append_right _ (List.mem_append_left _ h))))))))))
  intro N
  induction N with
  | zero =>
    intro y go fi gr sd ea eb pq hy1 hm
    exact absurd hm (Nat.not_lt_zero _)
  | succ N ih =>
    intro y go fi gr sd ea eb pq hy1 hm H locs ls hP hD hS hl
    refine lv_iload hx hb dX5_tried_38 (lv_at hl 0 rfl) ?_
    refine lv_iload_n hx hb dX5_tried_40 rfl (lv_at hl 8 rfl) ?_
    refine lv_icmp_ge (tgt := 95) hx hb dX5_tried_41 (by decide) (fun hc1 => ?_) (fun hc1 => ?_)
    ·
      have hlt : nn ≤ y := (nI_leI (by omega) (by omega)).mp hc1
      exact kx95 y go fi gr sd ea eb pq (hy1) H locs ls (hP.sub [0, 1, 2, 3, 4, 5, 6, 7, 8, 9, 10] rfl) (hD.sub [0, 1, 2, 3, 4, 5, 6, 7, 8, 9, 10] (by decide) rfl) hS (lv_sub hl [1, 2, 9] rfl)
    ·
      have hlt : y < nn := by
        rcases Nat.lt_or_ge y (nn) with z | z
        · exact z
        · exact absurd (nI_le z (by omega)) hc1
      refine lv_aload_n hx hb dX5_tried_44 rfl (lv_at hl 5 rfl) ?_
      refine va_get (D := D) (ci := 5) (v := .ref (ob 1)) (C := RX5) (T := TX5) (N := 3) hx hb hts hin_X5 hown hK hP 0 rfl rfl 0 (by decide) (hts (.fieldLink RX5 12 "ClashFree$Paper" "draw" "LClashFree$Draw;") (List.mem_of_getElem? (i := 1) rfl)) (fun _ h9 => h9) rfl dX5_tried_45 ?_
      have hPc := hP.sub (ws' := [(ob 1, .inr (0, [.long sd, .int (nI ea), .int (nI eb), .int pq]))]) [10] rfl
      have hKc := hK.sub (tys' := []) [] rfl
      have hDc := hD.sub (ws' := [(ob 1, .inr (0, [.long sd, .int (nI ea), .int (nI eb), .int pq]))]) [10] (by decide) rfl
      have hFc := va_free (wc := [(ob 1, .inr (0, [.long sd, .int (nI ea), .int (nI eb), .int pq]))]) hD hS hA [10] rfl
      refine va_callv (va_runV (As := []) (rest := []) ⟨hx, hb, hml, hown, hts⟩ (k_pair l D _ ob cI sd ea eb pq) (cwV 0 hts g_k_tried_k_pair_45 rfl rfl rfl (by decide +kernel) ⟨(Nat.le_of_ble_eq_true rfl), (Nat.le_of_ble_eq_true rfl)⟩) (PcWC_V (q0 := 0) hPc hKc hDc hN rfl rfl) rfl rfl hl.1 rfl (lv_room (Nat.le_of_ble_eq_true rfl)) dX5_tried_48 ⟨(Nat.le_of_ble_eq_true rfl), (Nat.le_of_ble_eq_true rfl)⟩) hS (fun q _ h => hFc q h) hFc (fun uu tt H locs htt hvm hw hB hz1 hk1 hS => ?_)
      obtain ⟨w3, w4, w5, w6⟩ := uu
      obtain ⟨hP1, hK1, hD1⟩ := hB
      rw [htt] at hP1
      have hK1 := va_K.moved hvm.symm hK1
      have hP1 : va_P D vwCl [(ob 1, .inr (0, [.long w3, .int (nI w4), .int (nI w5), .int w6]))] H := hP1
      obtain ⟨hP, hD⟩ := va_join (wr := [(ob 0, .inr (5, [.ref (ob 1), .ref (ob 5), .int po])), (ob 5, .inr (3, gY ob (nI nb) (nI ka) (nI kb) sm (nI ln))), (ob 11, .inl (cI, 160, .inl gr)), (ob2 0, .inr (9, gT ob2 tb2 ts2 tg2 tl2 tc2 tr2 tu2 tv2 tw2)), (ob2 2, .inr (2, [.int (nI cn2), .ref (ob2 3), .ref (ob2 4)])), (ob2 3, .inl (cI, 160, .inl fk2)), (ob2 5, .inr (3, gY ob2 (nI nb2) (nI ka2) (nI kb2) sm2 (nI ln2))), (ob2 12, .inl (cI, 160, .inl fo2)), (ob2 7, .inl (cI, 2048, .inl ff2)), (ob2 10, .inl (cI, 160, .inl fj2))]) (w1 := [(ob 1, .inr (0, [.long w3, .int (nI w4), .int (nI w5), .int w6]))]) hP hD [10] [0, 1, 2, 3, 4, 5, 6, 7, 8, 9] rfl rfl (by decide) (by decide) hk1 hFc hP1 hD1
      have hP : va_P D vwCl [(ob 0, .inr (5, [.ref (ob 1), .ref (ob 5), .int po])), (ob 5, .inr (3, gY ob (nI nb) (nI ka) (nI kb) sm (nI ln))), (ob 11, .inl (cI, 160, .inl gr)), (ob2 0, .inr (9, gT ob2 tb2 ts2 tg2 tl2 tc2 tr2 tu2 tv2 tw2)), (ob2 2, .inr (2, [.int (nI cn2), .ref (ob2 3), .ref (ob2 4)])), (ob2 3, .inl (cI, 160, .inl fk2)), (ob2 5, .inr (3, gY ob2 (nI nb2) (nI ka2) (nI kb2) sm2 (nI ln2))), (ob2 12, .inl (cI, 160, .inl fo2)), (ob2 7, .inl (cI, 2048, .inl ff2)), (ob2 10, .inl (cI, 160, .inl fj2)), (ob 1, .inr (0, [.long w3, .int (nI w4), .int (nI w5), .int w6]))] H := hP
      have hD : va_D A [(ob 0, .inr (5, [.ref (ob 1), .ref (ob 5), .int po])), (ob 5, .inr (3, gY ob (nI nb) (nI ka) (nI kb) sm (nI ln))), (ob 11, .inl (cI, 160, .inl gr)), (ob2 0, .inr (9, gT ob2 tb2 ts2 tg2 tl2 tc2 tr2 tu2 tv2 tw2)), (ob2 2, .inr (2, [.int (nI cn2), .ref (ob2 3), .ref (ob2 4)])), (ob2 3, .inl (cI, 160, .inl fk2)), (ob2 5, .inr (3, gY ob2 (nI nb2) (nI ka2) (nI kb2) sm2 (nI ln2))), (ob2 12, .inl (cI, 160, .inl fo2)), (ob2 7, .inl (cI, 2048, .inl ff2)), (ob2 10, .inl (cI, 160, .inl fj2)), (ob 1, .inr (0, [.long w3, .int (nI w4), .int (nI w5), .int w6]))] := hD
      try dsimp only at hw
      clear hz1 hk1 hFc hPc hKc hDc
      obtain ⟨hd7_a, hd7_b⟩ := hw
      refine lv_aload_n hx hb dX5_tried_51 rfl (lv_at hl 5 rfl) ?_
      refine lv_aload_n hx hb dX5_tried_52 rfl (lv_at hl 6 rfl) ?_
      refine lv_iload hx hb dX5_tried_53 (lv_at hl 3 rfl) ?_
      refine lv_iload hx hb dX5_tried_55 (lv_at hl 4 rfl) ?_
      refine lv_aload_n hx hb dX5_tried_57 rfl (lv_at hl 5 rfl) ?_
      refine va_get (D := D) (ci := 5) (v := .ref (ob 1)) (C := RX5) (T := TX5) (N := 3) hx hb hts hin_X5 hown hK hP 0 rfl rfl 0 (by decide) (hts (.fieldLink RX5 12 "ClashFree$Paper" "draw" "LClashFree$Draw;") (List.mem_of_getElem? (i := 1) rfl)) (fun _ h9 => h9) rfl dX5_tried_58 ?_
      refine va_get (D := D) (ci := 0) (v := .int (nI w4)) (C := RX0) (T := TX0) (N := 4) hx hb hts hin_X0 hown hK hP 10 rfl rfl 1 (by decide) (hts (.fieldLink RX5 54 "ClashFree$Draw" "a" "I") (List.mem_of_getElem? (i := 6) rfl)) (fun _ h9 => h9) rfl dX5_tried_61 ?_
      refine lv_aload_n hx hb dX5_tried_64 rfl (lv_at hl 5 rfl) ?_
      refine va_get (D := D) (ci := 5) (v := .ref (ob 1)) (C := RX5) (T := TX5) (N := 3) hx hb hts hin_X5 hown hK hP 0 rfl rfl 0 (by decide) (hts (.fieldLink RX5 12 "ClashFree$Paper" "draw" "LClashFree$Draw;") (List.mem_of_getElem? (i := 1) rfl)) (fun _ h9 => h9) rfl dX5_tried_65 ?_
      refine va_get (D := D) (ci := 0) (v := .int (nI w5)) (C := RX0) (T := TX0) (N := 4) hx hb hts hin_X0 hown hK hP 10 rfl rfl 2 (by decide) (hts (.fieldLink RX5 58 "ClashFree$Draw" "b" "I") (List.mem_of_getElem? (i := 7) rfl)) (fun _ h9 => h9) rfl dX5_tried_68 ?_
      have hPc := hP.sub (ws' := [(ob 0, .inr (5, [.ref (ob 1), .ref (ob 5), .int po])), (ob 5, .inr (3, gY ob (nI nb) (nI ka) (nI kb) sm (nI ln))), (ob 11, .inl (cI, 160, .inl gr)), (ob2 0, .inr (9, gT ob2 tb2 ts2 tg2 tl2 tc2 tr2 tu2 tv2 tw2)), (ob2 2, .inr (2, [.int (nI cn2), .ref (ob2 3), .ref (ob2 4)])), (ob2 3, .inl (cI, 160, .inl fk2)), (ob2 5, .inr (3, gY ob2 (nI nb2) (nI ka2) (nI kb2) sm2 (nI ln2))), (ob2 12, .inl (cI, 160, .inl fo2))]) [0, 1, 2, 3, 4, 5, 6, 7] rfl
      have hKc := hK.sub (tys' := [(cI, .int)]) [0] rfl
      have hDc := hD.sub (ws' := [(ob 0, .inr (5, [.ref (ob 1), .ref (ob 5), .int po])), (ob 5, .inr (3, gY ob (nI nb) (nI ka) (nI kb) sm (nI ln))), (ob 11, .inl (cI, 160, .inl gr)), (ob2 0, .inr (9, gT ob2 tb2 ts2 tg2 tl2 tc2 tr2 tu2 tv2 tw2)), (ob2 2, .inr (2, [.int (nI cn2), .ref (ob2 3), .ref (ob2 4)])), (ob2 3, .inl (cI, 160, .inl fk2)), (ob2 5, .inr (3, gY ob2 (nI nb2) (nI ka2) (nI kb2) sm2 (nI ln2))), (ob2 12, .inl (cI, 160, .inl fo2))]) [0, 1, 2, 3, 4, 5, 6, 7] (by decide) rfl
      have hFc := va_free (wc := [(ob 0, .inr (5, [.ref (ob 1), .ref (ob 5), .int po])), (ob 5, .inr (3, gY ob (nI nb) (nI ka) (nI kb) sm (nI ln))), (ob 11, .inl (cI, 160, .inl gr)), (ob2 0, .inr (9, gT ob2 tb2 ts2 tg2 tl2 tc2 tr2 tu2 tv2 tw2)), (ob2 2, .inr (2, [.int (nI cn2), .ref (ob2 3), .ref (ob2 4)])), (ob2 3, .inl (cI, 160, .inl fk2)), (ob2 5, .inr (3, gY ob2 (nI nb2) (nI ka2) (nI kb2) sm2 (nI ln2))), (ob2 12, .inl (cI, 160, .inl fo2))]) hD hS hA [0, 1, 2, 3, 4, 5, 6, 7] rfl
      refine va_calli (va_runV (As := [.ref (ob2 0), .int (nI me), .int ro, .int (nI w4), .int (nI w5)]) (rest := []) ⟨hx, hb, hml, hown, hts⟩ (k_clashesOf l D _ ob ob2 cI po nb ka kb sm ln gr tb2 ts2 tg2 tl2 tc2 tr2 tu2 tv2 tw2 cn2 fk2 nb2 ka2 kb2 sm2 ln2 fo2 me ro (nI w4) (nI w5) (by first | assumption | omega) hc2) (cwV 5 hts g_k_tried_k_clashesOf_74 rfl rfl rfl (by decide +kernel) ⟨(Nat.le_of_ble_eq_true rfl), (Nat.le_of_ble_eq_true rfl)⟩) (PcWC_V (q0 := 0) hPc hKc hDc hN rfl rfl) rfl rfl hl.1 rfl (lv_room (Nat.le_of_ble_eq_true rfl)) dX5_tried_71 ⟨(Nat.le_of_ble_eq_true rfl), (Nat.le_of_ble_eq_true rfl)⟩) hS (fun q _ h => hFc q h) hFc (fun r8 uu tt H locs htt hvm hw hB hz1 hk1 hS => ?_)
      obtain ⟨w9, rfl⟩ : ∃ z, z = uu := ⟨_, rfl⟩
      obtain ⟨hP1, hK1, hD1⟩ := hB
      rw [htt] at hP1
      have hK1 := va_K.moved hvm.symm hK1
      have hP1 : va_P D vwCl [(ob 0, .inr (5, [.ref (ob 1), .ref (ob 5), .int po])), (ob 5, .inr (3, gY ob (nI nb) (nI ka) (nI kb) sm (nI ln))), (ob 11, .inl (cI, 160, .inl w9)), (ob2 0, .inr (9, gT ob2 tb2 ts2 tg2 tl2 tc2 tr2 tu2 tv2 tw2)), (ob2 2, .inr (2, [.int (nI cn2), .ref (ob2 3), .ref (ob2 4)])), (ob2 3, .inl (cI, 160, .inl fk2)), (ob2 5, .inr (3, gY ob2 (nI nb2) (nI ka2) (nI kb2) sm2 (nI ln2))), (ob2 12, .inl (cI, 160, .inl fo2))] H := hP1
      obtain ⟨hP, hD⟩ := va_join (wr := [(ob2 7, .inl (cI, 2048, .inl ff2)), (ob2 10, .inl (cI, 160, .inl fj2)), (ob 1, .inr (0, [.long w3, .int (nI w4), .int (nI w5), .int w6]))]) (w1 := [(ob 0, .inr (5, [.ref (ob 1), .ref (ob 5), .int po])), (ob 5, .inr (3, gY ob (nI nb) (nI ka) (nI kb) sm (nI ln))), (ob 11, .inl (cI, 160, .inl w9)), (ob2 0, .inr (9, gT ob2 tb2 ts2 tg2 tl2 tc2 tr2 tu2 tv2 tw2)), (ob2 2, .inr (2, [.int (nI cn2), .ref (ob2 3), .ref (ob2 4)])), (ob2 3, .inl (cI, 160, .inl fk2)), (ob2 5, .inr (3, gY ob2 (nI nb2) (nI ka2) (nI kb2) sm2 (nI ln2))), (ob2 12, .inl (cI, 160, .inl fo2))]) hP hD [0, 1, 2, 3, 4, 5, 6, 7] [8, 9, 10] rfl rfl (by decide) (by decide) hk1 hFc hP1 hD1
      have hP : va_P D vwCl [(ob2 7, .inl (cI, 2048, .inl ff2)), (ob2 10, .inl (cI, 160, .inl fj2)), (ob 1, .inr (0, [.long w3, .int (nI w4), .int (nI w5), .int w6])), (ob 0, .inr (5, [.ref (ob 1), .ref (ob 5), .int po])), (ob 5, .inr (3, gY ob (nI nb) (nI ka) (nI kb) sm (nI ln))), (ob 11, .inl (cI, 160, .inl w9)), (ob2 0, .inr (9, gT ob2 tb2 ts2 tg2 tl2 tc2 tr2 tu2 tv2 tw2)), (ob2 2, .inr (2, [.int (nI cn2), .ref (ob2 3), .ref (ob2 4)])), (ob2 3, .inl (cI, 160, .inl fk2)), (ob2 5, .inr (3, gY ob2 (nI nb2) (nI ka2) (nI kb2) sm2 (nI ln2))), (ob2 12, .inl (cI, 160, .inl fo2))] H := hP
      have hD : va_D A [(ob2 7, .inl (cI, 2048, .inl ff2)), (ob2 10, .inl (cI, 160, .inl fj2)), (ob 1, .inr (0, [.long w3, .int (nI w4), .int (nI w5), .int w6])), (ob 0, .inr (5, [.ref (ob 1), .ref (ob 5), .int po])), (ob 5, .inr (3, gY ob (nI nb) (nI ka) (nI kb) sm (nI ln))), (ob 11, .inl (cI, 160, .inl w9)), (ob2 0, .inr (9, gT ob2 tb2 ts2 tg2 tl2 tc2 tr2 tu2 tv2 tw2)), (ob2 2, .inr (2, [.int (nI cn2), .ref (ob2 3), .ref (ob2 4)])), (ob2 3, .inl (cI, 160, .inl fk2)), (ob2 5, .inr (3, gY ob2 (nI nb2) (nI ka2) (nI kb2) sm2 (nI ln2))), (ob2 12, .inl (cI, 160, .inl fo2))] := hD
      try dsimp only at hw
      clear hz1 hk1 hFc hPc hKc hDc
      refine lv_if_ne (tgt := 89) hx hb dX5_tried_74 (by decide) (fun hc10 => ?_) (fun hc10 => ?_)
      ·
        refine lv_iinc (v := nI (y + 1)) (lv' := [(11, .int (nI (y + 1))), (10, .int go), (9, .int fi), (7, .int (nI me)), (8, .int ro), (0, .ref (ob 0)), (1, .ref (ob2 0)), (2, .int z2), (3, .int (nI nn)), (6, .int z6)]) hx hb dX5_tried_89 hl (k := 0) rfl (nI_1 _) (by decide) rfl (fun ls hl => ?_)
        refine lv_goto (tgt := 38) hx hb dX5_tried_92 (by decide) ?_
        exact ih (y + 1) go fi w9 w3 w4 w5 w6 (by omega) (by omega) H locs ls (hP.sub [3, 4, 5, 6, 7, 8, 9, 10, 0, 1, 2] rfl) (hD.sub [3, 4, 5, 6, 7, 8, 9, 10, 0, 1, 2] (by decide) rfl) hS (lv_sub hl [0, 1, 2, 3, 4, 5, 6, 7, 8, 9] rfl)
      ·
        obtain ⟨v11, ev11⟩ : ∃ y : Int32, y = go + 1 := ⟨_, rfl⟩
        refine lv_iinc (v := v11) (lv' := [(10, .int v11), (11, .int (nI y)), (9, .int fi), (7, .int (nI me)), (8, .int ro), (0, .ref (ob 0)), (1, .ref (ob2 0)), (2, .int z2), (3, .int (nI nn)), (6, .int z6)]) hx hb dX5_tried_77 hl (k := 1) rfl (by rw [ev11]; rfl) (by decide) rfl (fun ls hl => ?_)
        refine lv_iload hx hb dX5_tried_80 (lv_at hl 2 rfl) ?_
        refine lv_if_ge (tgt := 89) hx hb dX5_tried_82 (by decide) (fun hc12 => ?_) (fun hc12 => ?_)
        ·
          refine lv_iinc (v := nI (y + 1)) (lv' := [(11, .int (nI (y + 1))), (10, .int v11), (9, .int fi), (7, .int (nI me)), (8, .int ro), (0, .ref (ob 0)), (1, .ref (ob2 0)), (2, .int z2), (3, .int (nI nn)), (6, .int z6)]) hx hb dX5_tried_89 hl (k := 1) rfl (nI_1 _) (by decide) rfl (fun ls hl => ?_)
          refine lv_goto (tgt := 38) hx hb dX5_tried_92 (by decide) ?_
          exact ih (y + 1) v11 fi w9 w3 w4 w5 w6 (by omega) (by omega) H locs ls (hP.sub [3, 4, 5, 6, 7, 8, 9, 10, 0, 1, 2] rfl) (hD.sub [3, 4, 5, 6, 7, 8, 9, 10, 0, 1, 2] (by decide) rfl) hS (lv_sub hl [0, 1, 2, 3, 4, 5, 6, 7, 8, 9] rfl)
        ·
          refine lv_iload hx hb dX5_tried_85 (lv_at hl 1 rfl) ?_
          refine lv_istore (lv' := [(9, .int (nI y)), (10, .int v11), (11, .int (nI y)), (7, .int (nI me)), (8, .int ro), (0, .ref (ob 0)), (1, .ref (ob2 0)), (2, .int z2), (3, .int (nI nn)), (6, .int z6)]) hx hb dX5_tried_87 hl (by decide) rfl (fun ls hl => ?_)
          refine lv_iinc (v := nI (y + 1)) (lv' := [(11, .int (nI (y + 1))), (9, .int (nI y)), (10, .int v11), (7, .int (nI me)), (8, .int ro), (0, .ref (ob 0)), (1, .ref (ob2 0)), (2, .int z2), (3, .int (nI nn)), (6, .int z6)]) hx hb dX5_tried_89 hl (k := 2) rfl (nI_1 _) (by decide) rfl (fun ls hl => ?_)
          refine lv_goto (tgt := 38) hx hb dX5_tried_92 (by decide) ?_
          exact ih (y + 1) v11 (nI y) w9 w3 w4 w5 w6 (by omega) (by omega) H locs ls (hP.sub [3, 4, 5, 6, 7, 8, 9, 10, 0, 1, 2] rfl) (hD.sub [3, 4, 5, 6, 7, 8, 9, 10, 0, 1, 2] (by decide) rfl) hS (lv_sub hl [0, 2, 1, 3, 4, 5, 6, 7, 8, 9] rfl)
set_option maxHeartbeats 4000000 in
set_option maxRecDepth 100000 in
theorem k_tried (l : Launch) (D : va_G) (sz : Nat) (ob : Nat → Nat) (ob2 : Nat → Nat) (cI : ClassId) (po : Int32) (nb : Nat) (ka : Nat) (kb : Nat) (sm : Int32) (ln : Nat) (fr : Nat → Int32) (tb2 : Int32) (ts2 : Int32) (tg2 : Int32) (tl2 : Int32) (tc2 : Int32) (tr2 : Int32) (tu2 : Int32) (tv2 : Int32) (tw2 : Int32) (cn2 : Nat) (fk2 : Nat → Int32) (nb2 : Nat) (ka2 : Nat) (kb2 : Nat) (sm2 : Int32) (ln2 : Nat) (fo2 : Nat → Int32) (ff2 : Nat → Int32) (fj2 : Nat → Int32) (sd : Int64) (da : Nat) (db : Nat) (pr : Int32) (z2 : Int32) (nn : Nat) (y4 : Int64) (z6 : Int32) (hc2 : cn2 ≤ 160) (hnb2 : nb2 ≤ 2048) (hln2 : ln2 ≤ 160) (hO2 : OrC fo2) (hnn : nn ≤ 200) : Met l yX5_tried wp_k_tried ({ frames := 3, cells := 0, slots := 0, locals := 140 }) (PcWC D [.ref (ob 0), .ref (ob2 0), .int z2, .int (nI nn), .long y4, .int z6] sz [(ob 0, .inr (5, [.ref (ob 1), .ref (ob 5), .int po])), (ob 5, .inr (3, gY ob (nI nb) (nI ka) (nI kb) sm (nI ln))), (ob 11, .inl (cI, 160, .inl fr)), (ob2 0, .inr (9, gT ob2 tb2 ts2 tg2 tl2 tc2 tr2 tu2 tv2 tw2)), (ob2 2, .inr (2, [.int (nI cn2), .ref (ob2 3), .ref (ob2 4)])), (ob2 3, .inl (cI, 160, .inl fk2)), (ob2 5, .inr (3, gY ob2 (nI nb2) (nI ka2) (nI kb2) sm2 (nI ln2))), (ob2 12, .inl (cI, 160, .inl fo2)), (ob2 7, .inl (cI, 2048, .inl ff2)), (ob2 10, .inl (cI, 160, .inl fj2)), (ob 1, .inr (0, [.long sd, .int (nI da), .int (nI db), .int pr]))] [(cI, .int)]) (va_Qi (fun (r : Int32) (u : (Nat → Int32) × (Nat → Int32) × (Int64) × (Nat) × (Nat) × (Int32)) => OrC u.2.1) (fun (u : (Nat → Int32) × (Nat → Int32) × (Int64) × (Nat) × (Nat) × (Int32)) t => va_P D vwCl [(ob 0, .inr (5, [.ref (ob 1), .ref (ob 5), .int po])), (ob 5, .inr (3, gY ob (nI nb) (nI ka) (nI kb) sm (nI ln))), (ob 11, .inl (cI, 160, .inl u.1)), (ob2 0, .inr (9, gT ob2 tb2 ts2 tg2 tl2 tc2 tr2 tu2 tv2 tw2)), (ob2 2, .inr (2, [.int (nI cn2), .ref (ob2 3), .ref (ob2 4)])), (ob2 3, .inl (cI, 160, .inl fk2)), (ob2 5, .inr (3, gY ob2 (nI nb2) (nI ka2) (nI kb2) sm2 (nI ln2))), (ob2 12, .inl (cI, 160, .inl u.2.1)), (ob2 7, .inl (cI, 2048, .inl ff2)), (ob2 10, .inl (cI, 160, .inl fj2)), (ob 1, .inr (0, [.long u.2.2.1, .int (nI u.2.2.2.1), .int (nI u.2.2.2.2.1), .int u.2.2.2.2.2]))] t.heap ∧ va_K D vwCl [(cI, .int)] t ∧ va_D (va_A [(ob 0, .inr (5, [.ref (ob 1), .ref (ob 5), .int po])), (ob 5, .inr (3, gY ob (nI nb) (nI ka) (nI kb) sm (nI ln))), (ob 11, .inl (cI, 160, .inl fr)), (ob2 0, .inr (9, gT ob2 tb2 ts2 tg2 tl2 tc2 tr2 tu2 tv2 tw2)), (ob2 2, .inr (2, [.int (nI cn2), .ref (ob2 3), .ref (ob2 4)])), (ob2 3, .inl (cI, 160, .inl fk2)), (ob2 5, .inr (3, gY ob2 (nI nb2) (nI ka2) (nI kb2) sm2 (nI ln2))), (ob2 12, .inl (cI, 160, .inl fo2)), (ob2 7, .inl (cI, 2048, .inl ff2)), (ob2 10, .inl (cI, 160, .inl fj2)), (ob 1, .inr (0, [.long sd, .int (nI da), .int (nI db), .int pr]))] sz) [(ob 0, .inr (5, [.ref (ob 1), .ref (ob 5), .int po])), (ob 5, .inr (3, gY ob (nI nb) (nI ka) (nI kb) sm (nI ln))), (ob 11, .inl (cI, 160, .inl u.1)), (ob2 0, .inr (9, gT ob2 tb2 ts2 tg2 tl2 tc2 tr2 tu2 tv2 tw2)), (ob2 2, .inr (2, [.int (nI cn2), .ref (ob2 3), .ref (ob2 4)])), (ob2 3, .inl (cI, 160, .inl fk2)), (ob2 5, .inr (3, gY ob2 (nI nb2) (nI ka2) (nI kb2) sm2 (nI ln2))), (ob2 12, .inl (cI, 160, .inl u.2.1)), (ob2 7, .inl (cI, 2048, .inl ff2)), (ob2 10, .inl (cI, 160, .inl fj2)), (ob 1, .inr (0, [.long u.2.2.1, .int (nI u.2.2.2.1), .int (nI u.2.2.2.2.1), .int u.2.2.2.2.2]))]) (va_A [(ob 0, .inr (5, [.ref (ob 1), .ref (ob 5), .int po])), (ob 5, .inr (3, gY ob (nI nb) (nI ka) (nI kb) sm (nI ln))), (ob 11, .inl (cI, 160, .inl fr)), (ob2 0, .inr (9, gT ob2 tb2 ts2 tg2 tl2 tc2 tr2 tu2 tv2 tw2)), (ob2 2, .inr (2, [.int (nI cn2), .ref (ob2 3), .ref (ob2 4)])), (ob2 3, .inl (cI, 160, .inl fk2)), (ob2 5, .inr (3, gY ob2 (nI nb2) (nI ka2) (nI kb2) sm2 (nI ln2))), (ob2 12, .inl (cI, 160, .inl fo2)), (ob2 7, .inl (cI, 2048, .inl ff2)), (ob2 10, .inl (cI, 160, .inl fj2)), (ob 1, .inr (0, [.long sd, .int (nI da), .int (nI db), .int pr]))] sz)) 0 0 (va_A [(ob 0, .inr (5, [.ref (ob 1), .ref (ob 5), .int po])), (ob 5, .inr (3, gY ob (nI nb) (nI ka) (nI kb) sm (nI ln))), (ob 11, .inl (cI, 160, .inl fr)), (ob2 0, .inr (9, gT ob2 tb2 ts2 tg2 tl2 tc2 tr2 tu2 tv2 tw2)), (ob2 2, .inr (2, [.int (nI cn2), .ref (ob2 3), .ref (ob2 4)])), (ob2 3, .inl (cI, 160, .inl fk2)), (ob2 5, .inr (3, gY ob2 (nI nb2) (nI ka2) (nI kb2) sm2 (nI ln2))), (ob2 12, .inl (cI, 160, .inl fo2)), (ob2 7, .inl (cI, 2048, .inl ff2)), (ob2 10, .inl (cI, 160, .inl fj2)), (ob 1, .inr (0, [.long sd, .int (nI da), .int (nI db), .int pr]))] sz) := by
  refine Met.ofW (cc := cX5_tried) (maxL := 12) (ret := (some .int)) (by decide) rfl ?_
  intro p e s m args below meth c s₁ B hml hv
  obtain ⟨rfl, hsz, hP, hK, hD0, hN⟩ := hv
  have hx := B.exec
  have hb := B.bytes
  have hr := B.returns
  have hts := atoms_spec (ws := wp_k_tried) B.pre
  have hin_X5 : ∀ w ∈ wsX50, w ∈ wp_k_tried := fun _ h => (List.mem_cons_of_mem _ (List.mem_append_right _ (List.mem_append_right _ (List.mem_append_right _ (List.mem_append_right _ (List.mem_append_right _ (List.mem_append_right _ (List.mem_append_left _ h))))))))
  have hin_X0 : ∀ w ∈ wsX00, w ∈ wp_k_tried := fun _ h => (List.mem_cons_of_mem _ (List.mem_append_right _ (List.mem_append_right _ (List.mem_append_right _ (List.mem_append_right _ (List.mem_append_right _ (List.mem_append_right _ (List.mem_append_right _ (List.mem_append_left _ h)))))))))
  have hin_X9 : ∀ w ∈ wsX90, w ∈ wp_k_tried := fun _ h => (List.mem_cons_of_mem _ (List.mem_append_right _ (List.mem_append_right _ (List.mem_append_right _ (List.mem_append_right _ (List.mem_append_right _ (List.mem_append_right _ (List.mem_append_right _ (List.mem_append_right _ (List.mem_append_left _ h))))))))))
  have hown : s.vm.findClass RX5 = some m.cls := findClass_of_methodNamed B.named
  have hlocks := B.notSynchronized
  subst hsz
  have hD := hD0.self (sz := s.heap.size)
  generalize hAe : va_A [(ob 0, .inr (5, [.ref (ob 1), .ref (ob 5), .int po])), (ob 5, .inr (3, gY ob (nI nb) (nI ka) (nI kb) sm (nI ln))), (ob 11, .inl (cI, 160, .inl fr)), (ob2 0, .inr (9, gT ob2 tb2 ts2 tg2 tl2 tc2 tr2 tu2 tv2 tw2)), (ob2 2, .inr (2, [.int (nI cn2), .ref (ob2 3), .ref (ob2 4)])), (ob2 3, .inl (cI, 160, .inl fk2)), (ob2 5, .inr (3, gY ob2 (nI nb2) (nI ka2) (nI kb2) sm2 (nI ln2))), (ob2 12, .inl (cI, 160, .inl fo2)), (ob2 7, .inl (cI, 2048, .inl ff2)), (ob2 10, .inl (cI, 160, .inl fj2)), (ob 1, .inr (0, [.long sd, .int (nI da), .int (nI db), .int pr]))] s.heap.size = A at hD ⊢
  have hA : ∀ q : Nat, s.heap.size ≤ q → A q := fun q h => by rw [← hAe]; exact Or.inr h
  have hS : va_S A s.heap s.heap [] := va_S.rf
  have hP : va_P D vwCl [(ob 0, .inr (5, [.ref (ob 1), .ref (ob 5), .int po])), (ob 5, .inr (3, gY ob (nI nb) (nI ka) (nI kb) sm (nI ln))), (ob 11, .inl (cI, 160, .inl fr)), (ob2 0, .inr (9, gT ob2 tb2 ts2 tg2 tl2 tc2 tr2 tu2 tv2 tw2)), (ob2 2, .inr (2, [.int (nI cn2), .ref (ob2 3), .ref (ob2 4)])), (ob2 3, .inl (cI, 160, .inl fk2)), (ob2 5, .inr (3, gY ob2 (nI nb2) (nI ka2) (nI kb2) sm2 (nI ln2))), (ob2 12, .inl (cI, 160, .inl fo2)), (ob2 7, .inl (cI, 2048, .inl ff2)), (ob2 10, .inl (cI, 160, .inl fj2)), (ob 1, .inr (0, [.long sd, .int (nI da), .int (nI db), .int pr]))] s.heap := hP
  have hl := lv_entry ([.ref (ob 0), .ref (ob2 0), .int z2, .int (nI nn), .long y4, .int z6]) (n := 12) (Nat.le_of_ble_eq_true rfl)
  rw [lg_entry_eq]
  generalize (lg_sl ([.ref (ob 0), .ref (ob2 0), .int z2, .int (nI nn), .long y4, .int z6]) ++ List.replicate (12 - (lg_sl ([.ref (ob 0), .ref (ob2 0), .int z2, .int (nI nn), .long y4, .int z6])).length) Slot.unset).toArray = ls at hl ⊢
  have hl : lv_has ls 12 [(0, .ref (ob 0)), (1, .ref (ob2 0)), (2, .int z2), (3, .int (nI nn)), (4, .long y4), (6, .int z6)] := hl
  refine lv_aload_n hx hb dX5_tried_0 rfl (lv_at hl 1 rfl) ?_
  refine va_get (D := D) (ci := 9) (v := .ref (ob2 5)) (C := RX9) (T := TX9) (N := 12) hx hb hts hin_X9 hown hK hP 3 rfl rfl 11 (by decide) (hts (.fieldLink RX5 61 "ClashFree$Table" "layout" "LClashFree$Layout;") (List.mem_of_getElem? (i := 12) rfl)) (fun _ h9 => h9) rfl dX5_tried_1 ?_
  refine lv_iload_n hx hb dX5_tried_4 rfl (lv_at hl 2 rfl) ?_
  have hPc := hP.sub (ws' := [(ob2 5, .inr (3, gY ob2 (nI nb2) (nI ka2) (nI kb2) sm2 (nI ln2))), (ob2 10, .inl (cI, 160, .inl fj2)), (ob2 12, .inl (cI, 160, .inl fo2))]) [6, 9, 7] rfl
  have hKc := hK.sub (tys' := [(cI, .int)]) [0] rfl
  have hDc := hD.sub (ws' := [(ob2 5, .inr (3, gY ob2 (nI nb2) (nI ka2) (nI kb2) sm2 (nI ln2))), (ob2 10, .inl (cI, 160, .inl fj2)), (ob2 12, .inl (cI, 160, .inl fo2))]) [6, 9, 7] (by decide) rfl
  have hFc := va_free (wc := [(ob2 5, .inr (3, gY ob2 (nI nb2) (nI ka2) (nI kb2) sm2 (nI ln2))), (ob2 10, .inl (cI, 160, .inl fj2)), (ob2 12, .inl (cI, 160, .inl fo2))]) hD hS hA [6, 9, 7] rfl
  refine va_calli (va_runV (As := [.int z2]) (rest := []) ⟨hx, hb, hml, hown, hts⟩ (k_gather l D _ ob2 cI nb2 ka2 kb2 sm2 ln2 fj2 fo2 z2 hln2 hO2) (cwV 1 hts g_k_tried_k_gather_68 rfl rfl rfl (by decide +kernel) ⟨(Nat.le_of_ble_eq_true rfl), (Nat.le_of_ble_eq_true rfl)⟩) (PcWC_V (q0 := 0) hPc hKc hDc hN rfl rfl) rfl rfl hl.1 rfl (lv_room (Nat.le_of_ble_eq_true rfl)) dX5_tried_5 ⟨(Nat.le_of_ble_eq_true rfl), (Nat.le_of_ble_eq_true rfl)⟩) hS (fun q _ h => hFc q h) hFc (fun r1 uu tt H locs htt hvm hw hB hz1 hk1 hS => ?_)
  obtain ⟨w2, rfl⟩ : ∃ z, z = uu := ⟨_, rfl⟩
  obtain ⟨hP1, hK1, hD1⟩ := hB
  rw [htt] at hP1
  have hK1 := va_K.moved hvm.symm hK1
  have hP1 : va_P D vwCl [(ob2 5, .inr (3, gY ob2 (nI nb2) (nI ka2) (nI kb2) sm2 (nI ln2))), (ob2 10, .inl (cI, 160, .inl fj2)), (ob2 12, .inl (cI, 160, .inl w2))] H := hP1
  obtain ⟨hP, hD⟩ := va_join (wr := [(ob 0, .inr (5, [.ref (ob 1), .ref (ob 5), .int po])), (ob 5, .inr (3, gY ob (nI nb) (nI ka) (nI kb) sm (nI ln))), (ob 11, .inl (cI, 160, .inl fr)), (ob2 0, .inr (9, gT ob2 tb2 ts2 tg2 tl2 tc2 tr2 tu2 tv2 tw2)), (ob2 2, .inr (2, [.int (nI cn2), .ref (ob2 3), .ref (ob2 4)])), (ob2 3, .inl (cI, 160, .inl fk2)), (ob2 7, .inl (cI, 2048, .inl ff2)), (ob 1, .inr (0, [.long sd, .int (nI da), .int (nI db), .int pr]))]) (w1 := [(ob2 5, .inr (3, gY ob2 (nI nb2) (nI ka2) (nI kb2) sm2 (nI ln2))), (ob2 10, .inl (cI, 160, .inl fj2)), (ob2 12, .inl (cI, 160, .inl w2))]) hP hD [6, 9, 7] [0, 1, 2, 3, 4, 5, 8, 10] rfl rfl (by decide) (by decide) hk1 hFc hP1 hD1
  have hP : va_P D vwCl [(ob 0, .inr (5, [.ref (ob 1), .ref (ob 5), .int po])), (ob 5, .inr (3, gY ob (nI nb) (nI ka) (nI kb) sm (nI ln))), (ob 11, .inl (cI, 160, .inl fr)), (ob2 0, .inr (9, gT ob2 tb2 ts2 tg2 tl2 tc2 tr2 tu2 tv2 tw2)), (ob2 2, .inr (2, [.int (nI cn2), .ref (ob2 3), .ref (ob2 4)])), (ob2 3, .inl (cI, 160, .inl fk2)), (ob2 7, .inl (cI, 2048, .inl ff2)), (ob 1, .inr (0, [.long sd, .int (nI da), .int (nI db), .int pr])), (ob2 5, .inr (3, gY ob2 (nI nb2) (nI ka2) (nI kb2) sm2 (nI ln2))), (ob2 10, .inl (cI, 160, .inl fj2)), (ob2 12, .inl (cI, 160, .inl w2))] H := hP
  have hD : va_D A [(ob 0, .inr (5, [.ref (ob 1), .ref (ob 5), .int po])), (ob 5, .inr (3, gY ob (nI nb) (nI ka) (nI kb) sm (nI ln))), (ob 11, .inl (cI, 160, .inl fr)), (ob2 0, .inr (9, gT ob2 tb2 ts2 tg2 tl2 tc2 tr2 tu2 tv2 tw2)), (ob2 2, .inr (2, [.int (nI cn2), .ref (ob2 3), .ref (ob2 4)])), (ob2 3, .inl (cI, 160, .inl fk2)), (ob2 7, .inl (cI, 2048, .inl ff2)), (ob 1, .inr (0, [.long sd, .int (nI da), .int (nI db), .int pr])), (ob2 5, .inr (3, gY ob2 (nI nb2) (nI ka2) (nI kb2) sm2 (nI ln2))), (ob2 10, .inl (cI, 160, .inl fj2)), (ob2 12, .inl (cI, 160, .inl w2))] := hD
  try dsimp only at hw
  clear hz1 hk1 hFc hPc hKc hDc
  obtain ⟨hO_ga3, ga3, hga3, rfl⟩ := hw
  refine lv_istore (lv' := [(7, .int (nI ga3)), (0, .ref (ob 0)), (1, .ref (ob2 0)), (2, .int z2), (3, .int (nI nn)), (4, .long y4), (6, .int z6)]) hx hb dX5_tried_8 hl (by decide) rfl (fun ls hl => ?_)
  refine lv_aload_n hx hb dX5_tried_10 rfl (lv_at hl 2 rfl) ?_
  refine va_get (D := D) (ci := 9) (v := .ref (ob2 5)) (C := RX9) (T := TX9) (N := 12) hx hb hts hin_X9 hown hK hP 3 rfl rfl 11 (by decide) (hts (.fieldLink RX5 61 "ClashFree$Table" "layout" "LClashFree$Layout;") (List.mem_of_getElem? (i := 12) rfl)) (fun _ h9 => h9) rfl dX5_tried_11 ?_
  refine lv_iload_n hx hb dX5_tried_14 rfl (lv_at hl 3 rfl) ?_
  have hPc := hP.sub (ws' := [(ob2 5, .inr (3, gY ob2 (nI nb2) (nI ka2) (nI kb2) sm2 (nI ln2))), (ob2 7, .inl (cI, 2048, .inl ff2))]) [8, 6] rfl
  have hKc := hK.sub (tys' := [(cI, .int)]) [0] rfl
  have hFc := va_free0 hS hA
  refine va_calli (va_runV (As := [.int z2]) (rest := []) ⟨hx, hb, hml, hown, hts⟩ (k_roomsOf l D _ ob2 cI nb2 ka2 kb2 sm2 ln2 ff2 z2 hnb2) (cwV 1 hts g_k_tried_k_roomsOf_71 rfl rfl rfl (by decide +kernel) ⟨(Nat.le_of_ble_eq_true rfl), (Nat.le_of_ble_eq_true rfl)⟩) (PcRC_V (q0 := 0) hPc hKc hN rfl rfl) rfl rfl hl.1 rfl (lv_room (Nat.le_of_ble_eq_true rfl)) dX5_tried_15 ⟨(Nat.le_of_ble_eq_true rfl), (Nat.le_of_ble_eq_true rfl)⟩) hS (fun q _ h => hFc q h) hFc (fun r4 uu tt H locs htt hvm hw hB hz1 hk1 hS => ?_)
  have hP := va_keep hP hk1
  try dsimp only at hw
  clear hB hz1 hk1 hFc hPc hKc
  have hro_r4 := hw
  refine lv_istore (lv' := [(8, .int r4), (7, .int (nI ga3)), (0, .ref (ob 0)), (1, .ref (ob2 0)), (2, .int z2), (3, .int (nI nn)), (4, .long y4), (6, .int z6)]) hx hb dX5_tried_18 hl (by decide) rfl (fun ls hl => ?_)
  refine lv_iconst (v := (-1)) hx hb dX5_tried_20 (by decide) ?_
  refine lv_istore (lv' := [(9, .int (-1)), (8, .int r4), (7, .int (nI ga3)), (0, .ref (ob 0)), (1, .ref (ob2 0)), (2, .int z2), (3, .int (nI nn)), (4, .long y4), (6, .int z6)]) hx hb dX5_tried_21 hl (by decide) rfl (fun ls hl => ?_)
  refine lv_iconst (v := 0) hx hb dX5_tried_23 (by decide) ?_
  refine lv_istore (lv' := [(10, .int 0), (9, .int (-1)), (8, .int r4), (7, .int (nI ga3)), (0, .ref (ob 0)), (1, .ref (ob2 0)), (2, .int z2), (3, .int (nI nn)), (4, .long y4), (6, .int z6)]) hx hb dX5_tried_24 hl (by decide) rfl (fun ls hl => ?_)
  refine lv_aload_n hx hb dX5_tried_26 rfl (lv_at hl 4 rfl) ?_
  refine va_get (D := D) (ci := 5) (v := .ref (ob 1)) (C := RX5) (T := TX5) (N := 3) hx hb hts hin_X5 hown hK hP 0 rfl rfl 0 (by decide) (hts (.fieldLink RX5 12 "ClashFree$Paper" "draw" "LClashFree$Draw;") (List.mem_of_getElem? (i := 1) rfl)) (fun _ h9 => h9) rfl dX5_tried_27 ?_
  refine lv_lload hx hb dX5_tried_30 (lv_at hl 8 rfl) ?_
  have hPc := hP.sub (ws' := [(ob 1, .inr (0, [.long sd, .int (nI da), .int (nI db), .int pr]))]) [7] rfl
  have hKc := hK.sub (tys' := []) [] rfl
  have hDc := hD.sub (ws' := [(ob 1, .inr (0, [.long sd, .int (nI da), .int (nI db), .int pr]))]) [7] (by decide) rfl
  have hFc := va_free (wc := [(ob 1, .inr (0, [.long sd, .int (nI da), .int (nI db), .int pr]))]) hD hS hA [7] rfl
  refine va_callv (va_runV (As := [.long y4]) (rest := []) ⟨hx, hb, hml, hown, hts⟩ (k_dbegin l D _ ob cI sd da db pr y4) (cwV 1 hts g_k_tried_k_dbegin_41 rfl rfl rfl (by decide +kernel) ⟨(Nat.le_of_ble_eq_true rfl), (Nat.le_of_ble_eq_true rfl)⟩) (PcWC_V (q0 := 0) hPc hKc hDc hN rfl rfl) rfl rfl hl.1 rfl (lv_room (Nat.le_of_ble_eq_true rfl)) dX5_tried_32 ⟨(Nat.le_of_ble_eq_true rfl), (Nat.le_of_ble_eq_true rfl)⟩) hS (fun q _ h => hFc q h) hFc (fun uu tt H locs htt hvm hw hB hz1 hk1 hS => ?_)
  obtain ⟨w6, w7⟩ := uu
  obtain ⟨hP1, hK1, hD1⟩ := hB
  rw [htt] at hP1
  have hK1 := va_K.moved hvm.symm hK1
  have hP1 : va_P D vwCl [(ob 1, .inr (0, [.long w6, .int (nI da), .int (nI db), .int w7]))] H := hP1
  obtain ⟨hP, hD⟩ := va_join (wr := [(ob 0, .inr (5, [.ref (ob 1), .ref (ob 5), .int po])), (ob 5, .inr (3, gY ob (nI nb) (nI ka) (nI kb) sm (nI ln))), (ob 11, .inl (cI, 160, .inl fr)), (ob2 0, .inr (9, gT ob2 tb2 ts2 tg2 tl2 tc2 tr2 tu2 tv2 tw2)), (ob2 2, .inr (2, [.int (nI cn2), .ref (ob2 3), .ref (ob2 4)])), (ob2 3, .inl (cI, 160, .inl fk2)), (ob2 7, .inl (cI, 2048, .inl ff2)), (ob2 5, .inr (3, gY ob2 (nI nb2) (nI ka2) (nI kb2) sm2 (nI ln2))), (ob2 10, .inl (cI, 160, .inl fj2)), (ob2 12, .inl (cI, 160, .inl w2))]) (w1 := [(ob 1, .inr (0, [.long w6, .int (nI da), .int (nI db), .int w7]))]) hP hD [7] [0, 1, 2, 3, 4, 5, 6, 8, 9, 10] rfl rfl (by decide) (by decide) hk1 hFc hP1 hD1
  have hP : va_P D vwCl [(ob 0, .inr (5, [.ref (ob 1), .ref (ob 5), .int po])), (ob 5, .inr (3, gY ob (nI nb) (nI ka) (nI kb) sm (nI ln))), (ob 11, .inl (cI, 160, .inl fr)), (ob2 0, .inr (9, gT ob2 tb2 ts2 tg2 tl2 tc2 tr2 tu2 tv2 tw2)), (ob2 2, .inr (2, [.int (nI cn2), .ref (ob2 3), .ref (ob2 4)])), (ob2 3, .inl (cI, 160, .inl fk2)), (ob2 7, .inl (cI, 2048, .inl ff2)), (ob2 5, .inr (3, gY ob2 (nI nb2) (nI ka2) (nI kb2) sm2 (nI ln2))), (ob2 10, .inl (cI, 160, .inl fj2)), (ob2 12, .inl (cI, 160, .inl w2)), (ob 1, .inr (0, [.long w6, .int (nI da), .int (nI db), .int w7]))] H := hP
  have hD : va_D A [(ob 0, .inr (5, [.ref (ob 1), .ref (ob 5), .int po])), (ob 5, .inr (3, gY ob (nI nb) (nI ka) (nI kb) sm (nI ln))), (ob 11, .inl (cI, 160, .inl fr)), (ob2 0, .inr (9, gT ob2 tb2 ts2 tg2 tl2 tc2 tr2 tu2 tv2 tw2)), (ob2 2, .inr (2, [.int (nI cn2), .ref (ob2 3), .ref (ob2 4)])), (ob2 3, .inl (cI, 160, .inl fk2)), (ob2 7, .inl (cI, 2048, .inl ff2)), (ob2 5, .inr (3, gY ob2 (nI nb2) (nI ka2) (nI kb2) sm2 (nI ln2))), (ob2 10, .inl (cI, 160, .inl fj2)), (ob2 12, .inl (cI, 160, .inl w2)), (ob 1, .inr (0, [.long w6, .int (nI da), .int (nI db), .int w7]))] := hD
  try dsimp only at hw
  clear hz1 hk1 hFc hPc hKc hDc
  clear hw
  refine lv_iconst (v := 0) hx hb dX5_tried_35 (by decide) ?_
  refine lv_istore (lv' := [(11, .int 0), (10, .int 0), (9, .int (-1)), (8, .int r4), (7, .int (nI ga3)), (0, .ref (ob 0)), (1, .ref (ob2 0)), (2, .int z2), (3, .int (nI nn)), (4, .long y4), (6, .int z6)]) hx hb dX5_tried_36 hl (by decide) rfl (fun ls hl => ?_)
  refine lk_tried l D ob ob2 cI po nb ka kb sm ln tb2 ts2 tg2 tl2 tc2 tr2 tu2 tv2 tw2 cn2 fk2 nb2 ka2 kb2 sm2 ln2 w2 ff2 fj2 z2 nn z6 ga3 r4 (hc2) (hnn) (by omega) hx hb hml hown hts hA (hK.sub [0] rfl) hN ?_ (nn + 1) 0 0 (-1) fr w6 da db w7 (Nat.zero_le _) (by omega) _ _ _ (hP.sub [0, 1, 2, 3, 4, 5, 7, 9, 6, 8, 10] rfl) (hD.sub [0, 1, 2, 3, 4, 5, 7, 9, 6, 8, 10] (by decide) rfl) hS (lv_sub hl [0, 1, 2, 4, 3, 5, 6, 7, 8, 10] rfl)
  intro y_8 go_9 fi_10 gr_11 sd_12 ea_13 eb_14 pq_15 hy1_16 H locs ls hP hD hS hl
  refine lv_iload hx hb dX5_tried_95 (lv_at hl 2 rfl) ?_
  refine lv_if_ne (tgt := 105) hx hb dX5_tried_97 (by decide) (fun hc17 => ?_) (fun hc17 => ?_)
  ·
    refine lv_iload hx hb dX5_tried_105 (lv_at hl 0 rfl) ?_
    exact W.iret (v := go_9) hx hb hr (fun t ht hW => ⟨⟨go_9, (gr_11, w2, sd_12, ea_13, eb_14, pq_15), rfl, (by (try dsimp only); first | done | exact hO_ga3), by rw [ht]; exact hP.sub [0, 1, 2, 3, 4, 5, 6, 7, 8, 9, 10] rfl, va_K.moved hW.alike (hK.sub [0] rfl), hD.sub [0, 1, 2, 3, 4, 5, 6, 7, 8, 9, 10] (by decide) rfl⟩, hS.F ht⟩) hS.2.2 dX5_tried_107
  ·
    refine lv_iload hx hb dX5_tried_100 (lv_at hl 1 rfl) ?_
    refine lv_goto (tgt := 107) hx hb dX5_tried_102 (by decide) ?_
    exact W.iret (v := fi_10) hx hb hr (fun t ht hW => ⟨⟨fi_10, (gr_11, w2, sd_12, ea_13, eb_14, pq_15), rfl, (by (try dsimp only); first | done | exact hO_ga3), by rw [ht]; exact hP.sub [0, 1, 2, 3, 4, 5, 6, 7, 8, 9, 10] rfl, va_K.moved hW.alike (hK.sub [0] rfl), hD.sub [0, 1, 2, 3, 4, 5, 6, 7, 8, 9, 10] (by decide) rfl⟩, hS.F ht⟩) hS.2.2 dX5_tried_107

