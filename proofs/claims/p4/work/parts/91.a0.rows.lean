theorem dX8_advance_0 : decode cX8_advance 0 = .ok (.aload_n 0, 1) := by decide +kernel
theorem dX8_advance_1 : decode cX8_advance 1 = .ok (.getfield 34, 3) := by decide +kernel
theorem dX8_advance_4 : decode cX8_advance 4 = .ok (.istore_n 1, 1) := by decide +kernel
theorem dX8_advance_5 : decode cX8_advance 5 = .ok (.aload_n 0, 1) := by decide +kernel
theorem dX8_advance_6 : decode cX8_advance 6 = .ok (.getfield 28, 3) := by decide +kernel
theorem dX8_advance_9 : decode cX8_advance 9 = .ok (.istore_n 2, 1) := by decide +kernel
theorem dX8_advance_10 : decode cX8_advance 10 = .ok (.aload_n 0, 1) := by decide +kernel
theorem dX8_advance_11 : decode cX8_advance 11 = .ok (.aload_n 0, 1) := by decide +kernel
theorem dX8_advance_12 : decode cX8_advance 12 = .ok (.getfield 28, 3) := by decide +kernel
theorem dX8_advance_15 : decode cX8_advance 15 = .ok (.putfield 25, 3) := by decide +kernel
theorem dX8_advance_18 : decode cX8_advance 18 = .ok (.aload_n 0, 1) := by decide +kernel
theorem dX8_advance_19 : decode cX8_advance 19 = .ok (.getfield 25, 3) := by decide +kernel
theorem dX8_advance_22 : decode cX8_advance 22 = .ok (.aload_n 0, 1) := by decide +kernel
theorem dX8_advance_23 : decode cX8_advance 23 = .ok (.getfield 21, 3) := by decide +kernel
theorem dX8_advance_26 : decode cX8_advance 26 = .ok (.if_icmp .ge 44, 3) := by decide +kernel
theorem dX8_advance_29 : decode cX8_advance 29 = .ok (.aload_n 0, 1) := by decide +kernel
theorem dX8_advance_30 : decode cX8_advance 30 = .ok (.getfield 9, 3) := by decide +kernel
theorem dX8_advance_33 : decode cX8_advance 33 = .ok (.aload_n 0, 1) := by decide +kernel
theorem dX8_advance_34 : decode cX8_advance 34 = .ok (.getfield 25, 3) := by decide +kernel
theorem dX8_advance_37 : decode cX8_advance 37 = .ok (.iaload, 1) := by decide +kernel
theorem dX8_advance_38 : decode cX8_advance 38 = .ok (.bipush 10, 2) := by decide +kernel
theorem dX8_advance_40 : decode cX8_advance 40 = .ok (.if_icmp .eq 17, 3) := by decide +kernel
theorem dX8_advance_43 : decode cX8_advance 43 = .ok (.aload_n 0, 1) := by decide +kernel
theorem dX8_advance_44 : decode cX8_advance 44 = .ok (.getfield 9, 3) := by decide +kernel
theorem dX8_advance_47 : decode cX8_advance 47 = .ok (.aload_n 0, 1) := by decide +kernel
theorem dX8_advance_48 : decode cX8_advance 48 = .ok (.getfield 25, 3) := by decide +kernel
theorem dX8_advance_51 : decode cX8_advance 51 = .ok (.iaload, 1) := by decide +kernel
theorem dX8_advance_52 : decode cX8_advance 52 = .ok (.bipush 32, 2) := by decide +kernel
theorem dX8_advance_54 : decode cX8_advance 54 = .ok (.if_icmp .ne 16, 3) := by decide +kernel
theorem dX8_advance_57 : decode cX8_advance 57 = .ok (.aload_n 0, 1) := by decide +kernel
theorem dX8_advance_58 : decode cX8_advance 58 = .ok (.dup, 1) := by decide +kernel
theorem dX8_advance_59 : decode cX8_advance 59 = .ok (.getfield 25, 3) := by decide +kernel
theorem dX8_advance_62 : decode cX8_advance 62 = .ok (.iconst 1, 1) := by decide +kernel
theorem dX8_advance_63 : decode cX8_advance 63 = .ok (.iadd, 1) := by decide +kernel
theorem dX8_advance_64 : decode cX8_advance 64 = .ok (.putfield 25, 3) := by decide +kernel
theorem dX8_advance_67 : decode cX8_advance 67 = .ok (.goto (-49), 3) := by decide +kernel
theorem dX8_advance_70 : decode cX8_advance 70 = .ok (.iload_n 1, 1) := by decide +kernel
theorem dX8_advance_71 : decode cX8_advance 71 = .ok (.ifCond .eq 15, 3) := by decide +kernel
theorem dX8_advance_74 : decode cX8_advance 74 = .ok (.aload_n 0, 1) := by decide +kernel
theorem dX8_advance_75 : decode cX8_advance 75 = .ok (.getfield 25, 3) := by decide +kernel
theorem dX8_advance_78 : decode cX8_advance 78 = .ok (.iload_n 2, 1) := by decide +kernel
theorem dX8_advance_79 : decode cX8_advance 79 = .ok (.if_icmp .ne 7, 3) := by decide +kernel
theorem dX8_advance_82 : decode cX8_advance 82 = .ok (.iconst 1, 1) := by decide +kernel
theorem dX8_advance_83 : decode cX8_advance 83 = .ok (.goto 4, 3) := by decide +kernel
theorem dX8_advance_86 : decode cX8_advance 86 = .ok (.iconst 0, 1) := by decide +kernel
theorem dX8_advance_87 : decode cX8_advance 87 = .ok (.istore_n 1, 1) := by decide +kernel
theorem dX8_advance_88 : decode cX8_advance 88 = .ok (.aload_n 0, 1) := by decide +kernel
theorem dX8_advance_89 : decode cX8_advance 89 = .ok (.aload_n 0, 1) := by decide +kernel
theorem dX8_advance_90 : decode cX8_advance 90 = .ok (.getfield 25, 3) := by decide +kernel
theorem dX8_advance_93 : decode cX8_advance 93 = .ok (.invokevirtual 38, 3) := by decide +kernel
theorem dX8_advance_96 : decode cX8_advance 96 = .ok (.istore_n 3, 1) := by decide +kernel
theorem dX8_advance_97 : decode cX8_advance 97 = .ok (.aload_n 0, 1) := by decide +kernel
theorem dX8_advance_98 : decode cX8_advance 98 = .ok (.iload_n 3, 1) := by decide +kernel
theorem dX8_advance_99 : decode cX8_advance 99 = .ok (.invokestatic 42, 3) := by decide +kernel
theorem dX8_advance_102 : decode cX8_advance 102 = .ok (.ifCond .ne 10, 3) := by decide +kernel
theorem dX8_advance_105 : decode cX8_advance 105 = .ok (.iload_n 3, 1) := by decide +kernel
theorem dX8_advance_106 : decode cX8_advance 106 = .ok (.invokestatic 46, 3) := by decide +kernel
theorem dX8_advance_109 : decode cX8_advance 109 = .ok (.ifCond .eq 7, 3) := by decide +kernel
theorem dX8_advance_112 : decode cX8_advance 112 = .ok (.iconst 1, 1) := by decide +kernel
theorem dX8_advance_113 : decode cX8_advance 113 = .ok (.goto 4, 3) := by decide +kernel
theorem dX8_advance_116 : decode cX8_advance 116 = .ok (.iconst 0, 1) := by decide +kernel
theorem dX8_advance_117 : decode cX8_advance 117 = .ok (.putfield 34, 3) := by decide +kernel
theorem dX8_advance_120 : decode cX8_advance 120 = .ok (.iload_n 3, 1) := by decide +kernel
theorem dX8_advance_121 : decode cX8_advance 121 = .ok (.invokestatic 42, 3) := by decide +kernel
theorem dX8_advance_124 : decode cX8_advance 124 = .ok (.ifCond .eq 10, 3) := by decide +kernel
theorem dX8_advance_127 : decode cX8_advance 127 = .ok (.aload_n 0, 1) := by decide +kernel
theorem dX8_advance_128 : decode cX8_advance 128 = .ok (.invokevirtual 49, 3) := by decide +kernel
theorem dX8_advance_131 : decode cX8_advance 131 = .ok (.goto 22, 3) := by decide +kernel
theorem dX8_advance_134 : decode cX8_advance 134 = .ok (.iload_n 3, 1) := by decide +kernel
theorem dX8_advance_135 : decode cX8_advance 135 = .ok (.invokestatic 46, 3) := by decide +kernel
theorem dX8_advance_138 : decode cX8_advance 138 = .ok (.ifCond .eq 10, 3) := by decide +kernel
theorem dX8_advance_141 : decode cX8_advance 141 = .ok (.aload_n 0, 1) := by decide +kernel
theorem dX8_advance_142 : decode cX8_advance 142 = .ok (.invokevirtual 52, 3) := by decide +kernel
theorem dX8_advance_145 : decode cX8_advance 145 = .ok (.goto 8, 3) := by decide +kernel
theorem dX8_advance_148 : decode cX8_advance 148 = .ok (.aload_n 0, 1) := by decide +kernel
theorem dX8_advance_149 : decode cX8_advance 149 = .ok (.iload_n 3, 1) := by decide +kernel
theorem dX8_advance_150 : decode cX8_advance 150 = .ok (.invokevirtual 55, 3) := by decide +kernel
theorem dX8_advance_153 : decode cX8_advance 153 = .ok (.aload_n 0, 1) := by decide +kernel
theorem dX8_advance_154 : decode cX8_advance 154 = .ok (.getfield 34, 3) := by decide +kernel
theorem dX8_advance_157 : decode cX8_advance 157 = .ok (.ifCond .eq 12, 3) := by decide +kernel
theorem dX8_advance_160 : decode cX8_advance 160 = .ok (.iload_n 1, 1) := by decide +kernel
theorem dX8_advance_161 : decode cX8_advance 161 = .ok (.ifCond .eq 8, 3) := by decide +kernel
theorem dX8_advance_164 : decode cX8_advance 164 = .ok (.aload_n 0, 1) := by decide +kernel
theorem dX8_advance_165 : decode cX8_advance 165 = .ok (.iconst 1, 1) := by decide +kernel
theorem dX8_advance_166 : decode cX8_advance 166 = .ok (.putfield 31, 3) := by decide +kernel
theorem dX8_advance_169 : decode cX8_advance 169 = .ok (.return_, 1) := by decide +kernel
theorem dX8_takeWord_0 : decode cX8_takeWord 0 = .ok (.aload_n 0, 1) := by decide +kernel
theorem dX8_takeWord_1 : decode cX8_takeWord 1 = .ok (.aload_n 0, 1) := by decide +kernel
theorem dX8_takeWord_2 : decode cX8_takeWord 2 = .ok (.getfield 25, 3) := by decide +kernel
theorem dX8_takeWord_5 : decode cX8_takeWord 5 = .ok (.putfield 28, 3) := by decide +kernel
theorem dX8_takeWord_8 : decode cX8_takeWord 8 = .ok (.aload_n 0, 1) := by decide +kernel
theorem dX8_takeWord_9 : decode cX8_takeWord 9 = .ok (.getfield 28, 3) := by decide +kernel
theorem dX8_takeWord_12 : decode cX8_takeWord 12 = .ok (.aload_n 0, 1) := by decide +kernel
theorem dX8_takeWord_13 : decode cX8_takeWord 13 = .ok (.getfield 21, 3) := by decide +kernel
theorem dX8_takeWord_16 : decode cX8_takeWord 16 = .ok (.if_icmp .ge 31, 3) := by decide +kernel
theorem dX8_takeWord_19 : decode cX8_takeWord 19 = .ok (.aload_n 0, 1) := by decide +kernel
theorem dX8_takeWord_20 : decode cX8_takeWord 20 = .ok (.getfield 9, 3) := by decide +kernel
theorem dX8_takeWord_23 : decode cX8_takeWord 23 = .ok (.aload_n 0, 1) := by decide +kernel
theorem dX8_takeWord_24 : decode cX8_takeWord 24 = .ok (.getfield 28, 3) := by decide +kernel
theorem dX8_takeWord_27 : decode cX8_takeWord 27 = .ok (.iaload, 1) := by decide +kernel
theorem dX8_takeWord_28 : decode cX8_takeWord 28 = .ok (.invokestatic 46, 3) := by decide +kernel
theorem dX8_takeWord_31 : decode cX8_takeWord 31 = .ok (.ifCond .eq 16, 3) := by decide +kernel
theorem dX8_takeWord_34 : decode cX8_takeWord 34 = .ok (.aload_n 0, 1) := by decide +kernel
theorem dX8_takeWord_35 : decode cX8_takeWord 35 = .ok (.dup, 1) := by decide +kernel
theorem dX8_takeWord_36 : decode cX8_takeWord 36 = .ok (.getfield 28, 3) := by decide +kernel
theorem dX8_takeWord_39 : decode cX8_takeWord 39 = .ok (.iconst 1, 1) := by decide +kernel
theorem dX8_takeWord_40 : decode cX8_takeWord 40 = .ok (.iadd, 1) := by decide +kernel
theorem dX8_takeWord_41 : decode cX8_takeWord 41 = .ok (.putfield 28, 3) := by decide +kernel
theorem dX8_takeWord_44 : decode cX8_takeWord 44 = .ok (.goto (-36), 3) := by decide +kernel
theorem dX8_takeWord_47 : decode cX8_takeWord 47 = .ok (.aload_n 0, 1) := by decide +kernel
theorem dX8_takeWord_48 : decode cX8_takeWord 48 = .ok (.aload_n 0, 1) := by decide +kernel
theorem dX8_takeWord_49 : decode cX8_takeWord 49 = .ok (.invokevirtual 62, 3) := by decide +kernel
theorem dX8_takeWord_52 : decode cX8_takeWord 52 = .ok (.putfield 31, 3) := by decide +kernel
theorem dX8_takeWord_55 : decode cX8_takeWord 55 = .ok (.return_, 1) := by decide +kernel
theorem dX8_wordKind_0 : decode cX8_wordKind 0 = .ok (.aload_n 0, 1) := by decide +kernel
theorem dX8_wordKind_1 : decode cX8_wordKind 1 = .ok (.ldc 66, 2) := by decide +kernel
theorem dX8_wordKind_3 : decode cX8_wordKind 3 = .ok (.invokevirtual 68, 3) := by decide +kernel
theorem dX8_wordKind_6 : decode cX8_wordKind 6 = .ok (.ifCond .eq 5, 3) := by decide +kernel
theorem dX8_wordKind_9 : decode cX8_wordKind 9 = .ok (.iconst 3, 1) := by decide +kernel
theorem dX8_wordKind_10 : decode cX8_wordKind 10 = .ok (.ireturn, 1) := by decide +kernel
theorem dX8_wordKind_11 : decode cX8_wordKind 11 = .ok (.aload_n 0, 1) := by decide +kernel
theorem dX8_wordKind_12 : decode cX8_wordKind 12 = .ok (.ldc 72, 2) := by decide +kernel
theorem dX8_wordKind_14 : decode cX8_wordKind 14 = .ok (.invokevirtual 68, 3) := by decide +kernel
theorem dX8_wordKind_17 : decode cX8_wordKind 17 = .ok (.ifCond .eq 5, 3) := by decide +kernel
theorem dX8_wordKind_20 : decode cX8_wordKind 20 = .ok (.iconst 4, 1) := by decide +kernel
theorem dX8_wordKind_21 : decode cX8_wordKind 21 = .ok (.ireturn, 1) := by decide +kernel
theorem dX8_wordKind_22 : decode cX8_wordKind 22 = .ok (.aload_n 0, 1) := by decide +kernel
theorem dX8_wordKind_23 : decode cX8_wordKind 23 = .ok (.ldc 74, 2) := by decide +kernel
theorem dX8_wordKind_25 : decode cX8_wordKind 25 = .ok (.invokevirtual 68, 3) := by decide +kernel
theorem dX8_wordKind_28 : decode cX8_wordKind 28 = .ok (.ifCond .eq 5, 3) := by decide +kernel
theorem dX8_wordKind_31 : decode cX8_wordKind 31 = .ok (.iconst 5, 1) := by decide +kernel
theorem dX8_wordKind_32 : decode cX8_wordKind 32 = .ok (.ireturn, 1) := by decide +kernel
theorem dX8_wordKind_33 : decode cX8_wordKind 33 = .ok (.aload_n 0, 1) := by decide +kernel
theorem dX8_wordKind_34 : decode cX8_wordKind 34 = .ok (.ldc 76, 2) := by decide +kernel
theorem dX8_wordKind_36 : decode cX8_wordKind 36 = .ok (.invokevirtual 68, 3) := by decide +kernel
theorem dX8_wordKind_39 : decode cX8_wordKind 39 = .ok (.ifCond .eq 6, 3) := by decide +kernel
theorem dX8_wordKind_42 : decode cX8_wordKind 42 = .ok (.bipush 6, 2) := by decide +kernel
theorem dX8_wordKind_44 : decode cX8_wordKind 44 = .ok (.ireturn, 1) := by decide +kernel
theorem dX8_wordKind_45 : decode cX8_wordKind 45 = .ok (.aload_n 0, 1) := by decide +kernel
theorem dX8_wordKind_46 : decode cX8_wordKind 46 = .ok (.ldc 78, 2) := by decide +kernel
theorem dX8_wordKind_48 : decode cX8_wordKind 48 = .ok (.invokevirtual 68, 3) := by decide +kernel
theorem dX8_wordKind_51 : decode cX8_wordKind 51 = .ok (.ifCond .eq 6, 3) := by decide +kernel
theorem dX8_wordKind_54 : decode cX8_wordKind 54 = .ok (.bipush 7, 2) := by decide +kernel
theorem dX8_wordKind_56 : decode cX8_wordKind 56 = .ok (.ireturn, 1) := by decide +kernel
theorem dX8_wordKind_57 : decode cX8_wordKind 57 = .ok (.aload_n 0, 1) := by decide +kernel
theorem dX8_wordKind_58 : decode cX8_wordKind 58 = .ok (.ldc 80, 2) := by decide +kernel
theorem dX8_wordKind_60 : decode cX8_wordKind 60 = .ok (.invokevirtual 68, 3) := by decide +kernel
theorem dX8_wordKind_63 : decode cX8_wordKind 63 = .ok (.ifCond .eq 6, 3) := by decide +kernel
theorem dX8_wordKind_66 : decode cX8_wordKind 66 = .ok (.bipush 8, 2) := by decide +kernel
theorem dX8_wordKind_68 : decode cX8_wordKind 68 = .ok (.ireturn, 1) := by decide +kernel
theorem dX8_wordKind_69 : decode cX8_wordKind 69 = .ok (.aload_n 0, 1) := by decide +kernel
theorem dX8_wordKind_70 : decode cX8_wordKind 70 = .ok (.ldc 82, 2) := by decide +kernel
theorem dX8_wordKind_72 : decode cX8_wordKind 72 = .ok (.invokevirtual 68, 3) := by decide +kernel
theorem dX8_wordKind_75 : decode cX8_wordKind 75 = .ok (.ifCond .eq 6, 3) := by decide +kernel
theorem dX8_wordKind_78 : decode cX8_wordKind 78 = .ok (.bipush 9, 2) := by decide +kernel
theorem dX8_wordKind_80 : decode cX8_wordKind 80 = .ok (.ireturn, 1) := by decide +kernel
theorem dX8_wordKind_81 : decode cX8_wordKind 81 = .ok (.aload_n 0, 1) := by decide +kernel
theorem dX8_wordKind_82 : decode cX8_wordKind 82 = .ok (.ldc 84, 2) := by decide +kernel
theorem dX8_wordKind_84 : decode cX8_wordKind 84 = .ok (.invokevirtual 68, 3) := by decide +kernel
theorem dX8_wordKind_87 : decode cX8_wordKind 87 = .ok (.ifCond .eq 6, 3) := by decide +kernel
theorem dX8_wordKind_90 : decode cX8_wordKind 90 = .ok (.bipush 10, 2) := by decide +kernel
theorem dX8_wordKind_92 : decode cX8_wordKind 92 = .ok (.ireturn, 1) := by decide +kernel
theorem dX8_wordKind_93 : decode cX8_wordKind 93 = .ok (.aload_n 0, 1) := by decide +kernel
theorem dX8_wordKind_94 : decode cX8_wordKind 94 = .ok (.ldc 86, 2) := by decide +kernel
theorem dX8_wordKind_96 : decode cX8_wordKind 96 = .ok (.invokevirtual 68, 3) := by decide +kernel
theorem dX8_wordKind_99 : decode cX8_wordKind 99 = .ok (.ifCond .eq 8, 3) := by decide +kernel
theorem dX8_wordKind_102 : decode cX8_wordKind 102 = .ok (.bipush 11, 2) := by decide +kernel
theorem dX8_wordKind_104 : decode cX8_wordKind 104 = .ok (.goto 4, 3) := by decide +kernel
theorem dX8_wordKind_107 : decode cX8_wordKind 107 = .ok (.iconst 1, 1) := by decide +kernel
theorem dX8_wordKind_108 : decode cX8_wordKind 108 = .ok (.ireturn, 1) := by decide +kernel
theorem dX8_is_0 : decode cX8_is 0 = .ok (.aload_n 0, 1) := by decide +kernel
theorem dX8_is_1 : decode cX8_is 1 = .ok (.getfield 28, 3) := by decide +kernel
theorem dX8_is_4 : decode cX8_is 4 = .ok (.aload_n 0, 1) := by decide +kernel
theorem dX8_is_5 : decode cX8_is 5 = .ok (.getfield 25, 3) := by decide +kernel
theorem dX8_is_8 : decode cX8_is 8 = .ok (.isub, 1) := by decide +kernel
theorem dX8_is_9 : decode cX8_is 9 = .ok (.aload_n 1, 1) := by decide +kernel
theorem dX8_is_10 : decode cX8_is 10 = .ok (.invokevirtual 88, 3) := by decide +kernel
theorem dX8_is_13 : decode cX8_is 13 = .ok (.if_icmp .eq 5, 3) := by decide +kernel
theorem dX8_is_16 : decode cX8_is 16 = .ok (.iconst 0, 1) := by decide +kernel
theorem dX8_is_17 : decode cX8_is 17 = .ok (.ireturn, 1) := by decide +kernel
theorem dX8_is_18 : decode cX8_is 18 = .ok (.iconst 0, 1) := by decide +kernel
theorem dX8_is_19 : decode cX8_is 19 = .ok (.istore_n 2, 1) := by decide +kernel
theorem dX8_is_20 : decode cX8_is 20 = .ok (.iload_n 2, 1) := by decide +kernel
theorem dX8_is_21 : decode cX8_is 21 = .ok (.aload_n 1, 1) := by decide +kernel
theorem dX8_is_22 : decode cX8_is 22 = .ok (.invokevirtual 88, 3) := by decide +kernel
theorem dX8_is_25 : decode cX8_is 25 = .ok (.if_icmp .ge 29, 3) := by decide +kernel
theorem dX8_is_28 : decode cX8_is 28 = .ok (.aload_n 0, 1) := by decide +kernel
theorem dX8_is_29 : decode cX8_is 29 = .ok (.aload_n 0, 1) := by decide +kernel
theorem dX8_is_30 : decode cX8_is 30 = .ok (.getfield 25, 3) := by decide +kernel
theorem dX8_is_33 : decode cX8_is 33 = .ok (.iload_n 2, 1) := by decide +kernel
theorem dX8_is_34 : decode cX8_is 34 = .ok (.iadd, 1) := by decide +kernel
theorem dX8_is_35 : decode cX8_is 35 = .ok (.invokevirtual 38, 3) := by decide +kernel
theorem dX8_is_38 : decode cX8_is 38 = .ok (.aload_n 1, 1) := by decide +kernel
theorem dX8_is_39 : decode cX8_is 39 = .ok (.iload_n 2, 1) := by decide +kernel
theorem dX8_is_40 : decode cX8_is 40 = .ok (.invokevirtual 92, 3) := by decide +kernel
theorem dX8_is_43 : decode cX8_is 43 = .ok (.if_icmp .eq 5, 3) := by decide +kernel
theorem dX8_is_46 : decode cX8_is 46 = .ok (.iconst 0, 1) := by decide +kernel
theorem dX8_is_47 : decode cX8_is 47 = .ok (.ireturn, 1) := by decide +kernel
theorem dX8_is_48 : decode cX8_is 48 = .ok (.iinc 2 1, 3) := by decide +kernel
theorem dX8_is_51 : decode cX8_is 51 = .ok (.goto (-31), 3) := by decide +kernel
theorem dX8_is_54 : decode cX8_is 54 = .ok (.iconst 1, 1) := by decide +kernel
theorem dX8_is_55 : decode cX8_is 55 = .ok (.ireturn, 1) := by decide +kernel
