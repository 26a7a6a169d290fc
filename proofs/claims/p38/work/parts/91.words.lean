theorem dX8_advance_0 : decode cX8_advance 0 = .ok (.aload_n 0, 1) := by decide +kernel
theorem dX8_advance_1 : decode cX8_advance 1 = .ok (.getfield 34, 3) := by decide +kernel
theorem dX8_advance_4 : decode cX8_advance 4 = .ok (.istore_n 1, 1) := by decide +kernel
theorem dX8_advance_5 : decode cX8_advance 5 = .ok (.aload_n 0, 1) := by decide +kernel
theorem dX8_advance_6 : decode cX8_advance 6 = .ok (.getfield 28, 3) := by decide +kernel
theorem dX8_advance_9 : decode cX8_advance 9 = .ok (.istore_n 2, 1) := by decide +kernel
theorem dX8_advance_10 : decode cX8_advance 10 = .ok (.aload_n 0, 1) := by decide +kernel
theorem dX8_advance_11 : decode cX8_advance 11 = .ok (.aload_n 0, 1) := by decide +kernel
theorem dX8_advance_12 : decode cX8_advance 12 = .ok (.getfield 28, 3) := by decide +kernel
theorem dX8_advance_15 : decode cX8_advance 15 = .ok (.putfield 25, 3) := by decide +kernel
theorem dX8_advance_18 : decode cX8_advance 18 = .ok (.aload_n 0, 1) := by decide +kernel
theorem dX8_advance_19 : decode cX8_advance 19 = .ok (.getfield 25, 3) := by decide +kernel
theorem dX8_advance_22 : decode cX8_advance 22 = .ok (.aload_n 0, 1) := by decide +kernel
theorem dX8_advance_23 : decode cX8_advance 23 = .ok (.getfield 21, 3) := by decide +kernel
theorem dX8_advance_26 : decode cX8_advance 26 = .ok (.if_icmp .ge 44, 3) := by decide +kernel
theorem dX8_advance_29 : decode cX8_advance 29 = .ok (.aload_n 0, 1) := by decide +kernel
theorem dX8_advance_30 : decode cX8_advance 30 = .ok (.getfield 9, 3) := by decide +kernel
theorem dX8_advance_33 : decode cX8_advance 33 = .ok (.aload_n 0, 1) := by decide +kernel
theorem dX8_advance_34 : decode cX8_advance 34 = .ok (.getfield 25, 3) := by decide +kernel
theorem dX8_advance_37 : decode cX8_advance 37 = .ok (.iaload, 1) := by decide +kernel
theorem dX8_advance_38 : decode cX8_advance 38 = .ok (.bipush 10, 2) := by decide +kernel
theorem dX8_advance_40 : decode cX8_advance 40 = .ok (.if_icmp .eq 17, 3) := by decide +kernel
theorem dX8_advance_43 : decode cX8_advance 43 = .ok (.aload_n 0, 1) := by decide +kernel
theorem dX8_advance_44 : decode cX8_advance 44 = .ok (.getfield 9, 3) := by decide +kernel
theorem dX8_advance_47 : decode cX8_advance 47 = .ok (.aload_n 0, 1) := by decide +kernel
theorem dX8_advance_48 : decode cX8_advance 48 = .ok (.getfield 25, 3) := by decide +kernel
theorem dX8_advance_51 : decode cX8_advance 51 = .ok (.iaload, 1) := by decide +kernel
theorem dX8_advance_52 : decode cX8_advance 52 = .ok (.bipush 32, 2) := by decide +kernel
theorem dX8_advance_54 : decode cX8_advance 54 = .ok (.if_icmp .ne 16, 3) := by decide +kernel
theorem dX8_advance_57 : decode cX8_advance 57 = .ok (.aload_n 0, 1) := by decide +kernel
theorem dX8_advance_58 : decode cX8_advance 58 = .ok (.dup, 1) := by decide +kernel
theorem dX8_advance_59 : decode cX8_advance 59 = .ok (.getfield 25, 3) := by decide +kernel
theorem dX8_advance_62 : decode cX8_advance 62 = .ok (.iconst 1, 1) := by decide +kernel
theorem dX8_advance_63 : decode cX8_advance 63 = .ok (.iadd, 1) := by decide +kernel
theorem dX8_advance_64 : decode cX8_advance 64 = .ok (.putfield 25, 3) := by decide +kernel
theorem dX8_advance_67 : decode cX8_advance 67 = .ok (.goto (-49), 3) := by decide +kernel
theorem dX8_advance_70 : decode cX8_advance 70 = .ok (.iload_n 1, 1) := by decide +kernel
theorem dX8_advance_71 : decode cX8_advance 71 = .ok (.ifCond .eq 15, 3) := by decide +kernel
theorem dX8_advance_74 : decode cX8_advance 74 = .ok (.aload_n 0, 1) := by decide +kernel
theorem dX8_advance_75 : decode cX8_advance 75 = .ok (.getfield 25, 3) := by decide +kernel
theorem dX8_advance_78 : decode cX8_advance 78 = .ok (.iload_n 2, 1) := by decide +kernel
theorem dX8_advance_79 : decode cX8_advance 79 = .ok (.if_icmp .ne 7, 3) := by decide +kernel
theorem dX8_advance_82 : decode cX8_advance 82 = .ok (.iconst 1, 1) := by decide +kernel
theorem dX8_advance_83 : decode cX8_advance 83 = .ok (.goto 4, 3) := by decide +kernel
theorem dX8_advance_86 : decode cX8_advance 86 = .ok (.iconst 0, 1) := by decide +kernel
theorem dX8_advance_87 : decode cX8_advance 87 = .ok (.istore_n 1, 1) := by decide +kernel
theorem dX8_advance_88 : decode cX8_advance 88 = .ok (.aload_n 0, 1) := by decide +kernel
theorem dX8_advance_89 : decode cX8_advance 89 = .ok (.aload_n 0, 1) := by decide +kernel
theorem dX8_advance_90 : decode cX8_advance 90 = .ok (.getfield 25, 3) := by decide +kernel
theorem dX8_advance_93 : decode cX8_advance 93 = .ok (.invokevirtual 38, 3) := by decide +kernel
theorem dX8_advance_96 : decode cX8_advance 96 = .ok (.istore_n 3, 1) := by decide +kernel
theorem dX8_advance_97 : decode cX8_advance 97 = .ok (.aload_n 0, 1) := by decide +kernel
theorem dX8_advance_98 : decode cX8_advance 98 = .ok (.iload_n 3, 1) := by decide +kernel
theorem dX8_advance_99 : decode cX8_advance 99 = .ok (.invokestatic 42, 3) := by decide +kernel
theorem dX8_advance_102 : decode cX8_advance 102 = .ok (.ifCond .ne 10, 3) := by decide +kernel
theorem dX8_advance_105 : decode cX8_advance 105 = .ok (.iload_n 3, 1) := by decide +kernel
theorem dX8_advance_106 : decode cX8_advance 106 = .ok (.invokestatic 46, 3) := by decide +kernel
theorem dX8_advance_109 : decode cX8_advance 109 = .ok (.ifCond .eq 7, 3) := by decide +kernel
theorem dX8_advance_112 : decode cX8_advance 112 = .ok (.iconst 1, 1) := by decide +kernel
theorem dX8_advance_113 : decode cX8_advance 113 = .ok (.goto 4, 3) := by decide +kernel
theorem dX8_advance_116 : decode cX8_advance 116 = .ok (.iconst 0, 1) := by decide +kernel
theorem dX8_advance_117 : decode cX8_advance 117 = .ok (.putfield 34, 3) := by decide +kernel
theorem dX8_advance_120 : decode cX8_advance 120 = .ok (.iload_n 3, 1) := by decide +kernel
theorem dX8_advance_121 : decode cX8_advance 121 = .ok (.invokestatic 42, 3) := by decide +kernel
theorem dX8_advance_124 : decode cX8_advance 124 = .ok (.ifCond .eq 10, 3) := by decide +kernel
theorem dX8_advance_127 : decode cX8_advance 127 = .ok (.aload_n 0, 1) := by decide +kernel
theorem dX8_advance_128 : decode cX8_advance 128 = .ok (.invokevirtual 49, 3) := by decide +kernel
theorem dX8_advance_131 : decode cX8_advance 131 = .ok (.goto 22, 3) := by decide +kernel
theorem dX8_advance_134 : decode cX8_advance 134 = .ok (.iload_n 3, 1) := by decide +kernel
theorem dX8_advance_135 : decode cX8_advance 135 = .ok (.invokestatic 46, 3) := by decide +kernel
theorem dX8_advance_138 : decode cX8_advance 138 = .ok (.ifCond .eq 10, 3) := by decide +kernel
theorem dX8_advance_141 : decode cX8_advance 141 = .ok (.aload_n 0, 1) := by decide +kernel
theorem dX8_advance_142 : decode cX8_advance 142 = .ok (.invokevirtual 52, 3) := by decide +kernel
theorem dX8_advance_145 : decode cX8_advance 145 = .ok (.goto 8, 3) := by decide +kernel
theorem dX8_advance_148 : decode cX8_advance 148 = .ok (.aload_n 0, 1) := by decide +kernel
theorem dX8_advance_149 : decode cX8_advance 149 = .ok (.iload_n 3, 1) := by decide +kernel
theorem dX8_advance_150 : decode cX8_advance 150 = .ok (.invokevirtual 55, 3) := by decide +kernel
theorem dX8_advance_153 : decode cX8_advance 153 = .ok (.aload_n 0, 1) := by decide +kernel
theorem dX8_advance_154 : decode cX8_advance 154 = .ok (.getfield 34, 3) := by decide +kernel
theorem dX8_advance_157 : decode cX8_advance 157 = .ok (.ifCond .eq 12, 3) := by decide +kernel
theorem dX8_advance_160 : decode cX8_advance 160 = .ok (.iload_n 1, 1) := by decide +kernel
theorem dX8_advance_161 : decode cX8_advance 161 = .ok (.ifCond .eq 8, 3) := by decide +kernel
theorem dX8_advance_164 : decode cX8_advance 164 = .ok (.aload_n 0, 1) := by decide +kernel
theorem dX8_advance_165 : decode cX8_advance 165 = .ok (.iconst 1, 1) := by decide +kernel
theorem dX8_advance_166 : decode cX8_advance 166 = .ok (.putfield 31, 3) := by decide +kernel
theorem dX8_advance_169 : decode cX8_advance 169 = .ok (.return_, 1) := by decide +kernel
theorem dX8_takeWord_0 : decode cX8_takeWord 0 = .ok (.aload_n 0, 1) := by decide +kernel
theorem dX8_takeWord_1 : decode cX8_takeWord 1 = .ok (.aload_n 0, 1) := by decide +kernel
theorem dX8_takeWord_2 : decode cX8_takeWord 2 = .ok (.getfield 25, 3) := by decide +kernel
theorem dX8_takeWord_5 : decode cX8_takeWord 5 = .ok (.putfield 28, 3) := by decide +kernel
theorem dX8_takeWord_8 : decode cX8_takeWord 8 = .ok (.aload_n 0, 1) := by decide +kernel
theorem dX8_takeWord_9 : decode cX8_takeWord 9 = .ok (.getfield 28, 3) := by decide +kernel
theorem dX8_takeWord_12 : decode cX8_takeWord 12 = .ok (.aload_n 0, 1) := by decide +kernel
theorem dX8_takeWord_13 : decode cX8_takeWord 13 = .ok (.getfield 21, 3) := by decide +kernel
theorem dX8_takeWord_16 : decode cX8_takeWord 16 = .ok (.if_icmp .ge 31, 3) := by decide +kernel
theorem dX8_takeWord_19 : decode cX8_takeWord 19 = .ok (.aload_n 0, 1) := by decide +kernel
theorem dX8_takeWord_20 : decode cX8_takeWord 20 = .ok (.getfield 9, 3) := by decide +kernel
theorem dX8_takeWord_23 : decode cX8_takeWord 23 = .ok (.aload_n 0, 1) := by decide +kernel
theorem dX8_takeWord_24 : decode cX8_takeWord 24 = .ok (.getfield 28, 3) := by decide +kernel
theorem dX8_takeWord_27 : decode cX8_takeWord 27 = .ok (.iaload, 1) := by decide +kernel
theorem dX8_takeWord_28 : decode cX8_takeWord 28 = .ok (.invokestatic 46, 3) := by decide +kernel
theorem dX8_takeWord_31 : decode cX8_takeWord 31 = .ok (.ifCond .eq 16, 3) := by decide +kernel
theorem dX8_takeWord_34 : decode cX8_takeWord 34 = .ok (.aload_n 0, 1) := by decide +kernel
theorem dX8_takeWord_35 : decode cX8_takeWord 35 = .ok (.dup, 1) := by decide +kernel
theorem dX8_takeWord_36 : decode cX8_takeWord 36 = .ok (.getfield 28, 3) := by decide +kernel
theorem dX8_takeWord_39 : decode cX8_takeWord 39 = .ok (.iconst 1, 1) := by decide +kernel
theorem dX8_takeWord_40 : decode cX8_takeWord 40 = .ok (.iadd, 1) := by decide +kernel
theorem dX8_takeWord_41 : decode cX8_takeWord 41 = .ok (.putfield 28, 3) := by decide +kernel
theorem dX8_takeWord_44 : decode cX8_takeWord 44 = .ok (.goto (-36), 3) := by decide +kernel
theorem dX8_takeWord_47 : decode cX8_takeWord 47 = .ok (.aload_n 0, 1) := by decide +kernel
theorem dX8_takeWord_48 : decode cX8_takeWord 48 = .ok (.aload_n 0, 1) := by decide +kernel
theorem dX8_takeWord_49 : decode cX8_takeWord 49 = .ok (.invokevirtual 62, 3) := by decide +kernel
theorem dX8_takeWord_52 : decode cX8_takeWord 52 = .ok (.putfield 31, 3) := by decide +kernel
theorem dX8_takeWord_55 : decode cX8_takeWord 55 = .ok (.return_, 1) := by decide +kernel
theorem dX8_wordKind_0 : decode cX8_wordKind 0 = .ok (.aload_n 0, 1) := by decide +kernel
theorem dX8_wordKind_1 : decode cX8_wordKind 1 = .ok (.ldc 66, 2) := by decide +kernel
theorem dX8_wordKind_3 : decode cX8_wordKind 3 = .ok (.invokevirtual 68, 3) := by decide +kernel
theorem dX8_wordKind_6 : decode cX8_wordKind 6 = .ok (.ifCond .eq 5, 3) := by decide +kernel
theorem dX8_wordKind_9 : decode cX8_wordKind 9 = .ok (.iconst 3, 1) := by decide +kernel
theorem dX8_wordKind_10 : decode cX8_wordKind 10 = .ok (.ireturn, 1) := by decide +kernel
theorem dX8_wordKind_11 : decode cX8_wordKind 11 = .ok (.aload_n 0, 1) := by decide +kernel
theorem dX8_wordKind_12 : decode cX8_wordKind 12 = .ok (.ldc 72, 2) := by decide +kernel
theorem dX8_wordKind_14 : decode cX8_wordKind 14 = .ok (.invokevirtual 68, 3) := by decide +kernel
theorem dX8_wordKind_17 : decode cX8_wordKind 17 = .ok (.ifCond .eq 5, 3) := by decide +kernel
theorem dX8_wordKind_20 : decode cX8_wordKind 20 = .ok (.iconst 4, 1) := by decide +kernel
theorem dX8_wordKind_21 : decode cX8_wordKind 21 = .ok (.ireturn, 1) := by decide +kernel
theorem dX8_wordKind_22 : decode cX8_wordKind 22 = .ok (.aload_n 0, 1) := by decide +kernel
theorem dX8_wordKind_23 : decode cX8_wordKind 23 = .ok (.ldc 74, 2) := by decide +kernel
theorem dX8_wordKind_25 : decode cX8_wordKind 25 = .ok (.invokevirtual 68, 3) := by decide +kernel
theorem dX8_wordKind_28 : decode cX8_wordKind 28 = .ok (.ifCond .eq 5, 3) := by decide +kernel
theorem dX8_wordKind_31 : decode cX8_wordKind 31 = .ok (.iconst 5, 1) := by decide +kernel
theorem dX8_wordKind_32 : decode cX8_wordKind 32 = .ok (.ireturn, 1) := by decide +kernel
theorem dX8_wordKind_33 : decode cX8_wordKind 33 = .ok (.aload_n 0, 1) := by decide +kernel
theorem dX8_wordKind_34 : decode cX8_wordKind 34 = .ok (.ldc 76, 2) := by decide +kernel
theorem dX8_wordKind_36 : decode cX8_wordKind 36 = .ok (.invokevirtual 68, 3) := by decide +kernel
theorem dX8_wordKind_39 : decode cX8_wordKind 39 = .ok (.ifCond .eq 6, 3) := by decide +kernel
theorem dX8_wordKind_42 : decode cX8_wordKind 42 = .ok (.bipush 6, 2) := by decide +kernel
theorem dX8_wordKind_44 : decode cX8_wordKind 44 = .ok (.ireturn, 1) := by decide +kernel
theorem dX8_wordKind_45 : decode cX8_wordKind 45 = .ok (.aload_n 0, 1) := by decide +kernel
theorem dX8_wordKind_46 : decode cX8_wordKind 46 = .ok (.ldc 78, 2) := by decide +kernel
theorem dX8_wordKind_48 : decode cX8_wordKind 48 = .ok (.invokevirtual 68, 3) := by decide +kernel
theorem dX8_wordKind_51 : decode cX8_wordKind 51 = .ok (.ifCond .eq 6, 3) := by decide +kernel
theorem dX8_wordKind_54 : decode cX8_wordKind 54 = .ok (.bipush 7, 2) := by decide +kernel
theorem dX8_wordKind_56 : decode cX8_wordKind 56 = .ok (.ireturn, 1) := by decide +kernel
theorem dX8_wordKind_57 : decode cX8_wordKind 57 = .ok (.aload_n 0, 1) := by decide +kernel
theorem dX8_wordKind_58 : decode cX8_wordKind 58 = .ok (.ldc 80, 2) := by decide +kernel
theorem dX8_wordKind_60 : decode cX8_wordKind 60 = .ok (.invokevirtual 68, 3) := by decide +kernel
theorem dX8_wordKind_63 : decode cX8_wordKind 63 = .ok (.ifCond .eq 6, 3) := by decide +kernel
theorem dX8_wordKind_66 : decode cX8_wordKind 66 = .ok (.bipush 8, 2) := by decide +kernel
theorem dX8_wordKind_68 : decode cX8_wordKind 68 = .ok (.ireturn, 1) := by decide +kernel
theorem dX8_wordKind_69 : decode cX8_wordKind 69 = .ok (.aload_n 0, 1) := by decide +kernel
theorem dX8_wordKind_70 : decode cX8_wordKind 70 = .ok (.ldc 82, 2) := by decide +kernel
theorem dX8_wordKind_72 : decode cX8_wordKind 72 = .ok (.invokevirtual 68, 3) := by decide +kernel
theorem dX8_wordKind_75 : decode cX8_wordKind 75 = .ok (.ifCond .eq 6, 3) := by decide +kernel
theorem dX8_wordKind_78 : decode cX8_wordKind 78 = .ok (.bipush 9, 2) := by decide +kernel
theorem dX8_wordKind_80 : decode cX8_wordKind 80 = .ok (.ireturn, 1) := by decide +kernel
theorem dX8_wordKind_81 : decode cX8_wordKind 81 = .ok (.aload_n 0, 1) := by decide +kernel
theorem dX8_wordKind_82 : decode cX8_wordKind 82 = .ok (.ldc 84, 2) := by decide +kernel
theorem dX8_wordKind_84 : decode cX8_wordKind 84 = .ok (.invokevirtual 68, 3) := by decide +kernel
theorem dX8_wordKind_87 : decode cX8_wordKind 87 = .ok (.ifCond .eq 6, 3) := by decide +kernel
theorem dX8_wordKind_90 : decode cX8_wordKind 90 = .ok (.bipush 10, 2) := by decide +kernel
theorem dX8_wordKind_92 : decode cX8_wordKind 92 = .ok (.ireturn, 1) := by decide +kernel
theorem dX8_wordKind_93 : decode cX8_wordKind 93 = .ok (.aload_n 0, 1) := by decide +kernel
theorem dX8_wordKind_94 : decode cX8_wordKind 94 = .ok (.ldc 86, 2) := by decide +kernel
theorem dX8_wordKind_96 : decode cX8_wordKind 96 = .ok (.invokevirtual 68, 3) := by decide +kernel
theorem dX8_wordKind_99 : decode cX8_wordKind 99 = .ok (.ifCond .eq 8, 3) := by decide +kernel
theorem dX8_wordKind_102 : decode cX8_wordKind 102 = .ok (.bipush 11, 2) := by decide +kernel
theorem dX8_wordKind_104 : decode cX8_wordKind 104 = .ok (.goto 4, 3) := by decide +kernel
theorem dX8_wordKind_107 : decode cX8_wordKind 107 = .ok (.iconst 1, 1) := by decide +kernel
theorem dX8_wordKind_108 : decode cX8_wordKind 108 = .ok (.ireturn, 1) := by decide +kernel
theorem dX8_is_0 : decode cX8_is 0 = .ok (.aload_n 0, 1) := by decide +kernel
theorem dX8_is_1 : decode cX8_is 1 = .ok (.getfield 28, 3) := by decide +kernel
theorem dX8_is_4 : decode cX8_is 4 = .ok (.aload_n 0, 1) := by decide +kernel
theorem dX8_is_5 : decode cX8_is 5 = .ok (.getfield 25, 3) := by decide +kernel
theorem dX8_is_8 : decode cX8_is 8 = .ok (.isub, 1) := by decide +kernel
theorem dX8_is_9 : decode cX8_is 9 = .ok (.aload_n 1, 1) := by decide +kernel
theorem dX8_is_10 : decode cX8_is 10 = .ok (.invokevirtual 88, 3) := by decide +kernel
theorem dX8_is_13 : decode cX8_is 13 = .ok (.if_icmp .eq 5, 3) := by decide +kernel
theorem dX8_is_16 : decode cX8_is 16 = .ok (.iconst 0, 1) := by decide +kernel
theorem dX8_is_17 : decode cX8_is 17 = .ok (.ireturn, 1) := by decide +kernel
theorem dX8_is_18 : decode cX8_is 18 = .ok (.iconst 0, 1) := by decide +kernel
theorem dX8_is_19 : decode cX8_is 19 = .ok (.istore_n 2, 1) := by decide +kernel
theorem dX8_is_20 : decode cX8_is 20 = .ok (.iload_n 2, 1) := by decide +kernel
theorem dX8_is_21 : decode cX8_is 21 = .ok (.aload_n 1, 1) := by decide +kernel
theorem dX8_is_22 : decode cX8_is 22 = .ok (.invokevirtual 88, 3) := by decide +kernel
theorem dX8_is_25 : decode cX8_is 25 = .ok (.if_icmp .ge 29, 3) := by decide +kernel
theorem dX8_is_28 : decode cX8_is 28 = .ok (.aload_n 0, 1) := by decide +kernel
theorem dX8_is_29 : decode cX8_is 29 = .ok (.aload_n 0, 1) := by decide +kernel
theorem dX8_is_30 : decode cX8_is 30 = .ok (.getfield 25, 3) := by decide +kernel
theorem dX8_is_33 : decode cX8_is 33 = .ok (.iload_n 2, 1) := by decide +kernel
theorem dX8_is_34 : decode cX8_is 34 = .ok (.iadd, 1) := by decide +kernel
theorem dX8_is_35 : decode cX8_is 35 = .ok (.invokevirtual 38, 3) := by decide +kernel
theorem dX8_is_38 : decode cX8_is 38 = .ok (.aload_n 1, 1) := by decide +kernel
theorem dX8_is_39 : decode cX8_is 39 = .ok (.iload_n 2, 1) := by decide +kernel
theorem dX8_is_40 : decode cX8_is 40 = .ok (.invokevirtual 92, 3) := by decide +kernel
theorem dX8_is_43 : decode cX8_is 43 = .ok (.if_icmp .eq 5, 3) := by decide +kernel
theorem dX8_is_46 : decode cX8_is 46 = .ok (.iconst 0, 1) := by decide +kernel
theorem dX8_is_47 : decode cX8_is 47 = .ok (.ireturn, 1) := by decide +kernel
theorem dX8_is_48 : decode cX8_is 48 = .ok (.iinc 2 1, 3) := by decide +kernel
theorem dX8_is_51 : decode cX8_is 51 = .ok (.goto (-31), 3) := by decide +kernel
theorem dX8_is_54 : decode cX8_is 54 = .ok (.iconst 1, 1) := by decide +kernel
theorem dX8_is_55 : decode cX8_is 55 = .ok (.ireturn, 1) := by decide +kernel
def own_k_is : List Cond := [.methodLink RX8 88 yJ0_length_8abf5, .instanceMethod yJ0_length_8abf5, .selects RJ0 yJ0_length_8abf5 yJ0_length_8abf5, .initialized RJ0, .fieldLink RX8 25 "ClashFree$Scanner" "at" "I", .methodLink RX8 38 yX8_byteAt, .instanceMethod yX8_byteAt, .selects RX8 yX8_byteAt yX8_byteAt, .initialized RX8, .methodLink RX8 92 yJ0_charAt_5068e, .instanceMethod yJ0_charAt_5068e, .selects RJ0 yJ0_charAt_5068e yJ0_charAt_5068e, .fieldLink RX8 28 "ClashFree$Scanner" "behind" "I"]
def wp_k_is : List Cond := .code yX8_is cX8_is 3 (some .boolean) :: (own_k_is ++ (wp_k_slen ++ (wp_k_byteAt ++ (wp_k_chAt ++ (wsX80 ++ ([] : List Cond))))))
set_option maxRecDepth 20000 in
theorem inown_k_is : ∀ w ∈ own_k_is, w ∈ lw_tbl := mem_places [955, 956, 957, 120, 304, 928, 930, 5, 113, 965, 966, 967, 306] (by decide +kernel)
set_option maxRecDepth 20000 in
theorem in_k_is : ∀ w ∈ wp_k_is, w ∈ lw_tbl := List.forall_mem_cons.mpr ⟨List.mem_of_getElem? (i := 954) (by decide +kernel), List.forall_mem_append.mpr ⟨inown_k_is, List.forall_mem_append.mpr ⟨in_k_slen, List.forall_mem_append.mpr ⟨in_k_byteAt, List.forall_mem_append.mpr ⟨in_k_chAt, List.forall_mem_append.mpr ⟨lwb_X8, fun _ h => absurd h List.not_mem_nil⟩⟩⟩⟩⟩⟩
set_option maxRecDepth 20000 in
theorem good_k_is : wp_k_is.all goodWord = true := by decide +kernel
set_option maxRecDepth 20000 in
theorem g_k_is_k_slen_88 : GoodIn wp_k_is (wsV RX8 88 RJ0 yJ0_length_8abf5 wp_k_slen) := goodIn_sub (List.forall_mem_append.mpr ⟨List.forall_mem_cons.mpr ⟨(List.mem_of_getElem? (i := 1) rfl), List.forall_mem_cons.mpr ⟨(List.mem_of_getElem? (i := 2) rfl), List.forall_mem_cons.mpr ⟨(List.mem_of_getElem? (i := 3) rfl), List.forall_mem_cons.mpr ⟨(List.mem_of_getElem? (i := 4) rfl), fun _ h => absurd h List.not_mem_nil⟩⟩⟩⟩, (fun _ h => (List.mem_cons_of_mem _ (List.mem_append_right _ (List.mem_append_left _ h))))⟩) (by decide +kernel)
set_option maxRecDepth 20000 in
theorem g_k_is_k_byteAt_38 : GoodIn wp_k_is (wsV RX8 38 RX8 yX8_byteAt wp_k_byteAt) := goodIn_sub (List.forall_mem_append.mpr ⟨List.forall_mem_cons.mpr ⟨(List.mem_of_getElem? (i := 6) rfl), List.forall_mem_cons.mpr ⟨(List.mem_of_getElem? (i := 7) rfl), List.forall_mem_cons.mpr ⟨(List.mem_of_getElem? (i := 8) rfl), List.forall_mem_cons.mpr ⟨(List.mem_of_getElem? (i := 9) rfl), fun _ h => absurd h List.not_mem_nil⟩⟩⟩⟩, (fun _ h => (List.mem_cons_of_mem _ (List.mem_append_right _ (List.mem_append_right _ (List.mem_append_left _ h)))))⟩) (by decide +kernel)
set_option maxRecDepth 20000 in
theorem g_k_is_k_chAt_92 : GoodIn wp_k_is (wsV RX8 92 RJ0 yJ0_charAt_5068e wp_k_chAt) := goodIn_sub (List.forall_mem_append.mpr ⟨List.forall_mem_cons.mpr ⟨(List.mem_of_getElem? (i := 10) rfl), List.forall_mem_cons.mpr ⟨(List.mem_of_getElem? (i := 11) rfl), List.forall_mem_cons.mpr ⟨(List.mem_of_getElem? (i := 12) rfl), List.forall_mem_cons.mpr ⟨(List.mem_of_getElem? (i := 4) rfl), fun _ h => absurd h List.not_mem_nil⟩⟩⟩⟩, (fun _ h => (List.mem_cons_of_mem _ (List.mem_append_right _ (List.mem_append_right _ (List.mem_append_right _ (List.mem_append_left _ h))))))⟩) (by decide +kernel)
set_option maxHeartbeats 4000000 in
set_option maxRecDepth 100000 in
theorem lk_is (l : Launch) {p : Program} {e : Env} {s : State} {m : MethodId} {args : Array Value} {below : List Frame} {meth : Method} {c : Code} {Q : State → Prop} {A : Nat → Prop} (D : va_G) (adK : Nat → Nat) (adV : Nat → Nat) (oq : Nat → Nat) (ox : Nat → Nat) (cI : ClassId) (zl : Nat) (ta : Nat) (be : Nat) (ki : Int32) (nu : Int32) (wo : Int32) (fT : Nat → Int32) (si : Nat) (bt : Nat → Nat) (hzl : zl ≤ 1400) (hsi : si < 9) (hbt : TieC fT bt) (hbe : be ≤ zl) (hlen : be - ta = lenS.getD si 0) (hx : p.tables.exec = Jvm.exec) (hb : c.code = cX8_is) (hml : c.maxLocals = 3) (hown : s.vm.findClass RX8 = some m.cls) (hts : ∀ w ∈ wp_k_is, w.before args s = true) (hA : ∀ q, s.heap.size ≤ q → A q) (hK : va_K D vwCl [(cI, .int)] s) (hN : NC s) (hST : ST adK adV A s s.heap) (kx54 : ∀ (y : Nat), (y ≤ lenS.getD si 0) → (∀ j, j < y → bt (ta + j) = (wdS.getD si []).getD j 0) → (lenS.getD si 0 ≤ y) → ∀ (H : Heap) (locs : List Loc) (ls : Array Slot), va_P D vwCl [(oq 5, .inr (8, [.ref (ox 2), .int (nI zl), .int (nI ta), .int (nI be), .int ki, .int nu, .int wo])), (ox 2, .inl (cI, 1400, .inl fT))] H → va_S A s.heap H locs → lv_has ls 3 [(0, .ref (oq 5))] → W p l e ({ frames := 4, cells := 0, slots := 0, locals := 150 }) s m args below meth c H locs 0 0 Q (F0 m 54 ls [])) (kx46 : ∀ (y : Nat), (y ≤ lenS.getD si 0) → (∀ j, j < y → bt (ta + j) = (wdS.getD si []).getD j 0) → (y < lenS.getD si 0 ∧ bt (ta + y) ≠ (wdS.getD si []).getD y 0) → ∀ (H : Heap) (locs : List Loc) (ls : Array Slot), va_P D vwCl [(oq 5, .inr (8, [.ref (ox 2), .int (nI zl), .int (nI ta), .int (nI be), .int ki, .int nu, .int wo])), (ox 2, .inl (cI, 1400, .inl fT))] H → va_S A s.heap H locs → lv_has ls 3 [(0, .ref (oq 5))] → W p l e ({ frames := 4, cells := 0, slots := 0, locals := 150 }) s m args below meth c H locs 0 0 Q (F0 m 46 ls [])) : ∀ (N : Nat), ∀ (y : Nat), (y ≤ lenS.getD si 0) → (∀ j, j < y → bt (ta + j) = (wdS.getD si []).getD j 0) → lenS.getD si 0 - y < N → ∀ (H : Heap) (locs : List Loc) (ls : Array Slot), va_P D vwCl [(oq 5, .inr (8, [.ref (ox 2), .int (nI zl), .int (nI ta), .int (nI be), .int ki, .int nu, .int wo])), (ox 2, .inl (cI, 1400, .inl fT))] H → va_S A s.heap H locs → lv_has ls 3 [(2, .int (nI y)), (0, .ref (oq 5)), (1, .ref (adK si))] → W p l e ({ frames := 4, cells := 0, slots := 0, locals := 150 }) s m args below meth c H locs 0 0 Q (F0 m 20 ls []) := by
  have hin_X8 : ∀ w ∈ wsX80, w ∈ wp_k_is := fun _ h => (List.mem_cons_of_mem _ (List.mem_append_right _ (List.mem_append_right _ (List.mem_append_right _ (List.mem_append_right _ (List.mem_append_left _ h))))))
  intro N
  induction N with
  | zero =>
    intro y hy1 hw9 hm
    exact absurd hm (Nat.not_lt_zero _)
  | succ N ih =>
    intro y hy1 hw9 hm H locs ls hP hS hl
    have hle4 := lenS_le si hsi
    refine lv_iload_n hx hb dX8_is_20 rfl (lv_at hl 0 rfl) ?_
    refine lv_aload_n hx hb dX8_is_21 rfl (lv_at hl 2 rfl) ?_
    have hPc := hP.sub (ws' := []) [] rfl
    have hKc := hK.sub (tys' := []) [] rfl
    have hFc := va_free0 hS hA
    refine va_calli (va_runV (As := []) (rest := [.int (nI y)]) ⟨hx, hb, hml, hown, hts⟩ (k_slen l D _ adK adV si hsi) (cwV 0 hts g_k_is_k_slen_88 rfl rfl rfl (by decide +kernel) ⟨(Nat.le_of_ble_eq_true rfl), (Nat.le_of_ble_eq_true rfl)⟩) (PcRS_K hPc hKc hN hST hS hFc hsi) rfl rfl hl.1 rfl (lv_room (Nat.le_of_ble_eq_true rfl)) dX8_is_22 ⟨(Nat.le_of_ble_eq_true rfl), (Nat.le_of_ble_eq_true rfl)⟩) hS (fun q _ h => hFc q h) hFc (fun r1 uu tt H locs htt hvm hw hB hz1 hk1 hS => ?_)
    have hP := va_keep hP hk1
    try dsimp only at hw
    clear hB hz1 hk1 hFc hPc hKc
    obtain rfl : r1 = nI (lenS.getD si 0) := hw
    refine lv_icmp_ge (tgt := 54) hx hb dX8_is_25 (by decide) (fun hc2 => ?_) (fun hc2 => ?_)
    ·
      have hlt : lenS.getD si 0 ≤ y := (nI_leI (by omega) (by omega)).mp hc2
      have hge : lenS.getD si 0 ≤ y := (nI_leI (by omega) (by omega)).mp hc2
      exact kx54 y (hy1) (hw9) (hge) H locs ls (hP.sub [0, 1] rfl) hS (lv_sub hl [1] rfl)
    ·
      have hlt : y < lenS.getD si 0 := by
        rcases Nat.lt_or_ge y (lenS.getD si 0) with z | z
        · exact z
        · exact absurd (nI_le z (by omega)) hc2
      refine lv_aload_n hx hb dX8_is_28 rfl (lv_at hl 1 rfl) ?_
      refine lv_aload_n hx hb dX8_is_29 rfl (lv_at hl 1 rfl) ?_
      refine va_get (D := D) (ci := 8) (v := .int (nI ta)) (C := RX8) (T := TX8) (N := 7) hx hb hts hin_X8 hown hK hP 0 rfl rfl 2 (by decide) (hts (.fieldLink RX8 25 "ClashFree$Scanner" "at" "I") (List.mem_of_getElem? (i := 5) rfl)) (fun _ h9 => h9) rfl dX8_is_30 ?_
      refine lv_iload_n hx hb dX8_is_33 rfl (lv_at hl 0 rfl) ?_
      refine lv_iadd hx hb dX8_is_34 ?_
      refine lv_topi (fun v3 ev3 => ?_)
      obtain rfl : v3 = nI (ta + y) := ev3.trans (nI_add _ _)
      have hPc := hP.sub (ws' := [(oq 5, .inr (8, [.ref (ox 2), .int (nI zl), .int (nI ta), .int (nI be), .int ki, .int nu, .int wo])), (ox 2, .inl (cI, 1400, .inl fT))]) [0, 1] rfl
      have hKc := hK.sub (tys' := [(cI, .int)]) [0] rfl
      have hFc := va_free0 hS hA
      refine va_calli (va_runV (As := [.int (nI (ta + y))]) (rest := []) ⟨hx, hb, hml, hown, hts⟩ (k_byteAt l D _ oq ox cI zl ta be ki nu wo fT (ta + y) bt hzl (by omega) hbt) (cwV 1 hts g_k_is_k_byteAt_38 rfl rfl rfl (by decide +kernel) ⟨(Nat.le_of_ble_eq_true rfl), (Nat.le_of_ble_eq_true rfl)⟩) (PcRC_V (q0 := 0) hPc hKc hN rfl rfl) rfl rfl hl.1 rfl (lv_room (Nat.le_of_ble_eq_true rfl)) dX8_is_35 ⟨(Nat.le_of_ble_eq_true rfl), (Nat.le_of_ble_eq_true rfl)⟩) hS (fun q _ h => hFc q h) hFc (fun r4 uu tt H locs htt hvm hw hB hz1 hk1 hS => ?_)
      have hP := va_keep hP hk1
      try dsimp only at hw
      clear hB hz1 hk1 hFc hPc hKc
      rcases hw with ⟨hby5, rfl⟩ | ⟨hby5, rfl⟩
      ·
        refine lv_aload_n hx hb dX8_is_38 rfl (lv_at hl 2 rfl) ?_
        refine lv_iload_n hx hb dX8_is_39 rfl (lv_at hl 0 rfl) ?_
        have hPc := hP.sub (ws' := []) [] rfl
        have hKc := hK.sub (tys' := []) [] rfl
        have hFc := va_free0 hS hA
        refine va_calli (va_runV (As := [.int (nI y)]) (rest := [.int (nI (bt (ta + y)))]) ⟨hx, hb, hml, hown, hts⟩ (k_chAt l D _ adK adV si y hsi hlt) (cwV 1 hts g_k_is_k_chAt_92 rfl rfl rfl (by decide +kernel) ⟨(Nat.le_of_ble_eq_true rfl), (Nat.le_of_ble_eq_true rfl)⟩) (PcRS_K hPc hKc hN hST hS hFc hsi) rfl rfl hl.1 rfl (lv_room (Nat.le_of_ble_eq_true rfl)) dX8_is_40 ⟨(Nat.le_of_ble_eq_true rfl), (Nat.le_of_ble_eq_true rfl)⟩) hS (fun q _ h => hFc q h) hFc (fun r6 uu tt H locs htt hvm hw hB hz1 hk1 hS => ?_)
        have hP := va_keep hP hk1
        try dsimp only at hw
        clear hB hz1 hk1 hFc hPc hKc
        obtain rfl : r6 = nI ((wdS.getD si []).getD y 0) := hw.trans (wd_by si hsi y hlt)
        refine lv_icmp_eq (tgt := 48) hx hb dX8_is_43 (by decide) (fun hc7 => ?_) (fun hc7 => ?_)
        ·
          have h255 := wd_le si hsi y hlt
          have hb255 := (hbt (ta + y)).2
          have heq : bt (ta + y) = (wdS.getD si []).getD y 0 := (nI_eq (by omega) (by omega)).mp hc7
          refine lv_iinc (v := nI (y + 1)) (lv' := [(2, .int (nI (y + 1))), (0, .ref (oq 5)), (1, .ref (adK si))]) hx hb dX8_is_48 hl (k := 0) rfl (nI_1 _) (by decide) rfl (fun ls hl => ?_)
          refine lv_goto (tgt := 20) hx hb dX8_is_51 (by decide) ?_
          have hnx : ∀ j, j < y + 1 → bt (ta + j) = (wdS.getD si []).getD j 0 := fun j hj => by
            by_cases e : j = y
            · rw [e]
              exact heq
            · exact hw9 j (by omega)
          exact ih (y + 1) (by omega) (hnx) (by omega) H locs ls (hP.sub [0, 1] rfl) hS (lv_sub hl [0, 1, 2] rfl)
        ·
          have h255 := wd_le si hsi y hlt
          have hb255 := (hbt (ta + y)).2
          have hne : bt (ta + y) ≠ (wdS.getD si []).getD y 0 := fun q => hc7 (congrArg nI q)
          exact kx46 y (hy1) (hw9) (⟨hlt, hne⟩) H locs ls (hP.sub [0, 1] rfl) hS (lv_sub hl [1] rfl)
      ·
        exact absurd hby5 (by omega)
set_option maxHeartbeats 4000000 in
set_option maxRecDepth 100000 in
theorem k_is (l : Launch) (D : va_G) (sz : Nat) (adK : Nat → Nat) (adV : Nat → Nat) (oq : Nat → Nat) (ox : Nat → Nat) (cI : ClassId) (zl : Nat) (ta : Nat) (be : Nat) (ki : Int32) (nu : Int32) (wo : Int32) (fT : Nat → Int32) (si : Nat) (bt : Nat → Nat) (hzl : zl ≤ 1400) (hsi : si < 9) (hbt : TieC fT bt) (hte : ta ≤ be) (hbe : be ≤ zl) : Met l yX8_is wp_k_is ({ frames := 4, cells := 0, slots := 0, locals := 150 }) (PcRS D  adK adV [.ref (oq 5), .ref (adK si)] sz [(oq 5, .inr (8, [.ref (ox 2), .int (nI zl), .int (nI ta), .int (nI be), .int ki, .int nu, .int wo])), (ox 2, .inl (cI, 1400, .inl fT))] [(cI, .int)]) (va_Qi (fun (r : Int32) (u : Unit) => (r = 1 ∧ isW bt ta be (wdS.getD si [])) ∨ (r = 0 ∧ ¬ isW bt ta be (wdS.getD si []))) (fun (_ : Unit) _ => True) (va_A [] sz)) 0 0 (va_A [] sz) := by
  refine Met.ofW (cc := cX8_is) (maxL := 3) (ret := (some .boolean)) (by decide) rfl ?_
  intro p e s m args below meth c s₁ B hml hv
  obtain ⟨rfl, hsz, hP, hK, hN, hST⟩ := hv
  have hx := B.exec
  have hb := B.bytes
  have hr := B.returns
  have hts := atoms_spec (ws := wp_k_is) B.pre
  have hin_X8 : ∀ w ∈ wsX80, w ∈ wp_k_is := fun _ h => (List.mem_cons_of_mem _ (List.mem_append_right _ (List.mem_append_right _ (List.mem_append_right _ (List.mem_append_right _ (List.mem_append_left _ h))))))
  have hown : s.vm.findClass RX8 = some m.cls := findClass_of_methodNamed B.named
  have hlocks := B.notSynchronized
  subst hsz
  generalize hAe : va_A [] s.heap.size = A at hST ⊢
  have hA : ∀ q : Nat, s.heap.size ≤ q → A q := fun q h => by rw [← hAe]; exact Or.inr h
  have hS : va_S A s.heap s.heap [] := va_S.rf
  have hP : va_P D vwCl [(oq 5, .inr (8, [.ref (ox 2), .int (nI zl), .int (nI ta), .int (nI be), .int ki, .int nu, .int wo])), (ox 2, .inl (cI, 1400, .inl fT))] s.heap := hP
  have hl := lv_entry ([.ref (oq 5), .ref (adK si)]) (n := 3) (Nat.le_of_ble_eq_true rfl)
  rw [lg_entry_eq]
  generalize (lg_sl ([.ref (oq 5), .ref (adK si)]) ++ List.replicate (3 - (lg_sl ([.ref (oq 5), .ref (adK si)])).length) Slot.unset).toArray = ls at hl ⊢
  have hl : lv_has ls 3 [(0, .ref (oq 5)), (1, .ref (adK si))] := hl
  have hle4 := lenS_le si hsi
  refine lv_aload_n hx hb dX8_is_0 rfl (lv_at hl 0 rfl) ?_
  refine va_get (D := D) (ci := 8) (v := .int (nI be)) (C := RX8) (T := TX8) (N := 7) hx hb hts hin_X8 hown hK hP 0 rfl rfl 3 (by decide) (hts (.fieldLink RX8 28 "ClashFree$Scanner" "behind" "I") (List.mem_of_getElem? (i := 13) rfl)) (fun _ h9 => h9) rfl dX8_is_1 ?_
  refine lv_aload_n hx hb dX8_is_4 rfl (lv_at hl 0 rfl) ?_
  refine va_get (D := D) (ci := 8) (v := .int (nI ta)) (C := RX8) (T := TX8) (N := 7) hx hb hts hin_X8 hown hK hP 0 rfl rfl 2 (by decide) (hts (.fieldLink RX8 25 "ClashFree$Scanner" "at" "I") (List.mem_of_getElem? (i := 5) rfl)) (fun _ h9 => h9) rfl dX8_is_5 ?_
  refine lv_isub hx hb dX8_is_8 ?_
  refine lv_topi (fun v1 ev1 => ?_)
  obtain rfl : v1 = nI (be - ta) := ev1.trans (pk_sub hte)
  refine lv_aload_n hx hb dX8_is_9 rfl (lv_at hl 1 rfl) ?_
  have hPc := hP.sub (ws' := []) [] rfl
  have hKc := hK.sub (tys' := []) [] rfl
  have hFc := va_free0 hS hA
  refine va_calli (va_runV (As := []) (rest := [.int (nI (be - ta))]) ⟨hx, hb, hml, hown, hts⟩ (k_slen l D _ adK adV si hsi) (cwV 0 hts g_k_is_k_slen_88 rfl rfl rfl (by decide +kernel) ⟨(Nat.le_of_ble_eq_true rfl), (Nat.le_of_ble_eq_true rfl)⟩) (PcRS_K hPc hKc hN hST hS hFc hsi) rfl rfl hl.1 rfl (lv_room (Nat.le_of_ble_eq_true rfl)) dX8_is_10 ⟨(Nat.le_of_ble_eq_true rfl), (Nat.le_of_ble_eq_true rfl)⟩) hS (fun q _ h => hFc q h) hFc (fun r2 uu tt H locs htt hvm hw hB hz1 hk1 hS => ?_)
  have hP := va_keep hP hk1
  try dsimp only at hw
  clear hB hz1 hk1 hFc hPc hKc
  obtain rfl : r2 = nI (lenS.getD si 0) := hw
  refine lv_icmp_eq (tgt := 18) hx hb dX8_is_13 (by decide) (fun hc3 => ?_) (fun hc3 => ?_)
  ·
    have hlen : be - ta = lenS.getD si 0 := (nI_eq (by omega) (by omega)).mp hc3
    refine lv_iconst (v := 0) hx hb dX8_is_18 (by decide) ?_
    refine lv_istore_n (lv' := [(2, .int 0), (0, .ref (oq 5)), (1, .ref (adK si))]) hx hb dX8_is_19 rfl hl (by decide) rfl (fun ls hl => ?_)
    refine lk_is l D adK adV oq ox cI zl ta be ki nu wo fT si bt (hzl) (hsi) (hbt) (hbe) (hlen) hx hb hml hown hts hA (hK.sub [0] rfl) hN hST ?_ ?_ (lenS.getD si 0 + 1) 0 (Nat.zero_le _) (fun j hj => absurd hj (Nat.not_lt_zero _)) (by omega) _ _ _ (hP.sub [0, 1] rfl) hS (lv_sub hl [0, 1, 2] rfl)
    ·
      intro y_4 hy1_5 hw9_6 hx7 H locs ls hP hS hl
      refine lv_iconst (v := 1) hx hb dX8_is_54 (by decide) ?_
      exact W.zret (v := 1) hx hb hr rfl (fun t ht hW => ⟨⟨1, (), rfl, Or.inl ⟨rfl, hlen.trans (wd_len si hsi).symm, fun j hj => hw9_6 j (by rw [wd_len si hsi] at hj; have := hx7; omega)⟩, trivial⟩, hS.F ht⟩) hS.2.2 dX8_is_55
    ·
      intro y_8 hy1_9 hw9_10 hx11 H locs ls hP hS hl
      have hno : ¬ isW bt ta be (wdS.getD si []) := fun q => hx11.2 (q.2 _ (by rw [wd_len si hsi]; exact hx11.1))
      refine lv_iconst (v := 0) hx hb dX8_is_46 (by decide) ?_
      exact W.zret (v := 0) hx hb hr rfl (fun t ht hW => ⟨⟨0, (), rfl, Or.inr ⟨rfl, hno⟩, trivial⟩, hS.F ht⟩) hS.2.2 dX8_is_47
  ·
    have hno : ¬ isW bt ta be (wdS.getD si []) := fun q => hc3 (congrArg nI (q.1.trans (wd_len si hsi)))
    refine lv_iconst (v := 0) hx hb dX8_is_16 (by decide) ?_
    exact W.zret (v := 0) hx hb hr rfl (fun t ht hW => ⟨⟨0, (), rfl, Or.inr ⟨rfl, hno⟩, trivial⟩, hS.F ht⟩) hS.2.2 dX8_is_17

def own_k_wordKind : List Cond := [.methodLink RX8 68 yX8_is, .instanceMethod yX8_is, .selects RX8 yX8_is yX8_is, .initialized RX8]
def wp_k_wordKind : List Cond := .code yX8_wordKind cX8_wordKind 1 (some .int) :: (own_k_wordKind ++ (wp_k_is ++ ([] : List Cond)))
set_option maxRecDepth 20000 in
theorem inown_k_wordKind : ∀ w ∈ own_k_wordKind, w ∈ lw_tbl := mem_places [951, 953, 9, 113] (by decide +kernel)
set_option maxRecDepth 20000 in
theorem in_k_wordKind : ∀ w ∈ wp_k_wordKind, w ∈ lw_tbl := List.forall_mem_cons.mpr ⟨List.mem_of_getElem? (i := 949) (by decide +kernel), List.forall_mem_append.mpr ⟨inown_k_wordKind, List.forall_mem_append.mpr ⟨in_k_is, fun _ h => absurd h List.not_mem_nil⟩⟩⟩
set_option maxRecDepth 20000 in
theorem good_k_wordKind : wp_k_wordKind.all goodWord = true := by decide +kernel
set_option maxRecDepth 20000 in
theorem g_k_wordKind_k_is_68 : GoodIn wp_k_wordKind (wsV RX8 68 RX8 yX8_is wp_k_is) := goodIn_sub (List.forall_mem_append.mpr ⟨List.forall_mem_cons.mpr ⟨(List.mem_of_getElem? (i := 1) rfl), List.forall_mem_cons.mpr ⟨(List.mem_of_getElem? (i := 2) rfl), List.forall_mem_cons.mpr ⟨(List.mem_of_getElem? (i := 3) rfl), List.forall_mem_cons.mpr ⟨(List.mem_of_getElem? (i := 4) rfl), fun _ h => absurd h List.not_mem_nil⟩⟩⟩⟩, (fun _ h => (List.mem_cons_of_mem _ (List.mem_append_right _ (List.mem_append_left _ h))))⟩) (by decide +kernel)
set_option maxHeartbeats 4000000 in
set_option maxRecDepth 100000 in
theorem k_wordKind (l : Launch) (D : va_G) (sz : Nat) (adK : Nat → Nat) (adV : Nat → Nat) (oq : Nat → Nat) (ox : Nat → Nat) (cI : ClassId) (zl : Nat) (ta : Nat) (be : Nat) (ki : Int32) (nu : Int32) (wo : Int32) (fT : Nat → Int32) (bt : Nat → Nat) (hzl : zl ≤ 1400) (hbt : TieC fT bt) (hte : ta ≤ be) (hbe : be ≤ zl) : Met l yX8_wordKind wp_k_wordKind ({ frames := 5, cells := 0, slots := 0, locals := 172 }) (PcRS D  adK adV [.ref (oq 5)] sz [(oq 5, .inr (8, [.ref (ox 2), .int (nI zl), .int (nI ta), .int (nI be), .int ki, .int nu, .int wo])), (ox 2, .inl (cI, 1400, .inl fT))] [(cI, .int)]) (va_Qi (fun (r : Int32) (u : Unit) => r = nI (wdK bt ta be)) (fun (_ : Unit) _ => True) (va_A [] sz)) 0 0 (va_A [] sz) := by
  refine Met.ofW (cc := cX8_wordKind) (maxL := 1) (ret := (some .int)) (by decide) rfl ?_
  intro p e s m args below meth c s₁ B hml hv
  obtain ⟨rfl, hsz, hP, hK, hN, hST⟩ := hv
  have hx := B.exec
  have hb := B.bytes
  have hr := B.returns
  have hts := atoms_spec (ws := wp_k_wordKind) B.pre
  have hown : s.vm.findClass RX8 = some m.cls := findClass_of_methodNamed B.named
  have hlocks := B.notSynchronized
  subst hsz
  generalize hAe : va_A [] s.heap.size = A at hST ⊢
  have hA : ∀ q : Nat, s.heap.size ≤ q → A q := fun q h => by rw [← hAe]; exact Or.inr h
  have hS : va_S A s.heap s.heap [] := va_S.rf
  have hP : va_P D vwCl [(oq 5, .inr (8, [.ref (ox 2), .int (nI zl), .int (nI ta), .int (nI be), .int ki, .int nu, .int wo])), (ox 2, .inl (cI, 1400, .inl fT))] s.heap := hP
  have hl := lv_entry ([.ref (oq 5)]) (n := 1) (Nat.le_of_ble_eq_true rfl)
  rw [lg_entry_eq]
  generalize (lg_sl ([.ref (oq 5)]) ++ List.replicate (1 - (lg_sl ([.ref (oq 5)])).length) Slot.unset).toArray = ls at hl ⊢
  have hl : lv_has ls 1 [(0, .ref (oq 5))] := hl
  refine lv_aload_n hx hb dX8_wordKind_0 rfl (lv_at hl 0 rfl) ?_
  refine va_ldcS hx hb hown (hST.2.2.2.1) dX8_wordKind_1 ?_
  have hPc := hP.sub (ws' := [(oq 5, .inr (8, [.ref (ox 2), .int (nI zl), .int (nI ta), .int (nI be), .int ki, .int nu, .int wo])), (ox 2, .inl (cI, 1400, .inl fT))]) [0, 1] rfl
  have hKc := hK.sub (tys' := [(cI, .int)]) [0] rfl
  have hFc := va_free0 hS hA
  refine va_calli (va_runV (As := [.ref (adK 0)]) (rest := []) ⟨hx, hb, hml, hown, hts⟩ (k_is l D _ adK adV oq ox cI zl ta be ki nu wo fT 0 bt hzl (by decide) hbt hte hbe) (cwV 1 hts g_k_wordKind_k_is_68 rfl rfl rfl (by decide +kernel) ⟨(Nat.le_of_ble_eq_true rfl), (Nat.le_of_ble_eq_true rfl)⟩) (PcRS_V (q0 := 0) hPc hKc hN hST hS hFc rfl rfl) rfl rfl hl.1 rfl (lv_room (Nat.le_of_ble_eq_true rfl)) dX8_wordKind_3 ⟨(Nat.le_of_ble_eq_true rfl), (Nat.le_of_ble_eq_true rfl)⟩) hS (fun q _ h => hFc q h) hFc (fun r1 uu tt H locs htt hvm hw hB hz1 hk1 hS => ?_)
  have hP := va_keep hP hk1
  try dsimp only at hw
  clear hB hz1 hk1 hFc hPc hKc
  rcases hw with ⟨rfl, hA_r1⟩ | ⟨rfl, hA_r1⟩
  ·
    refine lv_if_eq (tgt := 11) hx hb dX8_wordKind_6 (by decide) (fun hc => absurd hc (by decide)) (fun hc => ?_)
    refine lv_iconst (v := 3) hx hb dX8_wordKind_9 (by decide) ?_
    exact W.iret (v := 3) hx hb hr (fun t ht hW => ⟨⟨3, (), rfl, by unfold wdK; rw [if_pos hA_r1]; rfl, trivial⟩, hS.F ht⟩) hS.2.2 dX8_wordKind_10
  ·
    refine lv_if_eq (tgt := 11) hx hb dX8_wordKind_6 (by decide) (fun hc => ?_) (fun hc => absurd (by decide) hc)
    refine lv_aload_n hx hb dX8_wordKind_11 rfl (lv_at hl 0 rfl) ?_
    refine va_ldcS hx hb hown (hST.2.2.2.2.1) dX8_wordKind_12 ?_
    have hPc := hP.sub (ws' := [(oq 5, .inr (8, [.ref (ox 2), .int (nI zl), .int (nI ta), .int (nI be), .int ki, .int nu, .int wo])), (ox 2, .inl (cI, 1400, .inl fT))]) [0, 1] rfl
    have hKc := hK.sub (tys' := [(cI, .int)]) [0] rfl
    have hFc := va_free0 hS hA
    refine va_calli (va_runV (As := [.ref (adK 1)]) (rest := []) ⟨hx, hb, hml, hown, hts⟩ (k_is l D _ adK adV oq ox cI zl ta be ki nu wo fT 1 bt hzl (by decide) hbt hte hbe) (cwV 1 hts g_k_wordKind_k_is_68 rfl rfl rfl (by decide +kernel) ⟨(Nat.le_of_ble_eq_true rfl), (Nat.le_of_ble_eq_true rfl)⟩) (PcRS_V (q0 := 0) hPc hKc hN hST hS hFc rfl rfl) rfl rfl hl.1 rfl (lv_room (Nat.le_of_ble_eq_true rfl)) dX8_wordKind_14 ⟨(Nat.le_of_ble_eq_true rfl), (Nat.le_of_ble_eq_true rfl)⟩) hS (fun q _ h => hFc q h) hFc (fun r2 uu tt H locs htt hvm hw hB hz1 hk1 hS => ?_)
    have hP := va_keep hP hk1
    try dsimp only at hw
    clear hB hz1 hk1 hFc hPc hKc
    rcases hw with ⟨rfl, hA_r2⟩ | ⟨rfl, hA_r2⟩
    ·
      refine lv_if_eq (tgt := 22) hx hb dX8_wordKind_17 (by decide) (fun hc => absurd hc (by decide)) (fun hc => ?_)
      refine lv_iconst (v := 4) hx hb dX8_wordKind_20 (by decide) ?_
      exact W.iret (v := 4) hx hb hr (fun t ht hW => ⟨⟨4, (), rfl, by unfold wdK; rw [if_neg hA_r1, if_pos hA_r2]; rfl, trivial⟩, hS.F ht⟩) hS.2.2 dX8_wordKind_21
    ·
      refine lv_if_eq (tgt := 22) hx hb dX8_wordKind_17 (by decide) (fun hc => ?_) (fun hc => absurd (by decide) hc)
      refine lv_aload_n hx hb dX8_wordKind_22 rfl (lv_at hl 0 rfl) ?_
      refine va_ldcS hx hb hown (hST.2.2.2.2.2.1) dX8_wordKind_23 ?_
      have hPc := hP.sub (ws' := [(oq 5, .inr (8, [.ref (ox 2), .int (nI zl), .int (nI ta), .int (nI be), .int ki, .int nu, .int wo])), (ox 2, .inl (cI, 1400, .inl fT))]) [0, 1] rfl
      have hKc := hK.sub (tys' := [(cI, .int)]) [0] rfl
      have hFc := va_free0 hS hA
      refine va_calli (va_runV (As := [.ref (adK 2)]) (rest := []) ⟨hx, hb, hml, hown, hts⟩ (k_is l D _ adK adV oq ox cI zl ta be ki nu wo fT 2 bt hzl (by decide) hbt hte hbe) (cwV 1 hts g_k_wordKind_k_is_68 rfl rfl rfl (by decide +kernel) ⟨(Nat.le_of_ble_eq_true rfl), (Nat.le_of_ble_eq_true rfl)⟩) (PcRS_V (q0 := 0) hPc hKc hN hST hS hFc rfl rfl) rfl rfl hl.1 rfl (lv_room (Nat.le_of_ble_eq_true rfl)) dX8_wordKind_25 ⟨(Nat.le_of_ble_eq_true rfl), (Nat.le_of_ble_eq_true rfl)⟩) hS (fun q _ h => hFc q h) hFc (fun r3 uu tt H locs htt hvm hw hB hz1 hk1 hS => ?_)
      have hP := va_keep hP hk1
      try dsimp only at hw
      clear hB hz1 hk1 hFc hPc hKc
      rcases hw with ⟨rfl, hA_r3⟩ | ⟨rfl, hA_r3⟩
      ·
        refine lv_if_eq (tgt := 33) hx hb dX8_wordKind_28 (by decide) (fun hc => absurd hc (by decide)) (fun hc => ?_)
        refine lv_iconst (v := 5) hx hb dX8_wordKind_31 (by decide) ?_
        exact W.iret (v := 5) hx hb hr (fun t ht hW => ⟨⟨5, (), rfl, by unfold wdK; rw [if_neg hA_r1, if_neg hA_r2, if_pos hA_r3]; rfl, trivial⟩, hS.F ht⟩) hS.2.2 dX8_wordKind_32
      ·
        refine lv_if_eq (tgt := 33) hx hb dX8_wordKind_28 (by decide) (fun hc => ?_) (fun hc => absurd (by decide) hc)
        refine lv_aload_n hx hb dX8_wordKind_33 rfl (lv_at hl 0 rfl) ?_
        refine va_ldcS hx hb hown (hST.2.2.2.2.2.2.1) dX8_wordKind_34 ?_
        have hPc := hP.sub (ws' := [(oq 5, .inr (8, [.ref (ox 2), .int (nI zl), .int (nI ta), .int (nI be), .int ki, .int nu, .int wo])), (ox 2, .inl (cI, 1400, .inl fT))]) [0, 1] rfl
        have hKc := hK.sub (tys' := [(cI, .int)]) [0] rfl
        have hFc := va_free0 hS hA
        refine va_calli (va_runV (As := [.ref (adK 3)]) (rest := []) ⟨hx, hb, hml, hown, hts⟩ (k_is l D _ adK adV oq ox cI zl ta be ki nu wo fT 3 bt hzl (by decide) hbt hte hbe) (cwV 1 hts g_k_wordKind_k_is_68 rfl rfl rfl (by decide +kernel) ⟨(Nat.le_of_ble_eq_true rfl), (Nat.le_of_ble_eq_true rfl)⟩) (PcRS_V (q0 := 0) hPc hKc hN hST hS hFc rfl rfl) rfl rfl hl.1 rfl (lv_room (Nat.le_of_ble_eq_true rfl)) dX8_wordKind_36 ⟨(Nat.le_of_ble_eq_true rfl), (Nat.le_of_ble_eq_true rfl)⟩) hS (fun q _ h => hFc q h) hFc (fun r4 uu tt H locs htt hvm hw hB hz1 hk1 hS => ?_)
        have hP := va_keep hP hk1
        try dsimp only at hw
        clear hB hz1 hk1 hFc hPc hKc
        rcases hw with ⟨rfl, hA_r4⟩ | ⟨rfl, hA_r4⟩
        ·
          refine lv_if_eq (tgt := 45) hx hb dX8_wordKind_39 (by decide) (fun hc => absurd hc (by decide)) (fun hc => ?_)
          refine lv_bipush (v := 6) hx hb dX8_wordKind_42 (by decide) ?_
          exact W.iret (v := 6) hx hb hr (fun t ht hW => ⟨⟨6, (), rfl, by unfold wdK; rw [if_neg hA_r1, if_neg hA_r2, if_neg hA_r3, if_pos hA_r4]; rfl, trivial⟩, hS.F ht⟩) hS.2.2 dX8_wordKind_44
        ·
          refine lv_if_eq (tgt := 45) hx hb dX8_wordKind_39 (by decide) (fun hc => ?_) (fun hc => absurd (by decide) hc)
          refine lv_aload_n hx hb dX8_wordKind_45 rfl (lv_at hl 0 rfl) ?_
          refine va_ldcS hx hb hown (hST.2.2.2.2.2.2.2.1) dX8_wordKind_46 ?_
          have hPc := hP.sub (ws' := [(oq 5, .inr (8, [.ref (ox 2), .int (nI zl), .int (nI ta), .int (nI be), .int ki, .int nu, .int wo])), (ox 2, .inl (cI, 1400, .inl fT))]) [0, 1] rfl
          have hKc := hK.sub (tys' := [(cI, .int)]) [0] rfl
          have hFc := va_free0 hS hA
          refine va_calli (va_runV (As := [.ref (adK 4)]) (rest := []) ⟨hx, hb, hml, hown, hts⟩ (k_is l D _ adK adV oq ox cI zl ta be ki nu wo fT 4 bt hzl (by decide) hbt hte hbe) (cwV 1 hts g_k_wordKind_k_is_68 rfl rfl rfl (by decide +kernel) ⟨(Nat.le_of_ble_eq_true rfl), (Nat.le_of_ble_eq_true rfl)⟩) (PcRS_V (q0 := 0) hPc hKc hN hST hS hFc rfl rfl) rfl rfl hl.1 rfl (lv_room (Nat.le_of_ble_eq_true rfl)) dX8_wordKind_48 ⟨(Nat.le_of_ble_eq_true rfl), (Nat.le_of_ble_eq_true rfl)⟩) hS (fun q _ h => hFc q h) hFc (fun r5 uu tt H locs htt hvm hw hB hz1 hk1 hS => ?_)
          have hP := va_keep hP hk1
          try dsimp only at hw
          clear hB hz1 hk1 hFc hPc hKc
          rcases hw with ⟨rfl, hA_r5⟩ | ⟨rfl, hA_r5⟩
          ·
            refine lv_if_eq (tgt := 57) hx hb dX8_wordKind_51 (by decide) (fun hc => absurd hc (by decide)) (fun hc => ?_)
            refine lv_bipush (v := 7) hx hb dX8_wordKind_54 (by decide) ?_
            exact W.iret (v := 7) hx hb hr (fun t ht hW => ⟨⟨7, (), rfl, by unfold wdK; rw [if_neg hA_r1, if_neg hA_r2, if_neg hA_r3, if_neg hA_r4, if_pos hA_r5]; rfl, trivial⟩, hS.F ht⟩) hS.2.2 dX8_wordKind_56
          ·
            refine lv_if_eq (tgt := 57) hx hb dX8_wordKind_51 (by decide) (fun hc => ?_) (fun hc => absurd (by decide) hc)
            refine lv_aload_n hx hb dX8_wordKind_57 rfl (lv_at hl 0 rfl) ?_
            refine va_ldcS hx hb hown (hST.2.2.2.2.2.2.2.2.1) dX8_wordKind_58 ?_
            have hPc := hP.sub (ws' := [(oq 5, .inr (8, [.ref (ox 2), .int (nI zl), .int (nI ta), .int (nI be), .int ki, .int nu, .int wo])), (ox 2, .inl (cI, 1400, .inl fT))]) [0, 1] rfl
            have hKc := hK.sub (tys' := [(cI, .int)]) [0] rfl
            have hFc := va_free0 hS hA
            refine va_calli (va_runV (As := [.ref (adK 5)]) (rest := []) ⟨hx, hb, hml, hown, hts⟩ (k_is l D _ adK adV oq ox cI zl ta be ki nu wo fT 5 bt hzl (by decide) hbt hte hbe) (cwV 1 hts g_k_wordKind_k_is_68 rfl rfl rfl (by decide +kernel) ⟨(Nat.le_of_ble_eq_true rfl), (Nat.le_of_ble_eq_true rfl)⟩) (PcRS_V (q0 := 0) hPc hKc hN hST hS hFc rfl rfl) rfl rfl hl.1 rfl (lv_room (Nat.le_of_ble_eq_true rfl)) dX8_wordKind_60 ⟨(Nat.le_of_ble_eq_true rfl), (Nat.le_of_ble_eq_true rfl)⟩) hS (fun q _ h => hFc q h) hFc (fun r6 uu tt H locs htt hvm hw hB hz1 hk1 hS => ?_)
            have hP := va_keep hP hk1
            try dsimp only at hw
            clear hB hz1 hk1 hFc hPc hKc
            rcases hw with ⟨rfl, hA_r6⟩ | ⟨rfl, hA_r6⟩
            ·
              refine lv_if_eq (tgt := 69) hx hb dX8_wordKind_63 (by decide) (fun hc => absurd hc (by decide)) (fun hc => ?_)
              refine lv_bipush (v := 8) hx hb dX8_wordKind_66 (by decide) ?_
              exact W.iret (v := 8) hx hb hr (fun t ht hW => ⟨⟨8, (), rfl, by unfold wdK; rw [if_neg hA_r1, if_neg hA_r2, if_neg hA_r3, if_neg hA_r4, if_neg hA_r5, if_pos hA_r6]; rfl, trivial⟩, hS.F ht⟩) hS.2.2 dX8_wordKind_68
            ·
              refine lv_if_eq (tgt := 69) hx hb dX8_wordKind_63 (by decide) (fun hc => ?_) (fun hc => absurd (by decide) hc)
              refine lv_aload_n hx hb dX8_wordKind_69 rfl (lv_at hl 0 rfl) ?_
              refine va_ldcS hx hb hown (hST.2.2.2.2.2.2.2.2.2.1) dX8_wordKind_70 ?_
              have hPc := hP.sub (ws' := [(oq 5, .inr (8, [.ref (ox 2), .int (nI zl), .int (nI ta), .int (nI be), .int ki, .int nu, .int wo])), (ox 2, .inl (cI, 1400, .inl fT))]) [0, 1] rfl
              have hKc := hK.sub (tys' := [(cI, .int)]) [0] rfl
              have hFc := va_free0 hS hA
              refine va_calli (va_runV (As := [.ref (adK 6)]) (rest := []) ⟨hx, hb, hml, hown, hts⟩ (k_is l D _ adK adV oq ox cI zl ta be ki nu wo fT 6 bt hzl (by decide) hbt hte hbe) (cwV 1 hts g_k_wordKind_k_is_68 rfl rfl rfl (by decide +kernel) ⟨(Nat.le_of_ble_eq_true rfl), (Nat.le_of_ble_eq_true rfl)⟩) (PcRS_V (q0 := 0) hPc hKc hN hST hS hFc rfl rfl) rfl rfl hl.1 rfl (lv_room (Nat.le_of_ble_eq_true rfl)) dX8_wordKind_72 ⟨(Nat.le_of_ble_eq_true rfl), (Nat.le_of_ble_eq_true rfl)⟩) hS (fun q _ h => hFc q h) hFc (fun r7 uu tt H locs htt hvm hw hB hz1 hk1 hS => ?_)
              have hP := va_keep hP hk1
              try dsimp only at hw
              clear hB hz1 hk1 hFc hPc hKc
              rcases hw with ⟨rfl, hA_r7⟩ | ⟨rfl, hA_r7⟩
              ·
                refine lv_if_eq (tgt := 81) hx hb dX8_wordKind_75 (by decide) (fun hc => absurd hc (by decide)) (fun hc => ?_)
                refine lv_bipush (v := 9) hx hb dX8_wordKind_78 (by decide) ?_
                exact W.iret (v := 9) hx hb hr (fun t ht hW => ⟨⟨9, (), rfl, by unfold wdK; rw [if_neg hA_r1, if_neg hA_r2, if_neg hA_r3, if_neg hA_r4, if_neg hA_r5, if_neg hA_r6, if_pos hA_r7]; rfl, trivial⟩, hS.F ht⟩) hS.2.2 dX8_wordKind_80
              ·
                refine lv_if_eq (tgt := 81) hx hb dX8_wordKind_75 (by decide) (fun hc => ?_) (fun hc => absurd (by decide) hc)
                refine lv_aload_n hx hb dX8_wordKind_81 rfl (lv_at hl 0 rfl) ?_
                refine va_ldcS hx hb hown (hST.2.2.2.2.2.2.2.2.2.2.1) dX8_wordKind_82 ?_
                have hPc := hP.sub (ws' := [(oq 5, .inr (8, [.ref (ox 2), .int (nI zl), .int (nI ta), .int (nI be), .int ki, .int nu, .int wo])), (ox 2, .inl (cI, 1400, .inl fT))]) [0, 1] rfl
                have hKc := hK.sub (tys' := [(cI, .int)]) [0] rfl
                have hFc := va_free0 hS hA
                refine va_calli (va_runV (As := [.ref (adK 7)]) (rest := []) ⟨hx, hb, hml, hown, hts⟩ (k_is l D _ adK adV oq ox cI zl ta be ki nu wo fT 7 bt hzl (by decide) hbt hte hbe) (cwV 1 hts g_k_wordKind_k_is_68 rfl rfl rfl (by decide +kernel) ⟨(Nat.le_of_ble_eq_true rfl), (Nat.le_of_ble_eq_true rfl)⟩) (PcRS_V (q0 := 0) hPc hKc hN hST hS hFc rfl rfl) rfl rfl hl.1 rfl (lv_room (Nat.le_of_ble_eq_true rfl)) dX8_wordKind_84 ⟨(Nat.le_of_ble_eq_true rfl), (Nat.le_of_ble_eq_true rfl)⟩) hS (fun q _ h => hFc q h) hFc (fun r8 uu tt H locs htt hvm hw hB hz1 hk1 hS => ?_)
                have hP := va_keep hP hk1
                try dsimp only at hw
                clear hB hz1 hk1 hFc hPc hKc
                rcases hw with ⟨rfl, hA_r8⟩ | ⟨rfl, hA_r8⟩
                ·
                  refine lv_if_eq (tgt := 93) hx hb dX8_wordKind_87 (by decide) (fun hc => absurd hc (by decide)) (fun hc => ?_)
                  refine lv_bipush (v := 10) hx hb dX8_wordKind_90 (by decide) ?_
                  exact W.iret (v := 10) hx hb hr (fun t ht hW => ⟨⟨10, (), rfl, by unfold wdK; rw [if_neg hA_r1, if_neg hA_r2, if_neg hA_r3, if_neg hA_r4, if_neg hA_r5, if_neg hA_r6, if_neg hA_r7, if_pos hA_r8]; rfl, trivial⟩, hS.F ht⟩) hS.2.2 dX8_wordKind_92
                ·
                  refine lv_if_eq (tgt := 93) hx hb dX8_wordKind_87 (by decide) (fun hc => ?_) (fun hc => absurd (by decide) hc)
                  refine lv_aload_n hx hb dX8_wordKind_93 rfl (lv_at hl 0 rfl) ?_
                  refine va_ldcS hx hb hown (hST.2.2.2.2.2.2.2.2.2.2.2) dX8_wordKind_94 ?_
                  have hPc := hP.sub (ws' := [(oq 5, .inr (8, [.ref (ox 2), .int (nI zl), .int (nI ta), .int (nI be), .int ki, .int nu, .int wo])), (ox 2, .inl (cI, 1400, .inl fT))]) [0, 1] rfl
                  have hKc := hK.sub (tys' := [(cI, .int)]) [0] rfl
                  have hFc := va_free0 hS hA
                  refine va_calli (va_runV (As := [.ref (adK 8)]) (rest := []) ⟨hx, hb, hml, hown, hts⟩ (k_is l D _ adK adV oq ox cI zl ta be ki nu wo fT 8 bt hzl (by decide) hbt hte hbe) (cwV 1 hts g_k_wordKind_k_is_68 rfl rfl rfl (by decide +kernel) ⟨(Nat.le_of_ble_eq_true rfl), (Nat.le_of_ble_eq_true rfl)⟩) (PcRS_V (q0 := 0) hPc hKc hN hST hS hFc rfl rfl) rfl rfl hl.1 rfl (lv_room (Nat.le_of_ble_eq_true rfl)) dX8_wordKind_96 ⟨(Nat.le_of_ble_eq_true rfl), (Nat.le_of_ble_eq_true rfl)⟩) hS (fun q _ h => hFc q h) hFc (fun r9 uu tt H locs htt hvm hw hB hz1 hk1 hS => ?_)
                  have hP := va_keep hP hk1
                  try dsimp only at hw
                  clear hB hz1 hk1 hFc hPc hKc
                  rcases hw with ⟨rfl, hA_r9⟩ | ⟨rfl, hA_r9⟩
                  ·
                    refine lv_if_eq (tgt := 107) hx hb dX8_wordKind_99 (by decide) (fun hc => absurd hc (by decide)) (fun hc => ?_)
                    refine lv_bipush (v := 11) hx hb dX8_wordKind_102 (by decide) ?_
                    refine lv_goto (tgt := 108) hx hb dX8_wordKind_104 (by decide) ?_
                    exact W.iret (v := 11) hx hb hr (fun t ht hW => ⟨⟨11, (), rfl, by unfold wdK; rw [if_neg hA_r1, if_neg hA_r2, if_neg hA_r3, if_neg hA_r4, if_neg hA_r5, if_neg hA_r6, if_neg hA_r7, if_neg hA_r8, if_pos hA_r9]; rfl, trivial⟩, hS.F ht⟩) hS.2.2 dX8_wordKind_108
                  ·
                    refine lv_if_eq (tgt := 107) hx hb dX8_wordKind_99 (by decide) (fun hc => ?_) (fun hc => absurd (by decide) hc)
                    refine lv_iconst (v := 1) hx hb dX8_wordKind_107 (by decide) ?_
                    exact W.iret (v := 1) hx hb hr (fun t ht hW => ⟨⟨1, (), rfl, by unfold wdK; rw [if_neg hA_r1, if_neg hA_r2, if_neg hA_r3, if_neg hA_r4, if_neg hA_r5, if_neg hA_r6, if_neg hA_r7, if_neg hA_r8, if_neg hA_r9]; rfl, trivial⟩, hS.F ht⟩) hS.2.2 dX8_wordKind_108

def own_k_takeWord : List Cond := [.fieldLink RX8 28 "ClashFree$Scanner" "behind" "I", .fieldLink RX8 21 "ClashFree$Scanner" "length" "I", .fieldLink RX8 9 "ClashFree$Scanner" "text" "[I", .methodLink RX8 46 yX8_isLetter, .static yX8_isLetter, .initialized RX8, .fieldLink RX8 25 "ClashFree$Scanner" "at" "I", .methodLink RX8 62 yX8_wordKind, .instanceMethod yX8_wordKind, .selects RX8 yX8_wordKind yX8_wordKind, .fieldLink RX8 31 "ClashFree$Scanner" "kind" "I"]
def wp_k_takeWord : List Cond := .code yX8_takeWord cX8_takeWord 1 none :: (own_k_takeWord ++ (wp_k_sLetter ++ (wp_k_wordKind ++ (wsX80 ++ ([] : List Cond)))))
set_option maxRecDepth 20000 in
theorem inown_k_takeWord : ∀ w ∈ own_k_takeWord, w ∈ lw_tbl := mem_places [306, 303, 302, 935, 936, 113, 304, 946, 948, 8, 307] (by decide +kernel)
set_option maxRecDepth 20000 in
theorem in_k_takeWord : ∀ w ∈ wp_k_takeWord, w ∈ lw_tbl := List.forall_mem_cons.mpr ⟨List.mem_of_getElem? (i := 945) (by decide +kernel), List.forall_mem_append.mpr ⟨inown_k_takeWord, List.forall_mem_append.mpr ⟨in_k_sLetter, List.forall_mem_append.mpr ⟨in_k_wordKind, List.forall_mem_append.mpr ⟨lwb_X8, fun _ h => absurd h List.not_mem_nil⟩⟩⟩⟩⟩
set_option maxRecDepth 20000 in
theorem good_k_takeWord : wp_k_takeWord.all goodWord = true := by decide +kernel
set_option maxRecDepth 20000 in
theorem g_k_takeWord_k_sLetter_46 : GoodIn wp_k_takeWord (va_wsS RX8 46 yX8_isLetter wp_k_sLetter) := goodIn_sub (List.forall_mem_append.mpr ⟨List.forall_mem_cons.mpr ⟨(List.mem_of_getElem? (i := 4) rfl), List.forall_mem_cons.mpr ⟨(List.mem_of_getElem? (i := 5) rfl), List.forall_mem_cons.mpr ⟨(List.mem_of_getElem? (i := 6) rfl), fun _ h => absurd h List.not_mem_nil⟩⟩⟩, (fun _ h => (List.mem_cons_of_mem _ (List.mem_append_right _ (List.mem_append_left _ h))))⟩) (by decide +kernel)
set_option maxRecDepth 20000 in
theorem g_k_takeWord_k_wordKind_62 : GoodIn wp_k_takeWord (wsV RX8 62 RX8 yX8_wordKind wp_k_wordKind) := goodIn_sub (List.forall_mem_append.mpr ⟨List.forall_mem_cons.mpr ⟨(List.mem_of_getElem? (i := 8) rfl), List.forall_mem_cons.mpr ⟨(List.mem_of_getElem? (i := 9) rfl), List.forall_mem_cons.mpr ⟨(List.mem_of_getElem? (i := 10) rfl), List.forall_mem_cons.mpr ⟨(List.mem_of_getElem? (i := 6) rfl), fun _ h => absurd h List.not_mem_nil⟩⟩⟩⟩, (fun _ h => (List.mem_cons_of_mem _ (List.mem_append_right _ (List.mem_append_right _ (List.mem_append_left _ h)))))⟩) (by decide +kernel)
set_option maxHeartbeats 4000000 in
set_option maxRecDepth 100000 in
theorem lk_tw (l : Launch) {p : Program} {e : Env} {s : State} {m : MethodId} {args : Array Value} {below : List Frame} {meth : Method} {c : Code} {Q : State → Prop} {A : Nat → Prop} (D : va_G) (adK : Nat → Nat) (adV : Nat → Nat) (oq : Nat → Nat) (ox : Nat → Nat) (cI : ClassId) (zl : Nat) (ta : Nat) (ki : Int32) (nu : Int32) (wo : Int32) (fT : Nat → Int32) (bt : Nat → Nat) (hzl : zl ≤ 1400) (hta : ta ≤ zl) (hbt : TieC fT bt) (hx : p.tables.exec = Jvm.exec) (hb : c.code = cX8_takeWord) (hml : c.maxLocals = 1) (hown : s.vm.findClass RX8 = some m.cls) (hts : ∀ w ∈ wp_k_takeWord, w.before args s = true) (hA : ∀ q, s.heap.size ≤ q → A q) (hK : va_K D vwCl [(cI, .int)] s) (hN : NC s) (hST : ST adK adV A s s.heap) (kx47 : ∀ (y : Nat), (y ≤ zl) → (ta ≤ y) → (spE (ltB bt) zl ta = spE (ltB bt) zl y) → (spE (ltB bt) zl y = y) → ∀ (H : Heap) (locs : List Loc) (ls : Array Slot), va_P D vwCl [(oq 5, .inr (8, [.ref (ox 2), .int (nI zl), .int (nI ta), .int (nI y), .int ki, .int nu, .int wo])), (ox 2, .inl (cI, 1400, .inl fT))] H → va_D A [(oq 5, .inr (8, [.ref (ox 2), .int (nI zl), .int (nI ta), .int (nI y), .int ki, .int nu, .int wo])), (ox 2, .inl (cI, 1400, .inl fT))] → va_S A s.heap H locs → lv_has ls 1 [(0, .ref (oq 5))] → W p l e ({ frames := 6, cells := 0, slots := 0, locals := 230 }) s m args below meth c H locs 0 0 Q (F0 m 47 ls [])) : ∀ (N : Nat), ∀ (y : Nat), (y ≤ zl) → (ta ≤ y) → (spE (ltB bt) zl ta = spE (ltB bt) zl y) → zl - y < N → ∀ (H : Heap) (locs : List Loc) (ls : Array Slot), va_P D vwCl [(oq 5, .inr (8, [.ref (ox 2), .int (nI zl), .int (nI ta), .int (nI y), .int ki, .int nu, .int wo])), (ox 2, .inl (cI, 1400, .inl fT))] H → va_D A [(oq 5, .inr (8, [.ref (ox 2), .int (nI zl), .int (nI ta), .int (nI y), .int ki, .int nu, .int wo])), (ox 2, .inl (cI, 1400, .inl fT))] → va_S A s.heap H locs → lv_has ls 1 [(0, .ref (oq 5))] → W p l e ({ frames := 6, cells := 0, slots := 0, locals := 230 }) s m args below meth c H locs 0 0 Q (F0 m 8 ls []) := by
  have hin_X8 : ∀ w ∈ wsX80, w ∈ wp_k_takeWord := fun _ h => (List.mem_cons_of_mem _ (List.mem_append_right _ (List.mem_append_right _ (List.mem_append_right _ (List.mem_append_left _ h)))))
  intro N
  induction N with
  | zero =>
    intro y hy1 hy2 hsp hm
    exact absurd hm (Nat.not_lt_zero _)
  | succ N ih =>
    intro y hy1 hy2 hsp hm H locs ls hP hD hS hl
    refine lv_aload_n hx hb dX8_takeWord_8 rfl (lv_at hl 0 rfl) ?_
    refine va_get (D := D) (ci := 8) (v := .int (nI y)) (C := RX8) (T := TX8) (N := 7) hx hb hts hin_X8 hown hK hP 0 rfl rfl 3 (by decide) (hts (.fieldLink RX8 28 "ClashFree$Scanner" "behind" "I") (List.mem_of_getElem? (i := 1) rfl)) (fun _ h9 => h9) rfl dX8_takeWord_9 ?_
    refine lv_aload_n hx hb dX8_takeWord_12 rfl (lv_at hl 0 rfl) ?_
    refine va_get (D := D) (ci := 8) (v := .int (nI zl)) (C := RX8) (T := TX8) (N := 7) hx hb hts hin_X8 hown hK hP 0 rfl rfl 1 (by decide) (hts (.fieldLink RX8 21 "ClashFree$Scanner" "length" "I") (List.mem_of_getElem? (i := 2) rfl)) (fun _ h9 => h9) rfl dX8_takeWord_13 ?_
    refine lv_icmp_ge (tgt := 47) hx hb dX8_takeWord_16 (by decide) (fun hc1 => ?_) (fun hc1 => ?_)
    ·
      have hlt : zl ≤ y := (nI_leI (by omega) (by omega)).mp hc1
      exact kx47 y (hy1) (hy2) (hsp) (sp_F (fun q => absurd q.1 (by omega))) H locs ls (hP.sub [0, 1] rfl) (hD.sub [0, 1] (by decide) rfl) hS (lv_sub hl [0] rfl)
    ·
      have hlt : y < zl := by
        rcases Nat.lt_or_ge y (zl) with z | z
        · exact z
        · exact absurd (nI_le z (by omega)) hc1
      refine lv_aload_n hx hb dX8_takeWord_19 rfl (lv_at hl 0 rfl) ?_
      refine va_get (D := D) (ci := 8) (v := .ref (ox 2)) (C := RX8) (T := TX8) (N := 7) hx hb hts hin_X8 hown hK hP 0 rfl rfl 0 (by decide) (hts (.fieldLink RX8 9 "ClashFree$Scanner" "text" "[I") (List.mem_of_getElem? (i := 3) rfl)) (fun _ h9 => h9) rfl dX8_takeWord_20 ?_
      refine lv_aload_n hx hb dX8_takeWord_23 rfl (lv_at hl 0 rfl) ?_
      refine va_get (D := D) (ci := 8) (v := .int (nI y)) (C := RX8) (T := TX8) (N := 7) hx hb hts hin_X8 hown hK hP 0 rfl rfl 3 (by decide) (hts (.fieldLink RX8 28 "ClashFree$Scanner" "behind" "I") (List.mem_of_getElem? (i := 1) rfl)) (fun _ h9 => h9) rfl dX8_takeWord_24 ?_
      refine va_iald hx hb hK hP 1 0 rfl rfl (vp_in_nI (by omega) (by decide)) dX8_takeWord_27 ?_
      refine lv_topi (fun v2 ev2 => ?_)
      obtain rfl : v2 = nI (bt y) := ev2.trans (by rw [nI_clamp (by omega)]; exact (hbt _).1)
      have hPc := hP.sub (ws' := []) [] rfl
      have hKc := hK.sub (tys' := []) [] rfl
      have hFc := va_free0 hS hA
      refine va_calli (va_runS (As := [.int (nI (bt y))]) (rest := []) ⟨hx, hb, hml, hown, hts⟩ (k_sLetter l D _ cI (nI (bt y))) (va_cwS 1 hts g_k_takeWord_k_sLetter_46 rfl rfl rfl (by decide +kernel) ⟨(Nat.le_of_ble_eq_true rfl), (Nat.le_of_ble_eq_true rfl)⟩) (PcRC_S hPc hKc hN) rfl rfl hl.1 rfl (lv_room (Nat.le_of_ble_eq_true rfl)) dX8_takeWord_28 ⟨(Nat.le_of_ble_eq_true rfl), (Nat.le_of_ble_eq_true rfl)⟩) hS (fun q _ h => hFc q h) hFc (fun r3 uu tt H locs htt hvm hw hB hz1 hk1 hS => ?_)
      have hP := va_keep hP hk1
      try dsimp only at hw
      clear hB hz1 hk1 hFc hPc hKc
      rcases hw with ⟨rfl, hA_r3⟩ | ⟨rfl, hA_r3⟩
      ·
        have hlb : ltB bt y = true := (ltI (hbt y).2).mp hA_r3
        refine lv_if_eq (tgt := 47) hx hb dX8_takeWord_31 (by decide) (fun hc => absurd hc (by decide)) (fun hc => ?_)
        refine lv_aload_n hx hb dX8_takeWord_34 rfl (lv_at hl 0 rfl) ?_
        refine lv_dup hx hb dX8_takeWord_35 rfl ?_
        refine va_get (D := D) (ci := 8) (v := .int (nI y)) (C := RX8) (T := TX8) (N := 7) hx hb hts hin_X8 hown hK hP 0 rfl rfl 3 (by decide) (hts (.fieldLink RX8 28 "ClashFree$Scanner" "behind" "I") (List.mem_of_getElem? (i := 1) rfl)) (fun _ h9 => h9) rfl dX8_takeWord_36 ?_
        refine lv_iconst (v := 1) hx hb dX8_takeWord_39 (by decide) ?_
        refine lv_iadd hx hb dX8_takeWord_40 ?_
        refine lv_topi (fun v4 ev4 => ?_)
        obtain rfl : v4 = nI (y + 1) := ev4.trans (nI_1 _)
        refine va_put (D := D) (ci := 8) (v := .int (nI (y + 1))) (ty := .int) (C := RX8) (T := TX8) (N := 7) hx hb hts hin_X8 tyX8 tyX8_ok nmX8 hown hK hP hD hS 0 rfl rfl 3 (by decide) (hts (.fieldLink RX8 28 "ClashFree$Scanner" "behind" "I") (List.mem_of_getElem? (i := 1) rfl)) (fun _ h9 => h9) rfl (by decide +kernel) rfl rfl (Nat.le_of_ble_eq_true rfl) dX8_takeWord_41 (fun H locs hP hD hS => ?_)
        have hP : va_P D vwCl [(oq 5, .inr (8, [.ref (ox 2), .int (nI zl), .int (nI ta), .int (nI (y + 1)), .int ki, .int nu, .int wo])), (ox 2, .inl (cI, 1400, .inl fT))] H := hP
        have hD : va_D A [(oq 5, .inr (8, [.ref (ox 2), .int (nI zl), .int (nI ta), .int (nI (y + 1)), .int ki, .int nu, .int wo])), (ox 2, .inl (cI, 1400, .inl fT))] := hD
        refine lv_goto (tgt := 8) hx hb dX8_takeWord_44 (by decide) ?_
        exact ih (y + 1) (by omega) (by omega) (hsp.trans (sp_T hlt hlb)) (by omega) H locs ls (hP.sub [0, 1] rfl) (hD.sub [0, 1] (by decide) rfl) hS (lv_sub hl [0] rfl)
      ·
        have hnl : ¬ (y < zl ∧ ltB bt y = true) := fun q => hA_r3 ((ltI (hbt y).2).mpr q.2)
        refine lv_if_eq (tgt := 47) hx hb dX8_takeWord_31 (by decide) (fun hc => ?_) (fun hc => absurd (by decide) hc)
        exact kx47 y (hy1) (hy2) (hsp) (sp_F hnl) H locs ls (hP.sub [0, 1] rfl) (hD.sub [0, 1] (by decide) rfl) hS (lv_sub hl [0] rfl)
set_option maxHeartbeats 4000000 in
set_option maxRecDepth 100000 in
theorem k_takeWord (l : Launch) (D : va_G) (sz : Nat) (adK : Nat → Nat) (adV : Nat → Nat) (oq : Nat → Nat) (ox : Nat → Nat) (cI : ClassId) (zl : Nat) (ta : Nat) (be : Nat) (ki : Int32) (nu : Int32) (wo : Int32) (fT : Nat → Int32) (bt : Nat → Nat) (hzl : zl ≤ 1400) (hta : ta ≤ zl) (hbt : TieC fT bt) : Met l yX8_takeWord wp_k_takeWord ({ frames := 6, cells := 0, slots := 0, locals := 230 }) (PcWS D  adK adV [.ref (oq 5)] sz [(oq 5, .inr (8, [.ref (ox 2), .int (nI zl), .int (nI ta), .int (nI be), .int ki, .int nu, .int wo])), (ox 2, .inl (cI, 1400, .inl fT))] [(cI, .int)]) (va_Qv (fun (u : (Nat) × (Int32)) => u.1 = spE (ltB bt) zl ta ∧ u.2 = nI (wdK bt ta (spE (ltB bt) zl ta))) (fun (u : (Nat) × (Int32)) t => va_P D vwCl [(oq 5, .inr (8, [.ref (ox 2), .int (nI zl), .int (nI ta), .int (nI u.1), .int u.2, .int nu, .int wo])), (ox 2, .inl (cI, 1400, .inl fT))] t.heap ∧ va_K D vwCl [(cI, .int)] t ∧ va_D (va_A [(oq 5, .inr (8, [.ref (ox 2), .int (nI zl), .int (nI ta), .int (nI be), .int ki, .int nu, .int wo])), (ox 2, .inl (cI, 1400, .inl fT))] sz) [(oq 5, .inr (8, [.ref (ox 2), .int (nI zl), .int (nI ta), .int (nI u.1), .int u.2, .int nu, .int wo])), (ox 2, .inl (cI, 1400, .inl fT))]) (va_A [(oq 5, .inr (8, [.ref (ox 2), .int (nI zl), .int (nI ta), .int (nI be), .int ki, .int nu, .int wo])), (ox 2, .inl (cI, 1400, .inl fT))] sz)) 0 0 (va_A [(oq 5, .inr (8, [.ref (ox 2), .int (nI zl), .int (nI ta), .int (nI be), .int ki, .int nu, .int wo])), (ox 2, .inl (cI, 1400, .inl fT))] sz) := by
  refine Met.ofW (cc := cX8_takeWord) (maxL := 1) (ret := none) (by decide) rfl ?_
  intro p e s m args below meth c s₁ B hml hv
  obtain ⟨rfl, hsz, hP, hK, hD0, hN, hST⟩ := hv
  have hx := B.exec
  have hb := B.bytes
  have hr := B.returns
  have hts := atoms_spec (ws := wp_k_takeWord) B.pre
  have hin_X8 : ∀ w ∈ wsX80, w ∈ wp_k_takeWord := fun _ h => (List.mem_cons_of_mem _ (List.mem_append_right _ (List.mem_append_right _ (List.mem_append_right _ (List.mem_append_left _ h)))))
  have hown : s.vm.findClass RX8 = some m.cls := findClass_of_methodNamed B.named
  have hlocks := B.notSynchronized
  subst hsz
  have hD := hD0.self (sz := s.heap.size)
  generalize hAe : va_A [(oq 5, .inr (8, [.ref (ox 2), .int (nI zl), .int (nI ta), .int (nI be), .int ki, .int nu, .int wo])), (ox 2, .inl (cI, 1400, .inl fT))] s.heap.size = A at hD hST ⊢
  have hA : ∀ q : Nat, s.heap.size ≤ q → A q := fun q h => by rw [← hAe]; exact Or.inr h
  have hS : va_S A s.heap s.heap [] := va_S.rf
  have hP : va_P D vwCl [(oq 5, .inr (8, [.ref (ox 2), .int (nI zl), .int (nI ta), .int (nI be), .int ki, .int nu, .int wo])), (ox 2, .inl (cI, 1400, .inl fT))] s.heap := hP
  have hl := lv_entry ([.ref (oq 5)]) (n := 1) (Nat.le_of_ble_eq_true rfl)
  rw [lg_entry_eq]
  generalize (lg_sl ([.ref (oq 5)]) ++ List.replicate (1 - (lg_sl ([.ref (oq 5)])).length) Slot.unset).toArray = ls at hl ⊢
  have hl : lv_has ls 1 [(0, .ref (oq 5))] := hl
  refine lv_aload_n hx hb dX8_takeWord_0 rfl (lv_at hl 0 rfl) ?_
  refine lv_aload_n hx hb dX8_takeWord_1 rfl (lv_at hl 0 rfl) ?_
  refine va_get (D := D) (ci := 8) (v := .int (nI ta)) (C := RX8) (T := TX8) (N := 7) hx hb hts hin_X8 hown hK hP 0 rfl rfl 2 (by decide) (hts (.fieldLink RX8 25 "ClashFree$Scanner" "at" "I") (List.mem_of_getElem? (i := 7) rfl)) (fun _ h9 => h9) rfl dX8_takeWord_2 ?_
  refine va_put (D := D) (ci := 8) (v := .int (nI ta)) (ty := .int) (C := RX8) (T := TX8) (N := 7) hx hb hts hin_X8 tyX8 tyX8_ok nmX8 hown hK hP hD hS 0 rfl rfl 3 (by decide) (hts (.fieldLink RX8 28 "ClashFree$Scanner" "behind" "I") (List.mem_of_getElem? (i := 1) rfl)) (fun _ h9 => h9) rfl (by decide +kernel) rfl rfl (Nat.le_of_ble_eq_true rfl) dX8_takeWord_5 (fun H locs hP hD hS => ?_)
  have hP : va_P D vwCl [(oq 5, .inr (8, [.ref (ox 2), .int (nI zl), .int (nI ta), .int (nI ta), .int ki, .int nu, .int wo])), (ox 2, .inl (cI, 1400, .inl fT))] H := hP
  have hD : va_D A [(oq 5, .inr (8, [.ref (ox 2), .int (nI zl), .int (nI ta), .int (nI ta), .int ki, .int nu, .int wo])), (ox 2, .inl (cI, 1400, .inl fT))] := hD
  refine lk_tw l D adK adV oq ox cI zl ta ki nu wo fT bt (hzl) (hta) (hbt) hx hb hml hown hts hA (hK.sub [0] rfl) hN hST ?_ (zl + 1) ta (hta) (Nat.le_refl _) (rfl) (by omega) _ _ _ (hP.sub [0, 1] rfl) (hD.sub [0, 1] (by decide) rfl) hS (lv_sub hl [0] rfl)
  intro y_1 hy1_2 hy2_3 hsp_4 hx5 H locs ls hP hD hS hl
  have hE : spE (ltB bt) zl ta = y_1 := hsp_4.trans hx5
  refine lv_aload_n hx hb dX8_takeWord_47 rfl (lv_at hl 0 rfl) ?_
  refine lv_aload_n hx hb dX8_takeWord_48 rfl (lv_at hl 0 rfl) ?_
  have hPc := hP.sub (ws' := [(oq 5, .inr (8, [.ref (ox 2), .int (nI zl), .int (nI ta), .int (nI y_1), .int ki, .int nu, .int wo])), (ox 2, .inl (cI, 1400, .inl fT))]) [0, 1] rfl
  have hKc := hK.sub (tys' := [(cI, .int)]) [0] rfl
  have hFc := va_free0 hS hA
  refine va_calli (va_runV (As := []) (rest := [.ref (oq 5)]) ⟨hx, hb, hml, hown, hts⟩ (k_wordKind l D _ adK adV oq ox cI zl ta y_1 ki nu wo fT bt hzl hbt hy2_3 hy1_2) (cwV 0 hts g_k_takeWord_k_wordKind_62 rfl rfl rfl (by decide +kernel) ⟨(Nat.le_of_ble_eq_true rfl), (Nat.le_of_ble_eq_true rfl)⟩) (PcRS_V (q0 := 0) hPc hKc hN hST hS hFc rfl rfl) rfl rfl hl.1 rfl (lv_room (Nat.le_of_ble_eq_true rfl)) dX8_takeWord_49 ⟨(Nat.le_of_ble_eq_true rfl), (Nat.le_of_ble_eq_true rfl)⟩) hS (fun q _ h => hFc q h) hFc (fun r6 uu tt H locs htt hvm hw hB hz1 hk1 hS => ?_)
  have hP := va_keep hP hk1
  try dsimp only at hw
  clear hB hz1 hk1 hFc hPc hKc
  obtain rfl : r6 = nI (wdK bt ta y_1) := hw
  refine va_put (D := D) (ci := 8) (v := .int (nI (wdK bt ta y_1))) (ty := .int) (C := RX8) (T := TX8) (N := 7) hx hb hts hin_X8 tyX8 tyX8_ok nmX8 hown hK hP hD hS 0 rfl rfl 4 (by decide) (hts (.fieldLink RX8 31 "ClashFree$Scanner" "kind" "I") (List.mem_of_getElem? (i := 11) rfl)) (fun _ h9 => h9) rfl (by decide +kernel) rfl rfl (Nat.le_of_ble_eq_true rfl) dX8_takeWord_52 (fun H locs hP hD hS => ?_)
  have hP : va_P D vwCl [(oq 5, .inr (8, [.ref (ox 2), .int (nI zl), .int (nI ta), .int (nI y_1), .int (nI (wdK bt ta y_1)), .int nu, .int wo])), (ox 2, .inl (cI, 1400, .inl fT))] H := hP
  have hD : va_D A [(oq 5, .inr (8, [.ref (ox 2), .int (nI zl), .int (nI ta), .int (nI y_1), .int (nI (wdK bt ta y_1)), .int nu, .int wo])), (ox 2, .inl (cI, 1400, .inl fT))] := hD
  exact W.vret hx hb hr (fun t ht hW => ⟨⟨(y_1, (nI (wdK bt ta y_1))), rfl, (by (try dsimp only); first | done | exact ⟨hE.symm, by rw [hE]⟩), by rw [ht]; exact hP.sub [0, 1] rfl, va_K.moved hW.alike (hK.sub [0] rfl), hD.sub [0, 1] (by decide) rfl⟩, hS.F ht⟩) hS.2.2 dX8_takeWord_55

def own_k_advance : List Cond := [.fieldLink RX8 25 "ClashFree$Scanner" "at" "I", .fieldLink RX8 21 "ClashFree$Scanner" "length" "I", .fieldLink RX8 9 "ClashFree$Scanner" "text" "[I", .fieldLink RX8 34 "ClashFree$Scanner" "wordy" "Z", .fieldLink RX8 28 "ClashFree$Scanner" "behind" "I", .methodLink RX8 38 yX8_byteAt, .instanceMethod yX8_byteAt, .selects RX8 yX8_byteAt yX8_byteAt, .initialized RX8, .methodLink RX8 42 yX8_isDigit, .static yX8_isDigit, .methodLink RX8 49 yX8_takeNumber, .instanceMethod yX8_takeNumber, .selects RX8 yX8_takeNumber yX8_takeNumber, .methodLink RX8 46 yX8_isLetter, .static yX8_isLetter, .methodLink RX8 52 yX8_takeWord, .instanceMethod yX8_takeWord, .selects RX8 yX8_takeWord yX8_takeWord, .methodLink RX8 55 yX8_takeSign, .instanceMethod yX8_takeSign, .selects RX8 yX8_takeSign yX8_takeSign, .fieldLink RX8 31 "ClashFree$Scanner" "kind" "I"]
def wp_k_advance : List Cond := .code yX8_advance cX8_advance 4 none :: (own_k_advance ++ (wp_k_byteAt ++ (wp_k_sDigit ++ (wp_k_takeNumber ++ (wp_k_sLetter ++ (wp_k_takeWord ++ (wp_k_takeSign ++ (wp_k_takeEnd ++ (wsX80 ++ ([] : List Cond))))))))))
set_option maxRecDepth 20000 in
theorem inown_k_advance : ∀ w ∈ own_k_advance, w ∈ lw_tbl := mem_places [304, 303, 302, 311, 306, 928, 930, 5, 113, 932, 933, 938, 940, 6, 935, 936, 942, 944, 7, 1011, 1013, 10, 307] (by decide +kernel)
set_option maxRecDepth 20000 in
theorem in_k_advance : ∀ w ∈ wp_k_advance, w ∈ lw_tbl := List.forall_mem_cons.mpr ⟨List.mem_of_getElem? (i := 927) (by decide +kernel), List.forall_mem_append.mpr ⟨inown_k_advance, List.forall_mem_append.mpr ⟨in_k_byteAt, List.forall_mem_append.mpr ⟨in_k_sDigit, List.forall_mem_append.mpr ⟨in_k_takeNumber, List.forall_mem_append.mpr ⟨in_k_sLetter, List.forall_mem_append.mpr ⟨in_k_takeWord, List.forall_mem_append.mpr ⟨in_k_takeSign, List.forall_mem_append.mpr ⟨in_k_takeEnd, List.forall_mem_append.mpr ⟨lwb_X8, fun _ h => absurd h List.not_mem_nil⟩⟩⟩⟩⟩⟩⟩⟩⟩⟩
set_option maxRecDepth 20000 in
theorem good_k_advance : wp_k_advance.all goodWord = true := by decide +kernel
set_option maxRecDepth 20000 in
theorem g_k_advance_k_byteAt_38 : GoodIn wp_k_advance (wsV RX8 38 RX8 yX8_byteAt wp_k_byteAt) := goodIn_sub (List.forall_mem_append.mpr ⟨List.forall_mem_cons.mpr ⟨(List.mem_of_getElem? (i := 6) rfl), List.forall_mem_cons.mpr ⟨(List.mem_of_getElem? (i := 7) rfl), List.forall_mem_cons.mpr ⟨(List.mem_of_getElem? (i := 8) rfl), List.forall_mem_cons.mpr ⟨(List.mem_of_getElem? (i := 9) rfl), fun _ h => absurd h List.not_mem_nil⟩⟩⟩⟩, (fun _ h => (List.mem_cons_of_mem _ (List.mem_append_right _ (List.mem_append_left _ h))))⟩) (by decide +kernel)
set_option maxRecDepth 20000 in
theorem g_k_advance_k_sDigit_42 : GoodIn wp_k_advance (va_wsS RX8 42 yX8_isDigit wp_k_sDigit) := goodIn_sub (List.forall_mem_append.mpr ⟨List.forall_mem_cons.mpr ⟨(List.mem_of_getElem? (i := 10) rfl), List.forall_mem_cons.mpr ⟨(List.mem_of_getElem? (i := 11) rfl), List.forall_mem_cons.mpr ⟨(List.mem_of_getElem? (i := 9) rfl), fun _ h => absurd h List.not_mem_nil⟩⟩⟩, (fun _ h => (List.mem_cons_of_mem _ (List.mem_append_right _ (List.mem_append_right _ (List.mem_append_left _ h)))))⟩) (by decide +kernel)
set_option maxRecDepth 20000 in
theorem g_k_advance_k_takeNumber_49 : GoodIn wp_k_advance (wsV RX8 49 RX8 yX8_takeNumber wp_k_takeNumber) := goodIn_sub (List.forall_mem_append.mpr ⟨List.forall_mem_cons.mpr ⟨(List.mem_of_getElem? (i := 12) rfl), List.forall_mem_cons.mpr ⟨(List.mem_of_getElem? (i := 13) rfl), List.forall_mem_cons.mpr ⟨(List.mem_of_getElem? (i := 14) rfl), List.forall_mem_cons.mpr ⟨(List.mem_of_getElem? (i := 9) rfl), fun _ h => absurd h List.not_mem_nil⟩⟩⟩⟩, (fun _ h => (List.mem_cons_of_mem _ (List.mem_append_right _ (List.mem_append_right _ (List.mem_append_right _ (List.mem_append_left _ h))))))⟩) (by decide +kernel)
set_option maxRecDepth 20000 in
theorem g_k_advance_k_sLetter_46 : GoodIn wp_k_advance (va_wsS RX8 46 yX8_isLetter wp_k_sLetter) := goodIn_sub (List.forall_mem_append.mpr ⟨List.forall_mem_cons.mpr ⟨(List.mem_of_getElem? (i := 15) rfl), List.forall_mem_cons.mpr ⟨(List.mem_of_getElem? (i := 16) rfl), List.forall_mem_cons.mpr ⟨(List.mem_of_getElem? (i := 9) rfl), fun _ h => absurd h List.not_mem_nil⟩⟩⟩, (fun _ h => (List.mem_cons_of_mem _ (List.mem_append_right _ (List.mem_append_right _ (List.mem_append_right _ (List.mem_append_right _ (List.mem_append_left _ h)))))))⟩) (by decide +kernel)
set_option maxRecDepth 20000 in
theorem g_k_advance_k_takeWord_52 : GoodIn wp_k_advance (wsV RX8 52 RX8 yX8_takeWord wp_k_takeWord) := goodIn_sub (List.forall_mem_append.mpr ⟨List.forall_mem_cons.mpr ⟨(List.mem_of_getElem? (i := 17) rfl), List.forall_mem_cons.mpr ⟨(List.mem_of_getElem? (i := 18) rfl), List.forall_mem_cons.mpr ⟨(List.mem_of_getElem? (i := 19) rfl), List.forall_mem_cons.mpr ⟨(List.mem_of_getElem? (i := 9) rfl), fun _ h => absurd h List.not_mem_nil⟩⟩⟩⟩, (fun _ h => (List.mem_cons_of_mem _ (List.mem_append_right _ (List.mem_append_right _ (List.mem_append_right _ (List.mem_append_right _ (List.mem_append_right _ (List.mem_append_left _ h))))))))⟩) (by decide +kernel)
set_option maxRecDepth 20000 in
theorem g_k_advance_k_takeSign_55 : GoodIn wp_k_advance (wsV RX8 55 RX8 yX8_takeSign wp_k_takeSign) := goodIn_sub (List.forall_mem_append.mpr ⟨List.forall_mem_cons.mpr ⟨(List.mem_of_getElem? (i := 20) rfl), List.forall_mem_cons.mpr ⟨(List.mem_of_getElem? (i := 21) rfl), List.forall_mem_cons.mpr ⟨(List.mem_of_getElem? (i := 22) rfl), List.forall_mem_cons.mpr ⟨(List.mem_of_getElem? (i := 9) rfl), fun _ h => absurd h List.not_mem_nil⟩⟩⟩⟩, (fun _ h => (List.mem_cons_of_mem _ (List.mem_append_right _ (List.mem_append_right _ (List.mem_append_right _ (List.mem_append_right _ (List.mem_append_right _ (List.mem_append_right _ (List.mem_append_left _ h)))))))))⟩) (by decide +kernel)
set_option maxRecDepth 20000 in
theorem g_k_advance_k_takeEnd_55 : GoodIn wp_k_advance (wsV RX8 55 RX8 yX8_takeSign wp_k_takeEnd) := goodIn_sub (List.forall_mem_append.mpr ⟨List.forall_mem_cons.mpr ⟨(List.mem_of_getElem? (i := 20) rfl), List.forall_mem_cons.mpr ⟨(List.mem_of_getElem? (i := 21) rfl), List.forall_mem_cons.mpr ⟨(List.mem_of_getElem? (i := 22) rfl), List.forall_mem_cons.mpr ⟨(List.mem_of_getElem? (i := 9) rfl), fun _ h => absurd h List.not_mem_nil⟩⟩⟩⟩, (fun _ h => (List.mem_cons_of_mem _ (List.mem_append_right _ (List.mem_append_right _ (List.mem_append_right _ (List.mem_append_right _ (List.mem_append_right _ (List.mem_append_right _ (List.mem_append_right _ (List.mem_append_left _ h))))))))))⟩) (by decide +kernel)
set_option maxHeartbeats 4000000 in
set_option maxRecDepth 100000 in
theorem lk_adv (l : Launch) {p : Program} {e : Env} {s : State} {m : MethodId} {args : Array Value} {below : List Frame} {meth : Method} {c : Code} {Q : State → Prop} {A : Nat → Prop} (D : va_G) (adK : Nat → Nat) (adV : Nat → Nat) (oq : Nat → Nat) (ox : Nat → Nat) (cI : ClassId) (zl : Nat) (be : Nat) (ki : Int32) (nu : Int32) (wo : Int32) (fT : Nat → Int32) (bt : Nat → Nat) (wb : Bool) (hzl : zl ≤ 1400) (hbe : be ≤ zl) (hbt : TieC fT bt) (hx : p.tables.exec = Jvm.exec) (hb : c.code = cX8_advance) (hml : c.maxLocals = 4) (hown : s.vm.findClass RX8 = some m.cls) (hts : ∀ w ∈ wp_k_advance, w.before args s = true) (hA : ∀ q, s.heap.size ≤ q → A q) (hK : va_K D vwCl [(cI, .int)] s) (hN : NC s) (hST : ST adK adV A s s.heap) (kx70 : ∀ (y : Nat), (y ≤ zl) → (be ≤ y) → (spE (blB bt) zl be = spE (blB bt) zl y) → (spE (blB bt) zl y = y) → ∀ (H : Heap) (locs : List Loc) (ls : Array Slot), va_P D vwCl [(oq 5, .inr (8, [.ref (ox 2), .int (nI zl), .int (nI y), .int (nI be), .int ki, .int nu, .int wo])), (ox 2, .inl (cI, 1400, .inl fT))] H → va_D A [(oq 5, .inr (8, [.ref (ox 2), .int (nI zl), .int (nI y), .int (nI be), .int ki, .int nu, .int wo])), (ox 2, .inl (cI, 1400, .inl fT))] → va_S A s.heap H locs → lv_has ls 4 [(2, .int (nI be)), (1, .int wo), (0, .ref (oq 5))] → W p l e ({ frames := 7, cells := 0, slots := 0, locals := 280 }) s m args below meth c H locs 0 0 Q (F0 m 70 ls [])) : ∀ (N : Nat), ∀ (y : Nat), (y ≤ zl) → (be ≤ y) → (spE (blB bt) zl be = spE (blB bt) zl y) → zl - y < N → ∀ (H : Heap) (locs : List Loc) (ls : Array Slot), va_P D vwCl [(oq 5, .inr (8, [.ref (ox 2), .int (nI zl), .int (nI y), .int (nI be), .int ki, .int nu, .int wo])), (ox 2, .inl (cI, 1400, .inl fT))] H → va_D A [(oq 5, .inr (8, [.ref (ox 2), .int (nI zl), .int (nI y), .int (nI be), .int ki, .int nu, .int wo])), (ox 2, .inl (cI, 1400, .inl fT))] → va_S A s.heap H locs → lv_has ls 4 [(2, .int (nI be)), (1, .int wo), (0, .ref (oq 5))] → W p l e ({ frames := 7, cells := 0, slots := 0, locals := 280 }) s m args below meth c H locs 0 0 Q (F0 m 18 ls []) := by
  have hin_X8 : ∀ w ∈ wsX80, w ∈ wp_k_advance := fun _ h => (List.mem_cons_of_mem _ (List.mem_append_right _ (List.mem_append_right _ (List.mem_append_right _ (List.mem_append_right _ (List.mem_append_right _ (List.mem_append_right _ (List.mem_append_right _ (List.mem_append_right _ (List.mem_append_left _ h))))))))))
  intro N
  induction N with
  | zero =>
    intro y hy1 hy0 hsp hm
    exact absurd hm (Nat.not_lt_zero _)
  | succ N ih =>
    intro y hy1 hy0 hsp hm H locs ls hP hD hS hl
    refine lv_aload_n hx hb dX8_advance_18 rfl (lv_at hl 2 rfl) ?_
    refine va_get (D := D) (ci := 8) (v := .int (nI y)) (C := RX8) (T := TX8) (N := 7) hx hb hts hin_X8 hown hK hP 0 rfl rfl 2 (by decide) (hts (.fieldLink RX8 25 "ClashFree$Scanner" "at" "I") (List.mem_of_getElem? (i := 1) rfl)) (fun _ h9 => h9) rfl dX8_advance_19 ?_
    refine lv_aload_n hx hb dX8_advance_22 rfl (lv_at hl 2 rfl) ?_
    refine va_get (D := D) (ci := 8) (v := .int (nI zl)) (C := RX8) (T := TX8) (N := 7) hx hb hts hin_X8 hown hK hP 0 rfl rfl 1 (by decide) (hts (.fieldLink RX8 21 "ClashFree$Scanner" "length" "I") (List.mem_of_getElem? (i := 2) rfl)) (fun _ h9 => h9) rfl dX8_advance_23 ?_
    refine lv_icmp_ge (tgt := 70) hx hb dX8_advance_26 (by decide) (fun hc1 => ?_) (fun hc1 => ?_)
    ·
      have hlt : zl ≤ y := (nI_leI (by omega) (by omega)).mp hc1
      exact kx70 y (hy1) (hy0) (hsp) (sp_F (fun q => absurd q.1 (by omega))) H locs ls (hP.sub [0, 1] rfl) (hD.sub [0, 1] (by decide) rfl) hS (lv_sub hl [0, 1, 2] rfl)
    ·
      have hlt : y < zl := by
        rcases Nat.lt_or_ge y (zl) with z | z
        · exact z
        · exact absurd (nI_le z (by omega)) hc1
      refine lv_aload_n hx hb dX8_advance_29 rfl (lv_at hl 2 rfl) ?_
      refine va_get (D := D) (ci := 8) (v := .ref (ox 2)) (C := RX8) (T := TX8) (N := 7) hx hb hts hin_X8 hown hK hP 0 rfl rfl 0 (by decide) (hts (.fieldLink RX8 9 "ClashFree$Scanner" "text" "[I") (List.mem_of_getElem? (i := 3) rfl)) (fun _ h9 => h9) rfl dX8_advance_30 ?_
      refine lv_aload_n hx hb dX8_advance_33 rfl (lv_at hl 2 rfl) ?_
      refine va_get (D := D) (ci := 8) (v := .int (nI y)) (C := RX8) (T := TX8) (N := 7) hx hb hts hin_X8 hown hK hP 0 rfl rfl 2 (by decide) (hts (.fieldLink RX8 25 "ClashFree$Scanner" "at" "I") (List.mem_of_getElem? (i := 1) rfl)) (fun _ h9 => h9) rfl dX8_advance_34 ?_
      refine va_iald hx hb hK hP 1 0 rfl rfl (vp_in_nI (by omega) (by decide)) dX8_advance_37 ?_
      refine lv_topi (fun v2 ev2 => ?_)
      obtain rfl : v2 = nI (bt y) := ev2.trans (by rw [nI_clamp (by omega)]; exact (hbt _).1)
      refine lv_bipush (v := 10) hx hb dX8_advance_38 (by decide) ?_
      refine lv_icmp_eq (tgt := 57) hx hb dX8_advance_40 (by decide) (fun hc3 => ?_) (fun hc3 => ?_)
      ·
        have hbl : blB bt y = true := blI (hbt y).2 (Or.inl hc3)
        refine lv_aload_n hx hb dX8_advance_57 rfl (lv_at hl 2 rfl) ?_
        refine lv_dup hx hb dX8_advance_58 rfl ?_
        refine va_get (D := D) (ci := 8) (v := .int (nI y)) (C := RX8) (T := TX8) (N := 7) hx hb hts hin_X8 hown hK hP 0 rfl rfl 2 (by decide) (hts (.fieldLink RX8 25 "ClashFree$Scanner" "at" "I") (List.mem_of_getElem? (i := 1) rfl)) (fun _ h9 => h9) rfl dX8_advance_59 ?_
        refine lv_iconst (v := 1) hx hb dX8_advance_62 (by decide) ?_
        refine lv_iadd hx hb dX8_advance_63 ?_
        refine lv_topi (fun v4 ev4 => ?_)
        obtain rfl : v4 = nI (y + 1) := ev4.trans (nI_1 _)
        refine va_put (D := D) (ci := 8) (v := .int (nI (y + 1))) (ty := .int) (C := RX8) (T := TX8) (N := 7) hx hb hts hin_X8 tyX8 tyX8_ok nmX8 hown hK hP hD hS 0 rfl rfl 2 (by decide) (hts (.fieldLink RX8 25 "ClashFree$Scanner" "at" "I") (List.mem_of_getElem? (i := 1) rfl)) (fun _ h9 => h9) rfl (by decide +kernel) rfl rfl (Nat.le_of_ble_eq_true rfl) dX8_advance_64 (fun H locs hP hD hS => ?_)
        have hP : va_P D vwCl [(oq 5, .inr (8, [.ref (ox 2), .int (nI zl), .int (nI (y + 1)), .int (nI be), .int ki, .int nu, .int wo])), (ox 2, .inl (cI, 1400, .inl fT))] H := hP
        have hD : va_D A [(oq 5, .inr (8, [.ref (ox 2), .int (nI zl), .int (nI (y + 1)), .int (nI be), .int ki, .int nu, .int wo])), (ox 2, .inl (cI, 1400, .inl fT))] := hD
        refine lv_goto (tgt := 18) hx hb dX8_advance_67 (by decide) ?_
        exact ih (y + 1) (by omega) (by omega) (hsp.trans (sp_T hlt hbl)) (by omega) H locs ls (hP.sub [0, 1] rfl) (hD.sub [0, 1] (by decide) rfl) hS (lv_sub hl [0, 1, 2] rfl)
      ·
        refine lv_aload_n hx hb dX8_advance_43 rfl (lv_at hl 2 rfl) ?_
        refine va_get (D := D) (ci := 8) (v := .ref (ox 2)) (C := RX8) (T := TX8) (N := 7) hx hb hts hin_X8 hown hK hP 0 rfl rfl 0 (by decide) (hts (.fieldLink RX8 9 "ClashFree$Scanner" "text" "[I") (List.mem_of_getElem? (i := 3) rfl)) (fun _ h9 => h9) rfl dX8_advance_44 ?_
        refine lv_aload_n hx hb dX8_advance_47 rfl (lv_at hl 2 rfl) ?_
        refine va_get (D := D) (ci := 8) (v := .int (nI y)) (C := RX8) (T := TX8) (N := 7) hx hb hts hin_X8 hown hK hP 0 rfl rfl 2 (by decide) (hts (.fieldLink RX8 25 "ClashFree$Scanner" "at" "I") (List.mem_of_getElem? (i := 1) rfl)) (fun _ h9 => h9) rfl dX8_advance_48 ?_
        refine va_iald hx hb hK hP 1 0 rfl rfl (vp_in_nI (by omega) (by decide)) dX8_advance_51 ?_
        refine lv_topi (fun v5 ev5 => ?_)
        obtain rfl : v5 = nI (bt y) := ev5.trans (by rw [nI_clamp (by omega)]; exact (hbt _).1)
        refine lv_bipush (v := 32) hx hb dX8_advance_52 (by decide) ?_
        refine lv_icmp_ne (tgt := 70) hx hb dX8_advance_54 (by decide) (fun hc6 => ?_) (fun hc6 => ?_)
        ·
          have hnb : ¬ blB bt y = true := blN hc3 hc6
          exact kx70 y (hy1) (hy0) (hsp) (sp_F (fun q => hnb q.2)) H locs ls (hP.sub [0, 1] rfl) (hD.sub [0, 1] (by decide) rfl) hS (lv_sub hl [0, 1, 2] rfl)
        ·
          have hbl : blB bt y = true := blI (hbt y).2 (Or.inr hc6)
          refine lv_aload_n hx hb dX8_advance_57 rfl (lv_at hl 2 rfl) ?_
          refine lv_dup hx hb dX8_advance_58 rfl ?_
          refine va_get (D := D) (ci := 8) (v := .int (nI y)) (C := RX8) (T := TX8) (N := 7) hx hb hts hin_X8 hown hK hP 0 rfl rfl 2 (by decide) (hts (.fieldLink RX8 25 "ClashFree$Scanner" "at" "I") (List.mem_of_getElem? (i := 1) rfl)) (fun _ h9 => h9) rfl dX8_advance_59 ?_
          refine lv_iconst (v := 1) hx hb dX8_advance_62 (by decide) ?_
          refine lv_iadd hx hb dX8_advance_63 ?_
          refine lv_topi (fun v7 ev7 => ?_)
          obtain rfl : v7 = nI (y + 1) := ev7.trans (nI_1 _)
          refine va_put (D := D) (ci := 8) (v := .int (nI (y + 1))) (ty := .int) (C := RX8) (T := TX8) (N := 7) hx hb hts hin_X8 tyX8 tyX8_ok nmX8 hown hK hP hD hS 0 rfl rfl 2 (by decide) (hts (.fieldLink RX8 25 "ClashFree$Scanner" "at" "I") (List.mem_of_getElem? (i := 1) rfl)) (fun _ h9 => h9) rfl (by decide +kernel) rfl rfl (Nat.le_of_ble_eq_true rfl) dX8_advance_64 (fun H locs hP hD hS => ?_)
          have hP : va_P D vwCl [(oq 5, .inr (8, [.ref (ox 2), .int (nI zl), .int (nI (y + 1)), .int (nI be), .int ki, .int nu, .int wo])), (ox 2, .inl (cI, 1400, .inl fT))] H := hP
          have hD : va_D A [(oq 5, .inr (8, [.ref (ox 2), .int (nI zl), .int (nI (y + 1)), .int (nI be), .int ki, .int nu, .int wo])), (ox 2, .inl (cI, 1400, .inl fT))] := hD
          refine lv_goto (tgt := 18) hx hb dX8_advance_67 (by decide) ?_
          exact ih (y + 1) (by omega) (by omega) (hsp.trans (sp_T hlt hbl)) (by omega) H locs ls (hP.sub [0, 1] rfl) (hD.sub [0, 1] (by decide) rfl) hS (lv_sub hl [0, 1, 2] rfl)
set_option maxHeartbeats 4000000 in
set_option maxRecDepth 100000 in
theorem k_advance (l : Launch) (D : va_G) (sz : Nat) (adK : Nat → Nat) (adV : Nat → Nat) (oq : Nat → Nat) (ox : Nat → Nat) (cI : ClassId) (zl : Nat) (ta : Nat) (be : Nat) (ki : Int32) (nu : Int32) (wo : Int32) (fT : Nat → Int32) (bt : Nat → Nat) (wb : Bool) (hzl : zl ≤ 1400) (hbe : be ≤ zl) (hbt : TieC fT bt) (hwo : wo = if wb = true then 1 else 0) : Met l yX8_advance wp_k_advance ({ frames := 7, cells := 0, slots := 0, locals := 280 }) (PcWS D  adK adV [.ref (oq 5)] sz [(oq 5, .inr (8, [.ref (ox 2), .int (nI zl), .int (nI ta), .int (nI be), .int ki, .int nu, .int wo])), (ox 2, .inl (cI, 1400, .inl fT))] [(cI, .int)]) (va_Qv (fun (u : (Nat) × (Nat) × (Int32) × (Int32) × (Int32)) => u.1 = tkA bt zl be ∧ u.2.1 = tkE bt zl be ∧ u.2.2.1 = nI (tkK bt zl be wb) ∧ u.2.2.2.2 = (if tkW bt zl be = true then 1 else 0) ∧ (dgB bt (tkA bt zl be) = true → tkA bt zl be < zl → u.2.2.2.1 = nI (nmN bt (tkA bt zl be) (min 6 (tkE bt zl be - tkA bt zl be))))) (fun (u : (Nat) × (Nat) × (Int32) × (Int32) × (Int32)) t => va_P D vwCl [(oq 5, .inr (8, [.ref (ox 2), .int (nI zl), .int (nI u.1), .int (nI u.2.1), .int u.2.2.1, .int u.2.2.2.1, .int u.2.2.2.2])), (ox 2, .inl (cI, 1400, .inl fT))] t.heap ∧ va_K D vwCl [(cI, .int)] t ∧ va_D (va_A [(oq 5, .inr (8, [.ref (ox 2), .int (nI zl), .int (nI ta), .int (nI be), .int ki, .int nu, .int wo])), (ox 2, .inl (cI, 1400, .inl fT))] sz) [(oq 5, .inr (8, [.ref (ox 2), .int (nI zl), .int (nI u.1), .int (nI u.2.1), .int u.2.2.1, .int u.2.2.2.1, .int u.2.2.2.2])), (ox 2, .inl (cI, 1400, .inl fT))]) (va_A [(oq 5, .inr (8, [.ref (ox 2), .int (nI zl), .int (nI ta), .int (nI be), .int ki, .int nu, .int wo])), (ox 2, .inl (cI, 1400, .inl fT))] sz)) 0 0 (va_A [(oq 5, .inr (8, [.ref (ox 2), .int (nI zl), .int (nI ta), .int (nI be), .int ki, .int nu, .int wo])), (ox 2, .inl (cI, 1400, .inl fT))] sz) := by
  refine Met.ofW (cc := cX8_advance) (maxL := 4) (ret := none) (by decide) rfl ?_
  intro p e s m args below meth c s₁ B hml hv
  obtain ⟨rfl, hsz, hP, hK, hD0, hN, hST⟩ := hv
  have hx := B.exec
  have hb := B.bytes
  have hr := B.returns
  have hts := atoms_spec (ws := wp_k_advance) B.pre
  have hin_X8 : ∀ w ∈ wsX80, w ∈ wp_k_advance := fun _ h => (List.mem_cons_of_mem _ (List.mem_append_right _ (List.mem_append_right _ (List.mem_append_right _ (List.mem_append_right _ (List.mem_append_right _ (List.mem_append_right _ (List.mem_append_right _ (List.mem_append_right _ (List.mem_append_left _ h))))))))))
  have hown : s.vm.findClass RX8 = some m.cls := findClass_of_methodNamed B.named
  have hlocks := B.notSynchronized
  subst hsz
  have hD := hD0.self (sz := s.heap.size)
  generalize hAe : va_A [(oq 5, .inr (8, [.ref (ox 2), .int (nI zl), .int (nI ta), .int (nI be), .int ki, .int nu, .int wo])), (ox 2, .inl (cI, 1400, .inl fT))] s.heap.size = A at hD hST ⊢
  have hA : ∀ q : Nat, s.heap.size ≤ q → A q := fun q h => by rw [← hAe]; exact Or.inr h
  have hS : va_S A s.heap s.heap [] := va_S.rf
  have hP : va_P D vwCl [(oq 5, .inr (8, [.ref (ox 2), .int (nI zl), .int (nI ta), .int (nI be), .int ki, .int nu, .int wo])), (ox 2, .inl (cI, 1400, .inl fT))] s.heap := hP
  have hl := lv_entry ([.ref (oq 5)]) (n := 4) (Nat.le_of_ble_eq_true rfl)
  rw [lg_entry_eq]
  generalize (lg_sl ([.ref (oq 5)]) ++ List.replicate (4 - (lg_sl ([.ref (oq 5)])).length) Slot.unset).toArray = ls at hl ⊢
  have hl : lv_has ls 4 [(0, .ref (oq 5))] := hl
  refine lv_aload_n hx hb dX8_advance_0 rfl (lv_at hl 0 rfl) ?_
  refine va_get (D := D) (ci := 8) (v := .int wo) (C := RX8) (T := TX8) (N := 7) hx hb hts hin_X8 hown hK hP 0 rfl rfl 6 (by decide) (hts (.fieldLink RX8 34 "ClashFree$Scanner" "wordy" "Z") (List.mem_of_getElem? (i := 4) rfl)) (fun _ h9 => h9) rfl dX8_advance_1 ?_
  refine lv_istore_n (lv' := [(1, .int wo), (0, .ref (oq 5))]) hx hb dX8_advance_4 rfl hl (by decide) rfl (fun ls hl => ?_)
  refine lv_aload_n hx hb dX8_advance_5 rfl (lv_at hl 1 rfl) ?_
  refine va_get (D := D) (ci := 8) (v := .int (nI be)) (C := RX8) (T := TX8) (N := 7) hx hb hts hin_X8 hown hK hP 0 rfl rfl 3 (by decide) (hts (.fieldLink RX8 28 "ClashFree$Scanner" "behind" "I") (List.mem_of_getElem? (i := 5) rfl)) (fun _ h9 => h9) rfl dX8_advance_6 ?_
  refine lv_istore_n (lv' := [(2, .int (nI be)), (1, .int wo), (0, .ref (oq 5))]) hx hb dX8_advance_9 rfl hl (by decide) rfl (fun ls hl => ?_)
  refine lv_aload_n hx hb dX8_advance_10 rfl (lv_at hl 2 rfl) ?_
  refine lv_aload_n hx hb dX8_advance_11 rfl (lv_at hl 2 rfl) ?_
  refine va_get (D := D) (ci := 8) (v := .int (nI be)) (C := RX8) (T := TX8) (N := 7) hx hb hts hin_X8 hown hK hP 0 rfl rfl 3 (by decide) (hts (.fieldLink RX8 28 "ClashFree$Scanner" "behind" "I") (List.mem_of_getElem? (i := 5) rfl)) (fun _ h9 => h9) rfl dX8_advance_12 ?_
  refine va_put (D := D) (ci := 8) (v := .int (nI be)) (ty := .int) (C := RX8) (T := TX8) (N := 7) hx hb hts hin_X8 tyX8 tyX8_ok nmX8 hown hK hP hD hS 0 rfl rfl 2 (by decide) (hts (.fieldLink RX8 25 "ClashFree$Scanner" "at" "I") (List.mem_of_getElem? (i := 1) rfl)) (fun _ h9 => h9) rfl (by decide +kernel) rfl rfl (Nat.le_of_ble_eq_true rfl) dX8_advance_15 (fun H locs hP hD hS => ?_)
  have hP : va_P D vwCl [(oq 5, .inr (8, [.ref (ox 2), .int (nI zl), .int (nI be), .int (nI be), .int ki, .int nu, .int wo])), (ox 2, .inl (cI, 1400, .inl fT))] H := hP
  have hD : va_D A [(oq 5, .inr (8, [.ref (ox 2), .int (nI zl), .int (nI be), .int (nI be), .int ki, .int nu, .int wo])), (ox 2, .inl (cI, 1400, .inl fT))] := hD
  refine lk_adv l D adK adV oq ox cI zl be ki nu wo fT bt wb (hzl) (hbe) (hbt) hx hb hml hown hts hA (hK.sub [0] rfl) hN hST ?_ (zl + 1) be (hbe) (Nat.le_refl _) (rfl) (by omega) _ _ _ (hP.sub [0, 1] rfl) (hD.sub [0, 1] (by decide) rfl) hS (lv_sub hl [0, 1, 2] rfl)
  intro y_1 hy1_2 hy0_3 hsp_4 hx5 H locs ls hP hD hS hl
  have hAq : tkA bt zl be = y_1 := hsp_4.trans hx5
  refine lv_iload_n hx hb dX8_advance_70 rfl (lv_at hl 1 rfl) ?_
  refine lv_if_eq (tgt := 86) hx hb dX8_advance_71 (by decide) (fun hc6 => ?_) (fun hc6 => ?_)
  ·
    have hwf : wb = false := wo_f hwo hc6
    refine lv_iconst (v := 0) hx hb dX8_advance_86 (by decide) ?_
    refine lv_istore_n (lv' := [(1, .int 0), (2, .int (nI be)), (0, .ref (oq 5))]) hx hb dX8_advance_87 rfl hl (by decide) rfl (fun ls hl => ?_)
    refine lv_aload_n hx hb dX8_advance_88 rfl (lv_at hl 2 rfl) ?_
    refine lv_aload_n hx hb dX8_advance_89 rfl (lv_at hl 2 rfl) ?_
    refine va_get (D := D) (ci := 8) (v := .int (nI y_1)) (C := RX8) (T := TX8) (N := 7) hx hb hts hin_X8 hown hK hP 0 rfl rfl 2 (by decide) (hts (.fieldLink RX8 25 "ClashFree$Scanner" "at" "I") (List.mem_of_getElem? (i := 1) rfl)) (fun _ h9 => h9) rfl dX8_advance_90 ?_
    have hPc := hP.sub (ws' := [(oq 5, .inr (8, [.ref (ox 2), .int (nI zl), .int (nI y_1), .int (nI be), .int ki, .int nu, .int wo])), (ox 2, .inl (cI, 1400, .inl fT))]) [0, 1] rfl
    have hKc := hK.sub (tys' := [(cI, .int)]) [0] rfl
    have hFc := va_free0 hS hA
    refine va_calli (va_runV (As := [.int (nI y_1)]) (rest := []) ⟨hx, hb, hml, hown, hts⟩ (k_byteAt l D _ oq ox cI zl y_1 be ki nu wo fT y_1 bt hzl (by omega) hbt) (cwV 1 hts g_k_advance_k_byteAt_38 rfl rfl rfl (by decide +kernel) ⟨(Nat.le_of_ble_eq_true rfl), (Nat.le_of_ble_eq_true rfl)⟩) (PcRC_V (q0 := 0) hPc hKc hN rfl rfl) rfl rfl hl.1 rfl (lv_room (Nat.le_of_ble_eq_true rfl)) dX8_advance_93 ⟨(Nat.le_of_ble_eq_true rfl), (Nat.le_of_ble_eq_true rfl)⟩) hS (fun q _ h => hFc q h) hFc (fun r7 uu tt H locs htt hvm hw hB hz1 hk1 hS => ?_)
    have hP := va_keep hP hk1
    try dsimp only at hw
    clear hB hz1 hk1 hFc hPc hKc
    rcases hw with ⟨hby8, rfl⟩ | ⟨hby8, rfl⟩
    ·
      refine lv_istore_n (lv' := [(3, .int (nI (bt y_1))), (1, .int 0), (2, .int (nI be)), (0, .ref (oq 5))]) hx hb dX8_advance_96 rfl hl (by decide) rfl (fun ls hl => ?_)
      refine lv_aload_n hx hb dX8_advance_97 rfl (lv_at hl 3 rfl) ?_
      refine lv_iload_n hx hb dX8_advance_98 rfl (lv_at hl 0 rfl) ?_
      have hPc := hP.sub (ws' := []) [] rfl
      have hKc := hK.sub (tys' := []) [] rfl
      have hFc := va_free0 hS hA
      refine va_calli (va_runS (As := [.int (nI (bt y_1))]) (rest := [.ref (oq 5)]) ⟨hx, hb, hml, hown, hts⟩ (k_sDigit l D _ cI (nI (bt y_1))) (va_cwS 1 hts g_k_advance_k_sDigit_42 rfl rfl rfl (by decide +kernel) ⟨(Nat.le_of_ble_eq_true rfl), (Nat.le_of_ble_eq_true rfl)⟩) (PcRC_S hPc hKc hN) rfl rfl hl.1 rfl (lv_room (Nat.le_of_ble_eq_true rfl)) dX8_advance_99 ⟨(Nat.le_of_ble_eq_true rfl), (Nat.le_of_ble_eq_true rfl)⟩) hS (fun q _ h => hFc q h) hFc (fun r9 uu tt H locs htt hvm hw hB hz1 hk1 hS => ?_)
      have hP := va_keep hP hk1
      try dsimp only at hw
      clear hB hz1 hk1 hFc hPc hKc
      rcases hw with ⟨rfl, hA_r9⟩ | ⟨rfl, hA_r9⟩
      ·
        have hdg_o := hA_r9
        have hdg : dgB bt y_1 = true := (dgI (hbt _).2).mp hA_r9
        refine lv_if_ne (tgt := 112) hx hb dX8_advance_102 (by decide) (fun hc => ?_) (fun hc => absurd hc (by decide))
        refine lv_iconst (v := 1) hx hb dX8_advance_112 (by decide) ?_
        refine lv_goto (tgt := 117) hx hb dX8_advance_113 (by decide) ?_
        refine va_put (D := D) (ci := 8) (v := .int 1) (ty := .boolean) (C := RX8) (T := TX8) (N := 7) hx hb hts hin_X8 tyX8 tyX8_ok nmX8 hown hK hP hD hS 0 rfl rfl 6 (by decide) (hts (.fieldLink RX8 34 "ClashFree$Scanner" "wordy" "Z") (List.mem_of_getElem? (i := 4) rfl)) (fun _ h9 => h9) rfl (by decide +kernel) rfl rfl (Nat.le_of_ble_eq_true rfl) dX8_advance_117 (fun H locs hP hD hS => ?_)
        have hP : va_P D vwCl [(oq 5, .inr (8, [.ref (ox 2), .int (nI zl), .int (nI y_1), .int (nI be), .int ki, .int nu, .int 1])), (ox 2, .inl (cI, 1400, .inl fT))] H := hP
        have hD : va_D A [(oq 5, .inr (8, [.ref (ox 2), .int (nI zl), .int (nI y_1), .int (nI be), .int ki, .int nu, .int 1])), (ox 2, .inl (cI, 1400, .inl fT))] := hD
        refine lv_iload_n hx hb dX8_advance_120 rfl (lv_at hl 0 rfl) ?_
        have hPc := hP.sub (ws' := []) [] rfl
        have hKc := hK.sub (tys' := []) [] rfl
        have hFc := va_free0 hS hA
        refine va_calli (va_runS (As := [.int (nI (bt y_1))]) (rest := []) ⟨hx, hb, hml, hown, hts⟩ (k_sDigit l D _ cI (nI (bt y_1))) (va_cwS 1 hts g_k_advance_k_sDigit_42 rfl rfl rfl (by decide +kernel) ⟨(Nat.le_of_ble_eq_true rfl), (Nat.le_of_ble_eq_true rfl)⟩) (PcRC_S hPc hKc hN) rfl rfl hl.1 rfl (lv_room (Nat.le_of_ble_eq_true rfl)) dX8_advance_121 ⟨(Nat.le_of_ble_eq_true rfl), (Nat.le_of_ble_eq_true rfl)⟩) hS (fun q _ h => hFc q h) hFc (fun r10 uu tt H locs htt hvm hw hB hz1 hk1 hS => ?_)
        have hP := va_keep hP hk1
        try dsimp only at hw
        clear hB hz1 hk1 hFc hPc hKc
        rcases hw with ⟨rfl, hA_r10⟩ | ⟨rfl, hA_r10⟩
        ·
          refine lv_if_eq (tgt := 134) hx hb dX8_advance_124 (by decide) (fun hc => absurd hc (by decide)) (fun hc => ?_)
          refine lv_aload_n hx hb dX8_advance_127 rfl (lv_at hl 3 rfl) ?_
          have hPc := hP.sub (ws' := [(oq 5, .inr (8, [.ref (ox 2), .int (nI zl), .int (nI y_1), .int (nI be), .int ki, .int nu, .int 1])), (ox 2, .inl (cI, 1400, .inl fT))]) [0, 1] rfl
          have hKc := hK.sub (tys' := [(cI, .int)]) [0] rfl
          have hDc := hD.sub (ws' := [(oq 5, .inr (8, [.ref (ox 2), .int (nI zl), .int (nI y_1), .int (nI be), .int ki, .int nu, .int 1])), (ox 2, .inl (cI, 1400, .inl fT))]) [0, 1] (by decide) rfl
          have hFc := va_free (wc := [(oq 5, .inr (8, [.ref (ox 2), .int (nI zl), .int (nI y_1), .int (nI be), .int ki, .int nu, .int 1])), (ox 2, .inl (cI, 1400, .inl fT))]) hD hS hA [0, 1] rfl
          refine va_callv (va_runV (As := []) (rest := []) ⟨hx, hb, hml, hown, hts⟩ (k_takeNumber l D _ oq ox cI zl y_1 be ki nu 1 fT bt hzl hy1_2 hbt) (cwV 0 hts g_k_advance_k_takeNumber_49 rfl rfl rfl (by decide +kernel) ⟨(Nat.le_of_ble_eq_true rfl), (Nat.le_of_ble_eq_true rfl)⟩) (PcWC_V (q0 := 0) hPc hKc hDc hN rfl rfl) rfl rfl hl.1 rfl (lv_room (Nat.le_of_ble_eq_true rfl)) dX8_advance_128 ⟨(Nat.le_of_ble_eq_true rfl), (Nat.le_of_ble_eq_true rfl)⟩) hS (fun q _ h => hFc q h) hFc (fun uu tt H locs htt hvm hw hB hz1 hk1 hS => ?_)
          obtain ⟨w12, w13, w14⟩ := uu
          obtain ⟨hP1, hK1, hD1⟩ := hB
          rw [htt] at hP1
          have hK1 := va_K.moved hvm.symm hK1
          have hP1 : va_P D vwCl [(oq 5, .inr (8, [.ref (ox 2), .int (nI zl), .int (nI y_1), .int (nI w12), .int w13, .int w14, .int 1])), (ox 2, .inl (cI, 1400, .inl fT))] H := hP1
          obtain ⟨hP, hD⟩ := va_join (wr := []) (w1 := [(oq 5, .inr (8, [.ref (ox 2), .int (nI zl), .int (nI y_1), .int (nI w12), .int w13, .int w14, .int 1])), (ox 2, .inl (cI, 1400, .inl fT))]) hP hD [0, 1] [] rfl rfl (by decide) (by decide) hk1 hFc hP1 hD1
          have hP : va_P D vwCl [(oq 5, .inr (8, [.ref (ox 2), .int (nI zl), .int (nI y_1), .int (nI w12), .int w13, .int w14, .int 1])), (ox 2, .inl (cI, 1400, .inl fT))] H := hP
          have hD : va_D A [(oq 5, .inr (8, [.ref (ox 2), .int (nI zl), .int (nI y_1), .int (nI w12), .int w13, .int w14, .int 1])), (ox 2, .inl (cI, 1400, .inl fT))] := hD
          try dsimp only at hw
          clear hz1 hk1 hFc hPc hKc hDc
          obtain ⟨hq15_b, hq15_k, hq15_n⟩ := hw
          refine lv_goto (tgt := 153) hx hb dX8_advance_131 (by decide) ?_
          refine lv_aload_n hx hb dX8_advance_153 rfl (lv_at hl 3 rfl) ?_
          refine va_get (D := D) (ci := 8) (v := .int 1) (C := RX8) (T := TX8) (N := 7) hx hb hts hin_X8 hown hK hP 0 rfl rfl 6 (by decide) (hts (.fieldLink RX8 34 "ClashFree$Scanner" "wordy" "Z") (List.mem_of_getElem? (i := 4) rfl)) (fun _ h9 => h9) rfl dX8_advance_154 ?_
          refine lv_if_eq (tgt := 169) hx hb dX8_advance_157 (by decide) (fun hc => absurd hc (by decide)) (fun hc => ?_)
          refine lv_iload_n hx hb dX8_advance_160 rfl (lv_at hl 1 rfl) ?_
          refine lv_if_eq (tgt := 169) hx hb dX8_advance_161 (by decide) (fun hc => ?_) (fun hc => absurd (by decide) hc)
          exact W.vret hx hb hr (fun t ht hW => ⟨⟨(y_1, w12, w13, w14, 1), rfl, (by (try dsimp only); first | done | exact ⟨hAq.symm, hq15_b.trans (tk_dg hAq hby8 hdg).1.symm, by rw [tk_n (Or.inl hwf), (tk_dg hAq hby8 hdg).2.2]; exact hq15_k, by rw [(tk_dg hAq hby8 hdg).2.1]; rfl, fun _ _ => by rw [hAq, (tk_dg hAq hby8 hdg).1]; exact hq15_n⟩), by rw [ht]; exact hP.sub [0, 1] rfl, va_K.moved hW.alike (hK.sub [0] rfl), hD.sub [0, 1] (by decide) rfl⟩, hS.F ht⟩) hS.2.2 dX8_advance_169
        ·
          exact absurd hdg_o hA_r10
      ·
        have hdg_o := hA_r9
        have hdg : ¬ dgB bt y_1 = true := fun q => hA_r9 ((dgI (hbt _).2).mpr q)
        refine lv_if_ne (tgt := 112) hx hb dX8_advance_102 (by decide) (fun hc => absurd (by decide) hc) (fun hc => ?_)
        refine lv_iload_n hx hb dX8_advance_105 rfl (lv_at hl 0 rfl) ?_
        have hPc := hP.sub (ws' := []) [] rfl
        have hKc := hK.sub (tys' := []) [] rfl
        have hFc := va_free0 hS hA
        refine va_calli (va_runS (As := [.int (nI (bt y_1))]) (rest := [.ref (oq 5)]) ⟨hx, hb, hml, hown, hts⟩ (k_sLetter l D _ cI (nI (bt y_1))) (va_cwS 1 hts g_k_advance_k_sLetter_46 rfl rfl rfl (by decide +kernel) ⟨(Nat.le_of_ble_eq_true rfl), (Nat.le_of_ble_eq_true rfl)⟩) (PcRC_S hPc hKc hN) rfl rfl hl.1 rfl (lv_room (Nat.le_of_ble_eq_true rfl)) dX8_advance_106 ⟨(Nat.le_of_ble_eq_true rfl), (Nat.le_of_ble_eq_true rfl)⟩) hS (fun q _ h => hFc q h) hFc (fun r16 uu tt H locs htt hvm hw hB hz1 hk1 hS => ?_)
        have hP := va_keep hP hk1
        try dsimp only at hw
        clear hB hz1 hk1 hFc hPc hKc
        rcases hw with ⟨rfl, hA_r16⟩ | ⟨rfl, hA_r16⟩
        ·
          have hlt_o := hA_r16
          have hlt : ltB bt y_1 = true := (ltI (hbt _).2).mp hA_r16
          refine lv_if_eq (tgt := 116) hx hb dX8_advance_109 (by decide) (fun hc => absurd hc (by decide)) (fun hc => ?_)
          refine lv_iconst (v := 1) hx hb dX8_advance_112 (by decide) ?_
          refine lv_goto (tgt := 117) hx hb dX8_advance_113 (by decide) ?_
          refine va_put (D := D) (ci := 8) (v := .int 1) (ty := .boolean) (C := RX8) (T := TX8) (N := 7) hx hb hts hin_X8 tyX8 tyX8_ok nmX8 hown hK hP hD hS 0 rfl rfl 6 (by decide) (hts (.fieldLink RX8 34 "ClashFree$Scanner" "wordy" "Z") (List.mem_of_getElem? (i := 4) rfl)) (fun _ h9 => h9) rfl (by decide +kernel) rfl rfl (Nat.le_of_ble_eq_true rfl) dX8_advance_117 (fun H locs hP hD hS => ?_)
          have hP : va_P D vwCl [(oq 5, .inr (8, [.ref (ox 2), .int (nI zl), .int (nI y_1), .int (nI be), .int ki, .int nu, .int 1])), (ox 2, .inl (cI, 1400, .inl fT))] H := hP
          have hD : va_D A [(oq 5, .inr (8, [.ref (ox 2), .int (nI zl), .int (nI y_1), .int (nI be), .int ki, .int nu, .int 1])), (ox 2, .inl (cI, 1400, .inl fT))] := hD
          refine lv_iload_n hx hb dX8_advance_120 rfl (lv_at hl 0 rfl) ?_
          have hPc := hP.sub (ws' := []) [] rfl
          have hKc := hK.sub (tys' := []) [] rfl
          have hFc := va_free0 hS hA
          refine va_calli (va_runS (As := [.int (nI (bt y_1))]) (rest := []) ⟨hx, hb, hml, hown, hts⟩ (k_sDigit l D _ cI (nI (bt y_1))) (va_cwS 1 hts g_k_advance_k_sDigit_42 rfl rfl rfl (by decide +kernel) ⟨(Nat.le_of_ble_eq_true rfl), (Nat.le_of_ble_eq_true rfl)⟩) (PcRC_S hPc hKc hN) rfl rfl hl.1 rfl (lv_room (Nat.le_of_ble_eq_true rfl)) dX8_advance_121 ⟨(Nat.le_of_ble_eq_true rfl), (Nat.le_of_ble_eq_true rfl)⟩) hS (fun q _ h => hFc q h) hFc (fun r17 uu tt H locs htt hvm hw hB hz1 hk1 hS => ?_)
          have hP := va_keep hP hk1
          try dsimp only at hw
          clear hB hz1 hk1 hFc hPc hKc
          rcases hw with ⟨rfl, hA_r17⟩ | ⟨rfl, hA_r17⟩
          ·
            exact absurd hA_r17 hdg_o
          ·
            refine lv_if_eq (tgt := 134) hx hb dX8_advance_124 (by decide) (fun hc => ?_) (fun hc => absurd (by decide) hc)
            refine lv_iload_n hx hb dX8_advance_134 rfl (lv_at hl 0 rfl) ?_
            have hPc := hP.sub (ws' := []) [] rfl
            have hKc := hK.sub (tys' := []) [] rfl
            have hFc := va_free0 hS hA
            refine va_calli (va_runS (As := [.int (nI (bt y_1))]) (rest := []) ⟨hx, hb, hml, hown, hts⟩ (k_sLetter l D _ cI (nI (bt y_1))) (va_cwS 1 hts g_k_advance_k_sLetter_46 rfl rfl rfl (by decide +kernel) ⟨(Nat.le_of_ble_eq_true rfl), (Nat.le_of_ble_eq_true rfl)⟩) (PcRC_S hPc hKc hN) rfl rfl hl.1 rfl (lv_room (Nat.le_of_ble_eq_true rfl)) dX8_advance_135 ⟨(Nat.le_of_ble_eq_true rfl), (Nat.le_of_ble_eq_true rfl)⟩) hS (fun q _ h => hFc q h) hFc (fun r18 uu tt H locs htt hvm hw hB hz1 hk1 hS => ?_)
            have hP := va_keep hP hk1
            try dsimp only at hw
            clear hB hz1 hk1 hFc hPc hKc
            rcases hw with ⟨rfl, hA_r18⟩ | ⟨rfl, hA_r18⟩
            ·
              refine lv_if_eq (tgt := 148) hx hb dX8_advance_138 (by decide) (fun hc => absurd hc (by decide)) (fun hc => ?_)
              refine lv_aload_n hx hb dX8_advance_141 rfl (lv_at hl 3 rfl) ?_
              have hPc := hP.sub (ws' := [(oq 5, .inr (8, [.ref (ox 2), .int (nI zl), .int (nI y_1), .int (nI be), .int ki, .int nu, .int 1])), (ox 2, .inl (cI, 1400, .inl fT))]) [0, 1] rfl
              have hKc := hK.sub (tys' := [(cI, .int)]) [0] rfl
              have hDc := hD.sub (ws' := [(oq 5, .inr (8, [.ref (ox 2), .int (nI zl), .int (nI y_1), .int (nI be), .int ki, .int nu, .int 1])), (ox 2, .inl (cI, 1400, .inl fT))]) [0, 1] (by decide) rfl
              have hFc := va_free (wc := [(oq 5, .inr (8, [.ref (ox 2), .int (nI zl), .int (nI y_1), .int (nI be), .int ki, .int nu, .int 1])), (ox 2, .inl (cI, 1400, .inl fT))]) hD hS hA [0, 1] rfl
              refine va_callv (va_runV (As := []) (rest := []) ⟨hx, hb, hml, hown, hts⟩ (k_takeWord l D _ adK adV oq ox cI zl y_1 be ki nu 1 fT bt hzl hy1_2 hbt) (cwV 0 hts g_k_advance_k_takeWord_52 rfl rfl rfl (by decide +kernel) ⟨(Nat.le_of_ble_eq_true rfl), (Nat.le_of_ble_eq_true rfl)⟩) (PcWS_V (q0 := 0) hPc hKc hDc hN hST hS hFc rfl rfl) rfl rfl hl.1 rfl (lv_room (Nat.le_of_ble_eq_true rfl)) dX8_advance_142 ⟨(Nat.le_of_ble_eq_true rfl), (Nat.le_of_ble_eq_true rfl)⟩) hS (fun q _ h => hFc q h) hFc (fun uu tt H locs htt hvm hw hB hz1 hk1 hS => ?_)
              obtain ⟨w20, w21⟩ := uu
              obtain ⟨hP1, hK1, hD1⟩ := hB
              rw [htt] at hP1
              have hK1 := va_K.moved hvm.symm hK1
              have hP1 : va_P D vwCl [(oq 5, .inr (8, [.ref (ox 2), .int (nI zl), .int (nI y_1), .int (nI w20), .int w21, .int nu, .int 1])), (ox 2, .inl (cI, 1400, .inl fT))] H := hP1
              obtain ⟨hP, hD⟩ := va_join (wr := []) (w1 := [(oq 5, .inr (8, [.ref (ox 2), .int (nI zl), .int (nI y_1), .int (nI w20), .int w21, .int nu, .int 1])), (ox 2, .inl (cI, 1400, .inl fT))]) hP hD [0, 1] [] rfl rfl (by decide) (by decide) hk1 hFc hP1 hD1
              have hP : va_P D vwCl [(oq 5, .inr (8, [.ref (ox 2), .int (nI zl), .int (nI y_1), .int (nI w20), .int w21, .int nu, .int 1])), (ox 2, .inl (cI, 1400, .inl fT))] H := hP
              have hD : va_D A [(oq 5, .inr (8, [.ref (ox 2), .int (nI zl), .int (nI y_1), .int (nI w20), .int w21, .int nu, .int 1])), (ox 2, .inl (cI, 1400, .inl fT))] := hD
              try dsimp only at hw
              clear hz1 hk1 hFc hPc hKc hDc
              obtain ⟨hq22_b, hq22_k⟩ := hw
              refine lv_goto (tgt := 153) hx hb dX8_advance_145 (by decide) ?_
              refine lv_aload_n hx hb dX8_advance_153 rfl (lv_at hl 3 rfl) ?_
              refine va_get (D := D) (ci := 8) (v := .int 1) (C := RX8) (T := TX8) (N := 7) hx hb hts hin_X8 hown hK hP 0 rfl rfl 6 (by decide) (hts (.fieldLink RX8 34 "ClashFree$Scanner" "wordy" "Z") (List.mem_of_getElem? (i := 4) rfl)) (fun _ h9 => h9) rfl dX8_advance_154 ?_
              refine lv_if_eq (tgt := 169) hx hb dX8_advance_157 (by decide) (fun hc => absurd hc (by decide)) (fun hc => ?_)
              refine lv_iload_n hx hb dX8_advance_160 rfl (lv_at hl 1 rfl) ?_
              refine lv_if_eq (tgt := 169) hx hb dX8_advance_161 (by decide) (fun hc => ?_) (fun hc => absurd (by decide) hc)
              exact W.vret hx hb hr (fun t ht hW => ⟨⟨(y_1, w20, w21, nu, 1), rfl, (by (try dsimp only); first | done | exact ⟨hAq.symm, hq22_b.trans (tk_lt hAq hby8 hdg hlt).1.symm, by rw [tk_n (Or.inl hwf), (tk_lt hAq hby8 hdg hlt).2.2]; exact hq22_k, by rw [(tk_lt hAq hby8 hdg hlt).2.1]; rfl, fun q _ => absurd (hAq ▸ q) hdg⟩), by rw [ht]; exact hP.sub [0, 1] rfl, va_K.moved hW.alike (hK.sub [0] rfl), hD.sub [0, 1] (by decide) rfl⟩, hS.F ht⟩) hS.2.2 dX8_advance_169
            ·
              exact absurd hlt_o hA_r18
        ·
          have hlt_o := hA_r16
          have hlt : ¬ ltB bt y_1 = true := fun q => hA_r16 ((ltI (hbt _).2).mpr q)
          refine lv_if_eq (tgt := 116) hx hb dX8_advance_109 (by decide) (fun hc => ?_) (fun hc => absurd (by decide) hc)
          refine lv_iconst (v := 0) hx hb dX8_advance_116 (by decide) ?_
          refine va_put (D := D) (ci := 8) (v := .int 0) (ty := .boolean) (C := RX8) (T := TX8) (N := 7) hx hb hts hin_X8 tyX8 tyX8_ok nmX8 hown hK hP hD hS 0 rfl rfl 6 (by decide) (hts (.fieldLink RX8 34 "ClashFree$Scanner" "wordy" "Z") (List.mem_of_getElem? (i := 4) rfl)) (fun _ h9 => h9) rfl (by decide +kernel) rfl rfl (Nat.le_of_ble_eq_true rfl) dX8_advance_117 (fun H locs hP hD hS => ?_)
          have hP : va_P D vwCl [(oq 5, .inr (8, [.ref (ox 2), .int (nI zl), .int (nI y_1), .int (nI be), .int ki, .int nu, .int 0])), (ox 2, .inl (cI, 1400, .inl fT))] H := hP
          have hD : va_D A [(oq 5, .inr (8, [.ref (ox 2), .int (nI zl), .int (nI y_1), .int (nI be), .int ki, .int nu, .int 0])), (ox 2, .inl (cI, 1400, .inl fT))] := hD
          refine lv_iload_n hx hb dX8_advance_120 rfl (lv_at hl 0 rfl) ?_
          have hPc := hP.sub (ws' := []) [] rfl
          have hKc := hK.sub (tys' := []) [] rfl
          have hFc := va_free0 hS hA
          refine va_calli (va_runS (As := [.int (nI (bt y_1))]) (rest := []) ⟨hx, hb, hml, hown, hts⟩ (k_sDigit l D _ cI (nI (bt y_1))) (va_cwS 1 hts g_k_advance_k_sDigit_42 rfl rfl rfl (by decide +kernel) ⟨(Nat.le_of_ble_eq_true rfl), (Nat.le_of_ble_eq_true rfl)⟩) (PcRC_S hPc hKc hN) rfl rfl hl.1 rfl (lv_room (Nat.le_of_ble_eq_true rfl)) dX8_advance_121 ⟨(Nat.le_of_ble_eq_true rfl), (Nat.le_of_ble_eq_true rfl)⟩) hS (fun q _ h => hFc q h) hFc (fun r23 uu tt H locs htt hvm hw hB hz1 hk1 hS => ?_)
          have hP := va_keep hP hk1
          try dsimp only at hw
          clear hB hz1 hk1 hFc hPc hKc
          rcases hw with ⟨rfl, hA_r23⟩ | ⟨rfl, hA_r23⟩
          ·
            exact absurd hA_r23 hdg_o
          ·
            refine lv_if_eq (tgt := 134) hx hb dX8_advance_124 (by decide) (fun hc => ?_) (fun hc => absurd (by decide) hc)
            refine lv_iload_n hx hb dX8_advance_134 rfl (lv_at hl 0 rfl) ?_
            have hPc := hP.sub (ws' := []) [] rfl
            have hKc := hK.sub (tys' := []) [] rfl
            have hFc := va_free0 hS hA
            refine va_calli (va_runS (As := [.int (nI (bt y_1))]) (rest := []) ⟨hx, hb, hml, hown, hts⟩ (k_sLetter l D _ cI (nI (bt y_1))) (va_cwS 1 hts g_k_advance_k_sLetter_46 rfl rfl rfl (by decide +kernel) ⟨(Nat.le_of_ble_eq_true rfl), (Nat.le_of_ble_eq_true rfl)⟩) (PcRC_S hPc hKc hN) rfl rfl hl.1 rfl (lv_room (Nat.le_of_ble_eq_true rfl)) dX8_advance_135 ⟨(Nat.le_of_ble_eq_true rfl), (Nat.le_of_ble_eq_true rfl)⟩) hS (fun q _ h => hFc q h) hFc (fun r24 uu tt H locs htt hvm hw hB hz1 hk1 hS => ?_)
            have hP := va_keep hP hk1
            try dsimp only at hw
            clear hB hz1 hk1 hFc hPc hKc
            rcases hw with ⟨rfl, hA_r24⟩ | ⟨rfl, hA_r24⟩
            ·
              exact absurd hA_r24 hlt_o
            ·
              refine lv_if_eq (tgt := 148) hx hb dX8_advance_138 (by decide) (fun hc => ?_) (fun hc => absurd (by decide) hc)
              refine lv_aload_n hx hb dX8_advance_148 rfl (lv_at hl 3 rfl) ?_
              refine lv_iload_n hx hb dX8_advance_149 rfl (lv_at hl 0 rfl) ?_
              have hPc := hP.sub (ws' := [(oq 5, .inr (8, [.ref (ox 2), .int (nI zl), .int (nI y_1), .int (nI be), .int ki, .int nu, .int 0]))]) [0] rfl
              have hKc := hK.sub (tys' := []) [] rfl
              have hDc := hD.sub (ws' := [(oq 5, .inr (8, [.ref (ox 2), .int (nI zl), .int (nI y_1), .int (nI be), .int ki, .int nu, .int 0]))]) [0] (by decide) rfl
              have hFc := va_free (wc := [(oq 5, .inr (8, [.ref (ox 2), .int (nI zl), .int (nI y_1), .int (nI be), .int ki, .int nu, .int 0]))]) hD hS hA [0] rfl
              refine va_callv (va_runV (As := [.int (nI (bt y_1))]) (rest := []) ⟨hx, hb, hml, hown, hts⟩ (k_takeSign l D _ oq ox cI zl y_1 be ki nu 0 (nI (bt y_1)) (bt y_1) hzl hby8 rfl ((hbt _).2)) (cwV 1 hts g_k_advance_k_takeSign_55 rfl rfl rfl (by decide +kernel) ⟨(Nat.le_of_ble_eq_true rfl), (Nat.le_of_ble_eq_true rfl)⟩) (PcWC_V (q0 := 0) hPc hKc hDc hN rfl rfl) rfl rfl hl.1 rfl (lv_room (Nat.le_of_ble_eq_true rfl)) dX8_advance_150 ⟨(Nat.le_of_ble_eq_true rfl), (Nat.le_of_ble_eq_true rfl)⟩) hS (fun q _ h => hFc q h) hFc (fun uu tt H locs htt hvm hw hB hz1 hk1 hS => ?_)
              obtain ⟨w26, w27⟩ := uu
              obtain ⟨hP1, hK1, hD1⟩ := hB
              rw [htt] at hP1
              have hK1 := va_K.moved hvm.symm hK1
              have hP1 : va_P D vwCl [(oq 5, .inr (8, [.ref (ox 2), .int (nI zl), .int (nI y_1), .int (nI w26), .int w27, .int nu, .int 0]))] H := hP1
              obtain ⟨hP, hD⟩ := va_join (wr := [(ox 2, .inl (cI, 1400, .inl fT))]) (w1 := [(oq 5, .inr (8, [.ref (ox 2), .int (nI zl), .int (nI y_1), .int (nI w26), .int w27, .int nu, .int 0]))]) hP hD [0] [1] rfl rfl (by decide) (by decide) hk1 hFc hP1 hD1
              have hP : va_P D vwCl [(ox 2, .inl (cI, 1400, .inl fT)), (oq 5, .inr (8, [.ref (ox 2), .int (nI zl), .int (nI y_1), .int (nI w26), .int w27, .int nu, .int 0]))] H := hP
              have hD : va_D A [(ox 2, .inl (cI, 1400, .inl fT)), (oq 5, .inr (8, [.ref (ox 2), .int (nI zl), .int (nI y_1), .int (nI w26), .int w27, .int nu, .int 0]))] := hD
              try dsimp only at hw
              clear hz1 hk1 hFc hPc hKc hDc
              obtain ⟨hq28_b, hq28_k⟩ := hw
              refine lv_aload_n hx hb dX8_advance_153 rfl (lv_at hl 3 rfl) ?_
              refine va_get (D := D) (ci := 8) (v := .int 0) (C := RX8) (T := TX8) (N := 7) hx hb hts hin_X8 hown hK hP 1 rfl rfl 6 (by decide) (hts (.fieldLink RX8 34 "ClashFree$Scanner" "wordy" "Z") (List.mem_of_getElem? (i := 4) rfl)) (fun _ h9 => h9) rfl dX8_advance_154 ?_
              refine lv_if_eq (tgt := 169) hx hb dX8_advance_157 (by decide) (fun hc => ?_) (fun hc => absurd (rfl) hc)
              exact W.vret hx hb hr (fun t ht hW => ⟨⟨(y_1, w26, w27, nu, 0), rfl, (by (try dsimp only); first | done | exact ⟨hAq.symm, hq28_b.trans (tk_sg hAq hby8 hdg hlt).1.symm, by rw [tk_n (Or.inr (Or.inl (tk_sg hAq hby8 hdg hlt).2.1)), (tk_sg hAq hby8 hdg hlt).2.2]; exact hq28_k, by rw [(tk_sg hAq hby8 hdg hlt).2.1]; rfl, fun q _ => absurd (hAq ▸ q) hdg⟩), by rw [ht]; exact hP.sub [1, 0] rfl, va_K.moved hW.alike (hK.sub [0] rfl), hD.sub [1, 0] (by decide) rfl⟩, hS.F ht⟩) hS.2.2 dX8_advance_169
    ·
      refine lv_istore_n (lv' := [(3, .int (-1)), (1, .int 0), (2, .int (nI be)), (0, .ref (oq 5))]) hx hb dX8_advance_96 rfl hl (by decide) rfl (fun ls hl => ?_)
      refine lv_aload_n hx hb dX8_advance_97 rfl (lv_at hl 3 rfl) ?_
      refine lv_iload_n hx hb dX8_advance_98 rfl (lv_at hl 0 rfl) ?_
      have hPc := hP.sub (ws' := []) [] rfl
      have hKc := hK.sub (tys' := []) [] rfl
      have hFc := va_free0 hS hA
      refine va_calli (va_runS (As := [.int (-1)]) (rest := [.ref (oq 5)]) ⟨hx, hb, hml, hown, hts⟩ (k_sDigit l D _ cI (-1)) (va_cwS 1 hts g_k_advance_k_sDigit_42 rfl rfl rfl (by decide +kernel) ⟨(Nat.le_of_ble_eq_true rfl), (Nat.le_of_ble_eq_true rfl)⟩) (PcRC_S hPc hKc hN) rfl rfl hl.1 rfl (lv_room (Nat.le_of_ble_eq_true rfl)) dX8_advance_99 ⟨(Nat.le_of_ble_eq_true rfl), (Nat.le_of_ble_eq_true rfl)⟩) hS (fun q _ h => hFc q h) hFc (fun r29 uu tt H locs htt hvm hw hB hz1 hk1 hS => ?_)
      have hP := va_keep hP hk1
      try dsimp only at hw
      clear hB hz1 hk1 hFc hPc hKc
      rcases hw with ⟨rfl, hA_r29⟩ | ⟨rfl, hA_r29⟩
      ·
        exact absurd hA_r29 (by decide)
      ·
        refine lv_if_ne (tgt := 112) hx hb dX8_advance_102 (by decide) (fun hc => absurd (by decide) hc) (fun hc => ?_)
        refine lv_iload_n hx hb dX8_advance_105 rfl (lv_at hl 0 rfl) ?_
        have hPc := hP.sub (ws' := []) [] rfl
        have hKc := hK.sub (tys' := []) [] rfl
        have hFc := va_free0 hS hA
        refine va_calli (va_runS (As := [.int (-1)]) (rest := [.ref (oq 5)]) ⟨hx, hb, hml, hown, hts⟩ (k_sLetter l D _ cI (-1)) (va_cwS 1 hts g_k_advance_k_sLetter_46 rfl rfl rfl (by decide +kernel) ⟨(Nat.le_of_ble_eq_true rfl), (Nat.le_of_ble_eq_true rfl)⟩) (PcRC_S hPc hKc hN) rfl rfl hl.1 rfl (lv_room (Nat.le_of_ble_eq_true rfl)) dX8_advance_106 ⟨(Nat.le_of_ble_eq_true rfl), (Nat.le_of_ble_eq_true rfl)⟩) hS (fun q _ h => hFc q h) hFc (fun r30 uu tt H locs htt hvm hw hB hz1 hk1 hS => ?_)
        have hP := va_keep hP hk1
        try dsimp only at hw
        clear hB hz1 hk1 hFc hPc hKc
        rcases hw with ⟨rfl, hA_r30⟩ | ⟨rfl, hA_r30⟩
        ·
          exact absurd hA_r30 (by decide)
        ·
          refine lv_if_eq (tgt := 116) hx hb dX8_advance_109 (by decide) (fun hc => ?_) (fun hc => absurd (by decide) hc)
          refine lv_iconst (v := 0) hx hb dX8_advance_116 (by decide) ?_
          refine va_put (D := D) (ci := 8) (v := .int 0) (ty := .boolean) (C := RX8) (T := TX8) (N := 7) hx hb hts hin_X8 tyX8 tyX8_ok nmX8 hown hK hP hD hS 0 rfl rfl 6 (by decide) (hts (.fieldLink RX8 34 "ClashFree$Scanner" "wordy" "Z") (List.mem_of_getElem? (i := 4) rfl)) (fun _ h9 => h9) rfl (by decide +kernel) rfl rfl (Nat.le_of_ble_eq_true rfl) dX8_advance_117 (fun H locs hP hD hS => ?_)
          have hP : va_P D vwCl [(oq 5, .inr (8, [.ref (ox 2), .int (nI zl), .int (nI y_1), .int (nI be), .int ki, .int nu, .int 0])), (ox 2, .inl (cI, 1400, .inl fT))] H := hP
          have hD : va_D A [(oq 5, .inr (8, [.ref (ox 2), .int (nI zl), .int (nI y_1), .int (nI be), .int ki, .int nu, .int 0])), (ox 2, .inl (cI, 1400, .inl fT))] := hD
          refine lv_iload_n hx hb dX8_advance_120 rfl (lv_at hl 0 rfl) ?_
          have hPc := hP.sub (ws' := []) [] rfl
          have hKc := hK.sub (tys' := []) [] rfl
          have hFc := va_free0 hS hA
          refine va_calli (va_runS (As := [.int (-1)]) (rest := []) ⟨hx, hb, hml, hown, hts⟩ (k_sDigit l D _ cI (-1)) (va_cwS 1 hts g_k_advance_k_sDigit_42 rfl rfl rfl (by decide +kernel) ⟨(Nat.le_of_ble_eq_true rfl), (Nat.le_of_ble_eq_true rfl)⟩) (PcRC_S hPc hKc hN) rfl rfl hl.1 rfl (lv_room (Nat.le_of_ble_eq_true rfl)) dX8_advance_121 ⟨(Nat.le_of_ble_eq_true rfl), (Nat.le_of_ble_eq_true rfl)⟩) hS (fun q _ h => hFc q h) hFc (fun r31 uu tt H locs htt hvm hw hB hz1 hk1 hS => ?_)
          have hP := va_keep hP hk1
          try dsimp only at hw
          clear hB hz1 hk1 hFc hPc hKc
          rcases hw with ⟨rfl, hA_r31⟩ | ⟨rfl, hA_r31⟩
          ·
            exact absurd hA_r31 (by decide)
          ·
            refine lv_if_eq (tgt := 134) hx hb dX8_advance_124 (by decide) (fun hc => ?_) (fun hc => absurd (by decide) hc)
            refine lv_iload_n hx hb dX8_advance_134 rfl (lv_at hl 0 rfl) ?_
            have hPc := hP.sub (ws' := []) [] rfl
            have hKc := hK.sub (tys' := []) [] rfl
            have hFc := va_free0 hS hA
            refine va_calli (va_runS (As := [.int (-1)]) (rest := []) ⟨hx, hb, hml, hown, hts⟩ (k_sLetter l D _ cI (-1)) (va_cwS 1 hts g_k_advance_k_sLetter_46 rfl rfl rfl (by decide +kernel) ⟨(Nat.le_of_ble_eq_true rfl), (Nat.le_of_ble_eq_true rfl)⟩) (PcRC_S hPc hKc hN) rfl rfl hl.1 rfl (lv_room (Nat.le_of_ble_eq_true rfl)) dX8_advance_135 ⟨(Nat.le_of_ble_eq_true rfl), (Nat.le_of_ble_eq_true rfl)⟩) hS (fun q _ h => hFc q h) hFc (fun r32 uu tt H locs htt hvm hw hB hz1 hk1 hS => ?_)
            have hP := va_keep hP hk1
            try dsimp only at hw
            clear hB hz1 hk1 hFc hPc hKc
            rcases hw with ⟨rfl, hA_r32⟩ | ⟨rfl, hA_r32⟩
            ·
              exact absurd hA_r32 (by decide)
            ·
              refine lv_if_eq (tgt := 148) hx hb dX8_advance_138 (by decide) (fun hc => ?_) (fun hc => absurd (by decide) hc)
              refine lv_aload_n hx hb dX8_advance_148 rfl (lv_at hl 3 rfl) ?_
              refine lv_iload_n hx hb dX8_advance_149 rfl (lv_at hl 0 rfl) ?_
              have hPc := hP.sub (ws' := [(oq 5, .inr (8, [.ref (ox 2), .int (nI zl), .int (nI y_1), .int (nI be), .int ki, .int nu, .int 0]))]) [0] rfl
              have hKc := hK.sub (tys' := []) [] rfl
              have hDc := hD.sub (ws' := [(oq 5, .inr (8, [.ref (ox 2), .int (nI zl), .int (nI y_1), .int (nI be), .int ki, .int nu, .int 0]))]) [0] (by decide) rfl
              have hFc := va_free (wc := [(oq 5, .inr (8, [.ref (ox 2), .int (nI zl), .int (nI y_1), .int (nI be), .int ki, .int nu, .int 0]))]) hD hS hA [0] rfl
              refine va_callv (va_runV (As := [.int (-1)]) (rest := []) ⟨hx, hb, hml, hown, hts⟩ (k_takeEnd l D _ oq ox cI zl y_1 be ki nu 0 hzl) (cwV 1 hts g_k_advance_k_takeEnd_55 rfl rfl rfl (by decide +kernel) ⟨(Nat.le_of_ble_eq_true rfl), (Nat.le_of_ble_eq_true rfl)⟩) (PcWC_V (q0 := 0) hPc hKc hDc hN rfl rfl) rfl rfl hl.1 rfl (lv_room (Nat.le_of_ble_eq_true rfl)) dX8_advance_150 ⟨(Nat.le_of_ble_eq_true rfl), (Nat.le_of_ble_eq_true rfl)⟩) hS (fun q _ h => hFc q h) hFc (fun uu tt H locs htt hvm hw hB hz1 hk1 hS => ?_)
              obtain ⟨w34, w35⟩ := uu
              obtain ⟨hP1, hK1, hD1⟩ := hB
              rw [htt] at hP1
              have hK1 := va_K.moved hvm.symm hK1
              have hP1 : va_P D vwCl [(oq 5, .inr (8, [.ref (ox 2), .int (nI zl), .int (nI y_1), .int (nI w34), .int w35, .int nu, .int 0]))] H := hP1
              obtain ⟨hP, hD⟩ := va_join (wr := [(ox 2, .inl (cI, 1400, .inl fT))]) (w1 := [(oq 5, .inr (8, [.ref (ox 2), .int (nI zl), .int (nI y_1), .int (nI w34), .int w35, .int nu, .int 0]))]) hP hD [0] [1] rfl rfl (by decide) (by decide) hk1 hFc hP1 hD1
              have hP : va_P D vwCl [(ox 2, .inl (cI, 1400, .inl fT)), (oq 5, .inr (8, [.ref (ox 2), .int (nI zl), .int (nI y_1), .int (nI w34), .int w35, .int nu, .int 0]))] H := hP
              have hD : va_D A [(ox 2, .inl (cI, 1400, .inl fT)), (oq 5, .inr (8, [.ref (ox 2), .int (nI zl), .int (nI y_1), .int (nI w34), .int w35, .int nu, .int 0]))] := hD
              try dsimp only at hw
              clear hz1 hk1 hFc hPc hKc hDc
              obtain ⟨hq36_b, hq36_k⟩ := hw
              refine lv_aload_n hx hb dX8_advance_153 rfl (lv_at hl 3 rfl) ?_
              refine va_get (D := D) (ci := 8) (v := .int 0) (C := RX8) (T := TX8) (N := 7) hx hb hts hin_X8 hown hK hP 1 rfl rfl 6 (by decide) (hts (.fieldLink RX8 34 "ClashFree$Scanner" "wordy" "Z") (List.mem_of_getElem? (i := 4) rfl)) (fun _ h9 => h9) rfl dX8_advance_154 ?_
              refine lv_if_eq (tgt := 169) hx hb dX8_advance_157 (by decide) (fun hc => ?_) (fun hc => absurd (rfl) hc)
              exact W.vret hx hb hr (fun t ht hW => ⟨⟨(y_1, w34, w35, nu, 0), rfl, (by (try dsimp only); first | done | exact ⟨hAq.symm, hq36_b.trans (tk_out hAq hby8).1.symm, by rw [tk_n (Or.inr (Or.inl (tk_out hAq hby8).2.1)), (tk_out hAq hby8).2.2]; exact hq36_k, by rw [(tk_out hAq hby8).2.1]; rfl, fun _ q => absurd q (by rw [hAq]; omega)⟩), by rw [ht]; exact hP.sub [1, 0] rfl, va_K.moved hW.alike (hK.sub [0] rfl), hD.sub [1, 0] (by decide) rfl⟩, hS.F ht⟩) hS.2.2 dX8_advance_169
  ·
    have hwt : wb = true := wo_t hwo hc6
    refine lv_aload_n hx hb dX8_advance_74 rfl (lv_at hl 2 rfl) ?_
    refine va_get (D := D) (ci := 8) (v := .int (nI y_1)) (C := RX8) (T := TX8) (N := 7) hx hb hts hin_X8 hown hK hP 0 rfl rfl 2 (by decide) (hts (.fieldLink RX8 25 "ClashFree$Scanner" "at" "I") (List.mem_of_getElem? (i := 1) rfl)) (fun _ h9 => h9) rfl dX8_advance_75 ?_
    refine lv_iload_n hx hb dX8_advance_78 rfl (lv_at hl 0 rfl) ?_
    refine lv_icmp_ne (tgt := 86) hx hb dX8_advance_79 (by decide) (fun hc37 => ?_) (fun hc37 => ?_)
    ·
      have hnp : tkA bt zl be ≠ be := fun q => hc37 (congrArg nI (hAq.symm.trans q))
      refine lv_iconst (v := 0) hx hb dX8_advance_86 (by decide) ?_
      refine lv_istore_n (lv' := [(1, .int 0), (2, .int (nI be)), (0, .ref (oq 5))]) hx hb dX8_advance_87 rfl hl (by decide) rfl (fun ls hl => ?_)
      refine lv_aload_n hx hb dX8_advance_88 rfl (lv_at hl 2 rfl) ?_
      refine lv_aload_n hx hb dX8_advance_89 rfl (lv_at hl 2 rfl) ?_
      refine va_get (D := D) (ci := 8) (v := .int (nI y_1)) (C := RX8) (T := TX8) (N := 7) hx hb hts hin_X8 hown hK hP 0 rfl rfl 2 (by decide) (hts (.fieldLink RX8 25 "ClashFree$Scanner" "at" "I") (List.mem_of_getElem? (i := 1) rfl)) (fun _ h9 => h9) rfl dX8_advance_90 ?_
      have hPc := hP.sub (ws' := [(oq 5, .inr (8, [.ref (ox 2), .int (nI zl), .int (nI y_1), .int (nI be), .int ki, .int nu, .int wo])), (ox 2, .inl (cI, 1400, .inl fT))]) [0, 1] rfl
      have hKc := hK.sub (tys' := [(cI, .int)]) [0] rfl
      have hFc := va_free0 hS hA
      refine va_calli (va_runV (As := [.int (nI y_1)]) (rest := []) ⟨hx, hb, hml, hown, hts⟩ (k_byteAt l D _ oq ox cI zl y_1 be ki nu wo fT y_1 bt hzl (by omega) hbt) (cwV 1 hts g_k_advance_k_byteAt_38 rfl rfl rfl (by decide +kernel) ⟨(Nat.le_of_ble_eq_true rfl), (Nat.le_of_ble_eq_true rfl)⟩) (PcRC_V (q0 := 0) hPc hKc hN rfl rfl) rfl rfl hl.1 rfl (lv_room (Nat.le_of_ble_eq_true rfl)) dX8_advance_93 ⟨(Nat.le_of_ble_eq_true rfl), (Nat.le_of_ble_eq_true rfl)⟩) hS (fun q _ h => hFc q h) hFc (fun r38 uu tt H locs htt hvm hw hB hz1 hk1 hS => ?_)
      have hP := va_keep hP hk1
      try dsimp only at hw
      clear hB hz1 hk1 hFc hPc hKc
      rcases hw with ⟨hby39, rfl⟩ | ⟨hby39, rfl⟩
      ·
        refine lv_istore_n (lv' := [(3, .int (nI (bt y_1))), (1, .int 0), (2, .int (nI be)), (0, .ref (oq 5))]) hx hb dX8_advance_96 rfl hl (by decide) rfl (fun ls hl => ?_)
        refine lv_aload_n hx hb dX8_advance_97 rfl (lv_at hl 3 rfl) ?_
        refine lv_iload_n hx hb dX8_advance_98 rfl (lv_at hl 0 rfl) ?_
        have hPc := hP.sub (ws' := []) [] rfl
        have hKc := hK.sub (tys' := []) [] rfl
        have hFc := va_free0 hS hA
        refine va_calli (va_runS (As := [.int (nI (bt y_1))]) (rest := [.ref (oq 5)]) ⟨hx, hb, hml, hown, hts⟩ (k_sDigit l D _ cI (nI (bt y_1))) (va_cwS 1 hts g_k_advance_k_sDigit_42 rfl rfl rfl (by decide +kernel) ⟨(Nat.le_of_ble_eq_true rfl), (Nat.le_of_ble_eq_true rfl)⟩) (PcRC_S hPc hKc hN) rfl rfl hl.1 rfl (lv_room (Nat.le_of_ble_eq_true rfl)) dX8_advance_99 ⟨(Nat.le_of_ble_eq_true rfl), (Nat.le_of_ble_eq_true rfl)⟩) hS (fun q _ h => hFc q h) hFc (fun r40 uu tt H locs htt hvm hw hB hz1 hk1 hS => ?_)
        have hP := va_keep hP hk1
        try dsimp only at hw
        clear hB hz1 hk1 hFc hPc hKc
        rcases hw with ⟨rfl, hA_r40⟩ | ⟨rfl, hA_r40⟩
        ·
          have hdg_o := hA_r40
          have hdg : dgB bt y_1 = true := (dgI (hbt _).2).mp hA_r40
          refine lv_if_ne (tgt := 112) hx hb dX8_advance_102 (by decide) (fun hc => ?_) (fun hc => absurd hc (by decide))
          refine lv_iconst (v := 1) hx hb dX8_advance_112 (by decide) ?_
          refine lv_goto (tgt := 117) hx hb dX8_advance_113 (by decide) ?_
          refine va_put (D := D) (ci := 8) (v := .int 1) (ty := .boolean) (C := RX8) (T := TX8) (N := 7) hx hb hts hin_X8 tyX8 tyX8_ok nmX8 hown hK hP hD hS 0 rfl rfl 6 (by decide) (hts (.fieldLink RX8 34 "ClashFree$Scanner" "wordy" "Z") (List.mem_of_getElem? (i := 4) rfl)) (fun _ h9 => h9) rfl (by decide +kernel) rfl rfl (Nat.le_of_ble_eq_true rfl) dX8_advance_117 (fun H locs hP hD hS => ?_)
          have hP : va_P D vwCl [(oq 5, .inr (8, [.ref (ox 2), .int (nI zl), .int (nI y_1), .int (nI be), .int ki, .int nu, .int 1])), (ox 2, .inl (cI, 1400, .inl fT))] H := hP
          have hD : va_D A [(oq 5, .inr (8, [.ref (ox 2), .int (nI zl), .int (nI y_1), .int (nI be), .int ki, .int nu, .int 1])), (ox 2, .inl (cI, 1400, .inl fT))] := hD
          refine lv_iload_n hx hb dX8_advance_120 rfl (lv_at hl 0 rfl) ?_
          have hPc := hP.sub (ws' := []) [] rfl
          have hKc := hK.sub (tys' := []) [] rfl
          have hFc := va_free0 hS hA
          refine va_calli (va_runS (As := [.int (nI (bt y_1))]) (rest := []) ⟨hx, hb, hml, hown, hts⟩ (k_sDigit l D _ cI (nI (bt y_1))) (va_cwS 1 hts g_k_advance_k_sDigit_42 rfl rfl rfl (by decide +kernel) ⟨(Nat.le_of_ble_eq_true rfl), (Nat.le_of_ble_eq_true rfl)⟩) (PcRC_S hPc hKc hN) rfl rfl hl.1 rfl (lv_room (Nat.le_of_ble_eq_true rfl)) dX8_advance_121 ⟨(Nat.le_of_ble_eq_true rfl), (Nat.le_of_ble_eq_true rfl)⟩) hS (fun q _ h => hFc q h) hFc (fun r41 uu tt H locs htt hvm hw hB hz1 hk1 hS => ?_)
          have hP := va_keep hP hk1
          try dsimp only at hw
          clear hB hz1 hk1 hFc hPc hKc
          rcases hw with ⟨rfl, hA_r41⟩ | ⟨rfl, hA_r41⟩
          ·
            refine lv_if_eq (tgt := 134) hx hb dX8_advance_124 (by decide) (fun hc => absurd hc (by decide)) (fun hc => ?_)
            refine lv_aload_n hx hb dX8_advance_127 rfl (lv_at hl 3 rfl) ?_
            have hPc := hP.sub (ws' := [(oq 5, .inr (8, [.ref (ox 2), .int (nI zl), .int (nI y_1), .int (nI be), .int ki, .int nu, .int 1])), (ox 2, .inl (cI, 1400, .inl fT))]) [0, 1] rfl
            have hKc := hK.sub (tys' := [(cI, .int)]) [0] rfl
            have hDc := hD.sub (ws' := [(oq 5, .inr (8, [.ref (ox 2), .int (nI zl), .int (nI y_1), .int (nI be), .int ki, .int nu, .int 1])), (ox 2, .inl (cI, 1400, .inl fT))]) [0, 1] (by decide) rfl
            have hFc := va_free (wc := [(oq 5, .inr (8, [.ref (ox 2), .int (nI zl), .int (nI y_1), .int (nI be), .int ki, .int nu, .int 1])), (ox 2, .inl (cI, 1400, .inl fT))]) hD hS hA [0, 1] rfl
            refine va_callv (va_runV (As := []) (rest := []) ⟨hx, hb, hml, hown, hts⟩ (k_takeNumber l D _ oq ox cI zl y_1 be ki nu 1 fT bt hzl hy1_2 hbt) (cwV 0 hts g_k_advance_k_takeNumber_49 rfl rfl rfl (by decide +kernel) ⟨(Nat.le_of_ble_eq_true rfl), (Nat.le_of_ble_eq_true rfl)⟩) (PcWC_V (q0 := 0) hPc hKc hDc hN rfl rfl) rfl rfl hl.1 rfl (lv_room (Nat.le_of_ble_eq_true rfl)) dX8_advance_128 ⟨(Nat.le_of_ble_eq_true rfl), (Nat.le_of_ble_eq_true rfl)⟩) hS (fun q _ h => hFc q h) hFc (fun uu tt H locs htt hvm hw hB hz1 hk1 hS => ?_)
            obtain ⟨w43, w44, w45⟩ := uu
            obtain ⟨hP1, hK1, hD1⟩ := hB
            rw [htt] at hP1
            have hK1 := va_K.moved hvm.symm hK1
            have hP1 : va_P D vwCl [(oq 5, .inr (8, [.ref (ox 2), .int (nI zl), .int (nI y_1), .int (nI w43), .int w44, .int w45, .int 1])), (ox 2, .inl (cI, 1400, .inl fT))] H := hP1
            obtain ⟨hP, hD⟩ := va_join (wr := []) (w1 := [(oq 5, .inr (8, [.ref (ox 2), .int (nI zl), .int (nI y_1), .int (nI w43), .int w44, .int w45, .int 1])), (ox 2, .inl (cI, 1400, .inl fT))]) hP hD [0, 1] [] rfl rfl (by decide) (by decide) hk1 hFc hP1 hD1
            have hP : va_P D vwCl [(oq 5, .inr (8, [.ref (ox 2), .int (nI zl), .int (nI y_1), .int (nI w43), .int w44, .int w45, .int 1])), (ox 2, .inl (cI, 1400, .inl fT))] H := hP
            have hD : va_D A [(oq 5, .inr (8, [.ref (ox 2), .int (nI zl), .int (nI y_1), .int (nI w43), .int w44, .int w45, .int 1])), (ox 2, .inl (cI, 1400, .inl fT))] := hD
            try dsimp only at hw
            clear hz1 hk1 hFc hPc hKc hDc
            obtain ⟨hq46_b, hq46_k, hq46_n⟩ := hw
            refine lv_goto (tgt := 153) hx hb dX8_advance_131 (by decide) ?_
            refine lv_aload_n hx hb dX8_advance_153 rfl (lv_at hl 3 rfl) ?_
            refine va_get (D := D) (ci := 8) (v := .int 1) (C := RX8) (T := TX8) (N := 7) hx hb hts hin_X8 hown hK hP 0 rfl rfl 6 (by decide) (hts (.fieldLink RX8 34 "ClashFree$Scanner" "wordy" "Z") (List.mem_of_getElem? (i := 4) rfl)) (fun _ h9 => h9) rfl dX8_advance_154 ?_
            refine lv_if_eq (tgt := 169) hx hb dX8_advance_157 (by decide) (fun hc => absurd hc (by decide)) (fun hc => ?_)
            refine lv_iload_n hx hb dX8_advance_160 rfl (lv_at hl 1 rfl) ?_
            refine lv_if_eq (tgt := 169) hx hb dX8_advance_161 (by decide) (fun hc => ?_) (fun hc => absurd (by decide) hc)
            exact W.vret hx hb hr (fun t ht hW => ⟨⟨(y_1, w43, w44, w45, 1), rfl, (by (try dsimp only); first | done | exact ⟨hAq.symm, hq46_b.trans (tk_dg hAq hby39 hdg).1.symm, by rw [tk_n (Or.inr (Or.inr hnp)), (tk_dg hAq hby39 hdg).2.2]; exact hq46_k, by rw [(tk_dg hAq hby39 hdg).2.1]; rfl, fun _ _ => by rw [hAq, (tk_dg hAq hby39 hdg).1]; exact hq46_n⟩), by rw [ht]; exact hP.sub [0, 1] rfl, va_K.moved hW.alike (hK.sub [0] rfl), hD.sub [0, 1] (by decide) rfl⟩, hS.F ht⟩) hS.2.2 dX8_advance_169
          ·
            exact absurd hdg_o hA_r41
        ·
          have hdg_o := hA_r40
          have hdg : ¬ dgB bt y_1 = true := fun q => hA_r40 ((dgI (hbt _).2).mpr q)
          refine lv_if_ne (tgt := 112) hx hb dX8_advance_102 (by decide) (fun hc => absurd (by decide) hc) (fun hc => ?_)
          refine lv_iload_n hx hb dX8_advance_105 rfl (lv_at hl 0 rfl) ?_
          have hPc := hP.sub (ws' := []) [] rfl
          have hKc := hK.sub (tys' := []) [] rfl
          have hFc := va_free0 hS hA
          refine va_calli (va_runS (As := [.int (nI (bt y_1))]) (rest := [.ref (oq 5)]) ⟨hx, hb, hml, hown, hts⟩ (k_sLetter l D _ cI (nI (bt y_1))) (va_cwS 1 hts g_k_advance_k_sLetter_46 rfl rfl rfl (by decide +kernel) ⟨(Nat.le_of_ble_eq_true rfl), (Nat.le_of_ble_eq_true rfl)⟩) (PcRC_S hPc hKc hN) rfl rfl hl.1 rfl (lv_room (Nat.le_of_ble_eq_true rfl)) dX8_advance_106 ⟨(Nat.le_of_ble_eq_true rfl), (Nat.le_of_ble_eq_true rfl)⟩) hS (fun q _ h => hFc q h) hFc (fun r47 uu tt H locs htt hvm hw hB hz1 hk1 hS => ?_)
          have hP := va_keep hP hk1
          try dsimp only at hw
          clear hB hz1 hk1 hFc hPc hKc
          rcases hw with ⟨rfl, hA_r47⟩ | ⟨rfl, hA_r47⟩
          ·
            have hlt_o := hA_r47
            have hlt : ltB bt y_1 = true := (ltI (hbt _).2).mp hA_r47
            refine lv_if_eq (tgt := 116) hx hb dX8_advance_109 (by decide) (fun hc => absurd hc (by decide)) (fun hc => ?_)
            refine lv_iconst (v := 1) hx hb dX8_advance_112 (by decide) ?_
            refine lv_goto (tgt := 117) hx hb dX8_advance_113 (by decide) ?_
            refine va_put (D := D) (ci := 8) (v := .int 1) (ty := .boolean) (C := RX8) (T := TX8) (N := 7) hx hb hts hin_X8 tyX8 tyX8_ok nmX8 hown hK hP hD hS 0 rfl rfl 6 (by decide) (hts (.fieldLink RX8 34 "ClashFree$Scanner" "wordy" "Z") (List.mem_of_getElem? (i := 4) rfl)) (fun _ h9 => h9) rfl (by decide +kernel) rfl rfl (Nat.le_of_ble_eq_true rfl) dX8_advance_117 (fun H locs hP hD hS => ?_)
            have hP : va_P D vwCl [(oq 5, .inr (8, [.ref (ox 2), .int (nI zl), .int (nI y_1), .int (nI be), .int ki, .int nu, .int 1])), (ox 2, .inl (cI, 1400, .inl fT))] H := hP
            have hD : va_D A [(oq 5, .inr (8, [.ref (ox 2), .int (nI zl), .int (nI y_1), .int (nI be), .int ki, .int nu, .int 1])), (ox 2, .inl (cI, 1400, .inl fT))] := hD
            refine lv_iload_n hx hb dX8_advance_120 rfl (lv_at hl 0 rfl) ?_
            have hPc := hP.sub (ws' := []) [] rfl
            have hKc := hK.sub (tys' := []) [] rfl
            have hFc := va_free0 hS hA
            refine va_calli (va_runS (As := [.int (nI (bt y_1))]) (rest := []) ⟨hx, hb, hml, hown, hts⟩ (k_sDigit l D _ cI (nI (bt y_1))) (va_cwS 1 hts g_k_advance_k_sDigit_42 rfl rfl rfl (by decide +kernel) ⟨(Nat.le_of_ble_eq_true rfl), (Nat.le_of_ble_eq_true rfl)⟩) (PcRC_S hPc hKc hN) rfl rfl hl.1 rfl (lv_room (Nat.le_of_ble_eq_true rfl)) dX8_advance_121 ⟨(Nat.le_of_ble_eq_true rfl), (Nat.le_of_ble_eq_true rfl)⟩) hS (fun q _ h => hFc q h) hFc (fun r48 uu tt H locs htt hvm hw hB hz1 hk1 hS => ?_)
            have hP := va_keep hP hk1
            try dsimp only at hw
            clear hB hz1 hk1 hFc hPc hKc
            rcases hw with ⟨rfl, hA_r48⟩ | ⟨rfl, hA_r48⟩
            ·
              exact absurd hA_r48 hdg_o
            ·
              refine lv_if_eq (tgt := 134) hx hb dX8_advance_124 (by decide) (fun hc => ?_) (fun hc => absurd (by decide) hc)
              refine lv_iload_n hx hb dX8_advance_134 rfl (lv_at hl 0 rfl) ?_
              have hPc := hP.sub (ws' := []) [] rfl
              have hKc := hK.sub (tys' := []) [] rfl
              have hFc := va_free0 hS hA
              refine va_calli (va_runS (As := [.int (nI (bt y_1))]) (rest := []) ⟨hx, hb, hml, hown, hts⟩ (k_sLetter l D _ cI (nI (bt y_1))) (va_cwS 1 hts g_k_advance_k_sLetter_46 rfl rfl rfl (by decide +kernel) ⟨(Nat.le_of_ble_eq_true rfl), (Nat.le_of_ble_eq_true rfl)⟩) (PcRC_S hPc hKc hN) rfl rfl hl.1 rfl (lv_room (Nat.le_of_ble_eq_true rfl)) dX8_advance_135 ⟨(Nat.le_of_ble_eq_true rfl), (Nat.le_of_ble_eq_true rfl)⟩) hS (fun q _ h => hFc q h) hFc (fun r49 uu tt H locs htt hvm hw hB hz1 hk1 hS => ?_)
              have hP := va_keep hP hk1
              try dsimp only at hw
              clear hB hz1 hk1 hFc hPc hKc
              rcases hw with ⟨rfl, hA_r49⟩ | ⟨rfl, hA_r49⟩
              ·
                refine lv_if_eq (tgt := 148) hx hb dX8_advance_138 (by decide) (fun hc => absurd hc (by decide)) (fun hc => ?_)
                refine lv_aload_n hx hb dX8_advance_141 rfl (lv_at hl 3 rfl) ?_
                have hPc := hP.sub (ws' := [(oq 5, .inr (8, [.ref (ox 2), .int (nI zl), .int (nI y_1), .int (nI be), .int ki, .int nu, .int 1])), (ox 2, .inl (cI, 1400, .inl fT))]) [0, 1] rfl
                have hKc := hK.sub (tys' := [(cI, .int)]) [0] rfl
                have hDc := hD.sub (ws' := [(oq 5, .inr (8, [.ref (ox 2), .int (nI zl), .int (nI y_1), .int (nI be), .int ki, .int nu, .int 1])), (ox 2, .inl (cI, 1400, .inl fT))]) [0, 1] (by decide) rfl
                have hFc := va_free (wc := [(oq 5, .inr (8, [.ref (ox 2), .int (nI zl), .int (nI y_1), .int (nI be), .int ki, .int nu, .int 1])), (ox 2, .inl (cI, 1400, .inl fT))]) hD hS hA [0, 1] rfl
                refine va_callv (va_runV (As := []) (rest := []) ⟨hx, hb, hml, hown, hts⟩ (k_takeWord l D _ adK adV oq ox cI zl y_1 be ki nu 1 fT bt hzl hy1_2 hbt) (cwV 0 hts g_k_advance_k_takeWord_52 rfl rfl rfl (by decide +kernel) ⟨(Nat.le_of_ble_eq_true rfl), (Nat.le_of_ble_eq_true rfl)⟩) (PcWS_V (q0 := 0) hPc hKc hDc hN hST hS hFc rfl rfl) rfl rfl hl.1 rfl (lv_room (Nat.le_of_ble_eq_true rfl)) dX8_advance_142 ⟨(Nat.le_of_ble_eq_true rfl), (Nat.le_of_ble_eq_true rfl)⟩) hS (fun q _ h => hFc q h) hFc (fun uu tt H locs htt hvm hw hB hz1 hk1 hS => ?_)
                obtain ⟨w51, w52⟩ := uu
                obtain ⟨hP1, hK1, hD1⟩ := hB
                rw [htt] at hP1
                have hK1 := va_K.moved hvm.symm hK1
                have hP1 : va_P D vwCl [(oq 5, .inr (8, [.ref (ox 2), .int (nI zl), .int (nI y_1), .int (nI w51), .int w52, .int nu, .int 1])), (ox 2, .inl (cI, 1400, .inl fT))] H := hP1
                obtain ⟨hP, hD⟩ := va_join (wr := []) (w1 := [(oq 5, .inr (8, [.ref (ox 2), .int (nI zl), .int (nI y_1), .int (nI w51), .int w52, .int nu, .int 1])), (ox 2, .inl (cI, 1400, .inl fT))]) hP hD [0, 1] [] rfl rfl (by decide) (by decide) hk1 hFc hP1 hD1
                have hP : va_P D vwCl [(oq 5, .inr (8, [.ref (ox 2), .int (nI zl), .int (nI y_1), .int (nI w51), .int w52, .int nu, .int 1])), (ox 2, .inl (cI, 1400, .inl fT))] H := hP
                have hD : va_D A [(oq 5, .inr (8, [.ref (ox 2), .int (nI zl), .int (nI y_1), .int (nI w51), .int w52, .int nu, .int 1])), (ox 2, .inl (cI, 1400, .inl fT))] := hD
                try dsimp only at hw
                clear hz1 hk1 hFc hPc hKc hDc
                obtain ⟨hq53_b, hq53_k⟩ := hw
                refine lv_goto (tgt := 153) hx hb dX8_advance_145 (by decide) ?_
                refine lv_aload_n hx hb dX8_advance_153 rfl (lv_at hl 3 rfl) ?_
                refine va_get (D := D) (ci := 8) (v := .int 1) (C := RX8) (T := TX8) (N := 7) hx hb hts hin_X8 hown hK hP 0 rfl rfl 6 (by decide) (hts (.fieldLink RX8 34 "ClashFree$Scanner" "wordy" "Z") (List.mem_of_getElem? (i := 4) rfl)) (fun _ h9 => h9) rfl dX8_advance_154 ?_
                refine lv_if_eq (tgt := 169) hx hb dX8_advance_157 (by decide) (fun hc => absurd hc (by decide)) (fun hc => ?_)
                refine lv_iload_n hx hb dX8_advance_160 rfl (lv_at hl 1 rfl) ?_
                refine lv_if_eq (tgt := 169) hx hb dX8_advance_161 (by decide) (fun hc => ?_) (fun hc => absurd (by decide) hc)
                exact W.vret hx hb hr (fun t ht hW => ⟨⟨(y_1, w51, w52, nu, 1), rfl, (by (try dsimp only); first | done | exact ⟨hAq.symm, hq53_b.trans (tk_lt hAq hby39 hdg hlt).1.symm, by rw [tk_n (Or.inr (Or.inr hnp)), (tk_lt hAq hby39 hdg hlt).2.2]; exact hq53_k, by rw [(tk_lt hAq hby39 hdg hlt).2.1]; rfl, fun q _ => absurd (hAq ▸ q) hdg⟩), by rw [ht]; exact hP.sub [0, 1] rfl, va_K.moved hW.alike (hK.sub [0] rfl), hD.sub [0, 1] (by decide) rfl⟩, hS.F ht⟩) hS.2.2 dX8_advance_169
              ·
                exact absurd hlt_o hA_r49
          ·
            have hlt_o := hA_r47
            have hlt : ¬ ltB bt y_1 = true := fun q => hA_r47 ((ltI (hbt _).2).mpr q)
            refine lv_if_eq (tgt := 116) hx hb dX8_advance_109 (by decide) (fun hc => ?_) (fun hc => absurd (by decide) hc)
            refine lv_iconst (v := 0) hx hb dX8_advance_116 (by decide) ?_
            refine va_put (D := D) (ci := 8) (v := .int 0) (ty := .boolean) (C := RX8) (T := TX8) (N := 7) hx hb hts hin_X8 tyX8 tyX8_ok nmX8 hown hK hP hD hS 0 rfl rfl 6 (by decide) (hts (.fieldLink RX8 34 "ClashFree$Scanner" "wordy" "Z") (List.mem_of_getElem? (i := 4) rfl)) (fun _ h9 => h9) rfl (by decide +kernel) rfl rfl (Nat.le_of_ble_eq_true rfl) dX8_advance_117 (fun H locs hP hD hS => ?_)
            have hP : va_P D vwCl [(oq 5, .inr (8, [.ref (ox 2), .int (nI zl), .int (nI y_1), .int (nI be), .int ki, .int nu, .int 0])), (ox 2, .inl (cI, 1400, .inl fT))] H := hP
            have hD : va_D A [(oq 5, .inr (8, [.ref (ox 2), .int (nI zl), .int (nI y_1), .int (nI be), .int ki, .int nu, .int 0])), (ox 2, .inl (cI, 1400, .inl fT))] := hD
            refine lv_iload_n hx hb dX8_advance_120 rfl (lv_at hl 0 rfl) ?_
            have hPc := hP.sub (ws' := []) [] rfl
            have hKc := hK.sub (tys' := []) [] rfl
            have hFc := va_free0 hS hA
            refine va_calli (va_runS (As := [.int (nI (bt y_1))]) (rest := []) ⟨hx, hb, hml, hown, hts⟩ (k_sDigit l D _ cI (nI (bt y_1))) (va_cwS 1 hts g_k_advance_k_sDigit_42 rfl rfl rfl (by decide +kernel) ⟨(Nat.le_of_ble_eq_true rfl), (Nat.le_of_ble_eq_true rfl)⟩) (PcRC_S hPc hKc hN) rfl rfl hl.1 rfl (lv_room (Nat.le_of_ble_eq_true rfl)) dX8_advance_121 ⟨(Nat.le_of_ble_eq_true rfl), (Nat.le_of_ble_eq_true rfl)⟩) hS (fun q _ h => hFc q h) hFc (fun r54 uu tt H locs htt hvm hw hB hz1 hk1 hS => ?_)
            have hP := va_keep hP hk1
            try dsimp only at hw
            clear hB hz1 hk1 hFc hPc hKc
            rcases hw with ⟨rfl, hA_r54⟩ | ⟨rfl, hA_r54⟩
            ·
              exact absurd hA_r54 hdg_o
            ·
              refine lv_if_eq (tgt := 134) hx hb dX8_advance_124 (by decide) (fun hc => ?_) (fun hc => absurd (by decide) hc)
              refine lv_iload_n hx hb dX8_advance_134 rfl (lv_at hl 0 rfl) ?_
              have hPc := hP.sub (ws' := []) [] rfl
              have hKc := hK.sub (tys' := []) [] rfl
              have hFc := va_free0 hS hA
              refine va_calli (va_runS (As := [.int (nI (bt y_1))]) (rest := []) ⟨hx, hb, hml, hown, hts⟩ (k_sLetter l D _ cI (nI (bt y_1))) (va_cwS 1 hts g_k_advance_k_sLetter_46 rfl rfl rfl (by decide +kernel) ⟨(Nat.le_of_ble_eq_true rfl), (Nat.le_of_ble_eq_true rfl)⟩) (PcRC_S hPc hKc hN) rfl rfl hl.1 rfl (lv_room (Nat.le_of_ble_eq_true rfl)) dX8_advance_135 ⟨(Nat.le_of_ble_eq_true rfl), (Nat.le_of_ble_eq_true rfl)⟩) hS (fun q _ h => hFc q h) hFc (fun r55 uu tt H locs htt hvm hw hB hz1 hk1 hS => ?_)
              have hP := va_keep hP hk1
              try dsimp only at hw
              clear hB hz1 hk1 hFc hPc hKc
              rcases hw with ⟨rfl, hA_r55⟩ | ⟨rfl, hA_r55⟩
              ·
                exact absurd hA_r55 hlt_o
              ·
                refine lv_if_eq (tgt := 148) hx hb dX8_advance_138 (by decide) (fun hc => ?_) (fun hc => absurd (by decide) hc)
                refine lv_aload_n hx hb dX8_advance_148 rfl (lv_at hl 3 rfl) ?_
                refine lv_iload_n hx hb dX8_advance_149 rfl (lv_at hl 0 rfl) ?_
                have hPc := hP.sub (ws' := [(oq 5, .inr (8, [.ref (ox 2), .int (nI zl), .int (nI y_1), .int (nI be), .int ki, .int nu, .int 0]))]) [0] rfl
                have hKc := hK.sub (tys' := []) [] rfl
                have hDc := hD.sub (ws' := [(oq 5, .inr (8, [.ref (ox 2), .int (nI zl), .int (nI y_1), .int (nI be), .int ki, .int nu, .int 0]))]) [0] (by decide) rfl
                have hFc := va_free (wc := [(oq 5, .inr (8, [.ref (ox 2), .int (nI zl), .int (nI y_1), .int (nI be), .int ki, .int nu, .int 0]))]) hD hS hA [0] rfl
                refine va_callv (va_runV (As := [.int (nI (bt y_1))]) (rest := []) ⟨hx, hb, hml, hown, hts⟩ (k_takeSign l D _ oq ox cI zl y_1 be ki nu 0 (nI (bt y_1)) (bt y_1) hzl hby39 rfl ((hbt _).2)) (cwV 1 hts g_k_advance_k_takeSign_55 rfl rfl rfl (by decide +kernel) ⟨(Nat.le_of_ble_eq_true rfl), (Nat.le_of_ble_eq_true rfl)⟩) (PcWC_V (q0 := 0) hPc hKc hDc hN rfl rfl) rfl rfl hl.1 rfl (lv_room (Nat.le_of_ble_eq_true rfl)) dX8_advance_150 ⟨(Nat.le_of_ble_eq_true rfl), (Nat.le_of_ble_eq_true rfl)⟩) hS (fun q _ h => hFc q h) hFc (fun uu tt H locs htt hvm hw hB hz1 hk1 hS => ?_)
                obtain ⟨w57, w58⟩ := uu
                obtain ⟨hP1, hK1, hD1⟩ := hB
                rw [htt] at hP1
                have hK1 := va_K.moved hvm.symm hK1
                have hP1 : va_P D vwCl [(oq 5, .inr (8, [.ref (ox 2), .int (nI zl), .int (nI y_1), .int (nI w57), .int w58, .int nu, .int 0]))] H := hP1
                obtain ⟨hP, hD⟩ := va_join (wr := [(ox 2, .inl (cI, 1400, .inl fT))]) (w1 := [(oq 5, .inr (8, [.ref (ox 2), .int (nI zl), .int (nI y_1), .int (nI w57), .int w58, .int nu, .int 0]))]) hP hD [0] [1] rfl rfl (by decide) (by decide) hk1 hFc hP1 hD1
                have hP : va_P D vwCl [(ox 2, .inl (cI, 1400, .inl fT)), (oq 5, .inr (8, [.ref (ox 2), .int (nI zl), .int (nI y_1), .int (nI w57), .int w58, .int nu, .int 0]))] H := hP
                have hD : va_D A [(ox 2, .inl (cI, 1400, .inl fT)), (oq 5, .inr (8, [.ref (ox 2), .int (nI zl), .int (nI y_1), .int (nI w57), .int w58, .int nu, .int 0]))] := hD
                try dsimp only at hw
                clear hz1 hk1 hFc hPc hKc hDc
                obtain ⟨hq59_b, hq59_k⟩ := hw
                refine lv_aload_n hx hb dX8_advance_153 rfl (lv_at hl 3 rfl) ?_
                refine va_get (D := D) (ci := 8) (v := .int 0) (C := RX8) (T := TX8) (N := 7) hx hb hts hin_X8 hown hK hP 1 rfl rfl 6 (by decide) (hts (.fieldLink RX8 34 "ClashFree$Scanner" "wordy" "Z") (List.mem_of_getElem? (i := 4) rfl)) (fun _ h9 => h9) rfl dX8_advance_154 ?_
                refine lv_if_eq (tgt := 169) hx hb dX8_advance_157 (by decide) (fun hc => ?_) (fun hc => absurd (rfl) hc)
                exact W.vret hx hb hr (fun t ht hW => ⟨⟨(y_1, w57, w58, nu, 0), rfl, (by (try dsimp only); first | done | exact ⟨hAq.symm, hq59_b.trans (tk_sg hAq hby39 hdg hlt).1.symm, by rw [tk_n (Or.inr (Or.inl (tk_sg hAq hby39 hdg hlt).2.1)), (tk_sg hAq hby39 hdg hlt).2.2]; exact hq59_k, by rw [(tk_sg hAq hby39 hdg hlt).2.1]; rfl, fun q _ => absurd (hAq ▸ q) hdg⟩), by rw [ht]; exact hP.sub [1, 0] rfl, va_K.moved hW.alike (hK.sub [0] rfl), hD.sub [1, 0] (by decide) rfl⟩, hS.F ht⟩) hS.2.2 dX8_advance_169
      ·
        refine lv_istore_n (lv' := [(3, .int (-1)), (1, .int 0), (2, .int (nI be)), (0, .ref (oq 5))]) hx hb dX8_advance_96 rfl hl (by decide) rfl (fun ls hl => ?_)
        refine lv_aload_n hx hb dX8_advance_97 rfl (lv_at hl 3 rfl) ?_
        refine lv_iload_n hx hb dX8_advance_98 rfl (lv_at hl 0 rfl) ?_
        have hPc := hP.sub (ws' := []) [] rfl
        have hKc := hK.sub (tys' := []) [] rfl
        have hFc := va_free0 hS hA
        refine va_calli (va_runS (As := [.int (-1)]) (rest := [.ref (oq 5)]) ⟨hx, hb, hml, hown, hts⟩ (k_sDigit l D _ cI (-1)) (va_cwS 1 hts g_k_advance_k_sDigit_42 rfl rfl rfl (by decide +kernel) ⟨(Nat.le_of_ble_eq_true rfl), (Nat.le_of_ble_eq_true rfl)⟩) (PcRC_S hPc hKc hN) rfl rfl hl.1 rfl (lv_room (Nat.le_of_ble_eq_true rfl)) dX8_advance_99 ⟨(Nat.le_of_ble_eq_true rfl), (Nat.le_of_ble_eq_true rfl)⟩) hS (fun q _ h => hFc q h) hFc (fun r60 uu tt H locs htt hvm hw hB hz1 hk1 hS => ?_)
        have hP := va_keep hP hk1
        try dsimp only at hw
        clear hB hz1 hk1 hFc hPc hKc
        rcases hw with ⟨rfl, hA_r60⟩ | ⟨rfl, hA_r60⟩
        ·
          exact absurd hA_r60 (by decide)
        ·
          refine lv_if_ne (tgt := 112) hx hb dX8_advance_102 (by decide) (fun hc => absurd (by decide) hc) (fun hc => ?_)
          refine lv_iload_n hx hb dX8_advance_105 rfl (lv_at hl 0 rfl) ?_
          have hPc := hP.sub (ws' := []) [] rfl
          have hKc := hK.sub (tys' := []) [] rfl
          have hFc := va_free0 hS hA
          refine va_calli (va_runS (As := [.int (-1)]) (rest := [.ref (oq 5)]) ⟨hx, hb, hml, hown, hts⟩ (k_sLetter l D _ cI (-1)) (va_cwS 1 hts g_k_advance_k_sLetter_46 rfl rfl rfl (by decide +kernel) ⟨(Nat.le_of_ble_eq_true rfl), (Nat.le_of_ble_eq_true rfl)⟩) (PcRC_S hPc hKc hN) rfl rfl hl.1 rfl (lv_room (Nat.le_of_ble_eq_true rfl)) dX8_advance_106 ⟨(Nat.le_of_ble_eq_true rfl), (Nat.le_of_ble_eq_true rfl)⟩) hS (fun q _ h => hFc q h) hFc (fun r61 uu tt H locs htt hvm hw hB hz1 hk1 hS => ?_)
          have hP := va_keep hP hk1
          try dsimp only at hw
          clear hB hz1 hk1 hFc hPc hKc
          rcases hw with ⟨rfl, hA_r61⟩ | ⟨rfl, hA_r61⟩
          ·
            exact absurd hA_r61 (by decide)
          ·
            refine lv_if_eq (tgt := 116) hx hb dX8_advance_109 (by decide) (fun hc => ?_) (fun hc => absurd (by decide) hc)
            refine lv_iconst (v := 0) hx hb dX8_advance_116 (by decide) ?_
            refine va_put (D := D) (ci := 8) (v := .int 0) (ty := .boolean) (C := RX8) (T := TX8) (N := 7) hx hb hts hin_X8 tyX8 tyX8_ok nmX8 hown hK hP hD hS 0 rfl rfl 6 (by decide) (hts (.fieldLink RX8 34 "ClashFree$Scanner" "wordy" "Z") (List.mem_of_getElem? (i := 4) rfl)) (fun _ h9 => h9) rfl (by decide +kernel) rfl rfl (Nat.le_of_ble_eq_true rfl) dX8_advance_117 (fun H locs hP hD hS => ?_)
            have hP : va_P D vwCl [(oq 5, .inr (8, [.ref (ox 2), .int (nI zl), .int (nI y_1), .int (nI be), .int ki, .int nu, .int 0])), (ox 2, .inl (cI, 1400, .inl fT))] H := hP
            have hD : va_D A [(oq 5, .inr (8, [.ref (ox 2), .int (nI zl), .int (nI y_1), .int (nI be), .int ki, .int nu, .int 0])), (ox 2, .inl (cI, 1400, .inl fT))] := hD
            refine lv_iload_n hx hb dX8_advance_120 rfl (lv_at hl 0 rfl) ?_
            have hPc := hP.sub (ws' := []) [] rfl
            have hKc := hK.sub (tys' := []) [] rfl
            have hFc := va_free0 hS hA
            refine va_calli (va_runS (As := [.int (-1)]) (rest := []) ⟨hx, hb, hml, hown, hts⟩ (k_sDigit l D _ cI (-1)) (va_cwS 1 hts g_k_advance_k_sDigit_42 rfl rfl rfl (by decide +kernel) ⟨(Nat.le_of_ble_eq_true rfl), (Nat.le_of_ble_eq_true rfl)⟩) (PcRC_S hPc hKc hN) rfl rfl hl.1 rfl (lv_room (Nat.le_of_ble_eq_true rfl)) dX8_advance_121 ⟨(Nat.le_of_ble_eq_true rfl), (Nat.le_of_ble_eq_true rfl)⟩) hS (fun q _ h => hFc q h) hFc (fun r62 uu tt H locs htt hvm hw hB hz1 hk1 hS => ?_)
            have hP := va_keep hP hk1
            try dsimp only at hw
            clear hB hz1 hk1 hFc hPc hKc
            rcases hw with ⟨rfl, hA_r62⟩ | ⟨rfl, hA_r62⟩
            ·
              exact absurd hA_r62 (by decide)
            ·
              refine lv_if_eq (tgt := 134) hx hb dX8_advance_124 (by decide) (fun hc => ?_) (fun hc => absurd (by decide) hc)
              refine lv_iload_n hx hb dX8_advance_134 rfl (lv_at hl 0 rfl) ?_
              have hPc := hP.sub (ws' := []) [] rfl
              have hKc := hK.sub (tys' := []) [] rfl
              have hFc := va_free0 hS hA
              refine va_calli (va_runS (As := [.int (-1)]) (rest := []) ⟨hx, hb, hml, hown, hts⟩ (k_sLetter l D _ cI (-1)) (va_cwS 1 hts g_k_advance_k_sLetter_46 rfl rfl rfl (by decide +kernel) ⟨(Nat.le_of_ble_eq_true rfl), (Nat.le_of_ble_eq_true rfl)⟩) (PcRC_S hPc hKc hN) rfl rfl hl.1 rfl (lv_room (Nat.le_of_ble_eq_true rfl)) dX8_advance_135 ⟨(Nat.le_of_ble_eq_true rfl), (Nat.le_of_ble_eq_true rfl)⟩) hS (fun q _ h => hFc q h) hFc (fun r63 uu tt H locs htt hvm hw hB hz1 hk1 hS => ?_)
              have hP := va_keep hP hk1
              try dsimp only at hw
              clear hB hz1 hk1 hFc hPc hKc
              rcases hw with ⟨rfl, hA_r63⟩ | ⟨rfl, hA_r63⟩
              ·
                exact absurd hA_r63 (by decide)
              ·
                refine lv_if_eq (tgt := 148) hx hb dX8_advance_138 (by decide) (fun hc => ?_) (fun hc => absurd (by decide) hc)
                refine lv_aload_n hx hb dX8_advance_148 rfl (lv_at hl 3 rfl) ?_
                refine lv_iload_n hx hb dX8_advance_149 rfl (lv_at hl 0 rfl) ?_
                have hPc := hP.sub (ws' := [(oq 5, .inr (8, [.ref (ox 2), .int (nI zl), .int (nI y_1), .int (nI be), .int ki, .int nu, .int 0]))]) [0] rfl
                have hKc := hK.sub (tys' := []) [] rfl
                have hDc := hD.sub (ws' := [(oq 5, .inr (8, [.ref (ox 2), .int (nI zl), .int (nI y_1), .int (nI be), .int ki, .int nu, .int 0]))]) [0] (by decide) rfl
                have hFc := va_free (wc := [(oq 5, .inr (8, [.ref (ox 2), .int (nI zl), .int (nI y_1), .int (nI be), .int ki, .int nu, .int 0]))]) hD hS hA [0] rfl
                refine va_callv (va_runV (As := [.int (-1)]) (rest := []) ⟨hx, hb, hml, hown, hts⟩ (k_takeEnd l D _ oq ox cI zl y_1 be ki nu 0 hzl) (cwV 1 hts g_k_advance_k_takeEnd_55 rfl rfl rfl (by decide +kernel) ⟨(Nat.le_of_ble_eq_true rfl), (Nat.le_of_ble_eq_true rfl)⟩) (PcWC_V (q0 := 0) hPc hKc hDc hN rfl rfl) rfl rfl hl.1 rfl (lv_room (Nat.le_of_ble_eq_true rfl)) dX8_advance_150 ⟨(Nat.le_of_ble_eq_true rfl), (Nat.le_of_ble_eq_true rfl)⟩) hS (fun q _ h => hFc q h) hFc (fun uu tt H locs htt hvm hw hB hz1 hk1 hS => ?_)
                obtain ⟨w65, w66⟩ := uu
                obtain ⟨hP1, hK1, hD1⟩ := hB
                rw [htt] at hP1
                have hK1 := va_K.moved hvm.symm hK1
                have hP1 : va_P D vwCl [(oq 5, .inr (8, [.ref (ox 2), .int (nI zl), .int (nI y_1), .int (nI w65), .int w66, .int nu, .int 0]))] H := hP1
                obtain ⟨hP, hD⟩ := va_join (wr := [(ox 2, .inl (cI, 1400, .inl fT))]) (w1 := [(oq 5, .inr (8, [.ref (ox 2), .int (nI zl), .int (nI y_1), .int (nI w65), .int w66, .int nu, .int 0]))]) hP hD [0] [1] rfl rfl (by decide) (by decide) hk1 hFc hP1 hD1
                have hP : va_P D vwCl [(ox 2, .inl (cI, 1400, .inl fT)), (oq 5, .inr (8, [.ref (ox 2), .int (nI zl), .int (nI y_1), .int (nI w65), .int w66, .int nu, .int 0]))] H := hP
                have hD : va_D A [(ox 2, .inl (cI, 1400, .inl fT)), (oq 5, .inr (8, [.ref (ox 2), .int (nI zl), .int (nI y_1), .int (nI w65), .int w66, .int nu, .int 0]))] := hD
                try dsimp only at hw
                clear hz1 hk1 hFc hPc hKc hDc
                obtain ⟨hq67_b, hq67_k⟩ := hw
                refine lv_aload_n hx hb dX8_advance_153 rfl (lv_at hl 3 rfl) ?_
                refine va_get (D := D) (ci := 8) (v := .int 0) (C := RX8) (T := TX8) (N := 7) hx hb hts hin_X8 hown hK hP 1 rfl rfl 6 (by decide) (hts (.fieldLink RX8 34 "ClashFree$Scanner" "wordy" "Z") (List.mem_of_getElem? (i := 4) rfl)) (fun _ h9 => h9) rfl dX8_advance_154 ?_
                refine lv_if_eq (tgt := 169) hx hb dX8_advance_157 (by decide) (fun hc => ?_) (fun hc => absurd (rfl) hc)
                exact W.vret hx hb hr (fun t ht hW => ⟨⟨(y_1, w65, w66, nu, 0), rfl, (by (try dsimp only); first | done | exact ⟨hAq.symm, hq67_b.trans (tk_out hAq hby39).1.symm, by rw [tk_n (Or.inr (Or.inl (tk_out hAq hby39).2.1)), (tk_out hAq hby39).2.2]; exact hq67_k, by rw [(tk_out hAq hby39).2.1]; rfl, fun _ q => absurd q (by rw [hAq]; omega)⟩), by rw [ht]; exact hP.sub [1, 0] rfl, va_K.moved hW.alike (hK.sub [0] rfl), hD.sub [1, 0] (by decide) rfl⟩, hS.F ht⟩) hS.2.2 dX8_advance_169
    ·
      have hyp : tkA bt zl be = be := hAq.trans ((nI_eq (by omega) (by omega)).mp hc37)
      refine lv_iconst (v := 1) hx hb dX8_advance_82 (by decide) ?_
      refine lv_goto (tgt := 87) hx hb dX8_advance_83 (by decide) ?_
      refine lv_istore_n (lv' := [(1, .int 1), (2, .int (nI be)), (0, .ref (oq 5))]) hx hb dX8_advance_87 rfl hl (by decide) rfl (fun ls hl => ?_)
      refine lv_aload_n hx hb dX8_advance_88 rfl (lv_at hl 2 rfl) ?_
      refine lv_aload_n hx hb dX8_advance_89 rfl (lv_at hl 2 rfl) ?_
      refine va_get (D := D) (ci := 8) (v := .int (nI y_1)) (C := RX8) (T := TX8) (N := 7) hx hb hts hin_X8 hown hK hP 0 rfl rfl 2 (by decide) (hts (.fieldLink RX8 25 "ClashFree$Scanner" "at" "I") (List.mem_of_getElem? (i := 1) rfl)) (fun _ h9 => h9) rfl dX8_advance_90 ?_
      have hPc := hP.sub (ws' := [(oq 5, .inr (8, [.ref (ox 2), .int (nI zl), .int (nI y_1), .int (nI be), .int ki, .int nu, .int wo])), (ox 2, .inl (cI, 1400, .inl fT))]) [0, 1] rfl
      have hKc := hK.sub (tys' := [(cI, .int)]) [0] rfl
      have hFc := va_free0 hS hA
      refine va_calli (va_runV (As := [.int (nI y_1)]) (rest := []) ⟨hx, hb, hml, hown, hts⟩ (k_byteAt l D _ oq ox cI zl y_1 be ki nu wo fT y_1 bt hzl (by omega) hbt) (cwV 1 hts g_k_advance_k_byteAt_38 rfl rfl rfl (by decide +kernel) ⟨(Nat.le_of_ble_eq_true rfl), (Nat.le_of_ble_eq_true rfl)⟩) (PcRC_V (q0 := 0) hPc hKc hN rfl rfl) rfl rfl hl.1 rfl (lv_room (Nat.le_of_ble_eq_true rfl)) dX8_advance_93 ⟨(Nat.le_of_ble_eq_true rfl), (Nat.le_of_ble_eq_true rfl)⟩) hS (fun q _ h => hFc q h) hFc (fun r68 uu tt H locs htt hvm hw hB hz1 hk1 hS => ?_)
      have hP := va_keep hP hk1
      try dsimp only at hw
      clear hB hz1 hk1 hFc hPc hKc
      rcases hw with ⟨hby69, rfl⟩ | ⟨hby69, rfl⟩
      ·
        refine lv_istore_n (lv' := [(3, .int (nI (bt y_1))), (1, .int 1), (2, .int (nI be)), (0, .ref (oq 5))]) hx hb dX8_advance_96 rfl hl (by decide) rfl (fun ls hl => ?_)
        refine lv_aload_n hx hb dX8_advance_97 rfl (lv_at hl 3 rfl) ?_
        refine lv_iload_n hx hb dX8_advance_98 rfl (lv_at hl 0 rfl) ?_
        have hPc := hP.sub (ws' := []) [] rfl
        have hKc := hK.sub (tys' := []) [] rfl
        have hFc := va_free0 hS hA
        refine va_calli (va_runS (As := [.int (nI (bt y_1))]) (rest := [.ref (oq 5)]) ⟨hx, hb, hml, hown, hts⟩ (k_sDigit l D _ cI (nI (bt y_1))) (va_cwS 1 hts g_k_advance_k_sDigit_42 rfl rfl rfl (by decide +kernel) ⟨(Nat.le_of_ble_eq_true rfl), (Nat.le_of_ble_eq_true rfl)⟩) (PcRC_S hPc hKc hN) rfl rfl hl.1 rfl (lv_room (Nat.le_of_ble_eq_true rfl)) dX8_advance_99 ⟨(Nat.le_of_ble_eq_true rfl), (Nat.le_of_ble_eq_true rfl)⟩) hS (fun q _ h => hFc q h) hFc (fun r70 uu tt H locs htt hvm hw hB hz1 hk1 hS => ?_)
        have hP := va_keep hP hk1
        try dsimp only at hw
        clear hB hz1 hk1 hFc hPc hKc
        rcases hw with ⟨rfl, hA_r70⟩ | ⟨rfl, hA_r70⟩
        ·
          have hdg_o := hA_r70
          have hdg : dgB bt y_1 = true := (dgI (hbt _).2).mp hA_r70
          refine lv_if_ne (tgt := 112) hx hb dX8_advance_102 (by decide) (fun hc => ?_) (fun hc => absurd hc (by decide))
          refine lv_iconst (v := 1) hx hb dX8_advance_112 (by decide) ?_
          refine lv_goto (tgt := 117) hx hb dX8_advance_113 (by decide) ?_
          refine va_put (D := D) (ci := 8) (v := .int 1) (ty := .boolean) (C := RX8) (T := TX8) (N := 7) hx hb hts hin_X8 tyX8 tyX8_ok nmX8 hown hK hP hD hS 0 rfl rfl 6 (by decide) (hts (.fieldLink RX8 34 "ClashFree$Scanner" "wordy" "Z") (List.mem_of_getElem? (i := 4) rfl)) (fun _ h9 => h9) rfl (by decide +kernel) rfl rfl (Nat.le_of_ble_eq_true rfl) dX8_advance_117 (fun H locs hP hD hS => ?_)
          have hP : va_P D vwCl [(oq 5, .inr (8, [.ref (ox 2), .int (nI zl), .int (nI y_1), .int (nI be), .int ki, .int nu, .int 1])), (ox 2, .inl (cI, 1400, .inl fT))] H := hP
          have hD : va_D A [(oq 5, .inr (8, [.ref (ox 2), .int (nI zl), .int (nI y_1), .int (nI be), .int ki, .int nu, .int 1])), (ox 2, .inl (cI, 1400, .inl fT))] := hD
          refine lv_iload_n hx hb dX8_advance_120 rfl (lv_at hl 0 rfl) ?_
          have hPc := hP.sub (ws' := []) [] rfl
          have hKc := hK.sub (tys' := []) [] rfl
          have hFc := va_free0 hS hA
          refine va_calli (va_runS (As := [.int (nI (bt y_1))]) (rest := []) ⟨hx, hb, hml, hown, hts⟩ (k_sDigit l D _ cI (nI (bt y_1))) (va_cwS 1 hts g_k_advance_k_sDigit_42 rfl rfl rfl (by decide +kernel) ⟨(Nat.le_of_ble_eq_true rfl), (Nat.le_of_ble_eq_true rfl)⟩) (PcRC_S hPc hKc hN) rfl rfl hl.1 rfl (lv_room (Nat.le_of_ble_eq_true rfl)) dX8_advance_121 ⟨(Nat.le_of_ble_eq_true rfl), (Nat.le_of_ble_eq_true rfl)⟩) hS (fun q _ h => hFc q h) hFc (fun r71 uu tt H locs htt hvm hw hB hz1 hk1 hS => ?_)
          have hP := va_keep hP hk1
          try dsimp only at hw
          clear hB hz1 hk1 hFc hPc hKc
          rcases hw with ⟨rfl, hA_r71⟩ | ⟨rfl, hA_r71⟩
          ·
            refine lv_if_eq (tgt := 134) hx hb dX8_advance_124 (by decide) (fun hc => absurd hc (by decide)) (fun hc => ?_)
            refine lv_aload_n hx hb dX8_advance_127 rfl (lv_at hl 3 rfl) ?_
            have hPc := hP.sub (ws' := [(oq 5, .inr (8, [.ref (ox 2), .int (nI zl), .int (nI y_1), .int (nI be), .int ki, .int nu, .int 1])), (ox 2, .inl (cI, 1400, .inl fT))]) [0, 1] rfl
            have hKc := hK.sub (tys' := [(cI, .int)]) [0] rfl
            have hDc := hD.sub (ws' := [(oq 5, .inr (8, [.ref (ox 2), .int (nI zl), .int (nI y_1), .int (nI be), .int ki, .int nu, .int 1])), (ox 2, .inl (cI, 1400, .inl fT))]) [0, 1] (by decide) rfl
            have hFc := va_free (wc := [(oq 5, .inr (8, [.ref (ox 2), .int (nI zl), .int (nI y_1), .int (nI be), .int ki, .int nu, .int 1])), (ox 2, .inl (cI, 1400, .inl fT))]) hD hS hA [0, 1] rfl
            refine va_callv (va_runV (As := []) (rest := []) ⟨hx, hb, hml, hown, hts⟩ (k_takeNumber l D _ oq ox cI zl y_1 be ki nu 1 fT bt hzl hy1_2 hbt) (cwV 0 hts g_k_advance_k_takeNumber_49 rfl rfl rfl (by decide +kernel) ⟨(Nat.le_of_ble_eq_true rfl), (Nat.le_of_ble_eq_true rfl)⟩) (PcWC_V (q0 := 0) hPc hKc hDc hN rfl rfl) rfl rfl hl.1 rfl (lv_room (Nat.le_of_ble_eq_true rfl)) dX8_advance_128 ⟨(Nat.le_of_ble_eq_true rfl), (Nat.le_of_ble_eq_true rfl)⟩) hS (fun q _ h => hFc q h) hFc (fun uu tt H locs htt hvm hw hB hz1 hk1 hS => ?_)
            obtain ⟨w73, w74, w75⟩ := uu
            obtain ⟨hP1, hK1, hD1⟩ := hB
            rw [htt] at hP1
            have hK1 := va_K.moved hvm.symm hK1
            have hP1 : va_P D vwCl [(oq 5, .inr (8, [.ref (ox 2), .int (nI zl), .int (nI y_1), .int (nI w73), .int w74, .int w75, .int 1])), (ox 2, .inl (cI, 1400, .inl fT))] H := hP1
            obtain ⟨hP, hD⟩ := va_join (wr := []) (w1 := [(oq 5, .inr (8, [.ref (ox 2), .int (nI zl), .int (nI y_1), .int (nI w73), .int w74, .int w75, .int 1])), (ox 2, .inl (cI, 1400, .inl fT))]) hP hD [0, 1] [] rfl rfl (by decide) (by decide) hk1 hFc hP1 hD1
            have hP : va_P D vwCl [(oq 5, .inr (8, [.ref (ox 2), .int (nI zl), .int (nI y_1), .int (nI w73), .int w74, .int w75, .int 1])), (ox 2, .inl (cI, 1400, .inl fT))] H := hP
            have hD : va_D A [(oq 5, .inr (8, [.ref (ox 2), .int (nI zl), .int (nI y_1), .int (nI w73), .int w74, .int w75, .int 1])), (ox 2, .inl (cI, 1400, .inl fT))] := hD
            try dsimp only at hw
            clear hz1 hk1 hFc hPc hKc hDc
            obtain ⟨hq76_b, hq76_k, hq76_n⟩ := hw
            refine lv_goto (tgt := 153) hx hb dX8_advance_131 (by decide) ?_
            refine lv_aload_n hx hb dX8_advance_153 rfl (lv_at hl 3 rfl) ?_
            refine va_get (D := D) (ci := 8) (v := .int 1) (C := RX8) (T := TX8) (N := 7) hx hb hts hin_X8 hown hK hP 0 rfl rfl 6 (by decide) (hts (.fieldLink RX8 34 "ClashFree$Scanner" "wordy" "Z") (List.mem_of_getElem? (i := 4) rfl)) (fun _ h9 => h9) rfl dX8_advance_154 ?_
            refine lv_if_eq (tgt := 169) hx hb dX8_advance_157 (by decide) (fun hc => absurd hc (by decide)) (fun hc => ?_)
            refine lv_iload_n hx hb dX8_advance_160 rfl (lv_at hl 1 rfl) ?_
            refine lv_if_eq (tgt := 169) hx hb dX8_advance_161 (by decide) (fun hc => absurd hc (by decide)) (fun hc => ?_)
            refine lv_aload_n hx hb dX8_advance_164 rfl (lv_at hl 3 rfl) ?_
            refine lv_iconst (v := 1) hx hb dX8_advance_165 (by decide) ?_
            refine va_put (D := D) (ci := 8) (v := .int 1) (ty := .int) (C := RX8) (T := TX8) (N := 7) hx hb hts hin_X8 tyX8 tyX8_ok nmX8 hown hK hP hD hS 0 rfl rfl 4 (by decide) (hts (.fieldLink RX8 31 "ClashFree$Scanner" "kind" "I") (List.mem_of_getElem? (i := 23) rfl)) (fun _ h9 => h9) rfl (by decide +kernel) rfl rfl (Nat.le_of_ble_eq_true rfl) dX8_advance_166 (fun H locs hP hD hS => ?_)
            have hP : va_P D vwCl [(oq 5, .inr (8, [.ref (ox 2), .int (nI zl), .int (nI y_1), .int (nI w73), .int 1, .int w75, .int 1])), (ox 2, .inl (cI, 1400, .inl fT))] H := hP
            have hD : va_D A [(oq 5, .inr (8, [.ref (ox 2), .int (nI zl), .int (nI y_1), .int (nI w73), .int 1, .int w75, .int 1])), (ox 2, .inl (cI, 1400, .inl fT))] := hD
            exact W.vret hx hb hr (fun t ht hW => ⟨⟨(y_1, w73, 1, w75, 1), rfl, (by (try dsimp only); first | done | exact ⟨hAq.symm, hq76_b.trans (tk_dg hAq hby69 hdg).1.symm, by rw [tk_t hwt (tk_dg hAq hby69 hdg).2.1 hyp]; rfl, by rw [(tk_dg hAq hby69 hdg).2.1]; rfl, fun _ _ => by rw [hAq, (tk_dg hAq hby69 hdg).1]; exact hq76_n⟩), by rw [ht]; exact hP.sub [0, 1] rfl, va_K.moved hW.alike (hK.sub [0] rfl), hD.sub [0, 1] (by decide) rfl⟩, hS.F ht⟩) hS.2.2 dX8_advance_169
          ·
            exact absurd hdg_o hA_r71
        ·
          have hdg_o := hA_r70
          have hdg : ¬ dgB bt y_1 = true := fun q => hA_r70 ((dgI (hbt _).2).mpr q)
          refine lv_if_ne (tgt := 112) hx hb dX8_advance_102 (by decide) (fun hc => absurd (by decide) hc) (fun hc => ?_)
          refine lv_iload_n hx hb dX8_advance_105 rfl (lv_at hl 0 rfl) ?_
          have hPc := hP.sub (ws' := []) [] rfl
          have hKc := hK.sub (tys' := []) [] rfl
          have hFc := va_free0 hS hA
          refine va_calli (va_runS (As := [.int (nI (bt y_1))]) (rest := [.ref (oq 5)]) ⟨hx, hb, hml, hown, hts⟩ (k_sLetter l D _ cI (nI (bt y_1))) (va_cwS 1 hts g_k_advance_k_sLetter_46 rfl rfl rfl (by decide +kernel) ⟨(Nat.le_of_ble_eq_true rfl), (Nat.le_of_ble_eq_true rfl)⟩) (PcRC_S hPc hKc hN) rfl rfl hl.1 rfl (lv_room (Nat.le_of_ble_eq_true rfl)) dX8_advance_106 ⟨(Nat.le_of_ble_eq_true rfl), (Nat.le_of_ble_eq_true rfl)⟩) hS (fun q _ h => hFc q h) hFc (fun r77 uu tt H locs htt hvm hw hB hz1 hk1 hS => ?_)
          have hP := va_keep hP hk1
          try dsimp only at hw
          clear hB hz1 hk1 hFc hPc hKc
          rcases hw with ⟨rfl, hA_r77⟩ | ⟨rfl, hA_r77⟩
          ·
            have hlt_o := hA_r77
            have hlt : ltB bt y_1 = true := (ltI (hbt _).2).mp hA_r77
            refine lv_if_eq (tgt := 116) hx hb dX8_advance_109 (by decide) (fun hc => absurd hc (by decide)) (fun hc => ?_)
            refine lv_iconst (v := 1) hx hb dX8_advance_112 (by decide) ?_
            refine lv_goto (tgt := 117) hx hb dX8_advance_113 (by decide) ?_
            refine va_put (D := D) (ci := 8) (v := .int 1) (ty := .boolean) (C := RX8) (T := TX8) (N := 7) hx hb hts hin_X8 tyX8 tyX8_ok nmX8 hown hK hP hD hS 0 rfl rfl 6 (by decide) (hts (.fieldLink RX8 34 "ClashFree$Scanner" "wordy" "Z") (List.mem_of_getElem? (i := 4) rfl)) (fun _ h9 => h9) rfl (by decide +kernel) rfl rfl (Nat.le_of_ble_eq_true rfl) dX8_advance_117 (fun H locs hP hD hS => ?_)
            have hP : va_P D vwCl [(oq 5, .inr (8, [.ref (ox 2), .int (nI zl), .int (nI y_1), .int (nI be), .int ki, .int nu, .int 1])), (ox 2, .inl (cI, 1400, .inl fT))] H := hP
            have hD : va_D A [(oq 5, .inr (8, [.ref (ox 2), .int (nI zl), .int (nI y_1), .int (nI be), .int ki, .int nu, .int 1])), (ox 2, .inl (cI, 1400, .inl fT))] := hD
            refine lv_iload_n hx hb dX8_advance_120 rfl (lv_at hl 0 rfl) ?_
            have hPc := hP.sub (ws' := []) [] rfl
            have hKc := hK.sub (tys' := []) [] rfl
            have hFc := va_free0 hS hA
            refine va_calli (va_runS (As := [.int (nI (bt y_1))]) (rest := []) ⟨hx, hb, hml, hown, hts⟩ (k_sDigit l D _ cI (nI (bt y_1))) (va_cwS 1 hts g_k_advance_k_sDigit_42 rfl rfl rfl (by decide +kernel) ⟨(Nat.le_of_ble_eq_true rfl), (Nat.le_of_ble_eq_true rfl)⟩) (PcRC_S hPc hKc hN) rfl rfl hl.1 rfl (lv_room (Nat.le_of_ble_eq_true rfl)) dX8_advance_121 ⟨(Nat.le_of_ble_eq_true rfl), (Nat.le_of_ble_eq_true rfl)⟩) hS (fun q _ h => hFc q h) hFc (fun r78 uu tt H locs htt hvm hw hB hz1 hk1 hS => ?_)
            have hP := va_keep hP hk1
            try dsimp only at hw
            clear hB hz1 hk1 hFc hPc hKc
            rcases hw with ⟨rfl, hA_r78⟩ | ⟨rfl, hA_r78⟩
            ·
              exact absurd hA_r78 hdg_o
            ·
              refine lv_if_eq (tgt := 134) hx hb dX8_advance_124 (by decide) (fun hc => ?_) (fun hc => absurd (by decide) hc)
              refine lv_iload_n hx hb dX8_advance_134 rfl (lv_at hl 0 rfl) ?_
              have hPc := hP.sub (ws' := []) [] rfl
              have hKc := hK.sub (tys' := []) [] rfl
              have hFc := va_free0 hS hA
              refine va_calli (va_runS (As := [.int (nI (bt y_1))]) (rest := []) ⟨hx, hb, hml, hown, hts⟩ (k_sLetter l D _ cI (nI (bt y_1))) (va_cwS 1 hts g_k_advance_k_sLetter_46 rfl rfl rfl (by decide +kernel) ⟨(Nat.le_of_ble_eq_true rfl), (Nat.le_of_ble_eq_true rfl)⟩) (PcRC_S hPc hKc hN) rfl rfl hl.1 rfl (lv_room (Nat.le_of_ble_eq_true rfl)) dX8_advance_135 ⟨(Nat.le_of_ble_eq_true rfl), (Nat.le_of_ble_eq_true rfl)⟩) hS (fun q _ h => hFc q h) hFc (fun r79 uu tt H locs htt hvm hw hB hz1 hk1 hS => ?_)
              have hP := va_keep hP hk1
              try dsimp only at hw
              clear hB hz1 hk1 hFc hPc hKc
              rcases hw with ⟨rfl, hA_r79⟩ | ⟨rfl, hA_r79⟩
              ·
                refine lv_if_eq (tgt := 148) hx hb dX8_advance_138 (by decide) (fun hc => absurd hc (by decide)) (fun hc => ?_)
                refine lv_aload_n hx hb dX8_advance_141 rfl (lv_at hl 3 rfl) ?_
                have hPc := hP.sub (ws' := [(oq 5, .inr (8, [.ref (ox 2), .int (nI zl), .int (nI y_1), .int (nI be), .int ki, .int nu, .int 1])), (ox 2, .inl (cI, 1400, .inl fT))]) [0, 1] rfl
                have hKc := hK.sub (tys' := [(cI, .int)]) [0] rfl
                have hDc := hD.sub (ws' := [(oq 5, .inr (8, [.ref (ox 2), .int (nI zl), .int (nI y_1), .int (nI be), .int ki, .int nu, .int 1])), (ox 2, .inl (cI, 1400, .inl fT))]) [0, 1] (by decide) rfl
                have hFc := va_free (wc := [(oq 5, .inr (8, [.ref (ox 2), .int (nI zl), .int (nI y_1), .int (nI be), .int ki, .int nu, .int 1])), (ox 2, .inl (cI, 1400, .inl fT))]) hD hS hA [0, 1] rfl
                refine va_callv (va_runV (As := []) (rest := []) ⟨hx, hb, hml, hown, hts⟩ (k_takeWord l D _ adK adV oq ox cI zl y_1 be ki nu 1 fT bt hzl hy1_2 hbt) (cwV 0 hts g_k_advance_k_takeWord_52 rfl rfl rfl (by decide +kernel) ⟨(Nat.le_of_ble_eq_true rfl), (Nat.le_of_ble_eq_true rfl)⟩) (PcWS_V (q0 := 0) hPc hKc hDc hN hST hS hFc rfl rfl) rfl rfl hl.1 rfl (lv_room (Nat.le_of_ble_eq_true rfl)) dX8_advance_142 ⟨(Nat.le_of_ble_eq_true rfl), (Nat.le_of_ble_eq_true rfl)⟩) hS (fun q _ h => hFc q h) hFc (fun uu tt H locs htt hvm hw hB hz1 hk1 hS => ?_)
                obtain ⟨w81, w82⟩ := uu
                obtain ⟨hP1, hK1, hD1⟩ := hB
                rw [htt] at hP1
                have hK1 := va_K.moved hvm.symm hK1
                have hP1 : va_P D vwCl [(oq 5, .inr (8, [.ref (ox 2), .int (nI zl), .int (nI y_1), .int (nI w81), .int w82, .int nu, .int 1])), (ox 2, .inl (cI, 1400, .inl fT))] H := hP1
                obtain ⟨hP, hD⟩ := va_join (wr := []) (w1 := [(oq 5, .inr (8, [.ref (ox 2), .int (nI zl), .int (nI y_1), .int (nI w81), .int w82, .int nu, .int 1])), (ox 2, .inl (cI, 1400, .inl fT))]) hP hD [0, 1] [] rfl rfl (by decide) (by decide) hk1 hFc hP1 hD1
                have hP : va_P D vwCl [(oq 5, .inr (8, [.ref (ox 2), .int (nI zl), .int (nI y_1), .int (nI w81), .int w82, .int nu, .int 1])), (ox 2, .inl (cI, 1400, .inl fT))] H := hP
                have hD : va_D A [(oq 5, .inr (8, [.ref (ox 2), .int (nI zl), .int (nI y_1), .int (nI w81), .int w82, .int nu, .int 1])), (ox 2, .inl (cI, 1400, .inl fT))] := hD
                try dsimp only at hw
                clear hz1 hk1 hFc hPc hKc hDc
                obtain ⟨hq83_b, hq83_k⟩ := hw
                refine lv_goto (tgt := 153) hx hb dX8_advance_145 (by decide) ?_
                refine lv_aload_n hx hb dX8_advance_153 rfl (lv_at hl 3 rfl) ?_
                refine va_get (D := D) (ci := 8) (v := .int 1) (C := RX8) (T := TX8) (N := 7) hx hb hts hin_X8 hown hK hP 0 rfl rfl 6 (by decide) (hts (.fieldLink RX8 34 "ClashFree$Scanner" "wordy" "Z") (List.mem_of_getElem? (i := 4) rfl)) (fun _ h9 => h9) rfl dX8_advance_154 ?_
                refine lv_if_eq (tgt := 169) hx hb dX8_advance_157 (by decide) (fun hc => absurd hc (by decide)) (fun hc => ?_)
                refine lv_iload_n hx hb dX8_advance_160 rfl (lv_at hl 1 rfl) ?_
                refine lv_if_eq (tgt := 169) hx hb dX8_advance_161 (by decide) (fun hc => absurd hc (by decide)) (fun hc => ?_)
                refine lv_aload_n hx hb dX8_advance_164 rfl (lv_at hl 3 rfl) ?_
                refine lv_iconst (v := 1) hx hb dX8_advance_165 (by decide) ?_
                refine va_put (D := D) (ci := 8) (v := .int 1) (ty := .int) (C := RX8) (T := TX8) (N := 7) hx hb hts hin_X8 tyX8 tyX8_ok nmX8 hown hK hP hD hS 0 rfl rfl 4 (by decide) (hts (.fieldLink RX8 31 "ClashFree$Scanner" "kind" "I") (List.mem_of_getElem? (i := 23) rfl)) (fun _ h9 => h9) rfl (by decide +kernel) rfl rfl (Nat.le_of_ble_eq_true rfl) dX8_advance_166 (fun H locs hP hD hS => ?_)
                have hP : va_P D vwCl [(oq 5, .inr (8, [.ref (ox 2), .int (nI zl), .int (nI y_1), .int (nI w81), .int 1, .int nu, .int 1])), (ox 2, .inl (cI, 1400, .inl fT))] H := hP
                have hD : va_D A [(oq 5, .inr (8, [.ref (ox 2), .int (nI zl), .int (nI y_1), .int (nI w81), .int 1, .int nu, .int 1])), (ox 2, .inl (cI, 1400, .inl fT))] := hD
                exact W.vret hx hb hr (fun t ht hW => ⟨⟨(y_1, w81, 1, nu, 1), rfl, (by (try dsimp only); first | done | exact ⟨hAq.symm, hq83_b.trans (tk_lt hAq hby69 hdg hlt).1.symm, by rw [tk_t hwt (tk_lt hAq hby69 hdg hlt).2.1 hyp]; rfl, by rw [(tk_lt hAq hby69 hdg hlt).2.1]; rfl, fun q _ => absurd (hAq ▸ q) hdg⟩), by rw [ht]; exact hP.sub [0, 1] rfl, va_K.moved hW.alike (hK.sub [0] rfl), hD.sub [0, 1] (by decide) rfl⟩, hS.F ht⟩) hS.2.2 dX8_advance_169
              ·
                exact absurd hlt_o hA_r79
          ·
            have hlt_o := hA_r77
            have hlt : ¬ ltB bt y_1 = true := fun q => hA_r77 ((ltI (hbt _).2).mpr q)
            refine lv_if_eq (tgt := 116) hx hb dX8_advance_109 (by decide) (fun hc => ?_) (fun hc => absurd (by decide) hc)
            refine lv_iconst (v := 0) hx hb dX8_advance_116 (by decide) ?_
            refine va_put (D := D) (ci := 8) (v := .int 0) (ty := .boolean) (C := RX8) (T := TX8) (N := 7) hx hb hts hin_X8 tyX8 tyX8_ok nmX8 hown hK hP hD hS 0 rfl rfl 6 (by decide) (hts (.fieldLink RX8 34 "ClashFree$Scanner" "wordy" "Z") (List.mem_of_getElem? (i := 4) rfl)) (fun _ h9 => h9) rfl (by decide +kernel) rfl rfl (Nat.le_of_ble_eq_true rfl) dX8_advance_117 (fun H locs hP hD hS => ?_)
            have hP : va_P D vwCl [(oq 5, .inr (8, [.ref (ox 2), .int (nI zl), .int (nI y_1), .int (nI be), .int ki, .int nu, .int 0])), (ox 2, .inl (cI, 1400, .inl fT))] H := hP
            have hD : va_D A [(oq 5, .inr (8, [.ref (ox 2), .int (nI zl), .int (nI y_1), .int (nI be), .int ki, .int nu, .int 0])), (ox 2, .inl (cI, 1400, .inl fT))] := hD
            refine lv_iload_n hx hb dX8_advance_120 rfl (lv_at hl 0 rfl) ?_
            have hPc := hP.sub (ws' := []) [] rfl
            have hKc := hK.sub (tys' := []) [] rfl
            have hFc := va_free0 hS hA
            refine va_calli (va_runS (As := [.int (nI (bt y_1))]) (rest := []) ⟨hx, hb, hml, hown, hts⟩ (k_sDigit l D _ cI (nI (bt y_1))) (va_cwS 1 hts g_k_advance_k_sDigit_42 rfl rfl rfl (by decide +kernel) ⟨(Nat.le_of_ble_eq_true rfl), (Nat.le_of_ble_eq_true rfl)⟩) (PcRC_S hPc hKc hN) rfl rfl hl.1 rfl (lv_room (Nat.le_of_ble_eq_true rfl)) dX8_advance_121 ⟨(Nat.le_of_ble_eq_true rfl), (Nat.le_of_ble_eq_true rfl)⟩) hS (fun q _ h => hFc q h) hFc (fun r84 uu tt H locs htt hvm hw hB hz1 hk1 hS => ?_)
            have hP := va_keep hP hk1
            try dsimp only at hw
            clear hB hz1 hk1 hFc hPc hKc
            rcases hw with ⟨rfl, hA_r84⟩ | ⟨rfl, hA_r84⟩
            ·
              exact absurd hA_r84 hdg_o
            ·
              refine lv_if_eq (tgt := 134) hx hb dX8_advance_124 (by decide) (fun hc => ?_) (fun hc => absurd (by decide) hc)
              refine lv_iload_n hx hb dX8_advance_134 rfl (lv_at hl 0 rfl) ?_
              have hPc := hP.sub (ws' := []) [] rfl
              have hKc := hK.sub (tys' := []) [] rfl
              have hFc := va_free0 hS hA
              refine va_calli (va_runS (As := [.int (nI (bt y_1))]) (rest := []) ⟨hx, hb, hml, hown, hts⟩ (k_sLetter l D _ cI (nI (bt y_1))) (va_cwS 1 hts g_k_advance_k_sLetter_46 rfl rfl rfl (by decide +kernel) ⟨(Nat.le_of_ble_eq_true rfl), (Nat.le_of_ble_eq_true rfl)⟩) (PcRC_S hPc hKc hN) rfl rfl hl.1 rfl (lv_room (Nat.le_of_ble_eq_true rfl)) dX8_advance_135 ⟨(Nat.le_of_ble_eq_true rfl), (Nat.le_of_ble_eq_true rfl)⟩) hS (fun q _ h => hFc q h) hFc (fun r85 uu tt H locs htt hvm hw hB hz1 hk1 hS => ?_)
              have hP := va_keep hP hk1
              try dsimp only at hw
              clear hB hz1 hk1 hFc hPc hKc
              rcases hw with ⟨rfl, hA_r85⟩ | ⟨rfl, hA_r85⟩
              ·
                exact absurd hA_r85 hlt_o
              ·
                refine lv_if_eq (tgt := 148) hx hb dX8_advance_138 (by decide) (fun hc => ?_) (fun hc => absurd (by decide) hc)
                refine lv_aload_n hx hb dX8_advance_148 rfl (lv_at hl 3 rfl) ?_
                refine lv_iload_n hx hb dX8_advance_149 rfl (lv_at hl 0 rfl) ?_
                have hPc := hP.sub (ws' := [(oq 5, .inr (8, [.ref (ox 2), .int (nI zl), .int (nI y_1), .int (nI be), .int ki, .int nu, .int 0]))]) [0] rfl
                have hKc := hK.sub (tys' := []) [] rfl
                have hDc := hD.sub (ws' := [(oq 5, .inr (8, [.ref (ox 2), .int (nI zl), .int (nI y_1), .int (nI be), .int ki, .int nu, .int 0]))]) [0] (by decide) rfl
                have hFc := va_free (wc := [(oq 5, .inr (8, [.ref (ox 2), .int (nI zl), .int (nI y_1), .int (nI be), .int ki, .int nu, .int 0]))]) hD hS hA [0] rfl
                refine va_callv (va_runV (As := [.int (nI (bt y_1))]) (rest := []) ⟨hx, hb, hml, hown, hts⟩ (k_takeSign l D _ oq ox cI zl y_1 be ki nu 0 (nI (bt y_1)) (bt y_1) hzl hby69 rfl ((hbt _).2)) (cwV 1 hts g_k_advance_k_takeSign_55 rfl rfl rfl (by decide +kernel) ⟨(Nat.le_of_ble_eq_true rfl), (Nat.le_of_ble_eq_true rfl)⟩) (PcWC_V (q0 := 0) hPc hKc hDc hN rfl rfl) rfl rfl hl.1 rfl (lv_room (Nat.le_of_ble_eq_true rfl)) dX8_advance_150 ⟨(Nat.le_of_ble_eq_true rfl), (Nat.le_of_ble_eq_true rfl)⟩) hS (fun q _ h => hFc q h) hFc (fun uu tt H locs htt hvm hw hB hz1 hk1 hS => ?_)
                obtain ⟨w87, w88⟩ := uu
                obtain ⟨hP1, hK1, hD1⟩ := hB
                rw [htt] at hP1
                have hK1 := va_K.moved hvm.symm hK1
                have hP1 : va_P D vwCl [(oq 5, .inr (8, [.ref (ox 2), .int (nI zl), .int (nI y_1), .int (nI w87), .int w88, .int nu, .int 0]))] H := hP1
                obtain ⟨hP, hD⟩ := va_join (wr := [(ox 2, .inl (cI, 1400, .inl fT))]) (w1 := [(oq 5, .inr (8, [.ref (ox 2), .int (nI zl), .int (nI y_1), .int (nI w87), .int w88, .int nu, .int 0]))]) hP hD [0] [1] rfl rfl (by decide) (by decide) hk1 hFc hP1 hD1
                have hP : va_P D vwCl [(ox 2, .inl (cI, 1400, .inl fT)), (oq 5, .inr (8, [.ref (ox 2), .int (nI zl), .int (nI y_1), .int (nI w87), .int w88, .int nu, .int 0]))] H := hP
                have hD : va_D A [(ox 2, .inl (cI, 1400, .inl fT)), (oq 5, .inr (8, [.ref (ox 2), .int (nI zl), .int (nI y_1), .int (nI w87), .int w88, .int nu, .int 0]))] := hD
                try dsimp only at hw
                clear hz1 hk1 hFc hPc hKc hDc
                obtain ⟨hq89_b, hq89_k⟩ := hw
                refine lv_aload_n hx hb dX8_advance_153 rfl (lv_at hl 3 rfl) ?_
                refine va_get (D := D) (ci := 8) (v := .int 0) (C := RX8) (T := TX8) (N := 7) hx hb hts hin_X8 hown hK hP 1 rfl rfl 6 (by decide) (hts (.fieldLink RX8 34 "ClashFree$Scanner" "wordy" "Z") (List.mem_of_getElem? (i := 4) rfl)) (fun _ h9 => h9) rfl dX8_advance_154 ?_
                refine lv_if_eq (tgt := 169) hx hb dX8_advance_157 (by decide) (fun hc => ?_) (fun hc => absurd (rfl) hc)
                exact W.vret hx hb hr (fun t ht hW => ⟨⟨(y_1, w87, w88, nu, 0), rfl, (by (try dsimp only); first | done | exact ⟨hAq.symm, hq89_b.trans (tk_sg hAq hby69 hdg hlt).1.symm, by rw [tk_n (Or.inr (Or.inl (tk_sg hAq hby69 hdg hlt).2.1)), (tk_sg hAq hby69 hdg hlt).2.2]; exact hq89_k, by rw [(tk_sg hAq hby69 hdg hlt).2.1]; rfl, fun q _ => absurd (hAq ▸ q) hdg⟩), by rw [ht]; exact hP.sub [1, 0] rfl, va_K.moved hW.alike (hK.sub [0] rfl), hD.sub [1, 0] (by decide) rfl⟩, hS.F ht⟩) hS.2.2 dX8_advance_169
      ·
        refine lv_istore_n (lv' := [(3, .int (-1)), (1, .int 1), (2, .int (nI be)), (0, .ref (oq 5))]) hx hb dX8_advance_96 rfl hl (by decide) rfl (fun ls hl => ?_)
        refine lv_aload_n hx hb dX8_advance_97 rfl (lv_at hl 3 rfl) ?_
        refine lv_iload_n hx hb dX8_advance_98 rfl (lv_at hl 0 rfl) ?_
        have hPc := hP.sub (ws' := []) [] rfl
        have hKc := hK.sub (tys' := []) [] rfl
        have hFc := va_free0 hS hA
        refine va_calli (va_runS (As := [.int (-1)]) (rest := [.ref (oq 5)]) ⟨hx, hb, hml, hown, hts⟩ (k_sDigit l D _ cI (-1)) (va_cwS 1 hts g_k_advance_k_sDigit_42 rfl rfl rfl (by decide +kernel) ⟨(Nat.le_of_ble_eq_true rfl), (Nat.le_of_ble_eq_true rfl)⟩) (PcRC_S hPc hKc hN) rfl rfl hl.1 rfl (lv_room (Nat.le_of_ble_eq_true rfl)) dX8_advance_99 ⟨(Nat.le_of_ble_eq_true rfl), (Nat.le_of_ble_eq_true rfl)⟩) hS (fun q _ h => hFc q h) hFc (fun r90 uu tt H locs htt hvm hw hB hz1 hk1 hS => ?_)
        have hP := va_keep hP hk1
        try dsimp only at hw
        clear hB hz1 hk1 hFc hPc hKc
        rcases hw with ⟨rfl, hA_r90⟩ | ⟨rfl, hA_r90⟩
        ·
          exact absurd hA_r90 (by decide)
        ·
          refine lv_if_ne (tgt := 112) hx hb dX8_advance_102 (by decide) (fun hc => absurd (by decide) hc) (fun hc => ?_)
          refine lv_iload_n hx hb dX8_advance_105 rfl (lv_at hl 0 rfl) ?_
          have hPc := hP.sub (ws' := []) [] rfl
          have hKc := hK.sub (tys' := []) [] rfl
          have hFc := va_free0 hS hA
          refine va_calli (va_runS (As := [.int (-1)]) (rest := [.ref (oq 5)]) ⟨hx, hb, hml, hown, hts⟩ (k_sLetter l D _ cI (-1)) (va_cwS 1 hts g_k_advance_k_sLetter_46 rfl rfl rfl (by decide +kernel) ⟨(Nat.le_of_ble_eq_true rfl), (Nat.le_of_ble_eq_true rfl)⟩) (PcRC_S hPc hKc hN) rfl rfl hl.1 rfl (lv_room (Nat.le_of_ble_eq_true rfl)) dX8_advance_106 ⟨(Nat.le_of_ble_eq_true rfl), (Nat.le_of_ble_eq_true rfl)⟩) hS (fun q _ h => hFc q h) hFc (fun r91 uu tt H locs htt hvm hw hB hz1 hk1 hS => ?_)
          have hP := va_keep hP hk1
          try dsimp only at hw
          clear hB hz1 hk1 hFc hPc hKc
          rcases hw with ⟨rfl, hA_r91⟩ | ⟨rfl, hA_r91⟩
          ·
            exact absurd hA_r91 (by decide)
          ·
            refine lv_if_eq (tgt := 116) hx hb dX8_advance_109 (by decide) (fun hc => ?_) (fun hc => absurd (by decide) hc)
            refine lv_iconst (v := 0) hx hb dX8_advance_116 (by decide) ?_
            refine va_put (D := D) (ci := 8) (v := .int 0) (ty := .boolean) (C := RX8) (T := TX8) (N := 7) hx hb hts hin_X8 tyX8 tyX8_ok nmX8 hown hK hP hD hS 0 rfl rfl 6 (by decide) (hts (.fieldLink RX8 34 "ClashFree$Scanner" "wordy" "Z") (List.mem_of_getElem? (i := 4) rfl)) (fun _ h9 => h9) rfl (by decide +kernel) rfl rfl (Nat.le_of_ble_eq_true rfl) dX8_advance_117 (fun H locs hP hD hS => ?_)
            have hP : va_P D vwCl [(oq 5, .inr (8, [.ref (ox 2), .int (nI zl), .int (nI y_1), .int (nI be), .int ki, .int nu, .int 0])), (ox 2, .inl (cI, 1400, .inl fT))] H := hP
            have hD : va_D A [(oq 5, .inr (8, [.ref (ox 2), .int (nI zl), .int (nI y_1), .int (nI be), .int ki, .int nu, .int 0])), (ox 2, .inl (cI, 1400, .inl fT))] := hD
            refine lv_iload_n hx hb dX8_advance_120 rfl (lv_at hl 0 rfl) ?_
            have hPc := hP.sub (ws' := []) [] rfl
            have hKc := hK.sub (tys' := []) [] rfl
            have hFc := va_free0 hS hA
            refine va_calli (va_runS (As := [.int (-1)]) (rest := []) ⟨hx, hb, hml, hown, hts⟩ (k_sDigit l D _ cI (-1)) (va_cwS 1 hts g_k_advance_k_sDigit_42 rfl rfl rfl (by decide +kernel) ⟨(Nat.le_of_ble_eq_true rfl), (Nat.le_of_ble_eq_true rfl)⟩) (PcRC_S hPc hKc hN) rfl rfl hl.1 rfl (lv_room (Nat.le_of_ble_eq_true rfl)) dX8_advance_121 ⟨(Nat.le_of_ble_eq_true rfl), (Nat.le_of_ble_eq_true rfl)⟩) hS (fun q _ h => hFc q h) hFc (fun r92 uu tt H locs htt hvm hw hB hz1 hk1 hS => ?_)
            have hP := va_keep hP hk1
            try dsimp only at hw
            clear hB hz1 hk1 hFc hPc hKc
            rcases hw with ⟨rfl, hA_r92⟩ | ⟨rfl, hA_r92⟩
            ·
              exact absurd hA_r92 (by decide)
            ·
              refine lv_if_eq (tgt := 134) hx hb dX8_advance_124 (by decide) (fun hc => ?_) (fun hc => absurd (by decide) hc)
              refine lv_iload_n hx hb dX8_advance_134 rfl (lv_at hl 0 rfl) ?_
              have hPc := hP.sub (ws' := []) [] rfl
              have hKc := hK.sub (tys' := []) [] rfl
              have hFc := va_free0 hS hA
              refine va_calli (va_runS (As := [.int (-1)]) (rest := []) ⟨hx, hb, hml, hown, hts⟩ (k_sLetter l D _ cI (-1)) (va_cwS 1 hts g_k_advance_k_sLetter_46 rfl rfl rfl (by decide +kernel) ⟨(Nat.le_of_ble_eq_true rfl), (Nat.le_of_ble_eq_true rfl)⟩) (PcRC_S hPc hKc hN) rfl rfl hl.1 rfl (lv_room (Nat.le_of_ble_eq_true rfl)) dX8_advance_135 ⟨(Nat.le_of_ble_eq_true rfl), (Nat.le_of_ble_eq_true rfl)⟩) hS (fun q _ h => hFc q h) hFc (fun r93 uu tt H locs htt hvm hw hB hz1 hk1 hS => ?_)
              have hP := va_keep hP hk1
              try dsimp only at hw
              clear hB hz1 hk1 hFc hPc hKc
              rcases hw with ⟨rfl, hA_r93⟩ | ⟨rfl, hA_r93⟩
              ·
                exact absurd hA_r93 (by decide)
              ·
                refine lv_if_eq (tgt := 148) hx hb dX8_advance_138 (by decide) (fun hc => ?_) (fun hc => absurd (by decide) hc)
                refine lv_aload_n hx hb dX8_advance_148 rfl (lv_at hl 3 rfl) ?_
                refine lv_iload_n hx hb dX8_advance_149 rfl (lv_at hl 0 rfl) ?_
                have hPc := hP.sub (ws' := [(oq 5, .inr (8, [.ref (ox 2), .int (nI zl), .int (nI y_1), .int (nI be), .int ki, .int nu, .int 0]))]) [0] rfl
                have hKc := hK.sub (tys' := []) [] rfl
                have hDc := hD.sub (ws' := [(oq 5, .inr (8, [.ref (ox 2), .int (nI zl), .int (nI y_1), .int (nI be), .int ki, .int nu, .int 0]))]) [0] (by decide) rfl
                have hFc := va_free (wc := [(oq 5, .inr (8, [.ref (ox 2), .int (nI zl), .int (nI y_1), .int (nI be), .int ki, .int nu, .int 0]))]) hD hS hA [0] rfl
                refine va_callv (va_runV (As := [.int (-1)]) (rest := []) ⟨hx, hb, hml, hown, hts⟩ (k_takeEnd l D _ oq ox cI zl y_1 be ki nu 0 hzl) (cwV 1 hts g_k_advance_k_takeEnd_55 rfl rfl rfl (by decide +kernel) ⟨(Nat.le_of_ble_eq_true rfl), (Nat.le_of_ble_eq_true rfl)⟩) (PcWC_V (q0 := 0) hPc hKc hDc hN rfl rfl) rfl rfl hl.1 rfl (lv_room (Nat.le_of_ble_eq_true rfl)) dX8_advance_150 ⟨(Nat.le_of_ble_eq_true rfl), (Nat.le_of_ble_eq_true rfl)⟩) hS (fun q _ h => hFc q h) hFc (fun uu tt H locs htt hvm hw hB hz1 hk1 hS => ?_)
                obtain ⟨w95, w96⟩ := uu
                obtain ⟨hP1, hK1, hD1⟩ := hB
                rw [htt] at hP1
                have hK1 := va_K.moved hvm.symm hK1
                have hP1 : va_P D vwCl [(oq 5, .inr (8, [.ref (ox 2), .int (nI zl), .int (nI y_1), .int (nI w95), .int w96, .int nu, .int 0]))] H := hP1
                obtain ⟨hP, hD⟩ := va_join (wr := [(ox 2, .inl (cI, 1400, .inl fT))]) (w1 := [(oq 5, .inr (8, [.ref (ox 2), .int (nI zl), .int (nI y_1), .int (nI w95), .int w96, .int nu, .int 0]))]) hP hD [0] [1] rfl rfl (by decide) (by decide) hk1 hFc hP1 hD1
                have hP : va_P D vwCl [(ox 2, .inl (cI, 1400, .inl fT)), (oq 5, .inr (8, [.ref (ox 2), .int (nI zl), .int (nI y_1), .int (nI w95), .int w96, .int nu, .int 0]))] H := hP
                have hD : va_D A [(ox 2, .inl (cI, 1400, .inl fT)), (oq 5, .inr (8, [.ref (ox 2), .int (nI zl), .int (nI y_1), .int (nI w95), .int w96, .int nu, .int 0]))] := hD
                try dsimp only at hw
                clear hz1 hk1 hFc hPc hKc hDc
                obtain ⟨hq97_b, hq97_k⟩ := hw
                refine lv_aload_n hx hb dX8_advance_153 rfl (lv_at hl 3 rfl) ?_
                refine va_get (D := D) (ci := 8) (v := .int 0) (C := RX8) (T := TX8) (N := 7) hx hb hts hin_X8 hown hK hP 1 rfl rfl 6 (by decide) (hts (.fieldLink RX8 34 "ClashFree$Scanner" "wordy" "Z") (List.mem_of_getElem? (i := 4) rfl)) (fun _ h9 => h9) rfl dX8_advance_154 ?_
                refine lv_if_eq (tgt := 169) hx hb dX8_advance_157 (by decide) (fun hc => ?_) (fun hc => absurd (rfl) hc)
                exact W.vret hx hb hr (fun t ht hW => ⟨⟨(y_1, w95, w96, nu, 0), rfl, (by (try dsimp only); first | done | exact ⟨hAq.symm, hq97_b.trans (tk_out hAq hby69).1.symm, by rw [tk_n (Or.inr (Or.inl (tk_out hAq hby69).2.1)), (tk_out hAq hby69).2.2]; exact hq97_k, by rw [(tk_out hAq hby69).2.1]; rfl, fun _ q => absurd q (by rw [hAq]; omega)⟩), by rw [ht]; exact hP.sub [1, 0] rfl, va_K.moved hW.alike (hK.sub [0] rfl), hD.sub [1, 0] (by decide) rfl⟩, hS.F ht⟩) hS.2.2 dX8_advance_169

