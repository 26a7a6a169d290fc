theorem dX9_countReads_0 : decode cX9_countReads 0 = .ok (.aload_n 0, 1) := by decide +kernel
theorem dX9_countReads_1 : decode cX9_countReads 1 = .ok (.dup, 1) := by decide +kernel
theorem dX9_countReads_2 : decode cX9_countReads 2 = .ok (.getfield 42, 3) := by decide +kernel
theorem dX9_countReads_5 : decode cX9_countReads 5 = .ok (.aload_n 0, 1) := by decide +kernel
theorem dX9_countReads_6 : decode cX9_countReads 6 = .ok (.getfield 28, 3) := by decide +kernel
theorem dX9_countReads_9 : decode cX9_countReads 9 = .ok (.aload_n 0, 1) := by decide +kernel
theorem dX9_countReads_10 : decode cX9_countReads 10 = .ok (.getfield 28, 3) := by decide +kernel
theorem dX9_countReads_13 : decode cX9_countReads 13 = .ok (.iload_n 1, 1) := by decide +kernel
theorem dX9_countReads_14 : decode cX9_countReads 14 = .ok (.invokevirtual 108, 3) := by decide +kernel
theorem dX9_countReads_17 : decode cX9_countReads 17 = .ok (.invokevirtual 112, 3) := by decide +kernel
theorem dX9_countReads_20 : decode cX9_countReads 20 = .ok (.ifCond .le 7, 3) := by decide +kernel
theorem dX9_countReads_23 : decode cX9_countReads 23 = .ok (.iconst 2, 1) := by decide +kernel
theorem dX9_countReads_24 : decode cX9_countReads 24 = .ok (.goto 4, 3) := by decide +kernel
theorem dX9_countReads_27 : decode cX9_countReads 27 = .ok (.iconst 1, 1) := by decide +kernel
theorem dX9_countReads_28 : decode cX9_countReads 28 = .ok (.iadd, 1) := by decide +kernel
theorem dX9_countReads_29 : decode cX9_countReads 29 = .ok (.putfield 42, 3) := by decide +kernel
theorem dX9_countReads_32 : decode cX9_countReads 32 = .ok (.return_, 1) := by decide +kernel
theorem dX9_isFullFor_0 : decode cX9_isFullFor 0 = .ok (.aload_n 0, 1) := by decide +kernel
theorem dX9_isFullFor_1 : decode cX9_isFullFor 1 = .ok (.getfield 21, 3) := by decide +kernel
theorem dX9_isFullFor_4 : decode cX9_isFullFor 4 = .ok (.getfield 58, 3) := by decide +kernel
theorem dX9_isFullFor_7 : decode cX9_isFullFor 7 = .ok (.sipush 160, 3) := by decide +kernel
theorem dX9_isFullFor_10 : decode cX9_isFullFor 10 = .ok (.if_icmp .lt 18, 3) := by decide +kernel
theorem dX9_isFullFor_13 : decode cX9_isFullFor 13 = .ok (.aload_n 0, 1) := by decide +kernel
theorem dX9_isFullFor_14 : decode cX9_isFullFor 14 = .ok (.getfield 21, 3) := by decide +kernel
theorem dX9_isFullFor_17 : decode cX9_isFullFor 17 = .ok (.iload_n 1, 1) := by decide +kernel
theorem dX9_isFullFor_18 : decode cX9_isFullFor 18 = .ok (.invokevirtual 115, 3) := by decide +kernel
theorem dX9_isFullFor_21 : decode cX9_isFullFor 21 = .ok (.ifCond .ge 7, 3) := by decide +kernel
theorem dX9_isFullFor_24 : decode cX9_isFullFor 24 = .ok (.iconst 1, 1) := by decide +kernel
theorem dX9_isFullFor_25 : decode cX9_isFullFor 25 = .ok (.goto 4, 3) := by decide +kernel
theorem dX9_isFullFor_28 : decode cX9_isFullFor 28 = .ok (.iconst 0, 1) := by decide +kernel
theorem dX9_isFullFor_29 : decode cX9_isFullFor 29 = .ok (.ireturn, 1) := by decide +kernel
theorem dX9_foretell_0 : decode cX9_foretell 0 = .ok (.aload_n 0, 1) := by decide +kernel
theorem dX9_foretell_1 : decode cX9_foretell 1 = .ok (.getfield 21, 3) := by decide +kernel
theorem dX9_foretell_4 : decode cX9_foretell 4 = .ok (.iload_n 1, 1) := by decide +kernel
theorem dX9_foretell_5 : decode cX9_foretell 5 = .ok (.invokevirtual 115, 3) := by decide +kernel
theorem dX9_foretell_8 : decode cX9_foretell 8 = .ok (.ifCond .lt 5, 3) := by decide +kernel
theorem dX9_foretell_11 : decode cX9_foretell 11 = .ok (.iconst 0, 1) := by decide +kernel
theorem dX9_foretell_12 : decode cX9_foretell 12 = .ok (.ireturn, 1) := by decide +kernel
theorem dX9_foretell_13 : decode cX9_foretell 13 = .ok (.aload_n 0, 1) := by decide +kernel
theorem dX9_foretell_14 : decode cX9_foretell 14 = .ok (.getfield 28, 3) := by decide +kernel
theorem dX9_foretell_17 : decode cX9_foretell 17 = .ok (.iload_n 1, 1) := by decide +kernel
theorem dX9_foretell_18 : decode cX9_foretell 18 = .ok (.invokevirtual 108, 3) := by decide +kernel
theorem dX9_foretell_21 : decode cX9_foretell 21 = .ok (.istore_n 2, 1) := by decide +kernel
theorem dX9_foretell_22 : decode cX9_foretell 22 = .ok (.aload_n 0, 1) := by decide +kernel
theorem dX9_foretell_23 : decode cX9_foretell 23 = .ok (.getfield 64, 3) := by decide +kernel
theorem dX9_foretell_26 : decode cX9_foretell 26 = .ok (.iconst 1, 1) := by decide +kernel
theorem dX9_foretell_27 : decode cX9_foretell 27 = .ok (.iadd, 1) := by decide +kernel
theorem dX9_foretell_28 : decode cX9_foretell 28 = .ok (.aload_n 0, 1) := by decide +kernel
theorem dX9_foretell_29 : decode cX9_foretell 29 = .ok (.getfield 61, 3) := by decide +kernel
theorem dX9_foretell_32 : decode cX9_foretell 32 = .ok (.if_icmp .gt 14, 3) := by decide +kernel
theorem dX9_foretell_35 : decode cX9_foretell 35 = .ok (.aload_n 0, 1) := by decide +kernel
theorem dX9_foretell_36 : decode cX9_foretell 36 = .ok (.getfield 28, 3) := by decide +kernel
theorem dX9_foretell_39 : decode cX9_foretell 39 = .ok (.iload_n 2, 1) := by decide +kernel
theorem dX9_foretell_40 : decode cX9_foretell 40 = .ok (.invokevirtual 118, 3) := by decide +kernel
theorem dX9_foretell_43 : decode cX9_foretell 43 = .ok (.ifCond .ne 5, 3) := by decide +kernel
theorem dX9_foretell_46 : decode cX9_foretell 46 = .ok (.iconst 4, 1) := by decide +kernel
theorem dX9_foretell_47 : decode cX9_foretell 47 = .ok (.ireturn, 1) := by decide +kernel
theorem dX9_foretell_48 : decode cX9_foretell 48 = .ok (.aload_n 0, 1) := by decide +kernel
theorem dX9_foretell_49 : decode cX9_foretell 49 = .ok (.getfield 28, 3) := by decide +kernel
theorem dX9_foretell_52 : decode cX9_foretell 52 = .ok (.getfield 122, 3) := by decide +kernel
theorem dX9_foretell_55 : decode cX9_foretell 55 = .ok (.iload_n 2, 1) := by decide +kernel
theorem dX9_foretell_56 : decode cX9_foretell 56 = .ok (.iaload, 1) := by decide +kernel
theorem dX9_foretell_57 : decode cX9_foretell 57 = .ok (.aload_n 0, 1) := by decide +kernel
theorem dX9_foretell_58 : decode cX9_foretell 58 = .ok (.getfield 28, 3) := by decide +kernel
theorem dX9_foretell_61 : decode cX9_foretell 61 = .ok (.getfield 125, 3) := by decide +kernel
theorem dX9_foretell_64 : decode cX9_foretell 64 = .ok (.iload_n 2, 1) := by decide +kernel
theorem dX9_foretell_65 : decode cX9_foretell 65 = .ok (.iaload, 1) := by decide +kernel
theorem dX9_foretell_66 : decode cX9_foretell 66 = .ok (.if_icmp .ge 29, 3) := by decide +kernel
theorem dX9_foretell_69 : decode cX9_foretell 69 = .ok (.aload_n 0, 1) := by decide +kernel
theorem dX9_foretell_70 : decode cX9_foretell 70 = .ok (.getfield 28, 3) := by decide +kernel
theorem dX9_foretell_73 : decode cX9_foretell 73 = .ok (.iload_n 2, 1) := by decide +kernel
theorem dX9_foretell_74 : decode cX9_foretell 74 = .ok (.aload_n 0, 1) := by decide +kernel
theorem dX9_foretell_75 : decode cX9_foretell 75 = .ok (.getfield 28, 3) := by decide +kernel
theorem dX9_foretell_78 : decode cX9_foretell 78 = .ok (.iload_n 1, 1) := by decide +kernel
theorem dX9_foretell_79 : decode cX9_foretell 79 = .ok (.iload_n 2, 1) := by decide +kernel
theorem dX9_foretell_80 : decode cX9_foretell 80 = .ok (.invokevirtual 128, 3) := by decide +kernel
theorem dX9_foretell_83 : decode cX9_foretell 83 = .ok (.invokevirtual 131, 3) := by decide +kernel
theorem dX9_foretell_86 : decode cX9_foretell 86 = .ok (.ifCond .ge 7, 3) := by decide +kernel
theorem dX9_foretell_89 : decode cX9_foretell 89 = .ok (.iconst 1, 1) := by decide +kernel
theorem dX9_foretell_90 : decode cX9_foretell 90 = .ok (.goto 4, 3) := by decide +kernel
theorem dX9_foretell_93 : decode cX9_foretell 93 = .ok (.iconst 2, 1) := by decide +kernel
theorem dX9_foretell_94 : decode cX9_foretell 94 = .ok (.ireturn, 1) := by decide +kernel
theorem dX9_foretell_95 : decode cX9_foretell 95 = .ok (.aload_n 0, 1) := by decide +kernel
theorem dX9_foretell_96 : decode cX9_foretell 96 = .ok (.getfield 28, 3) := by decide +kernel
theorem dX9_foretell_99 : decode cX9_foretell 99 = .ok (.iload_n 2, 1) := by decide +kernel
theorem dX9_foretell_100 : decode cX9_foretell 100 = .ok (.invokevirtual 134, 3) := by decide +kernel
theorem dX9_foretell_103 : decode cX9_foretell 103 = .ok (.istore_n 3, 1) := by decide +kernel
theorem dX9_foretell_104 : decode cX9_foretell 104 = .ok (.aload_n 0, 1) := by decide +kernel
theorem dX9_foretell_105 : decode cX9_foretell 105 = .ok (.getfield 28, 3) := by decide +kernel
theorem dX9_foretell_108 : decode cX9_foretell 108 = .ok (.getfield 137, 3) := by decide +kernel
theorem dX9_foretell_111 : decode cX9_foretell 111 = .ok (.aload_n 0, 1) := by decide +kernel
theorem dX9_foretell_112 : decode cX9_foretell 112 = .ok (.getfield 28, 3) := by decide +kernel
theorem dX9_foretell_115 : decode cX9_foretell 115 = .ok (.iload_n 2, 1) := by decide +kernel
theorem dX9_foretell_116 : decode cX9_foretell 116 = .ok (.invokevirtual 112, 3) := by decide +kernel
theorem dX9_foretell_119 : decode cX9_foretell 119 = .ok (.isub, 1) := by decide +kernel
theorem dX9_foretell_120 : decode cX9_foretell 120 = .ok (.iload_n 3, 1) := by decide +kernel
theorem dX9_foretell_121 : decode cX9_foretell 121 = .ok (.iload_n 3, 1) := by decide +kernel
theorem dX9_foretell_122 : decode cX9_foretell 122 = .ok (.imul, 1) := by decide +kernel
theorem dX9_foretell_123 : decode cX9_foretell 123 = .ok (.iadd, 1) := by decide +kernel
theorem dX9_foretell_124 : decode cX9_foretell 124 = .ok (.istore 4, 2) := by decide +kernel
theorem dX9_foretell_126 : decode cX9_foretell 126 = .ok (.iload 4, 2) := by decide +kernel
theorem dX9_foretell_128 : decode cX9_foretell 128 = .ok (.aload_n 0, 1) := by decide +kernel
theorem dX9_foretell_129 : decode cX9_foretell 129 = .ok (.invokevirtual 86, 3) := by decide +kernel
theorem dX9_foretell_132 : decode cX9_foretell 132 = .ok (.if_icmp .gt 7, 3) := by decide +kernel
theorem dX9_foretell_135 : decode cX9_foretell 135 = .ok (.iconst 3, 1) := by decide +kernel
theorem dX9_foretell_136 : decode cX9_foretell 136 = .ok (.goto 4, 3) := by decide +kernel
theorem dX9_foretell_139 : decode cX9_foretell 139 = .ok (.iconst 4, 1) := by decide +kernel
theorem dX9_foretell_140 : decode cX9_foretell 140 = .ok (.ireturn, 1) := by decide +kernel
