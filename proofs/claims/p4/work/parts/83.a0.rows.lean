theorem dX5_freeze_0 : decode cX5_freeze 0 = .ok (.iconst 1, 1) := by decide +kernel
theorem dX5_freeze_1 : decode cX5_freeze 1 = .ok (.aload_n 1, 1) := by decide +kernel
theorem dX5_freeze_2 : decode cX5_freeze 2 = .ok (.getfield 93, 3) := by decide +kernel
theorem dX5_freeze_5 : decode cX5_freeze 5 = .ok (.invokestatic 96, 3) := by decide +kernel
theorem dX5_freeze_8 : decode cX5_freeze 8 = .ok (.istore 4, 2) := by decide +kernel
theorem dX5_freeze_10 : decode cX5_freeze 10 = .ok (.iconst 0, 1) := by decide +kernel
theorem dX5_freeze_11 : decode cX5_freeze 11 = .ok (.istore 5, 2) := by decide +kernel
theorem dX5_freeze_13 : decode cX5_freeze 13 = .ok (.aload_n 0, 1) := by decide +kernel
theorem dX5_freeze_14 : decode cX5_freeze 14 = .ok (.getfield 12, 3) := by decide +kernel
theorem dX5_freeze_17 : decode cX5_freeze 17 = .ok (.lload_n 2, 1) := by decide +kernel
theorem dX5_freeze_18 : decode cX5_freeze 18 = .ok (.invokevirtual 41, 3) := by decide +kernel
theorem dX5_freeze_21 : decode cX5_freeze 21 = .ok (.iconst 0, 1) := by decide +kernel
theorem dX5_freeze_22 : decode cX5_freeze 22 = .ok (.istore 6, 2) := by decide +kernel
theorem dX5_freeze_24 : decode cX5_freeze 24 = .ok (.iload 6, 2) := by decide +kernel
theorem dX5_freeze_26 : decode cX5_freeze 26 = .ok (.sipush 1000, 3) := by decide +kernel
theorem dX5_freeze_29 : decode cX5_freeze 29 = .ok (.if_icmp .ge 61, 3) := by decide +kernel
theorem dX5_freeze_32 : decode cX5_freeze 32 = .ok (.iload 5, 2) := by decide +kernel
theorem dX5_freeze_34 : decode cX5_freeze 34 = .ok (.ifCond .ne 56, 3) := by decide +kernel
theorem dX5_freeze_37 : decode cX5_freeze 37 = .ok (.aload_n 0, 1) := by decide +kernel
theorem dX5_freeze_38 : decode cX5_freeze 38 = .ok (.getfield 12, 3) := by decide +kernel
theorem dX5_freeze_41 : decode cX5_freeze 41 = .ok (.invokevirtual 45, 3) := by decide +kernel
theorem dX5_freeze_44 : decode cX5_freeze 44 = .ok (.aload_n 0, 1) := by decide +kernel
theorem dX5_freeze_45 : decode cX5_freeze 45 = .ok (.getfield 21, 3) := by decide +kernel
theorem dX5_freeze_48 : decode cX5_freeze 48 = .ok (.aload_n 1, 1) := by decide +kernel
theorem dX5_freeze_49 : decode cX5_freeze 49 = .ok (.aload_n 0, 1) := by decide +kernel
theorem dX5_freeze_50 : decode cX5_freeze 50 = .ok (.getfield 12, 3) := by decide +kernel
theorem dX5_freeze_53 : decode cX5_freeze 53 = .ok (.getfield 54, 3) := by decide +kernel
theorem dX5_freeze_56 : decode cX5_freeze 56 = .ok (.aload_n 0, 1) := by decide +kernel
theorem dX5_freeze_57 : decode cX5_freeze 57 = .ok (.getfield 12, 3) := by decide +kernel
theorem dX5_freeze_60 : decode cX5_freeze 60 = .ok (.getfield 58, 3) := by decide +kernel
theorem dX5_freeze_63 : decode cX5_freeze 63 = .ok (.iload 4, 2) := by decide +kernel
theorem dX5_freeze_65 : decode cX5_freeze 65 = .ok (.invokevirtual 25, 3) := by decide +kernel
theorem dX5_freeze_68 : decode cX5_freeze 68 = .ok (.iconst 3, 1) := by decide +kernel
theorem dX5_freeze_69 : decode cX5_freeze 69 = .ok (.aload_n 1, 1) := by decide +kernel
theorem dX5_freeze_70 : decode cX5_freeze 70 = .ok (.getfield 93, 3) := by decide +kernel
theorem dX5_freeze_73 : decode cX5_freeze 73 = .ok (.imul, 1) := by decide +kernel
theorem dX5_freeze_74 : decode cX5_freeze 74 = .ok (.if_icmp .gt 7, 3) := by decide +kernel
theorem dX5_freeze_77 : decode cX5_freeze 77 = .ok (.iconst 1, 1) := by decide +kernel
theorem dX5_freeze_78 : decode cX5_freeze 78 = .ok (.goto 4, 3) := by decide +kernel
theorem dX5_freeze_81 : decode cX5_freeze 81 = .ok (.iconst 0, 1) := by decide +kernel
theorem dX5_freeze_82 : decode cX5_freeze 82 = .ok (.istore 5, 2) := by decide +kernel
theorem dX5_freeze_84 : decode cX5_freeze 84 = .ok (.iinc 6 1, 3) := by decide +kernel
theorem dX5_freeze_87 : decode cX5_freeze 87 = .ok (.goto (-63), 3) := by decide +kernel
theorem dX5_freeze_90 : decode cX5_freeze 90 = .ok (.iload 5, 2) := by decide +kernel
theorem dX5_freeze_92 : decode cX5_freeze 92 = .ok (.ifCond .ne 5, 3) := by decide +kernel
theorem dX5_freeze_95 : decode cX5_freeze 95 = .ok (.iconst 0, 1) := by decide +kernel
theorem dX5_freeze_96 : decode cX5_freeze 96 = .ok (.ireturn, 1) := by decide +kernel
theorem dX5_freeze_97 : decode cX5_freeze 97 = .ok (.aload_n 0, 1) := by decide +kernel
theorem dX5_freeze_98 : decode cX5_freeze 98 = .ok (.aload_n 0, 1) := by decide +kernel
theorem dX5_freeze_99 : decode cX5_freeze 99 = .ok (.getfield 12, 3) := by decide +kernel
theorem dX5_freeze_102 : decode cX5_freeze 102 = .ok (.getfield 102, 3) := by decide +kernel
theorem dX5_freeze_105 : decode cX5_freeze 105 = .ok (.putfield 105, 3) := by decide +kernel
theorem dX5_freeze_108 : decode cX5_freeze 108 = .ok (.aload_n 0, 1) := by decide +kernel
theorem dX5_freeze_109 : decode cX5_freeze 109 = .ok (.getfield 21, 3) := by decide +kernel
theorem dX5_freeze_112 : decode cX5_freeze 112 = .ok (.iconst 1, 1) := by decide +kernel
theorem dX5_freeze_113 : decode cX5_freeze 113 = .ok (.invokevirtual 108, 3) := by decide +kernel
theorem dX5_freeze_116 : decode cX5_freeze 116 = .ok (.iconst 0, 1) := by decide +kernel
theorem dX5_freeze_117 : decode cX5_freeze 117 = .ok (.istore 6, 2) := by decide +kernel
theorem dX5_freeze_119 : decode cX5_freeze 119 = .ok (.iload 6, 2) := by decide +kernel
theorem dX5_freeze_121 : decode cX5_freeze 121 = .ok (.iload 4, 2) := by decide +kernel
theorem dX5_freeze_123 : decode cX5_freeze 123 = .ok (.if_icmp .ge 33, 3) := by decide +kernel
theorem dX5_freeze_126 : decode cX5_freeze 126 = .ok (.aload_n 0, 1) := by decide +kernel
theorem dX5_freeze_127 : decode cX5_freeze 127 = .ok (.getfield 21, 3) := by decide +kernel
theorem dX5_freeze_130 : decode cX5_freeze 130 = .ok (.aload_n 1, 1) := by decide +kernel
theorem dX5_freeze_131 : decode cX5_freeze 131 = .ok (.aload_n 0, 1) := by decide +kernel
theorem dX5_freeze_132 : decode cX5_freeze 132 = .ok (.getfield 12, 3) := by decide +kernel
theorem dX5_freeze_135 : decode cX5_freeze 135 = .ok (.iload 6, 2) := by decide +kernel
theorem dX5_freeze_137 : decode cX5_freeze 137 = .ok (.aload_n 0, 1) := by decide +kernel
theorem dX5_freeze_138 : decode cX5_freeze 138 = .ok (.getfield 21, 3) := by decide +kernel
theorem dX5_freeze_141 : decode cX5_freeze 141 = .ok (.getfield 112, 3) := by decide +kernel
theorem dX5_freeze_144 : decode cX5_freeze 144 = .ok (.iload 6, 2) := by decide +kernel
theorem dX5_freeze_146 : decode cX5_freeze 146 = .ok (.iaload, 1) := by decide +kernel
theorem dX5_freeze_147 : decode cX5_freeze 147 = .ok (.invokevirtual 115, 3) := by decide +kernel
theorem dX5_freeze_150 : decode cX5_freeze 150 = .ok (.iinc 6 1, 3) := by decide +kernel
theorem dX5_freeze_153 : decode cX5_freeze 153 = .ok (.goto (-34), 3) := by decide +kernel
theorem dX5_freeze_156 : decode cX5_freeze 156 = .ok (.iconst 1, 1) := by decide +kernel
theorem dX5_freeze_157 : decode cX5_freeze 157 = .ok (.ireturn, 1) := by decide +kernel
theorem dX5_edgeRoom_0 : decode cX5_edgeRoom 0 = .ok (.iconst (-1), 1) := by decide +kernel
theorem dX5_edgeRoom_1 : decode cX5_edgeRoom 1 = .ok (.istore_n 2, 1) := by decide +kernel
theorem dX5_edgeRoom_2 : decode cX5_edgeRoom 2 = .ok (.iconst 0, 1) := by decide +kernel
theorem dX5_edgeRoom_3 : decode cX5_edgeRoom 3 = .ok (.istore_n 3, 1) := by decide +kernel
theorem dX5_edgeRoom_4 : decode cX5_edgeRoom 4 = .ok (.iload_n 3, 1) := by decide +kernel
theorem dX5_edgeRoom_5 : decode cX5_edgeRoom 5 = .ok (.aload_n 0, 1) := by decide +kernel
theorem dX5_edgeRoom_6 : decode cX5_edgeRoom 6 = .ok (.getfield 21, 3) := by decide +kernel
theorem dX5_edgeRoom_9 : decode cX5_edgeRoom 9 = .ok (.getfield 119, 3) := by decide +kernel
theorem dX5_edgeRoom_12 : decode cX5_edgeRoom 12 = .ok (.if_icmp .ge 41, 3) := by decide +kernel
theorem dX5_edgeRoom_15 : decode cX5_edgeRoom 15 = .ok (.aload_n 0, 1) := by decide +kernel
theorem dX5_edgeRoom_16 : decode cX5_edgeRoom 16 = .ok (.getfield 21, 3) := by decide +kernel
theorem dX5_edgeRoom_19 : decode cX5_edgeRoom 19 = .ok (.iload_n 3, 1) := by decide +kernel
theorem dX5_edgeRoom_20 : decode cX5_edgeRoom 20 = .ok (.invokevirtual 120, 3) := by decide +kernel
theorem dX5_edgeRoom_23 : decode cX5_edgeRoom 23 = .ok (.istore 4, 2) := by decide +kernel
theorem dX5_edgeRoom_25 : decode cX5_edgeRoom 25 = .ok (.iload_n 2, 1) := by decide +kernel
theorem dX5_edgeRoom_26 : decode cX5_edgeRoom 26 = .ok (.ifCond .lt 18, 3) := by decide +kernel
theorem dX5_edgeRoom_29 : decode cX5_edgeRoom 29 = .ok (.iload 4, 2) := by decide +kernel
theorem dX5_edgeRoom_31 : decode cX5_edgeRoom 31 = .ok (.iload_n 2, 1) := by decide +kernel
theorem dX5_edgeRoom_32 : decode cX5_edgeRoom 32 = .ok (.if_icmp .le 7, 3) := by decide +kernel
theorem dX5_edgeRoom_35 : decode cX5_edgeRoom 35 = .ok (.iconst 1, 1) := by decide +kernel
theorem dX5_edgeRoom_36 : decode cX5_edgeRoom 36 = .ok (.goto 4, 3) := by decide +kernel
theorem dX5_edgeRoom_39 : decode cX5_edgeRoom 39 = .ok (.iconst 0, 1) := by decide +kernel
theorem dX5_edgeRoom_40 : decode cX5_edgeRoom 40 = .ok (.iload_n 1, 1) := by decide +kernel
theorem dX5_edgeRoom_41 : decode cX5_edgeRoom 41 = .ok (.if_icmp .ne 6, 3) := by decide +kernel
theorem dX5_edgeRoom_44 : decode cX5_edgeRoom 44 = .ok (.iload 4, 2) := by decide +kernel
theorem dX5_edgeRoom_46 : decode cX5_edgeRoom 46 = .ok (.istore_n 2, 1) := by decide +kernel
theorem dX5_edgeRoom_47 : decode cX5_edgeRoom 47 = .ok (.iinc 3 1, 3) := by decide +kernel
theorem dX5_edgeRoom_50 : decode cX5_edgeRoom 50 = .ok (.goto (-46), 3) := by decide +kernel
theorem dX5_edgeRoom_53 : decode cX5_edgeRoom 53 = .ok (.iload_n 2, 1) := by decide +kernel
theorem dX5_edgeRoom_54 : decode cX5_edgeRoom 54 = .ok (.ireturn, 1) := by decide +kernel
