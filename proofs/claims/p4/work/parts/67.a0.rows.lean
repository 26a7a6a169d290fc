theorem dX11_runs_0 : decode cX11_runs 0 = .ok (.aload_n 0, 1) := by decide +kernel
theorem dX11_runs_1 : decode cX11_runs 1 = .ok (.iconst 0, 1) := by decide +kernel
theorem dX11_runs_2 : decode cX11_runs 2 = .ok (.putfield 400, 3) := by decide +kernel
theorem dX11_runs_5 : decode cX11_runs 5 = .ok (.aload_n 0, 1) := by decide +kernel
theorem dX11_runs_6 : decode cX11_runs 6 = .ok (.iconst 0, 1) := by decide +kernel
theorem dX11_runs_7 : decode cX11_runs 7 = .ok (.putfield 407, 3) := by decide +kernel
theorem dX11_runs_10 : decode cX11_runs 10 = .ok (.aload_n 0, 1) := by decide +kernel
theorem dX11_runs_11 : decode cX11_runs 11 = .ok (.iconst 0, 1) := by decide +kernel
theorem dX11_runs_12 : decode cX11_runs 12 = .ok (.putfield 394, 3) := by decide +kernel
theorem dX11_runs_15 : decode cX11_runs 15 = .ok (.aload_n 0, 1) := by decide +kernel
theorem dX11_runs_16 : decode cX11_runs 16 = .ok (.iconst 0, 1) := by decide +kernel
theorem dX11_runs_17 : decode cX11_runs 17 = .ok (.putfield 385, 3) := by decide +kernel
theorem dX11_runs_20 : decode cX11_runs 20 = .ok (.aload_n 0, 1) := by decide +kernel
theorem dX11_runs_21 : decode cX11_runs 21 = .ok (.iconst 0, 1) := by decide +kernel
theorem dX11_runs_22 : decode cX11_runs 22 = .ok (.putfield 388, 3) := by decide +kernel
theorem dX11_runs_25 : decode cX11_runs 25 = .ok (.aload_n 0, 1) := by decide +kernel
theorem dX11_runs_26 : decode cX11_runs 26 = .ok (.iconst 0, 1) := by decide +kernel
theorem dX11_runs_27 : decode cX11_runs 27 = .ok (.putfield 403, 3) := by decide +kernel
theorem dX11_runs_30 : decode cX11_runs 30 = .ok (.iconst 0, 1) := by decide +kernel
theorem dX11_runs_31 : decode cX11_runs 31 = .ok (.istore_n 2, 1) := by decide +kernel
theorem dX11_runs_32 : decode cX11_runs 32 = .ok (.iload_n 2, 1) := by decide +kernel
theorem dX11_runs_33 : decode cX11_runs 33 = .ok (.aload_n 0, 1) := by decide +kernel
theorem dX11_runs_34 : decode cX11_runs 34 = .ok (.getfield 335, 3) := by decide +kernel
theorem dX11_runs_37 : decode cX11_runs 37 = .ok (.if_icmp .ge 103, 3) := by decide +kernel
theorem dX11_runs_40 : decode cX11_runs 40 = .ok (.aload_n 0, 1) := by decide +kernel
theorem dX11_runs_41 : decode cX11_runs 41 = .ok (.getfield 403, 3) := by decide +kernel
theorem dX11_runs_44 : decode cX11_runs 44 = .ok (.ifCond .ne 96, 3) := by decide +kernel
theorem dX11_runs_47 : decode cX11_runs 47 = .ok (.aload_n 0, 1) := by decide +kernel
theorem dX11_runs_48 : decode cX11_runs 48 = .ok (.getfield 45, 3) := by decide +kernel
theorem dX11_runs_51 : decode cX11_runs 51 = .ok (.iconst 2, 1) := by decide +kernel
theorem dX11_runs_52 : decode cX11_runs 52 = .ok (.iload_n 2, 1) := by decide +kernel
theorem dX11_runs_53 : decode cX11_runs 53 = .ok (.imul, 1) := by decide +kernel
theorem dX11_runs_54 : decode cX11_runs 54 = .ok (.iaload, 1) := by decide +kernel
theorem dX11_runs_55 : decode cX11_runs 55 = .ok (.istore_n 3, 1) := by decide +kernel
theorem dX11_runs_56 : decode cX11_runs 56 = .ok (.aload_n 0, 1) := by decide +kernel
theorem dX11_runs_57 : decode cX11_runs 57 = .ok (.iload_n 2, 1) := by decide +kernel
theorem dX11_runs_58 : decode cX11_runs 58 = .ok (.iconst 1, 1) := by decide +kernel
theorem dX11_runs_59 : decode cX11_runs 59 = .ok (.iadd, 1) := by decide +kernel
theorem dX11_runs_60 : decode cX11_runs 60 = .ok (.putfield 413, 3) := by decide +kernel
theorem dX11_runs_63 : decode cX11_runs 63 = .ok (.iload_n 3, 1) := by decide +kernel
theorem dX11_runs_64 : decode cX11_runs 64 = .ok (.bipush 10, 2) := by decide +kernel
theorem dX11_runs_66 : decode cX11_runs 66 = .ok (.if_icmp .lt 21, 3) := by decide +kernel
theorem dX11_runs_69 : decode cX11_runs 69 = .ok (.aload_n 0, 1) := by decide +kernel
theorem dX11_runs_70 : decode cX11_runs 70 = .ok (.iload_n 3, 1) := by decide +kernel
theorem dX11_runs_71 : decode cX11_runs 71 = .ok (.aload_n 0, 1) := by decide +kernel
theorem dX11_runs_72 : decode cX11_runs 72 = .ok (.getfield 45, 3) := by decide +kernel
theorem dX11_runs_75 : decode cX11_runs 75 = .ok (.iconst 2, 1) := by decide +kernel
theorem dX11_runs_76 : decode cX11_runs 76 = .ok (.iload_n 2, 1) := by decide +kernel
theorem dX11_runs_77 : decode cX11_runs 77 = .ok (.imul, 1) := by decide +kernel
theorem dX11_runs_78 : decode cX11_runs 78 = .ok (.iconst 1, 1) := by decide +kernel
theorem dX11_runs_79 : decode cX11_runs 79 = .ok (.iadd, 1) := by decide +kernel
theorem dX11_runs_80 : decode cX11_runs 80 = .ok (.iaload, 1) := by decide +kernel
theorem dX11_runs_81 : decode cX11_runs 81 = .ok (.invokevirtual 419, 3) := by decide +kernel
theorem dX11_runs_84 : decode cX11_runs 84 = .ok (.goto 48, 3) := by decide +kernel
theorem dX11_runs_87 : decode cX11_runs 87 = .ok (.iload_n 3, 1) := by decide +kernel
theorem dX11_runs_88 : decode cX11_runs 88 = .ok (.iconst 4, 1) := by decide +kernel
theorem dX11_runs_89 : decode cX11_runs 89 = .ok (.if_icmp .eq 8, 3) := by decide +kernel
theorem dX11_runs_92 : decode cX11_runs 92 = .ok (.iload_n 3, 1) := by decide +kernel
theorem dX11_runs_93 : decode cX11_runs 93 = .ok (.iconst 5, 1) := by decide +kernel
theorem dX11_runs_94 : decode cX11_runs 94 = .ok (.if_icmp .ne 11, 3) := by decide +kernel
theorem dX11_runs_97 : decode cX11_runs 97 = .ok (.aload_n 0, 1) := by decide +kernel
theorem dX11_runs_98 : decode cX11_runs 98 = .ok (.iload_n 2, 1) := by decide +kernel
theorem dX11_runs_99 : decode cX11_runs 99 = .ok (.invokevirtual 422, 3) := by decide +kernel
theorem dX11_runs_102 : decode cX11_runs 102 = .ok (.goto 30, 3) := by decide +kernel
theorem dX11_runs_105 : decode cX11_runs 105 = .ok (.iload_n 3, 1) := by decide +kernel
theorem dX11_runs_106 : decode cX11_runs 106 = .ok (.bipush 6, 2) := by decide +kernel
theorem dX11_runs_108 : decode cX11_runs 108 = .ok (.if_icmp .ne 11, 3) := by decide +kernel
theorem dX11_runs_111 : decode cX11_runs 111 = .ok (.aload_n 0, 1) := by decide +kernel
theorem dX11_runs_112 : decode cX11_runs 112 = .ok (.iload_n 2, 1) := by decide +kernel
theorem dX11_runs_113 : decode cX11_runs 113 = .ok (.invokevirtual 425, 3) := by decide +kernel
theorem dX11_runs_116 : decode cX11_runs 116 = .ok (.goto 16, 3) := by decide +kernel
theorem dX11_runs_119 : decode cX11_runs 119 = .ok (.aload_n 0, 1) := by decide +kernel
theorem dX11_runs_120 : decode cX11_runs 120 = .ok (.invokevirtual 416, 3) := by decide +kernel
theorem dX11_runs_123 : decode cX11_runs 123 = .ok (.ifCond .eq 9, 3) := by decide +kernel
theorem dX11_runs_126 : decode cX11_runs 126 = .ok (.aload_n 0, 1) := by decide +kernel
theorem dX11_runs_127 : decode cX11_runs 127 = .ok (.iload_n 1, 1) := by decide +kernel
theorem dX11_runs_128 : decode cX11_runs 128 = .ok (.iload_n 3, 1) := by decide +kernel
theorem dX11_runs_129 : decode cX11_runs 129 = .ok (.invokevirtual 428, 3) := by decide +kernel
theorem dX11_runs_132 : decode cX11_runs 132 = .ok (.aload_n 0, 1) := by decide +kernel
theorem dX11_runs_133 : decode cX11_runs 133 = .ok (.getfield 413, 3) := by decide +kernel
theorem dX11_runs_136 : decode cX11_runs 136 = .ok (.istore_n 2, 1) := by decide +kernel
theorem dX11_runs_137 : decode cX11_runs 137 = .ok (.goto (-105), 3) := by decide +kernel
theorem dX11_runs_140 : decode cX11_runs 140 = .ok (.return_, 1) := by decide +kernel
