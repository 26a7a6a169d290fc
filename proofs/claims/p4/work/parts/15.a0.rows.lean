theorem dX11_buildsBucket_0 : decode cX11_buildsBucket 0 = .ok (.aload_n 0, 1) := by decide +kernel
theorem dX11_buildsBucket_1 : decode cX11_buildsBucket 1 = .ok (.iload_n 1, 1) := by decide +kernel
theorem dX11_buildsBucket_2 : decode cX11_buildsBucket 2 = .ok (.iload_n 2, 1) := by decide +kernel
theorem dX11_buildsBucket_3 : decode cX11_buildsBucket 3 = .ok (.invokevirtual 137, 3) := by decide +kernel
theorem dX11_buildsBucket_6 : decode cX11_buildsBucket 6 = .ok (.ifCond .ne 4, 3) := by decide +kernel
theorem dX11_buildsBucket_9 : decode cX11_buildsBucket 9 = .ok (.return_, 1) := by decide +kernel
theorem dX11_buildsBucket_10 : decode cX11_buildsBucket 10 = .ok (.iconst 1, 1) := by decide +kernel
theorem dX11_buildsBucket_11 : decode cX11_buildsBucket 11 = .ok (.istore_n 3, 1) := by decide +kernel
theorem dX11_buildsBucket_12 : decode cX11_buildsBucket 12 = .ok (.iload_n 3, 1) := by decide +kernel
theorem dX11_buildsBucket_13 : decode cX11_buildsBucket 13 = .ok (.ifCond .eq 33, 3) := by decide +kernel
theorem dX11_buildsBucket_16 : decode cX11_buildsBucket 16 = .ok (.aload_n 0, 1) := by decide +kernel
theorem dX11_buildsBucket_17 : decode cX11_buildsBucket 17 = .ok (.invokevirtual 141, 3) := by decide +kernel
theorem dX11_buildsBucket_20 : decode cX11_buildsBucket 20 = .ok (.aload_n 0, 1) := by decide +kernel
theorem dX11_buildsBucket_21 : decode cX11_buildsBucket 21 = .ok (.iload_n 1, 1) := by decide +kernel
theorem dX11_buildsBucket_22 : decode cX11_buildsBucket 22 = .ok (.iload_n 2, 1) := by decide +kernel
theorem dX11_buildsBucket_23 : decode cX11_buildsBucket 23 = .ok (.aload_n 0, 1) := by decide +kernel
theorem dX11_buildsBucket_24 : decode cX11_buildsBucket 24 = .ok (.getfield 117, 3) := by decide +kernel
theorem dX11_buildsBucket_27 : decode cX11_buildsBucket 27 = .ok (.aload_n 0, 1) := by decide +kernel
theorem dX11_buildsBucket_28 : decode cX11_buildsBucket 28 = .ok (.getfield 120, 3) := by decide +kernel
theorem dX11_buildsBucket_31 : decode cX11_buildsBucket 31 = .ok (.invokevirtual 144, 3) := by decide +kernel
theorem dX11_buildsBucket_34 : decode cX11_buildsBucket 34 = .ok (.ifCond .le 7, 3) := by decide +kernel
theorem dX11_buildsBucket_37 : decode cX11_buildsBucket 37 = .ok (.iconst 1, 1) := by decide +kernel
theorem dX11_buildsBucket_38 : decode cX11_buildsBucket 38 = .ok (.goto 4, 3) := by decide +kernel
theorem dX11_buildsBucket_41 : decode cX11_buildsBucket 41 = .ok (.iconst 0, 1) := by decide +kernel
theorem dX11_buildsBucket_42 : decode cX11_buildsBucket 42 = .ok (.istore_n 3, 1) := by decide +kernel
theorem dX11_buildsBucket_43 : decode cX11_buildsBucket 43 = .ok (.goto (-31), 3) := by decide +kernel
theorem dX11_buildsBucket_46 : decode cX11_buildsBucket 46 = .ok (.aload_n 0, 1) := by decide +kernel
theorem dX11_buildsBucket_47 : decode cX11_buildsBucket 47 = .ok (.getfield 36, 3) := by decide +kernel
theorem dX11_buildsBucket_50 : decode cX11_buildsBucket 50 = .ok (.sipush 2048, 3) := by decide +kernel
theorem dX11_buildsBucket_53 : decode cX11_buildsBucket 53 = .ok (.iload_n 1, 1) := by decide +kernel
theorem dX11_buildsBucket_54 : decode cX11_buildsBucket 54 = .ok (.imul, 1) := by decide +kernel
theorem dX11_buildsBucket_55 : decode cX11_buildsBucket 55 = .ok (.iload_n 2, 1) := by decide +kernel
theorem dX11_buildsBucket_56 : decode cX11_buildsBucket 56 = .ok (.iadd, 1) := by decide +kernel
theorem dX11_buildsBucket_57 : decode cX11_buildsBucket 57 = .ok (.aload_n 0, 1) := by decide +kernel
theorem dX11_buildsBucket_58 : decode cX11_buildsBucket 58 = .ok (.getfield 117, 3) := by decide +kernel
theorem dX11_buildsBucket_61 : decode cX11_buildsBucket 61 = .ok (.lastore, 1) := by decide +kernel
theorem dX11_buildsBucket_62 : decode cX11_buildsBucket 62 = .ok (.aload_n 0, 1) := by decide +kernel
theorem dX11_buildsBucket_63 : decode cX11_buildsBucket 63 = .ok (.getfield 39, 3) := by decide +kernel
theorem dX11_buildsBucket_66 : decode cX11_buildsBucket 66 = .ok (.sipush 2048, 3) := by decide +kernel
theorem dX11_buildsBucket_69 : decode cX11_buildsBucket 69 = .ok (.iload_n 1, 1) := by decide +kernel
theorem dX11_buildsBucket_70 : decode cX11_buildsBucket 70 = .ok (.imul, 1) := by decide +kernel
theorem dX11_buildsBucket_71 : decode cX11_buildsBucket 71 = .ok (.iload_n 2, 1) := by decide +kernel
theorem dX11_buildsBucket_72 : decode cX11_buildsBucket 72 = .ok (.iadd, 1) := by decide +kernel
theorem dX11_buildsBucket_73 : decode cX11_buildsBucket 73 = .ok (.aload_n 0, 1) := by decide +kernel
theorem dX11_buildsBucket_74 : decode cX11_buildsBucket 74 = .ok (.getfield 120, 3) := by decide +kernel
theorem dX11_buildsBucket_77 : decode cX11_buildsBucket 77 = .ok (.lastore, 1) := by decide +kernel
theorem dX11_buildsBucket_78 : decode cX11_buildsBucket 78 = .ok (.sipush 160, 3) := by decide +kernel
theorem dX11_buildsBucket_81 : decode cX11_buildsBucket 81 = .ok (.iload_n 1, 1) := by decide +kernel
theorem dX11_buildsBucket_82 : decode cX11_buildsBucket 82 = .ok (.imul, 1) := by decide +kernel
theorem dX11_buildsBucket_83 : decode cX11_buildsBucket 83 = .ok (.istore 4, 2) := by decide +kernel
theorem dX11_buildsBucket_85 : decode cX11_buildsBucket 85 = .ok (.iload 4, 2) := by decide +kernel
theorem dX11_buildsBucket_87 : decode cX11_buildsBucket 87 = .ok (.sipush 160, 3) := by decide +kernel
theorem dX11_buildsBucket_90 : decode cX11_buildsBucket 90 = .ok (.iload_n 1, 1) := by decide +kernel
theorem dX11_buildsBucket_91 : decode cX11_buildsBucket 91 = .ok (.imul, 1) := by decide +kernel
theorem dX11_buildsBucket_92 : decode cX11_buildsBucket 92 = .ok (.aload_n 0, 1) := by decide +kernel
theorem dX11_buildsBucket_93 : decode cX11_buildsBucket 93 = .ok (.iload_n 1, 1) := by decide +kernel
theorem dX11_buildsBucket_94 : decode cX11_buildsBucket 94 = .ok (.invokevirtual 95, 3) := by decide +kernel
theorem dX11_buildsBucket_97 : decode cX11_buildsBucket 97 = .ok (.iadd, 1) := by decide +kernel
theorem dX11_buildsBucket_98 : decode cX11_buildsBucket 98 = .ok (.if_icmp .ge 40, 3) := by decide +kernel
theorem dX11_buildsBucket_101 : decode cX11_buildsBucket 101 = .ok (.aload_n 0, 1) := by decide +kernel
theorem dX11_buildsBucket_102 : decode cX11_buildsBucket 102 = .ok (.getfield 24, 3) := by decide +kernel
theorem dX11_buildsBucket_105 : decode cX11_buildsBucket 105 = .ok (.iload 4, 2) := by decide +kernel
theorem dX11_buildsBucket_107 : decode cX11_buildsBucket 107 = .ok (.iaload, 1) := by decide +kernel
theorem dX11_buildsBucket_108 : decode cX11_buildsBucket 108 = .ok (.iload_n 2, 1) := by decide +kernel
theorem dX11_buildsBucket_109 : decode cX11_buildsBucket 109 = .ok (.if_icmp .ne 23, 3) := by decide +kernel
theorem dX11_buildsBucket_112 : decode cX11_buildsBucket 112 = .ok (.aload_n 0, 1) := by decide +kernel
theorem dX11_buildsBucket_113 : decode cX11_buildsBucket 113 = .ok (.getfield 27, 3) := by decide +kernel
theorem dX11_buildsBucket_116 : decode cX11_buildsBucket 116 = .ok (.iload 4, 2) := by decide +kernel
theorem dX11_buildsBucket_118 : decode cX11_buildsBucket 118 = .ok (.aload_n 0, 1) := by decide +kernel
theorem dX11_buildsBucket_119 : decode cX11_buildsBucket 119 = .ok (.iload_n 1, 1) := by decide +kernel
theorem dX11_buildsBucket_120 : decode cX11_buildsBucket 120 = .ok (.iload_n 2, 1) := by decide +kernel
theorem dX11_buildsBucket_121 : decode cX11_buildsBucket 121 = .ok (.aload_n 0, 1) := by decide +kernel
theorem dX11_buildsBucket_122 : decode cX11_buildsBucket 122 = .ok (.getfield 17, 3) := by decide +kernel
theorem dX11_buildsBucket_125 : decode cX11_buildsBucket 125 = .ok (.iload 4, 2) := by decide +kernel
theorem dX11_buildsBucket_127 : decode cX11_buildsBucket 127 = .ok (.iaload, 1) := by decide +kernel
theorem dX11_buildsBucket_128 : decode cX11_buildsBucket 128 = .ok (.invokevirtual 148, 3) := by decide +kernel
theorem dX11_buildsBucket_131 : decode cX11_buildsBucket 131 = .ok (.iastore, 1) := by decide +kernel
theorem dX11_buildsBucket_132 : decode cX11_buildsBucket 132 = .ok (.iinc 4 1, 3) := by decide +kernel
theorem dX11_buildsBucket_135 : decode cX11_buildsBucket 135 = .ok (.goto (-50), 3) := by decide +kernel
theorem dX11_buildsBucket_138 : decode cX11_buildsBucket 138 = .ok (.return_, 1) := by decide +kernel
