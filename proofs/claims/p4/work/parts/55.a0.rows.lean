theorem dX11_number_0 : decode cX11_number 0 = .ok (.aload_n 0, 1) := by decide +kernel
theorem dX11_number_1 : decode cX11_number 1 = .ok (.invokevirtual 306, 3) := by decide +kernel
theorem dX11_number_4 : decode cX11_number 4 = .ok (.istore_n 2, 1) := by decide +kernel
theorem dX11_number_5 : decode cX11_number 5 = .ok (.iconst 0, 1) := by decide +kernel
theorem dX11_number_6 : decode cX11_number 6 = .ok (.istore_n 3, 1) := by decide +kernel
theorem dX11_number_7 : decode cX11_number 7 = .ok (.aload_n 0, 1) := by decide +kernel
theorem dX11_number_8 : decode cX11_number 8 = .ok (.iload_n 2, 1) := by decide +kernel
theorem dX11_number_9 : decode cX11_number 9 = .ok (.iload_n 3, 1) := by decide +kernel
theorem dX11_number_10 : decode cX11_number 10 = .ok (.iadd, 1) := by decide +kernel
theorem dX11_number_11 : decode cX11_number 11 = .ok (.invokevirtual 332, 3) := by decide +kernel
theorem dX11_number_14 : decode cX11_number 14 = .ok (.ifCond .eq 9, 3) := by decide +kernel
theorem dX11_number_17 : decode cX11_number 17 = .ok (.iinc 3 1, 3) := by decide +kernel
theorem dX11_number_20 : decode cX11_number 20 = .ok (.goto (-13), 3) := by decide +kernel
theorem dX11_number_23 : decode cX11_number 23 = .ok (.aload_n 0, 1) := by decide +kernel
theorem dX11_number_24 : decode cX11_number 24 = .ok (.invokevirtual 313, 3) := by decide +kernel
theorem dX11_number_27 : decode cX11_number 27 = .ok (.ifCond .eq 25, 3) := by decide +kernel
theorem dX11_number_30 : decode cX11_number 30 = .ok (.iload_n 3, 1) := by decide +kernel
theorem dX11_number_31 : decode cX11_number 31 = .ok (.ifCond .eq 17, 3) := by decide +kernel
theorem dX11_number_34 : decode cX11_number 34 = .ok (.iload_n 3, 1) := by decide +kernel
theorem dX11_number_35 : decode cX11_number 35 = .ok (.bipush 6, 2) := by decide +kernel
theorem dX11_number_37 : decode cX11_number 37 = .ok (.if_icmp .gt 11, 3) := by decide +kernel
theorem dX11_number_40 : decode cX11_number 40 = .ok (.iload_n 2, 1) := by decide +kernel
theorem dX11_number_41 : decode cX11_number 41 = .ok (.aload_n 0, 1) := by decide +kernel
theorem dX11_number_42 : decode cX11_number 42 = .ok (.getfield 326, 3) := by decide +kernel
theorem dX11_number_45 : decode cX11_number 45 = .ok (.if_icmp .ne 7, 3) := by decide +kernel
theorem dX11_number_48 : decode cX11_number 48 = .ok (.aload_n 0, 1) := by decide +kernel
theorem dX11_number_49 : decode cX11_number 49 = .ok (.invokevirtual 320, 3) := by decide +kernel
theorem dX11_number_52 : decode cX11_number 52 = .ok (.aload_n 0, 1) := by decide +kernel
theorem dX11_number_53 : decode cX11_number 53 = .ok (.invokevirtual 313, 3) := by decide +kernel
theorem dX11_number_56 : decode cX11_number 56 = .ok (.ifCond .ne 5, 3) := by decide +kernel
theorem dX11_number_59 : decode cX11_number 59 = .ok (.iconst 0, 1) := by decide +kernel
theorem dX11_number_60 : decode cX11_number 60 = .ok (.ireturn, 1) := by decide +kernel
theorem dX11_number_61 : decode cX11_number 61 = .ok (.iconst 0, 1) := by decide +kernel
theorem dX11_number_62 : decode cX11_number 62 = .ok (.istore 4, 2) := by decide +kernel
theorem dX11_number_64 : decode cX11_number 64 = .ok (.iconst 0, 1) := by decide +kernel
theorem dX11_number_65 : decode cX11_number 65 = .ok (.istore 5, 2) := by decide +kernel
theorem dX11_number_67 : decode cX11_number 67 = .ok (.iload 5, 2) := by decide +kernel
theorem dX11_number_69 : decode cX11_number 69 = .ok (.iload_n 3, 1) := by decide +kernel
theorem dX11_number_70 : decode cX11_number 70 = .ok (.if_icmp .ge 29, 3) := by decide +kernel
theorem dX11_number_73 : decode cX11_number 73 = .ok (.bipush 10, 2) := by decide +kernel
theorem dX11_number_75 : decode cX11_number 75 = .ok (.iload 4, 2) := by decide +kernel
theorem dX11_number_77 : decode cX11_number 77 = .ok (.imul, 1) := by decide +kernel
theorem dX11_number_78 : decode cX11_number 78 = .ok (.aload_n 0, 1) := by decide +kernel
theorem dX11_number_79 : decode cX11_number 79 = .ok (.getfield 7, 3) := by decide +kernel
theorem dX11_number_82 : decode cX11_number 82 = .ok (.iload_n 2, 1) := by decide +kernel
theorem dX11_number_83 : decode cX11_number 83 = .ok (.iload 5, 2) := by decide +kernel
theorem dX11_number_85 : decode cX11_number 85 = .ok (.iadd, 1) := by decide +kernel
theorem dX11_number_86 : decode cX11_number 86 = .ok (.baload, 1) := by decide +kernel
theorem dX11_number_87 : decode cX11_number 87 = .ok (.iadd, 1) := by decide +kernel
theorem dX11_number_88 : decode cX11_number 88 = .ok (.bipush 48, 2) := by decide +kernel
theorem dX11_number_90 : decode cX11_number 90 = .ok (.isub, 1) := by decide +kernel
theorem dX11_number_91 : decode cX11_number 91 = .ok (.istore 4, 2) := by decide +kernel
theorem dX11_number_93 : decode cX11_number 93 = .ok (.iinc 5 1, 3) := by decide +kernel
theorem dX11_number_96 : decode cX11_number 96 = .ok (.goto (-29), 3) := by decide +kernel
theorem dX11_number_99 : decode cX11_number 99 = .ok (.aload_n 0, 1) := by decide +kernel
theorem dX11_number_100 : decode cX11_number 100 = .ok (.iload_n 2, 1) := by decide +kernel
theorem dX11_number_101 : decode cX11_number 101 = .ok (.iload_n 3, 1) := by decide +kernel
theorem dX11_number_102 : decode cX11_number 102 = .ok (.iadd, 1) := by decide +kernel
theorem dX11_number_103 : decode cX11_number 103 = .ok (.putfield 303, 3) := by decide +kernel
theorem dX11_number_106 : decode cX11_number 106 = .ok (.aload_n 0, 1) := by decide +kernel
theorem dX11_number_107 : decode cX11_number 107 = .ok (.aload_n 0, 1) := by decide +kernel
theorem dX11_number_108 : decode cX11_number 108 = .ok (.getfield 303, 3) := by decide +kernel
theorem dX11_number_111 : decode cX11_number 111 = .ok (.putfield 326, 3) := by decide +kernel
theorem dX11_number_114 : decode cX11_number 114 = .ok (.iload 4, 2) := by decide +kernel
theorem dX11_number_116 : decode cX11_number 116 = .ok (.iload_n 1, 1) := by decide +kernel
theorem dX11_number_117 : decode cX11_number 117 = .ok (.if_icmp .le 9, 3) := by decide +kernel
theorem dX11_number_120 : decode cX11_number 120 = .ok (.aload_n 0, 1) := by decide +kernel
theorem dX11_number_121 : decode cX11_number 121 = .ok (.iconst 2, 1) := by decide +kernel
theorem dX11_number_122 : decode cX11_number 122 = .ok (.iload_n 2, 1) := by decide +kernel
theorem dX11_number_123 : decode cX11_number 123 = .ok (.invokevirtual 310, 3) := by decide +kernel
theorem dX11_number_126 : decode cX11_number 126 = .ok (.iload 4, 2) := by decide +kernel
theorem dX11_number_128 : decode cX11_number 128 = .ok (.ireturn, 1) := by decide +kernel
