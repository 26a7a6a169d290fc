theorem dX3_nthByRooms_0 : decode cX3_nthByRooms 0 = .ok (.iconst 0, 1) := by decide +kernel
theorem dX3_nthByRooms_1 : decode cX3_nthByRooms 1 = .ok (.istore_n 2, 1) := by decide +kernel
theorem dX3_nthByRooms_2 : decode cX3_nthByRooms 2 = .ok (.iload_n 1, 1) := by decide +kernel
theorem dX3_nthByRooms_3 : decode cX3_nthByRooms 3 = .ok (.istore_n 3, 1) := by decide +kernel
theorem dX3_nthByRooms_4 : decode cX3_nthByRooms 4 = .ok (.iload_n 2, 1) := by decide +kernel
theorem dX3_nthByRooms_5 : decode cX3_nthByRooms 5 = .ok (.aload_n 0, 1) := by decide +kernel
theorem dX3_nthByRooms_6 : decode cX3_nthByRooms 6 = .ok (.getfield 36, 3) := by decide +kernel
theorem dX3_nthByRooms_9 : decode cX3_nthByRooms 9 = .ok (.if_icmp .ge 28, 3) := by decide +kernel
theorem dX3_nthByRooms_12 : decode cX3_nthByRooms 12 = .ok (.iload_n 3, 1) := by decide +kernel
theorem dX3_nthByRooms_13 : decode cX3_nthByRooms 13 = .ok (.aload_n 0, 1) := by decide +kernel
theorem dX3_nthByRooms_14 : decode cX3_nthByRooms 14 = .ok (.getfield 9, 3) := by decide +kernel
theorem dX3_nthByRooms_17 : decode cX3_nthByRooms 17 = .ok (.iload_n 2, 1) := by decide +kernel
theorem dX3_nthByRooms_18 : decode cX3_nthByRooms 18 = .ok (.iaload, 1) := by decide +kernel
theorem dX3_nthByRooms_19 : decode cX3_nthByRooms 19 = .ok (.if_icmp .lt 18, 3) := by decide +kernel
theorem dX3_nthByRooms_22 : decode cX3_nthByRooms 22 = .ok (.iload_n 3, 1) := by decide +kernel
theorem dX3_nthByRooms_23 : decode cX3_nthByRooms 23 = .ok (.aload_n 0, 1) := by decide +kernel
theorem dX3_nthByRooms_24 : decode cX3_nthByRooms 24 = .ok (.getfield 9, 3) := by decide +kernel
theorem dX3_nthByRooms_27 : decode cX3_nthByRooms 27 = .ok (.iload_n 2, 1) := by decide +kernel
theorem dX3_nthByRooms_28 : decode cX3_nthByRooms 28 = .ok (.iaload, 1) := by decide +kernel
theorem dX3_nthByRooms_29 : decode cX3_nthByRooms 29 = .ok (.isub, 1) := by decide +kernel
theorem dX3_nthByRooms_30 : decode cX3_nthByRooms 30 = .ok (.istore_n 3, 1) := by decide +kernel
theorem dX3_nthByRooms_31 : decode cX3_nthByRooms 31 = .ok (.iinc 2 1, 3) := by decide +kernel
theorem dX3_nthByRooms_34 : decode cX3_nthByRooms 34 = .ok (.goto (-30), 3) := by decide +kernel
theorem dX3_nthByRooms_37 : decode cX3_nthByRooms 37 = .ok (.aload_n 0, 1) := by decide +kernel
theorem dX3_nthByRooms_38 : decode cX3_nthByRooms 38 = .ok (.iload_n 2, 1) := by decide +kernel
theorem dX3_nthByRooms_39 : decode cX3_nthByRooms 39 = .ok (.invokevirtual 57, 3) := by decide +kernel
theorem dX3_nthByRooms_42 : decode cX3_nthByRooms 42 = .ok (.istore 4, 2) := by decide +kernel
theorem dX3_nthByRooms_44 : decode cX3_nthByRooms 44 = .ok (.iconst 0, 1) := by decide +kernel
theorem dX3_nthByRooms_45 : decode cX3_nthByRooms 45 = .ok (.istore 5, 2) := by decide +kernel
theorem dX3_nthByRooms_47 : decode cX3_nthByRooms 47 = .ok (.iload 5, 2) := by decide +kernel
theorem dX3_nthByRooms_49 : decode cX3_nthByRooms 49 = .ok (.iload 4, 2) := by decide +kernel
theorem dX3_nthByRooms_51 : decode cX3_nthByRooms 51 = .ok (.if_icmp .ge 72, 3) := by decide +kernel
theorem dX3_nthByRooms_54 : decode cX3_nthByRooms 54 = .ok (.iconst 0, 1) := by decide +kernel
theorem dX3_nthByRooms_55 : decode cX3_nthByRooms 55 = .ok (.istore 6, 2) := by decide +kernel
theorem dX3_nthByRooms_57 : decode cX3_nthByRooms 57 = .ok (.iconst 0, 1) := by decide +kernel
theorem dX3_nthByRooms_58 : decode cX3_nthByRooms 58 = .ok (.istore 7, 2) := by decide +kernel
theorem dX3_nthByRooms_60 : decode cX3_nthByRooms 60 = .ok (.iload 7, 2) := by decide +kernel
theorem dX3_nthByRooms_62 : decode cX3_nthByRooms 62 = .ok (.iload 4, 2) := by decide +kernel
theorem dX3_nthByRooms_64 : decode cX3_nthByRooms 64 = .ok (.if_icmp .ge 39, 3) := by decide +kernel
theorem dX3_nthByRooms_67 : decode cX3_nthByRooms 67 = .ok (.aload_n 0, 1) := by decide +kernel
theorem dX3_nthByRooms_68 : decode cX3_nthByRooms 68 = .ok (.getfield 30, 3) := by decide +kernel
theorem dX3_nthByRooms_71 : decode cX3_nthByRooms 71 = .ok (.aload_n 0, 1) := by decide +kernel
theorem dX3_nthByRooms_72 : decode cX3_nthByRooms 72 = .ok (.getfield 33, 3) := by decide +kernel
theorem dX3_nthByRooms_75 : decode cX3_nthByRooms 75 = .ok (.iload 7, 2) := by decide +kernel
theorem dX3_nthByRooms_77 : decode cX3_nthByRooms 77 = .ok (.iaload, 1) := by decide +kernel
theorem dX3_nthByRooms_78 : decode cX3_nthByRooms 78 = .ok (.iaload, 1) := by decide +kernel
theorem dX3_nthByRooms_79 : decode cX3_nthByRooms 79 = .ok (.aload_n 0, 1) := by decide +kernel
theorem dX3_nthByRooms_80 : decode cX3_nthByRooms 80 = .ok (.getfield 30, 3) := by decide +kernel
theorem dX3_nthByRooms_83 : decode cX3_nthByRooms 83 = .ok (.aload_n 0, 1) := by decide +kernel
theorem dX3_nthByRooms_84 : decode cX3_nthByRooms 84 = .ok (.getfield 33, 3) := by decide +kernel
theorem dX3_nthByRooms_87 : decode cX3_nthByRooms 87 = .ok (.iload 5, 2) := by decide +kernel
theorem dX3_nthByRooms_89 : decode cX3_nthByRooms 89 = .ok (.iaload, 1) := by decide +kernel
theorem dX3_nthByRooms_90 : decode cX3_nthByRooms 90 = .ok (.iaload, 1) := by decide +kernel
theorem dX3_nthByRooms_91 : decode cX3_nthByRooms 91 = .ok (.if_icmp .ge 6, 3) := by decide +kernel
theorem dX3_nthByRooms_94 : decode cX3_nthByRooms 94 = .ok (.iinc 6 1, 3) := by decide +kernel
theorem dX3_nthByRooms_97 : decode cX3_nthByRooms 97 = .ok (.iinc 7 1, 3) := by decide +kernel
theorem dX3_nthByRooms_100 : decode cX3_nthByRooms 100 = .ok (.goto (-40), 3) := by decide +kernel
theorem dX3_nthByRooms_103 : decode cX3_nthByRooms 103 = .ok (.iload 6, 2) := by decide +kernel
theorem dX3_nthByRooms_105 : decode cX3_nthByRooms 105 = .ok (.iload_n 3, 1) := by decide +kernel
theorem dX3_nthByRooms_106 : decode cX3_nthByRooms 106 = .ok (.if_icmp .ne 11, 3) := by decide +kernel
theorem dX3_nthByRooms_109 : decode cX3_nthByRooms 109 = .ok (.aload_n 0, 1) := by decide +kernel
theorem dX3_nthByRooms_110 : decode cX3_nthByRooms 110 = .ok (.getfield 33, 3) := by decide +kernel
theorem dX3_nthByRooms_113 : decode cX3_nthByRooms 113 = .ok (.iload 5, 2) := by decide +kernel
theorem dX3_nthByRooms_115 : decode cX3_nthByRooms 115 = .ok (.iaload, 1) := by decide +kernel
theorem dX3_nthByRooms_116 : decode cX3_nthByRooms 116 = .ok (.ireturn, 1) := by decide +kernel
theorem dX3_nthByRooms_117 : decode cX3_nthByRooms 117 = .ok (.iinc 5 1, 3) := by decide +kernel
theorem dX3_nthByRooms_120 : decode cX3_nthByRooms 120 = .ok (.goto (-73), 3) := by decide +kernel
theorem dX3_nthByRooms_123 : decode cX3_nthByRooms 123 = .ok (.iconst (-1), 1) := by decide +kernel
theorem dX3_nthByRooms_124 : decode cX3_nthByRooms 124 = .ok (.ireturn, 1) := by decide +kernel
