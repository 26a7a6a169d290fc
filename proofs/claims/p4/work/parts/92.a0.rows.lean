theorem dX6_parse_0 : decode cX6_parse 0 = .ok (.aload_n 0, 1) := by decide +kernel
theorem dX6_parse_1 : decode cX6_parse 1 = .ok (.iconst 0, 1) := by decide +kernel
theorem dX6_parse_2 : decode cX6_parse 2 = .ok (.putfield 32, 3) := by decide +kernel
theorem dX6_parse_5 : decode cX6_parse 5 = .ok (.aload_n 0, 1) := by decide +kernel
theorem dX6_parse_6 : decode cX6_parse 6 = .ok (.getfield 12, 3) := by decide +kernel
theorem dX6_parse_9 : decode cX6_parse 9 = .ok (.iconst 0, 1) := by decide +kernel
theorem dX6_parse_10 : decode cX6_parse 10 = .ok (.putfield 36, 3) := by decide +kernel
theorem dX6_parse_13 : decode cX6_parse 13 = .ok (.aload_n 0, 1) := by decide +kernel
theorem dX6_parse_14 : decode cX6_parse 14 = .ok (.iconst 0, 1) := by decide +kernel
theorem dX6_parse_15 : decode cX6_parse 15 = .ok (.putfield 39, 3) := by decide +kernel
theorem dX6_parse_18 : decode cX6_parse 18 = .ok (.aload_n 0, 1) := by decide +kernel
theorem dX6_parse_19 : decode cX6_parse 19 = .ok (.iconst 0, 1) := by decide +kernel
theorem dX6_parse_20 : decode cX6_parse 20 = .ok (.putfield 42, 3) := by decide +kernel
theorem dX6_parse_23 : decode cX6_parse 23 = .ok (.aload_n 0, 1) := by decide +kernel
theorem dX6_parse_24 : decode cX6_parse 24 = .ok (.iconst 0, 1) := by decide +kernel
theorem dX6_parse_25 : decode cX6_parse 25 = .ok (.putfield 46, 3) := by decide +kernel
theorem dX6_parse_28 : decode cX6_parse 28 = .ok (.aload_n 0, 1) := by decide +kernel
theorem dX6_parse_29 : decode cX6_parse 29 = .ok (.iconst 0, 1) := by decide +kernel
theorem dX6_parse_30 : decode cX6_parse 30 = .ok (.putfield 49, 3) := by decide +kernel
theorem dX6_parse_33 : decode cX6_parse 33 = .ok (.aload_n 0, 1) := by decide +kernel
theorem dX6_parse_34 : decode cX6_parse 34 = .ok (.iconst 0, 1) := by decide +kernel
theorem dX6_parse_35 : decode cX6_parse 35 = .ok (.putfield 52, 3) := by decide +kernel
theorem dX6_parse_38 : decode cX6_parse 38 = .ok (.iload_n 2, 1) := by decide +kernel
theorem dX6_parse_39 : decode cX6_parse 39 = .ok (.sipush 600, 3) := by decide +kernel
theorem dX6_parse_42 : decode cX6_parse 42 = .ok (.if_icmp .le 12, 3) := by decide +kernel
theorem dX6_parse_45 : decode cX6_parse 45 = .ok (.aload_n 0, 1) := by decide +kernel
theorem dX6_parse_46 : decode cX6_parse 46 = .ok (.iconst 1, 1) := by decide +kernel
theorem dX6_parse_47 : decode cX6_parse 47 = .ok (.sipush 600, 3) := by decide +kernel
theorem dX6_parse_50 : decode cX6_parse 50 = .ok (.invokevirtual 55, 3) := by decide +kernel
theorem dX6_parse_53 : decode cX6_parse 53 = .ok (.return_, 1) := by decide +kernel
theorem dX6_parse_54 : decode cX6_parse 54 = .ok (.aload_n 0, 1) := by decide +kernel
theorem dX6_parse_55 : decode cX6_parse 55 = .ok (.getfield 21, 3) := by decide +kernel
theorem dX6_parse_58 : decode cX6_parse 58 = .ok (.aload_n 1, 1) := by decide +kernel
theorem dX6_parse_59 : decode cX6_parse 59 = .ok (.iload_n 2, 1) := by decide +kernel
theorem dX6_parse_60 : decode cX6_parse 60 = .ok (.invokevirtual 59, 3) := by decide +kernel
theorem dX6_parse_63 : decode cX6_parse 63 = .ok (.iconst 0, 1) := by decide +kernel
theorem dX6_parse_64 : decode cX6_parse 64 = .ok (.istore_n 3, 1) := by decide +kernel
theorem dX6_parse_65 : decode cX6_parse 65 = .ok (.iload_n 3, 1) := by decide +kernel
theorem dX6_parse_66 : decode cX6_parse 66 = .ok (.iload_n 2, 1) := by decide +kernel
theorem dX6_parse_67 : decode cX6_parse 67 = .ok (.if_icmp .gt 56, 3) := by decide +kernel
theorem dX6_parse_70 : decode cX6_parse 70 = .ok (.aload_n 0, 1) := by decide +kernel
theorem dX6_parse_71 : decode cX6_parse 71 = .ok (.getfield 39, 3) := by decide +kernel
theorem dX6_parse_74 : decode cX6_parse 74 = .ok (.bipush 6, 2) := by decide +kernel
theorem dX6_parse_76 : decode cX6_parse 76 = .ok (.if_icmp .eq 47, 3) := by decide +kernel
theorem dX6_parse_79 : decode cX6_parse 79 = .ok (.aload_n 0, 1) := by decide +kernel
theorem dX6_parse_80 : decode cX6_parse 80 = .ok (.getfield 21, 3) := by decide +kernel
theorem dX6_parse_83 : decode cX6_parse 83 = .ok (.invokevirtual 63, 3) := by decide +kernel
theorem dX6_parse_86 : decode cX6_parse 86 = .ok (.aload_n 0, 1) := by decide +kernel
theorem dX6_parse_87 : decode cX6_parse 87 = .ok (.aload_n 0, 1) := by decide +kernel
theorem dX6_parse_88 : decode cX6_parse 88 = .ok (.getfield 21, 3) := by decide +kernel
theorem dX6_parse_91 : decode cX6_parse 91 = .ok (.getfield 66, 3) := by decide +kernel
theorem dX6_parse_94 : decode cX6_parse 94 = .ok (.invokevirtual 69, 3) := by decide +kernel
theorem dX6_parse_97 : decode cX6_parse 97 = .ok (.aload_n 0, 1) := by decide +kernel
theorem dX6_parse_98 : decode cX6_parse 98 = .ok (.getfield 32, 3) := by decide +kernel
theorem dX6_parse_101 : decode cX6_parse 101 = .ok (.ifCond .eq 16, 3) := by decide +kernel
theorem dX6_parse_104 : decode cX6_parse 104 = .ok (.aload_n 0, 1) := by decide +kernel
theorem dX6_parse_105 : decode cX6_parse 105 = .ok (.getfield 42, 3) := by decide +kernel
theorem dX6_parse_108 : decode cX6_parse 108 = .ok (.ifCond .ne 9, 3) := by decide +kernel
theorem dX6_parse_111 : decode cX6_parse 111 = .ok (.aload_n 0, 1) := by decide +kernel
theorem dX6_parse_112 : decode cX6_parse 112 = .ok (.bipush 6, 2) := by decide +kernel
theorem dX6_parse_114 : decode cX6_parse 114 = .ok (.putfield 39, 3) := by decide +kernel
theorem dX6_parse_117 : decode cX6_parse 117 = .ok (.iinc 3 1, 3) := by decide +kernel
theorem dX6_parse_120 : decode cX6_parse 120 = .ok (.goto (-55), 3) := by decide +kernel
theorem dX6_parse_123 : decode cX6_parse 123 = .ok (.return_, 1) := by decide +kernel
