theorem dX11_tries_0 : decode cX11_tries 0 = .ok (.aload_n 0, 1) := by decide +kernel
theorem dX11_tries_1 : decode cX11_tries 1 = .ok (.iconst 0, 1) := by decide +kernel
theorem dX11_tries_2 : decode cX11_tries 2 = .ok (.putfield 73, 3) := by decide +kernel
theorem dX11_tries_5 : decode cX11_tries 5 = .ok (.aload_n 0, 1) := by decide +kernel
theorem dX11_tries_6 : decode cX11_tries 6 = .ok (.iload_n 1, 1) := by decide +kernel
theorem dX11_tries_7 : decode cX11_tries 7 = .ok (.iload_n 2, 1) := by decide +kernel
theorem dX11_tries_8 : decode cX11_tries 8 = .ok (.invokevirtual 246, 3) := by decide +kernel
theorem dX11_tries_11 : decode cX11_tries 11 = .ok (.ifCond .eq 35, 3) := by decide +kernel
theorem dX11_tries_14 : decode cX11_tries 14 = .ok (.iload_n 3, 1) := by decide +kernel
theorem dX11_tries_15 : decode cX11_tries 15 = .ok (.i2l, 1) := by decide +kernel
theorem dX11_tries_16 : decode cX11_tries 16 = .ok (.lconst 1, 1) := by decide +kernel
theorem dX11_tries_17 : decode cX11_tries 17 = .ok (.ldc2_w 186, 3) := by decide +kernel
theorem dX11_tries_20 : decode cX11_tries 20 = .ok (.invokestatic 83, 3) := by decide +kernel
theorem dX11_tries_23 : decode cX11_tries 23 = .ok (.ifCond .eq 23, 3) := by decide +kernel
theorem dX11_tries_26 : decode cX11_tries 26 = .ok (.iload 6, 2) := by decide +kernel
theorem dX11_tries_28 : decode cX11_tries 28 = .ok (.i2l, 1) := by decide +kernel
theorem dX11_tries_29 : decode cX11_tries 29 = .ok (.lconst 0, 1) := by decide +kernel
theorem dX11_tries_30 : decode cX11_tries 30 = .ok (.lconst 1, 1) := by decide +kernel
theorem dX11_tries_31 : decode cX11_tries 31 = .ok (.invokestatic 83, 3) := by decide +kernel
theorem dX11_tries_34 : decode cX11_tries 34 = .ok (.ifCond .eq 12, 3) := by decide +kernel
theorem dX11_tries_37 : decode cX11_tries 37 = .ok (.aload_n 0, 1) := by decide +kernel
theorem dX11_tries_38 : decode cX11_tries 38 = .ok (.iload_n 1, 1) := by decide +kernel
theorem dX11_tries_39 : decode cX11_tries 39 = .ok (.iload_n 2, 1) := by decide +kernel
theorem dX11_tries_40 : decode cX11_tries 40 = .ok (.invokevirtual 137, 3) := by decide +kernel
theorem dX11_tries_43 : decode cX11_tries 43 = .ok (.ifCond .ne 6, 3) := by decide +kernel
theorem dX11_tries_46 : decode cX11_tries 46 = .ok (.bipush (-2), 2) := by decide +kernel
theorem dX11_tries_48 : decode cX11_tries 48 = .ok (.ireturn, 1) := by decide +kernel
theorem dX11_tries_49 : decode cX11_tries 49 = .ok (.aload_n 0, 1) := by decide +kernel
theorem dX11_tries_50 : decode cX11_tries 50 = .ok (.lload 4, 2) := by decide +kernel
theorem dX11_tries_52 : decode cX11_tries 52 = .ok (.putfield 105, 3) := by decide +kernel
theorem dX11_tries_55 : decode cX11_tries 55 = .ok (.iconst (-1), 1) := by decide +kernel
theorem dX11_tries_56 : decode cX11_tries 56 = .ok (.istore 7, 2) := by decide +kernel
theorem dX11_tries_58 : decode cX11_tries 58 = .ok (.iconst 0, 1) := by decide +kernel
theorem dX11_tries_59 : decode cX11_tries 59 = .ok (.istore 8, 2) := by decide +kernel
theorem dX11_tries_61 : decode cX11_tries 61 = .ok (.iconst 0, 1) := by decide +kernel
theorem dX11_tries_62 : decode cX11_tries 62 = .ok (.istore 9, 2) := by decide +kernel
theorem dX11_tries_64 : decode cX11_tries 64 = .ok (.iload 9, 2) := by decide +kernel
theorem dX11_tries_66 : decode cX11_tries 66 = .ok (.iload_n 3, 1) := by decide +kernel
theorem dX11_tries_67 : decode cX11_tries 67 = .ok (.if_icmp .ge 51, 3) := by decide +kernel
theorem dX11_tries_70 : decode cX11_tries 70 = .ok (.aload_n 0, 1) := by decide +kernel
theorem dX11_tries_71 : decode cX11_tries 71 = .ok (.invokevirtual 141, 3) := by decide +kernel
theorem dX11_tries_74 : decode cX11_tries 74 = .ok (.aload_n 0, 1) := by decide +kernel
theorem dX11_tries_75 : decode cX11_tries 75 = .ok (.iload_n 1, 1) := by decide +kernel
theorem dX11_tries_76 : decode cX11_tries 76 = .ok (.iload_n 2, 1) := by decide +kernel
theorem dX11_tries_77 : decode cX11_tries 77 = .ok (.aload_n 0, 1) := by decide +kernel
theorem dX11_tries_78 : decode cX11_tries 78 = .ok (.getfield 117, 3) := by decide +kernel
theorem dX11_tries_81 : decode cX11_tries 81 = .ok (.aload_n 0, 1) := by decide +kernel
theorem dX11_tries_82 : decode cX11_tries 82 = .ok (.getfield 120, 3) := by decide +kernel
theorem dX11_tries_85 : decode cX11_tries 85 = .ok (.invokevirtual 144, 3) := by decide +kernel
theorem dX11_tries_88 : decode cX11_tries 88 = .ok (.ifCond .le 6, 3) := by decide +kernel
theorem dX11_tries_91 : decode cX11_tries 91 = .ok (.goto 21, 3) := by decide +kernel
theorem dX11_tries_94 : decode cX11_tries 94 = .ok (.iload 7, 2) := by decide +kernel
theorem dX11_tries_96 : decode cX11_tries 96 = .ok (.iconst (-1), 1) := by decide +kernel
theorem dX11_tries_97 : decode cX11_tries 97 = .ok (.if_icmp .ne 8, 3) := by decide +kernel
theorem dX11_tries_100 : decode cX11_tries 100 = .ok (.iload 9, 2) := by decide +kernel
theorem dX11_tries_102 : decode cX11_tries 102 = .ok (.goto 5, 3) := by decide +kernel
theorem dX11_tries_105 : decode cX11_tries 105 = .ok (.iload 7, 2) := by decide +kernel
theorem dX11_tries_107 : decode cX11_tries 107 = .ok (.istore 7, 2) := by decide +kernel
theorem dX11_tries_109 : decode cX11_tries 109 = .ok (.iinc 8 1, 3) := by decide +kernel
theorem dX11_tries_112 : decode cX11_tries 112 = .ok (.iinc 9 1, 3) := by decide +kernel
theorem dX11_tries_115 : decode cX11_tries 115 = .ok (.goto (-51), 3) := by decide +kernel
theorem dX11_tries_118 : decode cX11_tries 118 = .ok (.iload 6, 2) := by decide +kernel
theorem dX11_tries_120 : decode cX11_tries 120 = .ok (.ifCond .ne 8, 3) := by decide +kernel
theorem dX11_tries_123 : decode cX11_tries 123 = .ok (.iload 7, 2) := by decide +kernel
theorem dX11_tries_125 : decode cX11_tries 125 = .ok (.goto 5, 3) := by decide +kernel
theorem dX11_tries_128 : decode cX11_tries 128 = .ok (.iload 8, 2) := by decide +kernel
theorem dX11_tries_130 : decode cX11_tries 130 = .ok (.ireturn, 1) := by decide +kernel
