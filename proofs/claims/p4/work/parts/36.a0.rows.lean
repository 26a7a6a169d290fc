theorem dX11_values_0 : decode cX11_values 0 = .ok (.aload_n 0, 1) := by decide +kernel
theorem dX11_values_1 : decode cX11_values 1 = .ok (.iconst 0, 1) := by decide +kernel
theorem dX11_values_2 : decode cX11_values 2 = .ok (.putfield 73, 3) := by decide +kernel
theorem dX11_values_5 : decode cX11_values 5 = .ok (.aload_n 0, 1) := by decide +kernel
theorem dX11_values_6 : decode cX11_values 6 = .ok (.iload_n 1, 1) := by decide +kernel
theorem dX11_values_7 : decode cX11_values 7 = .ok (.invokevirtual 222, 3) := by decide +kernel
theorem dX11_values_10 : decode cX11_values 10 = .ok (.ifCond .eq 15, 3) := by decide +kernel
theorem dX11_values_13 : decode cX11_values 13 = .ok (.iload_n 2, 1) := by decide +kernel
theorem dX11_values_14 : decode cX11_values 14 = .ok (.i2l, 1) := by decide +kernel
theorem dX11_values_15 : decode cX11_values 15 = .ok (.lconst 0, 1) := by decide +kernel
theorem dX11_values_16 : decode cX11_values 16 = .ok (.ldc2_w 210, 3) := by decide +kernel
theorem dX11_values_19 : decode cX11_values 19 = .ok (.invokestatic 83, 3) := by decide +kernel
theorem dX11_values_22 : decode cX11_values 22 = .ok (.ifCond .ne 7, 3) := by decide +kernel
theorem dX11_values_25 : decode cX11_values 25 = .ok (.ldc2_w 235, 3) := by decide +kernel
theorem dX11_values_28 : decode cX11_values 28 = .ok (.lreturn, 1) := by decide +kernel
theorem dX11_values_29 : decode cX11_values 29 = .ok (.iconst (-1), 1) := by decide +kernel
theorem dX11_values_30 : decode cX11_values 30 = .ok (.istore_n 3, 1) := by decide +kernel
theorem dX11_values_31 : decode cX11_values 31 = .ok (.lconst 0, 1) := by decide +kernel
theorem dX11_values_32 : decode cX11_values 32 = .ok (.lstore 4, 2) := by decide +kernel
theorem dX11_values_34 : decode cX11_values 34 = .ok (.sipush 160, 3) := by decide +kernel
theorem dX11_values_37 : decode cX11_values 37 = .ok (.iload_n 1, 1) := by decide +kernel
theorem dX11_values_38 : decode cX11_values 38 = .ok (.imul, 1) := by decide +kernel
theorem dX11_values_39 : decode cX11_values 39 = .ok (.istore 6, 2) := by decide +kernel
theorem dX11_values_41 : decode cX11_values 41 = .ok (.iload 6, 2) := by decide +kernel
theorem dX11_values_43 : decode cX11_values 43 = .ok (.sipush 160, 3) := by decide +kernel
theorem dX11_values_46 : decode cX11_values 46 = .ok (.iload_n 1, 1) := by decide +kernel
theorem dX11_values_47 : decode cX11_values 47 = .ok (.imul, 1) := by decide +kernel
theorem dX11_values_48 : decode cX11_values 48 = .ok (.aload_n 0, 1) := by decide +kernel
theorem dX11_values_49 : decode cX11_values 49 = .ok (.iload_n 1, 1) := by decide +kernel
theorem dX11_values_50 : decode cX11_values 50 = .ok (.invokevirtual 95, 3) := by decide +kernel
theorem dX11_values_53 : decode cX11_values 53 = .ok (.iadd, 1) := by decide +kernel
theorem dX11_values_54 : decode cX11_values 54 = .ok (.if_icmp .ge 46, 3) := by decide +kernel
theorem dX11_values_57 : decode cX11_values 57 = .ok (.iload_n 3, 1) := by decide +kernel
theorem dX11_values_58 : decode cX11_values 58 = .ok (.iconst (-1), 1) := by decide +kernel
theorem dX11_values_59 : decode cX11_values 59 = .ok (.if_icmp .eq 19, 3) := by decide +kernel
theorem dX11_values_62 : decode cX11_values 62 = .ok (.aload_n 0, 1) := by decide +kernel
theorem dX11_values_63 : decode cX11_values 63 = .ok (.getfield 21, 3) := by decide +kernel
theorem dX11_values_66 : decode cX11_values 66 = .ok (.iload 6, 2) := by decide +kernel
theorem dX11_values_68 : decode cX11_values 68 = .ok (.iaload, 1) := by decide +kernel
theorem dX11_values_69 : decode cX11_values 69 = .ok (.aload_n 0, 1) := by decide +kernel
theorem dX11_values_70 : decode cX11_values 70 = .ok (.getfield 21, 3) := by decide +kernel
theorem dX11_values_73 : decode cX11_values 73 = .ok (.iload_n 3, 1) := by decide +kernel
theorem dX11_values_74 : decode cX11_values 74 = .ok (.iaload, 1) := by decide +kernel
theorem dX11_values_75 : decode cX11_values 75 = .ok (.if_icmp .le 6, 3) := by decide +kernel
theorem dX11_values_78 : decode cX11_values 78 = .ok (.iload 6, 2) := by decide +kernel
theorem dX11_values_80 : decode cX11_values 80 = .ok (.istore_n 3, 1) := by decide +kernel
theorem dX11_values_81 : decode cX11_values 81 = .ok (.lload 4, 2) := by decide +kernel
theorem dX11_values_83 : decode cX11_values 83 = .ok (.aload_n 0, 1) := by decide +kernel
theorem dX11_values_84 : decode cX11_values 84 = .ok (.getfield 21, 3) := by decide +kernel
theorem dX11_values_87 : decode cX11_values 87 = .ok (.iload 6, 2) := by decide +kernel
theorem dX11_values_89 : decode cX11_values 89 = .ok (.iaload, 1) := by decide +kernel
theorem dX11_values_90 : decode cX11_values 90 = .ok (.i2l, 1) := by decide +kernel
theorem dX11_values_91 : decode cX11_values 91 = .ok (.ladd, 1) := by decide +kernel
theorem dX11_values_92 : decode cX11_values 92 = .ok (.lstore 4, 2) := by decide +kernel
theorem dX11_values_94 : decode cX11_values 94 = .ok (.iinc 6 1, 3) := by decide +kernel
theorem dX11_values_97 : decode cX11_values 97 = .ok (.goto (-56), 3) := by decide +kernel
theorem dX11_values_100 : decode cX11_values 100 = .ok (.iload_n 2, 1) := by decide +kernel
theorem dX11_values_101 : decode cX11_values 101 = .ok (.iconst 2, 1) := by decide +kernel
theorem dX11_values_102 : decode cX11_values 102 = .ok (.if_icmp .ne 6, 3) := by decide +kernel
theorem dX11_values_105 : decode cX11_values 105 = .ok (.lload 4, 2) := by decide +kernel
theorem dX11_values_107 : decode cX11_values 107 = .ok (.lreturn, 1) := by decide +kernel
theorem dX11_values_108 : decode cX11_values 108 = .ok (.iload_n 2, 1) := by decide +kernel
theorem dX11_values_109 : decode cX11_values 109 = .ok (.ifCond .ne 24, 3) := by decide +kernel
theorem dX11_values_112 : decode cX11_values 112 = .ok (.iload_n 3, 1) := by decide +kernel
theorem dX11_values_113 : decode cX11_values 113 = .ok (.iconst (-1), 1) := by decide +kernel
theorem dX11_values_114 : decode cX11_values 114 = .ok (.if_icmp .ne 9, 3) := by decide +kernel
theorem dX11_values_117 : decode cX11_values 117 = .ok (.ldc2_w 237, 3) := by decide +kernel
theorem dX11_values_120 : decode cX11_values 120 = .ok (.goto 31, 3) := by decide +kernel
theorem dX11_values_123 : decode cX11_values 123 = .ok (.aload_n 0, 1) := by decide +kernel
theorem dX11_values_124 : decode cX11_values 124 = .ok (.getfield 17, 3) := by decide +kernel
theorem dX11_values_127 : decode cX11_values 127 = .ok (.iload_n 3, 1) := by decide +kernel
theorem dX11_values_128 : decode cX11_values 128 = .ok (.iaload, 1) := by decide +kernel
theorem dX11_values_129 : decode cX11_values 129 = .ok (.i2l, 1) := by decide +kernel
theorem dX11_values_130 : decode cX11_values 130 = .ok (.goto 21, 3) := by decide +kernel
theorem dX11_values_133 : decode cX11_values 133 = .ok (.iload_n 3, 1) := by decide +kernel
theorem dX11_values_134 : decode cX11_values 134 = .ok (.iconst (-1), 1) := by decide +kernel
theorem dX11_values_135 : decode cX11_values 135 = .ok (.if_icmp .ne 9, 3) := by decide +kernel
theorem dX11_values_138 : decode cX11_values 138 = .ok (.ldc2_w 235, 3) := by decide +kernel
theorem dX11_values_141 : decode cX11_values 141 = .ok (.goto 10, 3) := by decide +kernel
theorem dX11_values_144 : decode cX11_values 144 = .ok (.aload_n 0, 1) := by decide +kernel
theorem dX11_values_145 : decode cX11_values 145 = .ok (.getfield 21, 3) := by decide +kernel
theorem dX11_values_148 : decode cX11_values 148 = .ok (.iload_n 3, 1) := by decide +kernel
theorem dX11_values_149 : decode cX11_values 149 = .ok (.iaload, 1) := by decide +kernel
theorem dX11_values_150 : decode cX11_values 150 = .ok (.i2l, 1) := by decide +kernel
theorem dX11_values_151 : decode cX11_values 151 = .ok (.lreturn, 1) := by decide +kernel
