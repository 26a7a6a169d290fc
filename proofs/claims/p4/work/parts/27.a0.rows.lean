theorem dX11_drops_0 : decode cX11_drops 0 = .ok (.aload_n 0, 1) := by decide +kernel
theorem dX11_drops_1 : decode cX11_drops 1 = .ok (.iload_n 1, 1) := by decide +kernel
theorem dX11_drops_2 : decode cX11_drops 2 = .ok (.iload_n 2, 1) := by decide +kernel
theorem dX11_drops_3 : decode cX11_drops 3 = .ok (.invokevirtual 215, 3) := by decide +kernel
theorem dX11_drops_6 : decode cX11_drops 6 = .ok (.aload_n 0, 1) := by decide +kernel
theorem dX11_drops_7 : decode cX11_drops 7 = .ok (.iload_n 1, 1) := by decide +kernel
theorem dX11_drops_8 : decode cX11_drops 8 = .ok (.iload_n 2, 1) := by decide +kernel
theorem dX11_drops_9 : decode cX11_drops 9 = .ok (.invokevirtual 202, 3) := by decide +kernel
theorem dX11_drops_12 : decode cX11_drops 12 = .ok (.ifCond .ne 5, 3) := by decide +kernel
theorem dX11_drops_15 : decode cX11_drops 15 = .ok (.iconst (-1), 1) := by decide +kernel
theorem dX11_drops_16 : decode cX11_drops 16 = .ok (.ireturn, 1) := by decide +kernel
theorem dX11_drops_17 : decode cX11_drops 17 = .ok (.sipush 160, 3) := by decide +kernel
theorem dX11_drops_20 : decode cX11_drops 20 = .ok (.iload_n 1, 1) := by decide +kernel
theorem dX11_drops_21 : decode cX11_drops 21 = .ok (.imul, 1) := by decide +kernel
theorem dX11_drops_22 : decode cX11_drops 22 = .ok (.aload_n 0, 1) := by decide +kernel
theorem dX11_drops_23 : decode cX11_drops 23 = .ok (.iload_n 1, 1) := by decide +kernel
theorem dX11_drops_24 : decode cX11_drops 24 = .ok (.iload_n 2, 1) := by decide +kernel
theorem dX11_drops_25 : decode cX11_drops 25 = .ok (.i2l, 1) := by decide +kernel
theorem dX11_drops_26 : decode cX11_drops 26 = .ok (.invokevirtual 99, 3) := by decide +kernel
theorem dX11_drops_29 : decode cX11_drops 29 = .ok (.iadd, 1) := by decide +kernel
theorem dX11_drops_30 : decode cX11_drops 30 = .ok (.istore_n 3, 1) := by decide +kernel
theorem dX11_drops_31 : decode cX11_drops 31 = .ok (.aload_n 0, 1) := by decide +kernel
theorem dX11_drops_32 : decode cX11_drops 32 = .ok (.getfield 33, 3) := by decide +kernel
theorem dX11_drops_35 : decode cX11_drops 35 = .ok (.sipush 2048, 3) := by decide +kernel
theorem dX11_drops_38 : decode cX11_drops 38 = .ok (.iload_n 1, 1) := by decide +kernel
theorem dX11_drops_39 : decode cX11_drops 39 = .ok (.imul, 1) := by decide +kernel
theorem dX11_drops_40 : decode cX11_drops 40 = .ok (.aload_n 0, 1) := by decide +kernel
theorem dX11_drops_41 : decode cX11_drops 41 = .ok (.getfield 24, 3) := by decide +kernel
theorem dX11_drops_44 : decode cX11_drops 44 = .ok (.iload_n 3, 1) := by decide +kernel
theorem dX11_drops_45 : decode cX11_drops 45 = .ok (.iaload, 1) := by decide +kernel
theorem dX11_drops_46 : decode cX11_drops 46 = .ok (.iadd, 1) := by decide +kernel
theorem dX11_drops_47 : decode cX11_drops 47 = .ok (.dup2, 1) := by decide +kernel
theorem dX11_drops_48 : decode cX11_drops 48 = .ok (.iaload, 1) := by decide +kernel
theorem dX11_drops_49 : decode cX11_drops 49 = .ok (.iconst 1, 1) := by decide +kernel
theorem dX11_drops_50 : decode cX11_drops 50 = .ok (.isub, 1) := by decide +kernel
theorem dX11_drops_51 : decode cX11_drops 51 = .ok (.iastore, 1) := by decide +kernel
theorem dX11_drops_52 : decode cX11_drops 52 = .ok (.iload_n 3, 1) := by decide +kernel
theorem dX11_drops_53 : decode cX11_drops 53 = .ok (.istore 4, 2) := by decide +kernel
theorem dX11_drops_55 : decode cX11_drops 55 = .ok (.iload 4, 2) := by decide +kernel
theorem dX11_drops_57 : decode cX11_drops 57 = .ok (.iconst 1, 1) := by decide +kernel
theorem dX11_drops_58 : decode cX11_drops 58 = .ok (.iadd, 1) := by decide +kernel
theorem dX11_drops_59 : decode cX11_drops 59 = .ok (.sipush 160, 3) := by decide +kernel
theorem dX11_drops_62 : decode cX11_drops 62 = .ok (.iload_n 1, 1) := by decide +kernel
theorem dX11_drops_63 : decode cX11_drops 63 = .ok (.imul, 1) := by decide +kernel
theorem dX11_drops_64 : decode cX11_drops 64 = .ok (.aload_n 0, 1) := by decide +kernel
theorem dX11_drops_65 : decode cX11_drops 65 = .ok (.iload_n 1, 1) := by decide +kernel
theorem dX11_drops_66 : decode cX11_drops 66 = .ok (.invokevirtual 95, 3) := by decide +kernel
theorem dX11_drops_69 : decode cX11_drops 69 = .ok (.iadd, 1) := by decide +kernel
theorem dX11_drops_70 : decode cX11_drops 70 = .ok (.if_icmp .ge 19, 3) := by decide +kernel
theorem dX11_drops_73 : decode cX11_drops 73 = .ok (.aload_n 0, 1) := by decide +kernel
theorem dX11_drops_74 : decode cX11_drops 74 = .ok (.iload 4, 2) := by decide +kernel
theorem dX11_drops_76 : decode cX11_drops 76 = .ok (.iload 4, 2) := by decide +kernel
theorem dX11_drops_78 : decode cX11_drops 78 = .ok (.iconst 1, 1) := by decide +kernel
theorem dX11_drops_79 : decode cX11_drops 79 = .ok (.iadd, 1) := by decide +kernel
theorem dX11_drops_80 : decode cX11_drops 80 = .ok (.invokevirtual 195, 3) := by decide +kernel
theorem dX11_drops_83 : decode cX11_drops 83 = .ok (.iinc 4 1, 3) := by decide +kernel
theorem dX11_drops_86 : decode cX11_drops 86 = .ok (.goto (-31), 3) := by decide +kernel
theorem dX11_drops_89 : decode cX11_drops 89 = .ok (.aload_n 0, 1) := by decide +kernel
theorem dX11_drops_90 : decode cX11_drops 90 = .ok (.iload_n 1, 1) := by decide +kernel
theorem dX11_drops_91 : decode cX11_drops 91 = .ok (.iconst 1, 1) := by decide +kernel
theorem dX11_drops_92 : decode cX11_drops 92 = .ok (.ldc2_w 237, 3) := by decide +kernel
theorem dX11_drops_95 : decode cX11_drops 95 = .ok (.invokevirtual 130, 3) := by decide +kernel
theorem dX11_drops_98 : decode cX11_drops 98 = .ok (.aload_n 0, 1) := by decide +kernel
theorem dX11_drops_99 : decode cX11_drops 99 = .ok (.iload_n 1, 1) := by decide +kernel
theorem dX11_drops_100 : decode cX11_drops 100 = .ok (.iconst 3, 1) := by decide +kernel
theorem dX11_drops_101 : decode cX11_drops 101 = .ok (.lconst 1, 1) := by decide +kernel
theorem dX11_drops_102 : decode cX11_drops 102 = .ok (.invokevirtual 130, 3) := by decide +kernel
theorem dX11_drops_105 : decode cX11_drops 105 = .ok (.aload_n 0, 1) := by decide +kernel
theorem dX11_drops_106 : decode cX11_drops 106 = .ok (.iload_n 1, 1) := by decide +kernel
theorem dX11_drops_107 : decode cX11_drops 107 = .ok (.iconst 3, 1) := by decide +kernel
theorem dX11_drops_108 : decode cX11_drops 108 = .ok (.invokevirtual 89, 3) := by decide +kernel
theorem dX11_drops_111 : decode cX11_drops 111 = .ok (.aload_n 0, 1) := by decide +kernel
theorem dX11_drops_112 : decode cX11_drops 112 = .ok (.iload_n 1, 1) := by decide +kernel
theorem dX11_drops_113 : decode cX11_drops 113 = .ok (.iconst 2, 1) := by decide +kernel
theorem dX11_drops_114 : decode cX11_drops 114 = .ok (.invokevirtual 89, 3) := by decide +kernel
theorem dX11_drops_117 : decode cX11_drops 117 = .ok (.lcmp, 1) := by decide +kernel
theorem dX11_drops_118 : decode cX11_drops 118 = .ok (.ifCond .gt 5, 3) := by decide +kernel
theorem dX11_drops_121 : decode cX11_drops 121 = .ok (.iconst 1, 1) := by decide +kernel
theorem dX11_drops_122 : decode cX11_drops 122 = .ok (.ireturn, 1) := by decide +kernel
theorem dX11_drops_123 : decode cX11_drops 123 = .ok (.aload_n 0, 1) := by decide +kernel
theorem dX11_drops_124 : decode cX11_drops 124 = .ok (.iload_n 1, 1) := by decide +kernel
theorem dX11_drops_125 : decode cX11_drops 125 = .ok (.bipush 11, 2) := by decide +kernel
theorem dX11_drops_127 : decode cX11_drops 127 = .ok (.lconst 1, 1) := by decide +kernel
theorem dX11_drops_128 : decode cX11_drops 128 = .ok (.invokevirtual 130, 3) := by decide +kernel
theorem dX11_drops_131 : decode cX11_drops 131 = .ok (.aload_n 0, 1) := by decide +kernel
theorem dX11_drops_132 : decode cX11_drops 132 = .ok (.iload_n 1, 1) := by decide +kernel
theorem dX11_drops_133 : decode cX11_drops 133 = .ok (.invokevirtual 192, 3) := by decide +kernel
theorem dX11_drops_136 : decode cX11_drops 136 = .ok (.iconst 2, 1) := by decide +kernel
theorem dX11_drops_137 : decode cX11_drops 137 = .ok (.ireturn, 1) := by decide +kernel
