theorem dX11_join_0 : decode cX11_join 0 = .ok (.aload_n 0, 1) := by decide +kernel
theorem dX11_join_1 : decode cX11_join 1 = .ok (.iconst 0, 1) := by decide +kernel
theorem dX11_join_2 : decode cX11_join 2 = .ok (.putfield 73, 3) := by decide +kernel
theorem dX11_join_5 : decode cX11_join 5 = .ok (.aload_n 0, 1) := by decide +kernel
theorem dX11_join_6 : decode cX11_join 6 = .ok (.iload_n 1, 1) := by decide +kernel
theorem dX11_join_7 : decode cX11_join 7 = .ok (.invokevirtual 222, 3) := by decide +kernel
theorem dX11_join_10 : decode cX11_join 10 = .ok (.ifCond .eq 16, 3) := by decide +kernel
theorem dX11_join_13 : decode cX11_join 13 = .ok (.aload_n 0, 1) := by decide +kernel
theorem dX11_join_14 : decode cX11_join 14 = .ok (.iload_n 2, 1) := by decide +kernel
theorem dX11_join_15 : decode cX11_join 15 = .ok (.invokevirtual 222, 3) := by decide +kernel
theorem dX11_join_18 : decode cX11_join 18 = .ok (.ifCond .eq 8, 3) := by decide +kernel
theorem dX11_join_21 : decode cX11_join 21 = .ok (.iload_n 1, 1) := by decide +kernel
theorem dX11_join_22 : decode cX11_join 22 = .ok (.iload_n 2, 1) := by decide +kernel
theorem dX11_join_23 : decode cX11_join 23 = .ok (.if_icmp .ne 6, 3) := by decide +kernel
theorem dX11_join_26 : decode cX11_join 26 = .ok (.bipush (-2), 2) := by decide +kernel
theorem dX11_join_28 : decode cX11_join 28 = .ok (.ireturn, 1) := by decide +kernel
theorem dX11_join_29 : decode cX11_join 29 = .ok (.iconst 0, 1) := by decide +kernel
theorem dX11_join_30 : decode cX11_join 30 = .ok (.istore_n 3, 1) := by decide +kernel
theorem dX11_join_31 : decode cX11_join 31 = .ok (.sipush 160, 3) := by decide +kernel
theorem dX11_join_34 : decode cX11_join 34 = .ok (.iload_n 2, 1) := by decide +kernel
theorem dX11_join_35 : decode cX11_join 35 = .ok (.imul, 1) := by decide +kernel
theorem dX11_join_36 : decode cX11_join 36 = .ok (.istore 4, 2) := by decide +kernel
theorem dX11_join_38 : decode cX11_join 38 = .ok (.iload 4, 2) := by decide +kernel
theorem dX11_join_40 : decode cX11_join 40 = .ok (.sipush 160, 3) := by decide +kernel
theorem dX11_join_43 : decode cX11_join 43 = .ok (.iload_n 2, 1) := by decide +kernel
theorem dX11_join_44 : decode cX11_join 44 = .ok (.imul, 1) := by decide +kernel
theorem dX11_join_45 : decode cX11_join 45 = .ok (.aload_n 0, 1) := by decide +kernel
theorem dX11_join_46 : decode cX11_join 46 = .ok (.iload_n 2, 1) := by decide +kernel
theorem dX11_join_47 : decode cX11_join 47 = .ok (.invokevirtual 95, 3) := by decide +kernel
theorem dX11_join_50 : decode cX11_join 50 = .ok (.iadd, 1) := by decide +kernel
theorem dX11_join_51 : decode cX11_join 51 = .ok (.if_icmp .ge 57, 3) := by decide +kernel
theorem dX11_join_54 : decode cX11_join 54 = .ok (.aload_n 0, 1) := by decide +kernel
theorem dX11_join_55 : decode cX11_join 55 = .ok (.iload_n 1, 1) := by decide +kernel
theorem dX11_join_56 : decode cX11_join 56 = .ok (.aload_n 0, 1) := by decide +kernel
theorem dX11_join_57 : decode cX11_join 57 = .ok (.getfield 17, 3) := by decide +kernel
theorem dX11_join_60 : decode cX11_join 60 = .ok (.iload 4, 2) := by decide +kernel
theorem dX11_join_62 : decode cX11_join 62 = .ok (.iaload, 1) := by decide +kernel
theorem dX11_join_63 : decode cX11_join 63 = .ok (.invokevirtual 229, 3) := by decide +kernel
theorem dX11_join_66 : decode cX11_join 66 = .ok (.ifCond .ne 42, 3) := by decide +kernel
theorem dX11_join_69 : decode cX11_join 69 = .ok (.iload_n 3, 1) := by decide +kernel
theorem dX11_join_70 : decode cX11_join 70 = .ok (.aload_n 0, 1) := by decide +kernel
theorem dX11_join_71 : decode cX11_join 71 = .ok (.iload_n 1, 1) := by decide +kernel
theorem dX11_join_72 : decode cX11_join 72 = .ok (.aload_n 0, 1) := by decide +kernel
theorem dX11_join_73 : decode cX11_join 73 = .ok (.getfield 17, 3) := by decide +kernel
theorem dX11_join_76 : decode cX11_join 76 = .ok (.iload 4, 2) := by decide +kernel
theorem dX11_join_78 : decode cX11_join 78 = .ok (.iaload, 1) := by decide +kernel
theorem dX11_join_79 : decode cX11_join 79 = .ok (.aload_n 0, 1) := by decide +kernel
theorem dX11_join_80 : decode cX11_join 80 = .ok (.getfield 21, 3) := by decide +kernel
theorem dX11_join_83 : decode cX11_join 83 = .ok (.iload 4, 2) := by decide +kernel
theorem dX11_join_85 : decode cX11_join 85 = .ok (.iaload, 1) := by decide +kernel
theorem dX11_join_86 : decode cX11_join 86 = .ok (.invokevirtual 232, 3) := by decide +kernel
theorem dX11_join_89 : decode cX11_join 89 = .ok (.ifCond .le 7, 3) := by decide +kernel
theorem dX11_join_92 : decode cX11_join 92 = .ok (.iconst 1, 1) := by decide +kernel
theorem dX11_join_93 : decode cX11_join 93 = .ok (.goto 4, 3) := by decide +kernel
theorem dX11_join_96 : decode cX11_join 96 = .ok (.iconst 0, 1) := by decide +kernel
theorem dX11_join_97 : decode cX11_join 97 = .ok (.invokestatic 198, 3) := by decide +kernel
theorem dX11_join_100 : decode cX11_join 100 = .ok (.iadd, 1) := by decide +kernel
theorem dX11_join_101 : decode cX11_join 101 = .ok (.istore_n 3, 1) := by decide +kernel
theorem dX11_join_102 : decode cX11_join 102 = .ok (.iinc 4 1, 3) := by decide +kernel
theorem dX11_join_105 : decode cX11_join 105 = .ok (.goto (-67), 3) := by decide +kernel
theorem dX11_join_108 : decode cX11_join 108 = .ok (.iload_n 3, 1) := by decide +kernel
theorem dX11_join_109 : decode cX11_join 109 = .ok (.ireturn, 1) := by decide +kernel
