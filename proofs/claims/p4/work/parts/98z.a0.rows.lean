theorem dX10_shared_26 : decode cX10_shared 26 = .ok (.aload 4, 2) := by decide +kernel
theorem dX10_shared_28 : decode cX10_shared 28 = .ok (.getfield 93, 3) := by decide +kernel
theorem dX10_shared_31 : decode cX10_shared 31 = .ok (.aload 5, 2) := by decide +kernel
theorem dX10_shared_33 : decode cX10_shared 33 = .ok (.getfield 93, 3) := by decide +kernel
theorem dX10_shared_36 : decode cX10_shared 36 = .ok (.iconst 0, 1) := by decide +kernel
theorem dX10_shared_37 : decode cX10_shared 37 = .ok (.invokevirtual 265, 3) := by decide +kernel
theorem dX10_shared_40 : decode cX10_shared 40 = .ok (.istore 6, 2) := by decide +kernel
theorem dX10_shared_42 : decode cX10_shared 42 = .ok (.iload_n 3, 1) := by decide +kernel
theorem dX10_shared_43 : decode cX10_shared 43 = .ok (.tableswitch 80 0 3 #[29, 32, 53, 65], 29) := by decide +kernel
theorem dX10_shared_72 : decode cX10_shared 72 = .ok (.iload 6, 2) := by decide +kernel
theorem dX10_shared_74 : decode cX10_shared 74 = .ok (.ireturn, 1) := by decide +kernel
theorem dX10_shared_75 : decode cX10_shared 75 = .ok (.aload 4, 2) := by decide +kernel
theorem dX10_shared_77 : decode cX10_shared 77 = .ok (.getfield 93, 3) := by decide +kernel
theorem dX10_shared_80 : decode cX10_shared 80 = .ok (.getfield 121, 3) := by decide +kernel
theorem dX10_shared_83 : decode cX10_shared 83 = .ok (.aload 5, 2) := by decide +kernel
theorem dX10_shared_85 : decode cX10_shared 85 = .ok (.getfield 93, 3) := by decide +kernel
theorem dX10_shared_88 : decode cX10_shared 88 = .ok (.getfield 121, 3) := by decide +kernel
theorem dX10_shared_91 : decode cX10_shared 91 = .ok (.iadd, 1) := by decide +kernel
theorem dX10_shared_92 : decode cX10_shared 92 = .ok (.iload 6, 2) := by decide +kernel
theorem dX10_shared_94 : decode cX10_shared 94 = .ok (.isub, 1) := by decide +kernel
theorem dX10_shared_95 : decode cX10_shared 95 = .ok (.ireturn, 1) := by decide +kernel
theorem dX10_shared_96 : decode cX10_shared 96 = .ok (.aload 4, 2) := by decide +kernel
theorem dX10_shared_98 : decode cX10_shared 98 = .ok (.getfield 93, 3) := by decide +kernel
theorem dX10_shared_101 : decode cX10_shared 101 = .ok (.getfield 121, 3) := by decide +kernel
theorem dX10_shared_104 : decode cX10_shared 104 = .ok (.iload 6, 2) := by decide +kernel
theorem dX10_shared_106 : decode cX10_shared 106 = .ok (.isub, 1) := by decide +kernel
theorem dX10_shared_107 : decode cX10_shared 107 = .ok (.ireturn, 1) := by decide +kernel
theorem dX10_shared_108 : decode cX10_shared 108 = .ok (.aload 4, 2) := by decide +kernel
theorem dX10_shared_110 : decode cX10_shared 110 = .ok (.getfield 93, 3) := by decide +kernel
theorem dX10_shared_113 : decode cX10_shared 113 = .ok (.aload 5, 2) := by decide +kernel
theorem dX10_shared_115 : decode cX10_shared 115 = .ok (.getfield 93, 3) := by decide +kernel
theorem dX10_shared_118 : decode cX10_shared 118 = .ok (.iconst 1, 1) := by decide +kernel
theorem dX10_shared_119 : decode cX10_shared 119 = .ok (.invokevirtual 265, 3) := by decide +kernel
theorem dX10_shared_122 : decode cX10_shared 122 = .ok (.ireturn, 1) := by decide +kernel
theorem dX10_shared_123 : decode cX10_shared 123 = .ok (.iconst (-1), 1) := by decide +kernel
theorem dX10_shared_124 : decode cX10_shared 124 = .ok (.ireturn, 1) := by decide +kernel
theorem dX10_join_30 : decode cX10_join 30 = .ok (.iconst 0, 1) := by decide +kernel
theorem dX10_join_31 : decode cX10_join 31 = .ok (.istore 5, 2) := by decide +kernel
theorem dX10_join_33 : decode cX10_join 33 = .ok (.iconst 0, 1) := by decide +kernel
theorem dX10_join_34 : decode cX10_join 34 = .ok (.istore 6, 2) := by decide +kernel
theorem dX10_join_36 : decode cX10_join 36 = .ok (.iload 6, 2) := by decide +kernel
theorem dX10_join_38 : decode cX10_join 38 = .ok (.aload 4, 2) := by decide +kernel
theorem dX10_join_40 : decode cX10_join 40 = .ok (.getfield 93, 3) := by decide +kernel
theorem dX10_join_43 : decode cX10_join 43 = .ok (.getfield 121, 3) := by decide +kernel
theorem dX10_join_46 : decode cX10_join 46 = .ok (.if_icmp .ge 55, 3) := by decide +kernel
theorem dX10_join_49 : decode cX10_join 49 = .ok (.aload 4, 2) := by decide +kernel
theorem dX10_join_51 : decode cX10_join 51 = .ok (.getfield 93, 3) := by decide +kernel
theorem dX10_join_54 : decode cX10_join 54 = .ok (.iload 6, 2) := by decide +kernel
theorem dX10_join_56 : decode cX10_join 56 = .ok (.invokevirtual 197, 3) := by decide +kernel
theorem dX10_join_59 : decode cX10_join 59 = .ok (.istore 7, 2) := by decide +kernel
theorem dX10_join_61 : decode cX10_join 61 = .ok (.aload_n 3, 1) := by decide +kernel
theorem dX10_join_62 : decode cX10_join 62 = .ok (.iload 7, 2) := by decide +kernel
theorem dX10_join_64 : decode cX10_join 64 = .ok (.invokevirtual 80, 3) := by decide +kernel
theorem dX10_join_67 : decode cX10_join 67 = .ok (.ifCond .eq 6, 3) := by decide +kernel
theorem dX10_join_70 : decode cX10_join 70 = .ok (.goto 31, 3) := by decide +kernel
theorem dX10_join_73 : decode cX10_join 73 = .ok (.aload_n 3, 1) := by decide +kernel
theorem dX10_join_74 : decode cX10_join 74 = .ok (.iload 7, 2) := by decide +kernel
theorem dX10_join_76 : decode cX10_join 76 = .ok (.aload 4, 2) := by decide +kernel
theorem dX10_join_78 : decode cX10_join 78 = .ok (.getfield 93, 3) := by decide +kernel
theorem dX10_join_81 : decode cX10_join 81 = .ok (.iload 6, 2) := by decide +kernel
theorem dX10_join_83 : decode cX10_join 83 = .ok (.invokevirtual 103, 3) := by decide +kernel
theorem dX10_join_86 : decode cX10_join 86 = .ok (.invokevirtual 87, 3) := by decide +kernel
theorem dX10_join_89 : decode cX10_join 89 = .ok (.ifCond .eq 6, 3) := by decide +kernel
theorem dX10_join_92 : decode cX10_join 92 = .ok (.iinc 5 1, 3) := by decide +kernel
theorem dX10_join_95 : decode cX10_join 95 = .ok (.iinc 6 1, 3) := by decide +kernel
theorem dX10_join_98 : decode cX10_join 98 = .ok (.goto (-62), 3) := by decide +kernel
theorem dX10_join_101 : decode cX10_join 101 = .ok (.iload 5, 2) := by decide +kernel
theorem dX10_join_103 : decode cX10_join 103 = .ok (.ireturn, 1) := by decide +kernel
theorem dX10_cut_32 : decode cX10_cut 32 = .ok (.iconst 0, 1) := by decide +kernel
theorem dX10_cut_33 : decode cX10_cut 33 = .ok (.istore 6, 2) := by decide +kernel
theorem dX10_cut_35 : decode cX10_cut 35 = .ok (.iconst 0, 1) := by decide +kernel
theorem dX10_cut_36 : decode cX10_cut 36 = .ok (.istore 7, 2) := by decide +kernel
theorem dX10_cut_38 : decode cX10_cut 38 = .ok (.aload 4, 2) := by decide +kernel
theorem dX10_cut_40 : decode cX10_cut 40 = .ok (.getfield 93, 3) := by decide +kernel
theorem dX10_cut_43 : decode cX10_cut 43 = .ok (.getfield 121, 3) := by decide +kernel
theorem dX10_cut_46 : decode cX10_cut 46 = .ok (.istore 8, 2) := by decide +kernel
theorem dX10_cut_48 : decode cX10_cut 48 = .ok (.iload 8, 2) := by decide +kernel
theorem dX10_cut_50 : decode cX10_cut 50 = .ok (.ifCond .le 60, 3) := by decide +kernel
theorem dX10_cut_53 : decode cX10_cut 53 = .ok (.aload 4, 2) := by decide +kernel
theorem dX10_cut_55 : decode cX10_cut 55 = .ok (.getfield 93, 3) := by decide +kernel
theorem dX10_cut_58 : decode cX10_cut 58 = .ok (.iload 7, 2) := by decide +kernel
theorem dX10_cut_60 : decode cX10_cut 60 = .ok (.invokevirtual 197, 3) := by decide +kernel
theorem dX10_cut_63 : decode cX10_cut 63 = .ok (.istore 9, 2) := by decide +kernel
theorem dX10_cut_65 : decode cX10_cut 65 = .ok (.aload 5, 2) := by decide +kernel
theorem dX10_cut_67 : decode cX10_cut 67 = .ok (.getfield 93, 3) := by decide +kernel
theorem dX10_cut_70 : decode cX10_cut 70 = .ok (.iload 9, 2) := by decide +kernel
theorem dX10_cut_72 : decode cX10_cut 72 = .ok (.invokevirtual 97, 3) := by decide +kernel
theorem dX10_cut_75 : decode cX10_cut 75 = .ok (.ifCond .lt 7, 3) := by decide +kernel
theorem dX10_cut_78 : decode cX10_cut 78 = .ok (.iconst 1, 1) := by decide +kernel
theorem dX10_cut_79 : decode cX10_cut 79 = .ok (.goto 4, 3) := by decide +kernel
theorem dX10_cut_82 : decode cX10_cut 82 = .ok (.iconst 0, 1) := by decide +kernel
theorem dX10_cut_83 : decode cX10_cut 83 = .ok (.iload_n 3, 1) := by decide +kernel
theorem dX10_cut_84 : decode cX10_cut 84 = .ok (.if_icmp .ne 17, 3) := by decide +kernel
theorem dX10_cut_87 : decode cX10_cut 87 = .ok (.aload 4, 2) := by decide +kernel
theorem dX10_cut_89 : decode cX10_cut 89 = .ok (.iload 9, 2) := by decide +kernel
theorem dX10_cut_91 : decode cX10_cut 91 = .ok (.invokevirtual 106, 3) := by decide +kernel
theorem dX10_cut_94 : decode cX10_cut 94 = .ok (.pop, 1) := by decide +kernel
theorem dX10_cut_95 : decode cX10_cut 95 = .ok (.iinc 6 1, 3) := by decide +kernel
theorem dX10_cut_98 : decode cX10_cut 98 = .ok (.goto 6, 3) := by decide +kernel
theorem dX10_cut_101 : decode cX10_cut 101 = .ok (.iinc 7 1, 3) := by decide +kernel
theorem dX10_cut_104 : decode cX10_cut 104 = .ok (.iinc 8 (-1), 3) := by decide +kernel
theorem dX10_cut_107 : decode cX10_cut 107 = .ok (.goto (-59), 3) := by decide +kernel
theorem dX10_cut_110 : decode cX10_cut 110 = .ok (.iload 6, 2) := by decide +kernel
theorem dX10_cut_112 : decode cX10_cut 112 = .ok (.ireturn, 1) := by decide +kernel
