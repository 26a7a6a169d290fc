theorem dX11_readsProgram_0 : decode cX11_readsProgram 0 = .ok (.aload_n 0, 1) := by decide +kernel
theorem dX11_readsProgram_1 : decode cX11_readsProgram 1 = .ok (.aload_n 0, 1) := by decide +kernel
theorem dX11_readsProgram_2 : decode cX11_readsProgram 2 = .ok (.getfield 76, 3) := by decide +kernel
theorem dX11_readsProgram_5 : decode cX11_readsProgram 5 = .ok (.putfield 292, 3) := by decide +kernel
theorem dX11_readsProgram_8 : decode cX11_readsProgram 8 = .ok (.aload_n 0, 1) := by decide +kernel
theorem dX11_readsProgram_9 : decode cX11_readsProgram 9 = .ok (.iconst 0, 1) := by decide +kernel
theorem dX11_readsProgram_10 : decode cX11_readsProgram 10 = .ok (.putfield 76, 3) := by decide +kernel
theorem dX11_readsProgram_13 : decode cX11_readsProgram 13 = .ok (.aload_n 0, 1) := by decide +kernel
theorem dX11_readsProgram_14 : decode cX11_readsProgram 14 = .ok (.iconst 0, 1) := by decide +kernel
theorem dX11_readsProgram_15 : decode cX11_readsProgram 15 = .ok (.putfield 303, 3) := by decide +kernel
theorem dX11_readsProgram_18 : decode cX11_readsProgram 18 = .ok (.aload_n 0, 1) := by decide +kernel
theorem dX11_readsProgram_19 : decode cX11_readsProgram 19 = .ok (.iconst (-1), 1) := by decide +kernel
theorem dX11_readsProgram_20 : decode cX11_readsProgram 20 = .ok (.putfield 326, 3) := by decide +kernel
theorem dX11_readsProgram_23 : decode cX11_readsProgram 23 = .ok (.aload_n 0, 1) := by decide +kernel
theorem dX11_readsProgram_24 : decode cX11_readsProgram 24 = .ok (.iconst 0, 1) := by decide +kernel
theorem dX11_readsProgram_25 : decode cX11_readsProgram 25 = .ok (.putfield 280, 3) := by decide +kernel
theorem dX11_readsProgram_28 : decode cX11_readsProgram 28 = .ok (.aload_n 0, 1) := by decide +kernel
theorem dX11_readsProgram_29 : decode cX11_readsProgram 29 = .ok (.iconst (-1), 1) := by decide +kernel
theorem dX11_readsProgram_30 : decode cX11_readsProgram 30 = .ok (.putfield 283, 3) := by decide +kernel
theorem dX11_readsProgram_33 : decode cX11_readsProgram 33 = .ok (.aload_n 0, 1) := by decide +kernel
theorem dX11_readsProgram_34 : decode cX11_readsProgram 34 = .ok (.iconst (-1), 1) := by decide +kernel
theorem dX11_readsProgram_35 : decode cX11_readsProgram 35 = .ok (.putfield 289, 3) := by decide +kernel
theorem dX11_readsProgram_38 : decode cX11_readsProgram 38 = .ok (.aload_n 0, 1) := by decide +kernel
theorem dX11_readsProgram_39 : decode cX11_readsProgram 39 = .ok (.iconst 0, 1) := by decide +kernel
theorem dX11_readsProgram_40 : decode cX11_readsProgram 40 = .ok (.putfield 335, 3) := by decide +kernel
theorem dX11_readsProgram_43 : decode cX11_readsProgram 43 = .ok (.aload_n 0, 1) := by decide +kernel
theorem dX11_readsProgram_44 : decode cX11_readsProgram 44 = .ok (.iconst 0, 1) := by decide +kernel
theorem dX11_readsProgram_45 : decode cX11_readsProgram 45 = .ok (.putfield 286, 3) := by decide +kernel
theorem dX11_readsProgram_48 : decode cX11_readsProgram 48 = .ok (.aload_n 0, 1) := by decide +kernel
theorem dX11_readsProgram_49 : decode cX11_readsProgram 49 = .ok (.getfield 292, 3) := by decide +kernel
theorem dX11_readsProgram_52 : decode cX11_readsProgram 52 = .ok (.sipush 600, 3) := by decide +kernel
theorem dX11_readsProgram_55 : decode cX11_readsProgram 55 = .ok (.if_icmp .le 11, 3) := by decide +kernel
theorem dX11_readsProgram_58 : decode cX11_readsProgram 58 = .ok (.aload_n 0, 1) := by decide +kernel
theorem dX11_readsProgram_59 : decode cX11_readsProgram 59 = .ok (.iconst 1, 1) := by decide +kernel
theorem dX11_readsProgram_60 : decode cX11_readsProgram 60 = .ok (.sipush 600, 3) := by decide +kernel
theorem dX11_readsProgram_63 : decode cX11_readsProgram 63 = .ok (.invokevirtual 310, 3) := by decide +kernel
theorem dX11_readsProgram_66 : decode cX11_readsProgram 66 = .ok (.aload_n 0, 1) := by decide +kernel
theorem dX11_readsProgram_67 : decode cX11_readsProgram 67 = .ok (.invokevirtual 313, 3) := by decide +kernel
theorem dX11_readsProgram_70 : decode cX11_readsProgram 70 = .ok (.ifCond .eq 51, 3) := by decide +kernel
theorem dX11_readsProgram_73 : decode cX11_readsProgram 73 = .ok (.aload_n 0, 1) := by decide +kernel
theorem dX11_readsProgram_74 : decode cX11_readsProgram 74 = .ok (.getfield 286, 3) := by decide +kernel
theorem dX11_readsProgram_77 : decode cX11_readsProgram 77 = .ok (.ifCond .gt 14, 3) := by decide +kernel
theorem dX11_readsProgram_80 : decode cX11_readsProgram 80 = .ok (.aload_n 0, 1) := by decide +kernel
theorem dX11_readsProgram_81 : decode cX11_readsProgram 81 = .ok (.invokevirtual 306, 3) := by decide +kernel
theorem dX11_readsProgram_84 : decode cX11_readsProgram 84 = .ok (.aload_n 0, 1) := by decide +kernel
theorem dX11_readsProgram_85 : decode cX11_readsProgram 85 = .ok (.getfield 292, 3) := by decide +kernel
theorem dX11_readsProgram_88 : decode cX11_readsProgram 88 = .ok (.if_icmp .ge 33, 3) := by decide +kernel
theorem dX11_readsProgram_91 : decode cX11_readsProgram 91 = .ok (.aload_n 0, 1) := by decide +kernel
theorem dX11_readsProgram_92 : decode cX11_readsProgram 92 = .ok (.getfield 286, 3) := by decide +kernel
theorem dX11_readsProgram_95 : decode cX11_readsProgram 95 = .ok (.ifCond .le 19, 3) := by decide +kernel
theorem dX11_readsProgram_98 : decode cX11_readsProgram 98 = .ok (.aload_n 0, 1) := by decide +kernel
theorem dX11_readsProgram_99 : decode cX11_readsProgram 99 = .ok (.bipush 93, 2) := by decide +kernel
theorem dX11_readsProgram_101 : decode cX11_readsProgram 101 = .ok (.invokevirtual 317, 3) := by decide +kernel
theorem dX11_readsProgram_104 : decode cX11_readsProgram 104 = .ok (.ifCond .eq 10, 3) := by decide +kernel
theorem dX11_readsProgram_107 : decode cX11_readsProgram 107 = .ok (.aload_n 0, 1) := by decide +kernel
theorem dX11_readsProgram_108 : decode cX11_readsProgram 108 = .ok (.invokevirtual 376, 3) := by decide +kernel
theorem dX11_readsProgram_111 : decode cX11_readsProgram 111 = .ok (.goto (-45), 3) := by decide +kernel
theorem dX11_readsProgram_114 : decode cX11_readsProgram 114 = .ok (.aload_n 0, 1) := by decide +kernel
theorem dX11_readsProgram_115 : decode cX11_readsProgram 115 = .ok (.invokevirtual 379, 3) := by decide +kernel
theorem dX11_readsProgram_118 : decode cX11_readsProgram 118 = .ok (.goto (-52), 3) := by decide +kernel
theorem dX11_readsProgram_121 : decode cX11_readsProgram 121 = .ok (.aload_n 0, 1) := by decide +kernel
theorem dX11_readsProgram_122 : decode cX11_readsProgram 122 = .ok (.aload_n 0, 1) := by decide +kernel
theorem dX11_readsProgram_123 : decode cX11_readsProgram 123 = .ok (.getfield 280, 3) := by decide +kernel
theorem dX11_readsProgram_126 : decode cX11_readsProgram 126 = .ok (.putfield 382, 3) := by decide +kernel
theorem dX11_readsProgram_129 : decode cX11_readsProgram 129 = .ok (.aload_n 0, 1) := by decide +kernel
theorem dX11_readsProgram_130 : decode cX11_readsProgram 130 = .ok (.aload_n 0, 1) := by decide +kernel
theorem dX11_readsProgram_131 : decode cX11_readsProgram 131 = .ok (.getfield 283, 3) := by decide +kernel
theorem dX11_readsProgram_134 : decode cX11_readsProgram 134 = .ok (.putfield 54, 3) := by decide +kernel
theorem dX11_readsProgram_137 : decode cX11_readsProgram 137 = .ok (.aload_n 0, 1) := by decide +kernel
theorem dX11_readsProgram_138 : decode cX11_readsProgram 138 = .ok (.aload_n 0, 1) := by decide +kernel
theorem dX11_readsProgram_139 : decode cX11_readsProgram 139 = .ok (.getfield 289, 3) := by decide +kernel
theorem dX11_readsProgram_142 : decode cX11_readsProgram 142 = .ok (.putfield 58, 3) := by decide +kernel
theorem dX11_readsProgram_145 : decode cX11_readsProgram 145 = .ok (.return_, 1) := by decide +kernel
