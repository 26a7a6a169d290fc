theorem dX11_unit_0 : decode cX11_unit 0 = .ok (.iconst 1, 1) := by decide +kernel
theorem dX11_unit_1 : decode cX11_unit 1 = .ok (.istore_n 1, 1) := by decide +kernel
theorem dX11_unit_2 : decode cX11_unit 2 = .ok (.aload_n 0, 1) := by decide +kernel
theorem dX11_unit_3 : decode cX11_unit 3 = .ok (.invokevirtual 313, 3) := by decide +kernel
theorem dX11_unit_6 : decode cX11_unit 6 = .ok (.ifCond .eq 91, 3) := by decide +kernel
theorem dX11_unit_9 : decode cX11_unit 9 = .ok (.iload_n 1, 1) := by decide +kernel
theorem dX11_unit_10 : decode cX11_unit 10 = .ok (.ifCond .eq 87, 3) := by decide +kernel
theorem dX11_unit_13 : decode cX11_unit 13 = .ok (.aload_n 0, 1) := by decide +kernel
theorem dX11_unit_14 : decode cX11_unit 14 = .ok (.bipush 40, 2) := by decide +kernel
theorem dX11_unit_16 : decode cX11_unit 16 = .ok (.invokevirtual 317, 3) := by decide +kernel
theorem dX11_unit_19 : decode cX11_unit 19 = .ok (.istore_n 1, 1) := by decide +kernel
theorem dX11_unit_20 : decode cX11_unit 20 = .ok (.iload_n 1, 1) := by decide +kernel
theorem dX11_unit_21 : decode cX11_unit 21 = .ok (.ifCond .ne 6, 3) := by decide +kernel
theorem dX11_unit_24 : decode cX11_unit 24 = .ok (.goto (-22), 3) := by decide +kernel
theorem dX11_unit_27 : decode cX11_unit 27 = .ok (.aload_n 0, 1) := by decide +kernel
theorem dX11_unit_28 : decode cX11_unit 28 = .ok (.getfield 338, 3) := by decide +kernel
theorem dX11_unit_31 : decode cX11_unit 31 = .ok (.bipush 8, 2) := by decide +kernel
theorem dX11_unit_33 : decode cX11_unit 33 = .ok (.if_icmp .ne 12, 3) := by decide +kernel
theorem dX11_unit_36 : decode cX11_unit 36 = .ok (.aload_n 0, 1) := by decide +kernel
theorem dX11_unit_37 : decode cX11_unit 37 = .ok (.iconst 3, 1) := by decide +kernel
theorem dX11_unit_38 : decode cX11_unit 38 = .ok (.aload_n 0, 1) := by decide +kernel
theorem dX11_unit_39 : decode cX11_unit 39 = .ok (.getfield 303, 3) := by decide +kernel
theorem dX11_unit_42 : decode cX11_unit 42 = .ok (.invokevirtual 310, 3) := by decide +kernel
theorem dX11_unit_45 : decode cX11_unit 45 = .ok (.aload_n 0, 1) := by decide +kernel
theorem dX11_unit_46 : decode cX11_unit 46 = .ok (.invokevirtual 313, 3) := by decide +kernel
theorem dX11_unit_49 : decode cX11_unit 49 = .ok (.ifCond .ne 4, 3) := by decide +kernel
theorem dX11_unit_52 : decode cX11_unit 52 = .ok (.return_, 1) := by decide +kernel
theorem dX11_unit_53 : decode cX11_unit 53 = .ok (.aload_n 0, 1) := by decide +kernel
theorem dX11_unit_54 : decode cX11_unit 54 = .ok (.dup, 1) := by decide +kernel
theorem dX11_unit_55 : decode cX11_unit 55 = .ok (.getfield 338, 3) := by decide +kernel
theorem dX11_unit_58 : decode cX11_unit 58 = .ok (.iconst 1, 1) := by decide +kernel
theorem dX11_unit_59 : decode cX11_unit 59 = .ok (.iadd, 1) := by decide +kernel
theorem dX11_unit_60 : decode cX11_unit 60 = .ok (.putfield 338, 3) := by decide +kernel
theorem dX11_unit_63 : decode cX11_unit 63 = .ok (.aload_n 0, 1) := by decide +kernel
theorem dX11_unit_64 : decode cX11_unit 64 = .ok (.dup, 1) := by decide +kernel
theorem dX11_unit_65 : decode cX11_unit 65 = .ok (.getfield 303, 3) := by decide +kernel
theorem dX11_unit_68 : decode cX11_unit 68 = .ok (.iconst 1, 1) := by decide +kernel
theorem dX11_unit_69 : decode cX11_unit 69 = .ok (.iadd, 1) := by decide +kernel
theorem dX11_unit_70 : decode cX11_unit 70 = .ok (.putfield 303, 3) := by decide +kernel
theorem dX11_unit_73 : decode cX11_unit 73 = .ok (.aload_n 0, 1) := by decide +kernel
theorem dX11_unit_74 : decode cX11_unit 74 = .ok (.getfield 51, 3) := by decide +kernel
theorem dX11_unit_77 : decode cX11_unit 77 = .ok (.aload_n 0, 1) := by decide +kernel
theorem dX11_unit_78 : decode cX11_unit 78 = .ok (.getfield 341, 3) := by decide +kernel
theorem dX11_unit_81 : decode cX11_unit 81 = .ok (.bipush 18, 2) := by decide +kernel
theorem dX11_unit_83 : decode cX11_unit 83 = .ok (.iastore, 1) := by decide +kernel
theorem dX11_unit_84 : decode cX11_unit 84 = .ok (.aload_n 0, 1) := by decide +kernel
theorem dX11_unit_85 : decode cX11_unit 85 = .ok (.dup, 1) := by decide +kernel
theorem dX11_unit_86 : decode cX11_unit 86 = .ok (.getfield 341, 3) := by decide +kernel
theorem dX11_unit_89 : decode cX11_unit 89 = .ok (.iconst 1, 1) := by decide +kernel
theorem dX11_unit_90 : decode cX11_unit 90 = .ok (.iadd, 1) := by decide +kernel
theorem dX11_unit_91 : decode cX11_unit 91 = .ok (.putfield 341, 3) := by decide +kernel
theorem dX11_unit_94 : decode cX11_unit 94 = .ok (.goto (-92), 3) := by decide +kernel
theorem dX11_unit_97 : decode cX11_unit 97 = .ok (.aload_n 0, 1) := by decide +kernel
theorem dX11_unit_98 : decode cX11_unit 98 = .ok (.bipush 9, 2) := by decide +kernel
theorem dX11_unit_100 : decode cX11_unit 100 = .ok (.invokevirtual 329, 3) := by decide +kernel
theorem dX11_unit_103 : decode cX11_unit 103 = .ok (.ifCond .eq 13, 3) := by decide +kernel
theorem dX11_unit_106 : decode cX11_unit 106 = .ok (.aload_n 0, 1) := by decide +kernel
theorem dX11_unit_107 : decode cX11_unit 107 = .ok (.bipush 11, 2) := by decide +kernel
theorem dX11_unit_109 : decode cX11_unit 109 = .ok (.iconst 0, 1) := by decide +kernel
theorem dX11_unit_110 : decode cX11_unit 110 = .ok (.invokevirtual 344, 3) := by decide +kernel
theorem dX11_unit_113 : decode cX11_unit 113 = .ok (.goto 51, 3) := by decide +kernel
theorem dX11_unit_116 : decode cX11_unit 116 = .ok (.aload_n 0, 1) := by decide +kernel
theorem dX11_unit_117 : decode cX11_unit 117 = .ok (.bipush 24, 2) := by decide +kernel
theorem dX11_unit_119 : decode cX11_unit 119 = .ok (.invokevirtual 329, 3) := by decide +kernel
theorem dX11_unit_122 : decode cX11_unit 122 = .ok (.ifCond .eq 13, 3) := by decide +kernel
theorem dX11_unit_125 : decode cX11_unit 125 = .ok (.aload_n 0, 1) := by decide +kernel
theorem dX11_unit_126 : decode cX11_unit 126 = .ok (.bipush 12, 2) := by decide +kernel
theorem dX11_unit_128 : decode cX11_unit 128 = .ok (.iconst 0, 1) := by decide +kernel
theorem dX11_unit_129 : decode cX11_unit 129 = .ok (.invokevirtual 344, 3) := by decide +kernel
theorem dX11_unit_132 : decode cX11_unit 132 = .ok (.goto 32, 3) := by decide +kernel
theorem dX11_unit_135 : decode cX11_unit 135 = .ok (.aload_n 0, 1) := by decide +kernel
theorem dX11_unit_136 : decode cX11_unit 136 = .ok (.invokevirtual 313, 3) := by decide +kernel
theorem dX11_unit_139 : decode cX11_unit 139 = .ok (.ifCond .eq 25, 3) := by decide +kernel
theorem dX11_unit_142 : decode cX11_unit 142 = .ok (.aload_n 0, 1) := by decide +kernel
theorem dX11_unit_143 : decode cX11_unit 143 = .ok (.ldc_w 347, 3) := by decide +kernel
theorem dX11_unit_146 : decode cX11_unit 146 = .ok (.invokevirtual 348, 3) := by decide +kernel
theorem dX11_unit_149 : decode cX11_unit 149 = .ok (.istore_n 2, 1) := by decide +kernel
theorem dX11_unit_150 : decode cX11_unit 150 = .ok (.aload_n 0, 1) := by decide +kernel
theorem dX11_unit_151 : decode cX11_unit 151 = .ok (.invokevirtual 313, 3) := by decide +kernel
theorem dX11_unit_154 : decode cX11_unit 154 = .ok (.ifCond .eq 10, 3) := by decide +kernel
theorem dX11_unit_157 : decode cX11_unit 157 = .ok (.aload_n 0, 1) := by decide +kernel
theorem dX11_unit_158 : decode cX11_unit 158 = .ok (.bipush 10, 2) := by decide +kernel
theorem dX11_unit_160 : decode cX11_unit 160 = .ok (.iload_n 2, 1) := by decide +kernel
theorem dX11_unit_161 : decode cX11_unit 161 = .ok (.invokevirtual 344, 3) := by decide +kernel
theorem dX11_unit_164 : decode cX11_unit 164 = .ok (.return_, 1) := by decide +kernel
