theorem dX11_takesWord_0 : decode cX11_takesWord 0 = .ok (.aload_n 0, 1) := by decide +kernel
theorem dX11_takesWord_1 : decode cX11_takesWord 1 = .ok (.invokevirtual 306, 3) := by decide +kernel
theorem dX11_takesWord_4 : decode cX11_takesWord 4 = .ok (.istore_n 2, 1) := by decide +kernel
theorem dX11_takesWord_5 : decode cX11_takesWord 5 = .ok (.aload_n 0, 1) := by decide +kernel
theorem dX11_takesWord_6 : decode cX11_takesWord 6 = .ok (.invokevirtual 313, 3) := by decide +kernel
theorem dX11_takesWord_9 : decode cX11_takesWord 9 = .ok (.ifCond .eq 19, 3) := by decide +kernel
theorem dX11_takesWord_12 : decode cX11_takesWord 12 = .ok (.aload_n 0, 1) := by decide +kernel
theorem dX11_takesWord_13 : decode cX11_takesWord 13 = .ok (.iload_n 2, 1) := by decide +kernel
theorem dX11_takesWord_14 : decode cX11_takesWord 14 = .ok (.invokevirtual 323, 3) := by decide +kernel
theorem dX11_takesWord_17 : decode cX11_takesWord 17 = .ok (.ifCond .eq 11, 3) := by decide +kernel
theorem dX11_takesWord_20 : decode cX11_takesWord 20 = .ok (.iload_n 2, 1) := by decide +kernel
theorem dX11_takesWord_21 : decode cX11_takesWord 21 = .ok (.aload_n 0, 1) := by decide +kernel
theorem dX11_takesWord_22 : decode cX11_takesWord 22 = .ok (.getfield 326, 3) := by decide +kernel
theorem dX11_takesWord_25 : decode cX11_takesWord 25 = .ok (.if_icmp .ne 5, 3) := by decide +kernel
theorem dX11_takesWord_28 : decode cX11_takesWord 28 = .ok (.iconst 0, 1) := by decide +kernel
theorem dX11_takesWord_29 : decode cX11_takesWord 29 = .ok (.ireturn, 1) := by decide +kernel
theorem dX11_takesWord_30 : decode cX11_takesWord 30 = .ok (.iconst 0, 1) := by decide +kernel
theorem dX11_takesWord_31 : decode cX11_takesWord 31 = .ok (.istore_n 3, 1) := by decide +kernel
theorem dX11_takesWord_32 : decode cX11_takesWord 32 = .ok (.iconst 0, 1) := by decide +kernel
theorem dX11_takesWord_33 : decode cX11_takesWord 33 = .ok (.istore 4, 2) := by decide +kernel
theorem dX11_takesWord_35 : decode cX11_takesWord 35 = .ok (.aload_n 0, 1) := by decide +kernel
theorem dX11_takesWord_36 : decode cX11_takesWord 36 = .ok (.iload_n 2, 1) := by decide +kernel
theorem dX11_takesWord_37 : decode cX11_takesWord 37 = .ok (.iload 4, 2) := by decide +kernel
theorem dX11_takesWord_39 : decode cX11_takesWord 39 = .ok (.iadd, 1) := by decide +kernel
theorem dX11_takesWord_40 : decode cX11_takesWord 40 = .ok (.invokevirtual 323, 3) := by decide +kernel
theorem dX11_takesWord_43 : decode cX11_takesWord 43 = .ok (.ifCond .eq 37, 3) := by decide +kernel
theorem dX11_takesWord_46 : decode cX11_takesWord 46 = .ok (.iload 4, 2) := by decide +kernel
theorem dX11_takesWord_48 : decode cX11_takesWord 48 = .ok (.iconst 5, 1) := by decide +kernel
theorem dX11_takesWord_49 : decode cX11_takesWord 49 = .ok (.if_icmp .ge 23, 3) := by decide +kernel
theorem dX11_takesWord_52 : decode cX11_takesWord 52 = .ok (.bipush 32, 2) := by decide +kernel
theorem dX11_takesWord_54 : decode cX11_takesWord 54 = .ok (.iload_n 3, 1) := by decide +kernel
theorem dX11_takesWord_55 : decode cX11_takesWord 55 = .ok (.imul, 1) := by decide +kernel
theorem dX11_takesWord_56 : decode cX11_takesWord 56 = .ok (.aload_n 0, 1) := by decide +kernel
theorem dX11_takesWord_57 : decode cX11_takesWord 57 = .ok (.getfield 7, 3) := by decide +kernel
theorem dX11_takesWord_60 : decode cX11_takesWord 60 = .ok (.iload_n 2, 1) := by decide +kernel
theorem dX11_takesWord_61 : decode cX11_takesWord 61 = .ok (.iload 4, 2) := by decide +kernel
theorem dX11_takesWord_63 : decode cX11_takesWord 63 = .ok (.iadd, 1) := by decide +kernel
theorem dX11_takesWord_64 : decode cX11_takesWord 64 = .ok (.baload, 1) := by decide +kernel
theorem dX11_takesWord_65 : decode cX11_takesWord 65 = .ok (.iadd, 1) := by decide +kernel
theorem dX11_takesWord_66 : decode cX11_takesWord 66 = .ok (.bipush 96, 2) := by decide +kernel
theorem dX11_takesWord_68 : decode cX11_takesWord 68 = .ok (.isub, 1) := by decide +kernel
theorem dX11_takesWord_69 : decode cX11_takesWord 69 = .ok (.goto 4, 3) := by decide +kernel
theorem dX11_takesWord_72 : decode cX11_takesWord 72 = .ok (.iconst (-1), 1) := by decide +kernel
theorem dX11_takesWord_73 : decode cX11_takesWord 73 = .ok (.istore_n 3, 1) := by decide +kernel
theorem dX11_takesWord_74 : decode cX11_takesWord 74 = .ok (.iinc 4 1, 3) := by decide +kernel
theorem dX11_takesWord_77 : decode cX11_takesWord 77 = .ok (.goto (-42), 3) := by decide +kernel
theorem dX11_takesWord_80 : decode cX11_takesWord 80 = .ok (.iload_n 3, 1) := by decide +kernel
theorem dX11_takesWord_81 : decode cX11_takesWord 81 = .ok (.iload_n 1, 1) := by decide +kernel
theorem dX11_takesWord_82 : decode cX11_takesWord 82 = .ok (.if_icmp .ne 9, 3) := by decide +kernel
theorem dX11_takesWord_85 : decode cX11_takesWord 85 = .ok (.iload 4, 2) := by decide +kernel
theorem dX11_takesWord_87 : decode cX11_takesWord 87 = .ok (.iconst 5, 1) := by decide +kernel
theorem dX11_takesWord_88 : decode cX11_takesWord 88 = .ok (.if_icmp .le 5, 3) := by decide +kernel
theorem dX11_takesWord_91 : decode cX11_takesWord 91 = .ok (.iconst 0, 1) := by decide +kernel
theorem dX11_takesWord_92 : decode cX11_takesWord 92 = .ok (.ireturn, 1) := by decide +kernel
theorem dX11_takesWord_93 : decode cX11_takesWord 93 = .ok (.aload_n 0, 1) := by decide +kernel
theorem dX11_takesWord_94 : decode cX11_takesWord 94 = .ok (.iload_n 2, 1) := by decide +kernel
theorem dX11_takesWord_95 : decode cX11_takesWord 95 = .ok (.iload 4, 2) := by decide +kernel
theorem dX11_takesWord_97 : decode cX11_takesWord 97 = .ok (.iadd, 1) := by decide +kernel
theorem dX11_takesWord_98 : decode cX11_takesWord 98 = .ok (.putfield 303, 3) := by decide +kernel
theorem dX11_takesWord_101 : decode cX11_takesWord 101 = .ok (.aload_n 0, 1) := by decide +kernel
theorem dX11_takesWord_102 : decode cX11_takesWord 102 = .ok (.aload_n 0, 1) := by decide +kernel
theorem dX11_takesWord_103 : decode cX11_takesWord 103 = .ok (.getfield 303, 3) := by decide +kernel
theorem dX11_takesWord_106 : decode cX11_takesWord 106 = .ok (.putfield 326, 3) := by decide +kernel
theorem dX11_takesWord_109 : decode cX11_takesWord 109 = .ok (.iconst 1, 1) := by decide +kernel
theorem dX11_takesWord_110 : decode cX11_takesWord 110 = .ok (.ireturn, 1) := by decide +kernel
theorem dX11_asks_0 : decode cX11_asks 0 = .ok (.aload_n 0, 1) := by decide +kernel
theorem dX11_asks_1 : decode cX11_asks 1 = .ok (.invokevirtual 313, 3) := by decide +kernel
theorem dX11_asks_4 : decode cX11_asks 4 = .ok (.ifCond .eq 15, 3) := by decide +kernel
theorem dX11_asks_7 : decode cX11_asks 7 = .ok (.aload_n 0, 1) := by decide +kernel
theorem dX11_asks_8 : decode cX11_asks 8 = .ok (.iload_n 1, 1) := by decide +kernel
theorem dX11_asks_9 : decode cX11_asks 9 = .ok (.invokevirtual 329, 3) := by decide +kernel
theorem dX11_asks_12 : decode cX11_asks 12 = .ok (.ifCond .ne 7, 3) := by decide +kernel
theorem dX11_asks_15 : decode cX11_asks 15 = .ok (.aload_n 0, 1) := by decide +kernel
theorem dX11_asks_16 : decode cX11_asks 16 = .ok (.invokevirtual 320, 3) := by decide +kernel
theorem dX11_asks_19 : decode cX11_asks 19 = .ok (.return_, 1) := by decide +kernel
