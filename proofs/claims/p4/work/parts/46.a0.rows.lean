theorem dX11_count_0 : decode cX11_count 0 = .ok (.aload_n 0, 1) := by decide +kernel
theorem dX11_count_1 : decode cX11_count 1 = .ok (.iconst 0, 1) := by decide +kernel
theorem dX11_count_2 : decode cX11_count 2 = .ok (.putfield 73, 3) := by decide +kernel
theorem dX11_count_5 : decode cX11_count 5 = .ok (.iconst 0, 1) := by decide +kernel
theorem dX11_count_6 : decode cX11_count 6 = .ok (.istore_n 2, 1) := by decide +kernel
theorem dX11_count_7 : decode cX11_count 7 = .ok (.iconst 0, 1) := by decide +kernel
theorem dX11_count_8 : decode cX11_count 8 = .ok (.istore_n 3, 1) := by decide +kernel
theorem dX11_count_9 : decode cX11_count 9 = .ok (.iconst 0, 1) := by decide +kernel
theorem dX11_count_10 : decode cX11_count 10 = .ok (.istore 4, 2) := by decide +kernel
theorem dX11_count_12 : decode cX11_count 12 = .ok (.iload 4, 2) := by decide +kernel
theorem dX11_count_14 : decode cX11_count 14 = .ok (.iconst 4, 1) := by decide +kernel
theorem dX11_count_15 : decode cX11_count 15 = .ok (.if_icmp .ge 43, 3) := by decide +kernel
theorem dX11_count_18 : decode cX11_count 18 = .ok (.iload_n 2, 1) := by decide +kernel
theorem dX11_count_19 : decode cX11_count 19 = .ok (.aload_n 0, 1) := by decide +kernel
theorem dX11_count_20 : decode cX11_count 20 = .ok (.iload 4, 2) := by decide +kernel
theorem dX11_count_22 : decode cX11_count 22 = .ok (.invokevirtual 222, 3) := by decide +kernel
theorem dX11_count_25 : decode cX11_count 25 = .ok (.invokestatic 198, 3) := by decide +kernel
theorem dX11_count_28 : decode cX11_count 28 = .ok (.iadd, 1) := by decide +kernel
theorem dX11_count_29 : decode cX11_count 29 = .ok (.istore_n 2, 1) := by decide +kernel
theorem dX11_count_30 : decode cX11_count 30 = .ok (.iload_n 3, 1) := by decide +kernel
theorem dX11_count_31 : decode cX11_count 31 = .ok (.aload_n 0, 1) := by decide +kernel
theorem dX11_count_32 : decode cX11_count 32 = .ok (.iload 4, 2) := by decide +kernel
theorem dX11_count_34 : decode cX11_count 34 = .ok (.invokevirtual 222, 3) := by decide +kernel
theorem dX11_count_37 : decode cX11_count 37 = .ok (.ifCond .eq 12, 3) := by decide +kernel
theorem dX11_count_40 : decode cX11_count 40 = .ok (.aload_n 0, 1) := by decide +kernel
theorem dX11_count_41 : decode cX11_count 41 = .ok (.iload 4, 2) := by decide +kernel
theorem dX11_count_43 : decode cX11_count 43 = .ok (.invokevirtual 95, 3) := by decide +kernel
theorem dX11_count_46 : decode cX11_count 46 = .ok (.goto 4, 3) := by decide +kernel
theorem dX11_count_49 : decode cX11_count 49 = .ok (.iconst 0, 1) := by decide +kernel
theorem dX11_count_50 : decode cX11_count 50 = .ok (.iadd, 1) := by decide +kernel
theorem dX11_count_51 : decode cX11_count 51 = .ok (.istore_n 3, 1) := by decide +kernel
theorem dX11_count_52 : decode cX11_count 52 = .ok (.iinc 4 1, 3) := by decide +kernel
theorem dX11_count_55 : decode cX11_count 55 = .ok (.goto (-43), 3) := by decide +kernel
theorem dX11_count_58 : decode cX11_count 58 = .ok (.iload_n 1, 1) := by decide +kernel
theorem dX11_count_59 : decode cX11_count 59 = .ok (.ifCond .ne 7, 3) := by decide +kernel
theorem dX11_count_62 : decode cX11_count 62 = .ok (.iload_n 2, 1) := by decide +kernel
theorem dX11_count_63 : decode cX11_count 63 = .ok (.goto 25, 3) := by decide +kernel
theorem dX11_count_66 : decode cX11_count 66 = .ok (.iload_n 1, 1) := by decide +kernel
theorem dX11_count_67 : decode cX11_count 67 = .ok (.iconst 1, 1) := by decide +kernel
theorem dX11_count_68 : decode cX11_count 68 = .ok (.if_icmp .ne 7, 3) := by decide +kernel
theorem dX11_count_71 : decode cX11_count 71 = .ok (.iload_n 3, 1) := by decide +kernel
theorem dX11_count_72 : decode cX11_count 72 = .ok (.goto 16, 3) := by decide +kernel
theorem dX11_count_75 : decode cX11_count 75 = .ok (.iload_n 1, 1) := by decide +kernel
theorem dX11_count_76 : decode cX11_count 76 = .ok (.iconst 2, 1) := by decide +kernel
theorem dX11_count_77 : decode cX11_count 77 = .ok (.if_icmp .ne 10, 3) := by decide +kernel
theorem dX11_count_80 : decode cX11_count 80 = .ok (.aload_n 0, 1) := by decide +kernel
theorem dX11_count_81 : decode cX11_count 81 = .ok (.getfield 76, 3) := by decide +kernel
theorem dX11_count_84 : decode cX11_count 84 = .ok (.goto 4, 3) := by decide +kernel
theorem dX11_count_87 : decode cX11_count 87 = .ok (.iconst (-1), 1) := by decide +kernel
theorem dX11_count_88 : decode cX11_count 88 = .ok (.ireturn, 1) := by decide +kernel
