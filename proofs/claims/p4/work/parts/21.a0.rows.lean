theorem dX11_make_0 : decode cX11_make 0 = .ok (.aload_n 0, 1) := by decide +kernel
theorem dX11_make_1 : decode cX11_make 1 = .ok (.iconst 0, 1) := by decide +kernel
theorem dX11_make_2 : decode cX11_make 2 = .ok (.putfield 73, 3) := by decide +kernel
theorem dX11_make_5 : decode cX11_make 5 = .ok (.iload_n 1, 1) := by decide +kernel
theorem dX11_make_6 : decode cX11_make 6 = .ok (.i2l, 1) := by decide +kernel
theorem dX11_make_7 : decode cX11_make 7 = .ok (.lconst 0, 1) := by decide +kernel
theorem dX11_make_8 : decode cX11_make 8 = .ok (.ldc2_w 87, 3) := by decide +kernel
theorem dX11_make_11 : decode cX11_make 11 = .ok (.invokestatic 83, 3) := by decide +kernel
theorem dX11_make_14 : decode cX11_make 14 = .ok (.ifCond .eq 44, 3) := by decide +kernel
theorem dX11_make_17 : decode cX11_make 17 = .ok (.iload_n 2, 1) := by decide +kernel
theorem dX11_make_18 : decode cX11_make 18 = .ok (.i2l, 1) := by decide +kernel
theorem dX11_make_19 : decode cX11_make 19 = .ok (.ldc2_w 178, 3) := by decide +kernel
theorem dX11_make_22 : decode cX11_make 22 = .ok (.ldc2_w 180, 3) := by decide +kernel
theorem dX11_make_25 : decode cX11_make 25 = .ok (.invokestatic 83, 3) := by decide +kernel
theorem dX11_make_28 : decode cX11_make 28 = .ok (.ifCond .eq 30, 3) := by decide +kernel
theorem dX11_make_31 : decode cX11_make 31 = .ok (.iload_n 3, 1) := by decide +kernel
theorem dX11_make_32 : decode cX11_make 32 = .ok (.i2l, 1) := by decide +kernel
theorem dX11_make_33 : decode cX11_make 33 = .ok (.ldc2_w 182, 3) := by decide +kernel
theorem dX11_make_36 : decode cX11_make 36 = .ok (.ldc2_w 184, 3) := by decide +kernel
theorem dX11_make_39 : decode cX11_make 39 = .ok (.invokestatic 83, 3) := by decide +kernel
theorem dX11_make_42 : decode cX11_make 42 = .ok (.ifCond .eq 16, 3) := by decide +kernel
theorem dX11_make_45 : decode cX11_make 45 = .ok (.iload 4, 2) := by decide +kernel
theorem dX11_make_47 : decode cX11_make 47 = .ok (.i2l, 1) := by decide +kernel
theorem dX11_make_48 : decode cX11_make 48 = .ok (.lconst 0, 1) := by decide +kernel
theorem dX11_make_49 : decode cX11_make 49 = .ok (.ldc2_w 186, 3) := by decide +kernel
theorem dX11_make_52 : decode cX11_make 52 = .ok (.invokestatic 83, 3) := by decide +kernel
theorem dX11_make_55 : decode cX11_make 55 = .ok (.ifCond .ne 6, 3) := by decide +kernel
theorem dX11_make_58 : decode cX11_make 58 = .ok (.bipush (-2), 2) := by decide +kernel
theorem dX11_make_60 : decode cX11_make 60 = .ok (.ireturn, 1) := by decide +kernel
theorem dX11_make_61 : decode cX11_make 61 = .ok (.aload_n 0, 1) := by decide +kernel
theorem dX11_make_62 : decode cX11_make 62 = .ok (.iload_n 1, 1) := by decide +kernel
theorem dX11_make_63 : decode cX11_make 63 = .ok (.iload_n 2, 1) := by decide +kernel
theorem dX11_make_64 : decode cX11_make 64 = .ok (.iload_n 3, 1) := by decide +kernel
theorem dX11_make_65 : decode cX11_make 65 = .ok (.iload 4, 2) := by decide +kernel
theorem dX11_make_67 : decode cX11_make 67 = .ok (.lload 5, 2) := by decide +kernel
theorem dX11_make_69 : decode cX11_make 69 = .ok (.invokevirtual 188, 3) := by decide +kernel
theorem dX11_make_72 : decode cX11_make 72 = .ok (.aload_n 0, 1) := by decide +kernel
theorem dX11_make_73 : decode cX11_make 73 = .ok (.iload_n 1, 1) := by decide +kernel
theorem dX11_make_74 : decode cX11_make 74 = .ok (.invokevirtual 192, 3) := by decide +kernel
theorem dX11_make_77 : decode cX11_make 77 = .ok (.iconst 1, 1) := by decide +kernel
theorem dX11_make_78 : decode cX11_make 78 = .ok (.ireturn, 1) := by decide +kernel
