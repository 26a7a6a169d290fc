theorem dX11_closesBlock_0 : decode cX11_closesBlock 0 = .ok (.aload_n 0, 1) := by decide +kernel
theorem dX11_closesBlock_1 : decode cX11_closesBlock 1 = .ok (.dup, 1) := by decide +kernel
theorem dX11_closesBlock_2 : decode cX11_closesBlock 2 = .ok (.getfield 303, 3) := by decide +kernel
theorem dX11_closesBlock_5 : decode cX11_closesBlock 5 = .ok (.iconst 1, 1) := by decide +kernel
theorem dX11_closesBlock_6 : decode cX11_closesBlock 6 = .ok (.iadd, 1) := by decide +kernel
theorem dX11_closesBlock_7 : decode cX11_closesBlock 7 = .ok (.putfield 303, 3) := by decide +kernel
theorem dX11_closesBlock_10 : decode cX11_closesBlock 10 = .ok (.aload_n 0, 1) := by decide +kernel
theorem dX11_closesBlock_11 : decode cX11_closesBlock 11 = .ok (.dup, 1) := by decide +kernel
theorem dX11_closesBlock_12 : decode cX11_closesBlock 12 = .ok (.getfield 286, 3) := by decide +kernel
theorem dX11_closesBlock_15 : decode cX11_closesBlock 15 = .ok (.iconst 1, 1) := by decide +kernel
theorem dX11_closesBlock_16 : decode cX11_closesBlock 16 = .ok (.isub, 1) := by decide +kernel
theorem dX11_closesBlock_17 : decode cX11_closesBlock 17 = .ok (.putfield 286, 3) := by decide +kernel
theorem dX11_closesBlock_20 : decode cX11_closesBlock 20 = .ok (.aload_n 0, 1) := by decide +kernel
theorem dX11_closesBlock_21 : decode cX11_closesBlock 21 = .ok (.getfield 48, 3) := by decide +kernel
theorem dX11_closesBlock_24 : decode cX11_closesBlock 24 = .ok (.aload_n 0, 1) := by decide +kernel
theorem dX11_closesBlock_25 : decode cX11_closesBlock 25 = .ok (.getfield 286, 3) := by decide +kernel
theorem dX11_closesBlock_28 : decode cX11_closesBlock 28 = .ok (.iaload, 1) := by decide +kernel
theorem dX11_closesBlock_29 : decode cX11_closesBlock 29 = .ok (.istore_n 1, 1) := by decide +kernel
theorem dX11_closesBlock_30 : decode cX11_closesBlock 30 = .ok (.aload_n 0, 1) := by decide +kernel
theorem dX11_closesBlock_31 : decode cX11_closesBlock 31 = .ok (.bipush 6, 2) := by decide +kernel
theorem dX11_closesBlock_33 : decode cX11_closesBlock 33 = .ok (.iload_n 1, 1) := by decide +kernel
theorem dX11_closesBlock_34 : decode cX11_closesBlock 34 = .ok (.invokevirtual 344, 3) := by decide +kernel
theorem dX11_closesBlock_37 : decode cX11_closesBlock 37 = .ok (.aload_n 0, 1) := by decide +kernel
theorem dX11_closesBlock_38 : decode cX11_closesBlock 38 = .ok (.getfield 45, 3) := by decide +kernel
theorem dX11_closesBlock_41 : decode cX11_closesBlock 41 = .ok (.iconst 2, 1) := by decide +kernel
theorem dX11_closesBlock_42 : decode cX11_closesBlock 42 = .ok (.iload_n 1, 1) := by decide +kernel
theorem dX11_closesBlock_43 : decode cX11_closesBlock 43 = .ok (.imul, 1) := by decide +kernel
theorem dX11_closesBlock_44 : decode cX11_closesBlock 44 = .ok (.iconst 3, 1) := by decide +kernel
theorem dX11_closesBlock_45 : decode cX11_closesBlock 45 = .ok (.iadd, 1) := by decide +kernel
theorem dX11_closesBlock_46 : decode cX11_closesBlock 46 = .ok (.aload_n 0, 1) := by decide +kernel
theorem dX11_closesBlock_47 : decode cX11_closesBlock 47 = .ok (.getfield 335, 3) := by decide +kernel
theorem dX11_closesBlock_50 : decode cX11_closesBlock 50 = .ok (.iastore, 1) := by decide +kernel
theorem dX11_closesBlock_51 : decode cX11_closesBlock 51 = .ok (.aload_n 0, 1) := by decide +kernel
theorem dX11_closesBlock_52 : decode cX11_closesBlock 52 = .ok (.bipush 59, 2) := by decide +kernel
theorem dX11_closesBlock_54 : decode cX11_closesBlock 54 = .ok (.invokevirtual 363, 3) := by decide +kernel
theorem dX11_closesBlock_57 : decode cX11_closesBlock 57 = .ok (.return_, 1) := by decide +kernel
