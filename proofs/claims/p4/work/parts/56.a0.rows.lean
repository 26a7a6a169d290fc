theorem dX11_emits_0 : decode cX11_emits 0 = .ok (.aload_n 0, 1) := by decide +kernel
theorem dX11_emits_1 : decode cX11_emits 1 = .ok (.getfield 45, 3) := by decide +kernel
theorem dX11_emits_4 : decode cX11_emits 4 = .ok (.iconst 2, 1) := by decide +kernel
theorem dX11_emits_5 : decode cX11_emits 5 = .ok (.aload_n 0, 1) := by decide +kernel
theorem dX11_emits_6 : decode cX11_emits 6 = .ok (.getfield 335, 3) := by decide +kernel
theorem dX11_emits_9 : decode cX11_emits 9 = .ok (.imul, 1) := by decide +kernel
theorem dX11_emits_10 : decode cX11_emits 10 = .ok (.iload_n 1, 1) := by decide +kernel
theorem dX11_emits_11 : decode cX11_emits 11 = .ok (.iastore, 1) := by decide +kernel
theorem dX11_emits_12 : decode cX11_emits 12 = .ok (.aload_n 0, 1) := by decide +kernel
theorem dX11_emits_13 : decode cX11_emits 13 = .ok (.getfield 45, 3) := by decide +kernel
theorem dX11_emits_16 : decode cX11_emits 16 = .ok (.iconst 2, 1) := by decide +kernel
theorem dX11_emits_17 : decode cX11_emits 17 = .ok (.aload_n 0, 1) := by decide +kernel
theorem dX11_emits_18 : decode cX11_emits 18 = .ok (.getfield 335, 3) := by decide +kernel
theorem dX11_emits_21 : decode cX11_emits 21 = .ok (.imul, 1) := by decide +kernel
theorem dX11_emits_22 : decode cX11_emits 22 = .ok (.iconst 1, 1) := by decide +kernel
theorem dX11_emits_23 : decode cX11_emits 23 = .ok (.iadd, 1) := by decide +kernel
theorem dX11_emits_24 : decode cX11_emits 24 = .ok (.iload_n 2, 1) := by decide +kernel
theorem dX11_emits_25 : decode cX11_emits 25 = .ok (.iastore, 1) := by decide +kernel
theorem dX11_emits_26 : decode cX11_emits 26 = .ok (.aload_n 0, 1) := by decide +kernel
theorem dX11_emits_27 : decode cX11_emits 27 = .ok (.dup, 1) := by decide +kernel
theorem dX11_emits_28 : decode cX11_emits 28 = .ok (.getfield 335, 3) := by decide +kernel
theorem dX11_emits_31 : decode cX11_emits 31 = .ok (.iconst 1, 1) := by decide +kernel
theorem dX11_emits_32 : decode cX11_emits 32 = .ok (.iadd, 1) := by decide +kernel
theorem dX11_emits_33 : decode cX11_emits 33 = .ok (.putfield 335, 3) := by decide +kernel
theorem dX11_emits_36 : decode cX11_emits 36 = .ok (.return_, 1) := by decide +kernel
theorem dX11_works_0 : decode cX11_works 0 = .ok (.aload_n 0, 1) := by decide +kernel
theorem dX11_works_1 : decode cX11_works 1 = .ok (.getfield 341, 3) := by decide +kernel
theorem dX11_works_4 : decode cX11_works 4 = .ok (.ifCond .le 61, 3) := by decide +kernel
theorem dX11_works_7 : decode cX11_works 7 = .ok (.aload_n 0, 1) := by decide +kernel
theorem dX11_works_8 : decode cX11_works 8 = .ok (.getfield 51, 3) := by decide +kernel
theorem dX11_works_11 : decode cX11_works 11 = .ok (.aload_n 0, 1) := by decide +kernel
theorem dX11_works_12 : decode cX11_works 12 = .ok (.getfield 341, 3) := by decide +kernel
theorem dX11_works_15 : decode cX11_works 15 = .ok (.iconst 1, 1) := by decide +kernel
theorem dX11_works_16 : decode cX11_works 16 = .ok (.isub, 1) := by decide +kernel
theorem dX11_works_17 : decode cX11_works 17 = .ok (.iaload, 1) := by decide +kernel
theorem dX11_works_18 : decode cX11_works 18 = .ok (.bipush 18, 2) := by decide +kernel
theorem dX11_works_20 : decode cX11_works 20 = .ok (.if_icmp .eq 45, 3) := by decide +kernel
theorem dX11_works_23 : decode cX11_works 23 = .ok (.aload_n 0, 1) := by decide +kernel
theorem dX11_works_24 : decode cX11_works 24 = .ok (.getfield 51, 3) := by decide +kernel
theorem dX11_works_27 : decode cX11_works 27 = .ok (.aload_n 0, 1) := by decide +kernel
theorem dX11_works_28 : decode cX11_works 28 = .ok (.getfield 341, 3) := by decide +kernel
theorem dX11_works_31 : decode cX11_works 31 = .ok (.iconst 1, 1) := by decide +kernel
theorem dX11_works_32 : decode cX11_works 32 = .ok (.isub, 1) := by decide +kernel
theorem dX11_works_33 : decode cX11_works 33 = .ok (.iaload, 1) := by decide +kernel
theorem dX11_works_34 : decode cX11_works 34 = .ok (.iload_n 1, 1) := by decide +kernel
theorem dX11_works_35 : decode cX11_works 35 = .ok (.if_icmp .lt 30, 3) := by decide +kernel
theorem dX11_works_38 : decode cX11_works 38 = .ok (.aload_n 0, 1) := by decide +kernel
theorem dX11_works_39 : decode cX11_works 39 = .ok (.dup, 1) := by decide +kernel
theorem dX11_works_40 : decode cX11_works 40 = .ok (.getfield 341, 3) := by decide +kernel
theorem dX11_works_43 : decode cX11_works 43 = .ok (.iconst 1, 1) := by decide +kernel
theorem dX11_works_44 : decode cX11_works 44 = .ok (.isub, 1) := by decide +kernel
theorem dX11_works_45 : decode cX11_works 45 = .ok (.putfield 341, 3) := by decide +kernel
theorem dX11_works_48 : decode cX11_works 48 = .ok (.aload_n 0, 1) := by decide +kernel
theorem dX11_works_49 : decode cX11_works 49 = .ok (.aload_n 0, 1) := by decide +kernel
theorem dX11_works_50 : decode cX11_works 50 = .ok (.getfield 51, 3) := by decide +kernel
theorem dX11_works_53 : decode cX11_works 53 = .ok (.aload_n 0, 1) := by decide +kernel
theorem dX11_works_54 : decode cX11_works 54 = .ok (.getfield 341, 3) := by decide +kernel
theorem dX11_works_57 : decode cX11_works 57 = .ok (.iaload, 1) := by decide +kernel
theorem dX11_works_58 : decode cX11_works 58 = .ok (.iconst 0, 1) := by decide +kernel
theorem dX11_works_59 : decode cX11_works 59 = .ok (.invokevirtual 344, 3) := by decide +kernel
theorem dX11_works_62 : decode cX11_works 62 = .ok (.goto (-62), 3) := by decide +kernel
theorem dX11_works_65 : decode cX11_works 65 = .ok (.return_, 1) := by decide +kernel
