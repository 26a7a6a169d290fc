theorem dX10_run_13 : decode cX10_run 13 = .ok (.aload_n 0, 1) := by decide +kernel
theorem dX10_run_14 : decode cX10_run 14 = .ok (.getfield 40, 3) := by decide +kernel
theorem dX10_run_17 : decode cX10_run 17 = .ok (.aload_n 0, 1) := by decide +kernel
theorem dX10_run_18 : decode cX10_run 18 = .ok (.getfield 15, 3) := by decide +kernel
theorem dX10_run_21 : decode cX10_run 21 = .ok (.aload_n 0, 1) := by decide +kernel
theorem dX10_run_22 : decode cX10_run 22 = .ok (.getfield 19, 3) := by decide +kernel
theorem dX10_run_25 : decode cX10_run 25 = .ok (.invokevirtual 276, 3) := by decide +kernel
theorem dX10_run_28 : decode cX10_run 28 = .ok (.aload_n 0, 1) := by decide +kernel
theorem dX10_run_29 : decode cX10_run 29 = .ok (.iconst 0, 1) := by decide +kernel
theorem dX10_run_30 : decode cX10_run 30 = .ok (.putfield 19, 3) := by decide +kernel
theorem dX10_run_33 : decode cX10_run 33 = .ok (.aload_n 0, 1) := by decide +kernel
theorem dX10_run_34 : decode cX10_run 34 = .ok (.getfield 47, 3) := by decide +kernel
theorem dX10_run_37 : decode cX10_run 37 = .ok (.invokevirtual 280, 3) := by decide +kernel
theorem dX10_run_40 : decode cX10_run 40 = .ok (.aload_n 0, 1) := by decide +kernel
theorem dX10_run_41 : decode cX10_run 41 = .ok (.getfield 40, 3) := by decide +kernel
theorem dX10_run_44 : decode cX10_run 44 = .ok (.getfield 282, 3) := by decide +kernel
theorem dX10_run_47 : decode cX10_run 47 = .ok (.ifCond .eq 5, 3) := by decide +kernel
theorem dX10_run_50 : decode cX10_run 50 = .ok (.iconst (-1), 1) := by decide +kernel
theorem dX10_run_51 : decode cX10_run 51 = .ok (.ireturn, 1) := by decide +kernel
theorem dX10_run_52 : decode cX10_run 52 = .ok (.aload_n 0, 1) := by decide +kernel
theorem dX10_run_53 : decode cX10_run 53 = .ok (.getfield 47, 3) := by decide +kernel
theorem dX10_run_56 : decode cX10_run 56 = .ok (.aload_n 0, 1) := by decide +kernel
theorem dX10_run_57 : decode cX10_run 57 = .ok (.getfield 40, 3) := by decide +kernel
theorem dX10_run_60 : decode cX10_run 60 = .ok (.getfield 285, 3) := by decide +kernel
theorem dX10_run_63 : decode cX10_run 63 = .ok (.aload_n 2, 1) := by decide +kernel
theorem dX10_run_64 : decode cX10_run 64 = .ok (.invokevirtual 289, 3) := by decide +kernel
theorem dX10_run_67 : decode cX10_run 67 = .ok (.aload_n 0, 1) := by decide +kernel
theorem dX10_run_68 : decode cX10_run 68 = .ok (.getfield 47, 3) := by decide +kernel
theorem dX10_run_71 : decode cX10_run 71 = .ok (.getfield 293, 3) := by decide +kernel
theorem dX10_run_74 : decode cX10_run 74 = .ok (.ireturn, 1) := by decide +kernel
