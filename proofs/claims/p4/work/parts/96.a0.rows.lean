theorem dX10_put_12 : decode cX10_put 12 = .ok (.iload_n 2, 1) := by decide +kernel
theorem dX10_put_13 : decode cX10_put 13 = .ok (.invokestatic 77, 3) := by decide +kernel
theorem dX10_put_16 : decode cX10_put 16 = .ok (.ifCond .ne 6, 3) := by decide +kernel
theorem dX10_put_22 : decode cX10_put 22 = .ok (.aload 4, 2) := by decide +kernel
theorem dX10_put_24 : decode cX10_put 24 = .ok (.iload_n 2, 1) := by decide +kernel
theorem dX10_put_25 : decode cX10_put 25 = .ok (.invokevirtual 80, 3) := by decide +kernel
theorem dX10_put_28 : decode cX10_put 28 = .ok (.ifCond .eq 6, 3) := by decide +kernel
theorem dX10_put_31 : decode cX10_put 31 = .ok (.bipush (-3), 2) := by decide +kernel
theorem dX10_put_33 : decode cX10_put 33 = .ok (.ireturn, 1) := by decide +kernel
theorem dX10_put_34 : decode cX10_put 34 = .ok (.aload 4, 2) := by decide +kernel
theorem dX10_put_36 : decode cX10_put 36 = .ok (.iload_n 2, 1) := by decide +kernel
theorem dX10_put_37 : decode cX10_put 37 = .ok (.invokevirtual 83, 3) := by decide +kernel
theorem dX10_put_40 : decode cX10_put 40 = .ok (.aload 4, 2) := by decide +kernel
theorem dX10_put_42 : decode cX10_put 42 = .ok (.iload_n 2, 1) := by decide +kernel
theorem dX10_put_43 : decode cX10_put 43 = .ok (.iload_n 3, 1) := by decide +kernel
theorem dX10_put_44 : decode cX10_put 44 = .ok (.invokevirtual 87, 3) := by decide +kernel
theorem dX10_put_47 : decode cX10_put 47 = .ok (.ireturn, 1) := by decide +kernel
theorem dX10_get_10 : decode cX10_get 10 = .ok (.iload_n 2, 1) := by decide +kernel
theorem dX10_get_11 : decode cX10_get 11 = .ok (.invokestatic 77, 3) := by decide +kernel
theorem dX10_get_14 : decode cX10_get 14 = .ok (.ifCond .ne 7, 3) := by decide +kernel
theorem dX10_get_21 : decode cX10_get 21 = .ok (.aload_n 3, 1) := by decide +kernel
theorem dX10_get_22 : decode cX10_get 22 = .ok (.iload_n 2, 1) := by decide +kernel
theorem dX10_get_23 : decode cX10_get 23 = .ok (.invokevirtual 83, 3) := by decide +kernel
theorem dX10_get_26 : decode cX10_get 26 = .ok (.aload_n 3, 1) := by decide +kernel
theorem dX10_get_27 : decode cX10_get 27 = .ok (.getfield 93, 3) := by decide +kernel
theorem dX10_get_30 : decode cX10_get 30 = .ok (.iload_n 2, 1) := by decide +kernel
theorem dX10_get_31 : decode cX10_get 31 = .ok (.invokevirtual 97, 3) := by decide +kernel
theorem dX10_get_34 : decode cX10_get 34 = .ok (.istore 4, 2) := by decide +kernel
theorem dX10_get_36 : decode cX10_get 36 = .ok (.iload 4, 2) := by decide +kernel
theorem dX10_get_38 : decode cX10_get 38 = .ok (.ifCond .ge 9, 3) := by decide +kernel
theorem dX10_get_41 : decode cX10_get 41 = .ok (.ldc2_w 91, 3) := by decide +kernel
theorem dX10_get_44 : decode cX10_get 44 = .ok (.goto 13, 3) := by decide +kernel
theorem dX10_get_47 : decode cX10_get 47 = .ok (.aload_n 3, 1) := by decide +kernel
theorem dX10_get_48 : decode cX10_get 48 = .ok (.getfield 93, 3) := by decide +kernel
theorem dX10_get_51 : decode cX10_get 51 = .ok (.iload 4, 2) := by decide +kernel
theorem dX10_get_53 : decode cX10_get 53 = .ok (.invokevirtual 103, 3) := by decide +kernel
theorem dX10_get_56 : decode cX10_get 56 = .ok (.i2l, 1) := by decide +kernel
theorem dX10_get_57 : decode cX10_get 57 = .ok (.lreturn, 1) := by decide +kernel
theorem dX10_drop_10 : decode cX10_drop 10 = .ok (.iload_n 2, 1) := by decide +kernel
theorem dX10_drop_11 : decode cX10_drop 11 = .ok (.invokestatic 77, 3) := by decide +kernel
theorem dX10_drop_14 : decode cX10_drop 14 = .ok (.ifCond .ne 6, 3) := by decide +kernel
theorem dX10_drop_20 : decode cX10_drop 20 = .ok (.aload_n 3, 1) := by decide +kernel
theorem dX10_drop_21 : decode cX10_drop 21 = .ok (.iload_n 2, 1) := by decide +kernel
theorem dX10_drop_22 : decode cX10_drop 22 = .ok (.invokevirtual 83, 3) := by decide +kernel
theorem dX10_drop_25 : decode cX10_drop 25 = .ok (.aload_n 3, 1) := by decide +kernel
theorem dX10_drop_26 : decode cX10_drop 26 = .ok (.iload_n 2, 1) := by decide +kernel
theorem dX10_drop_27 : decode cX10_drop 27 = .ok (.invokevirtual 106, 3) := by decide +kernel
theorem dX10_drop_30 : decode cX10_drop 30 = .ok (.ireturn, 1) := by decide +kernel
theorem dX10_build_13 : decode cX10_build 13 = .ok (.aload_n 2, 1) := by decide +kernel
theorem dX10_build_14 : decode cX10_build 14 = .ok (.getfield 109, 3) := by decide +kernel
theorem dX10_build_17 : decode cX10_build 17 = .ok (.getfield 113, 3) := by decide +kernel
theorem dX10_build_20 : decode cX10_build 20 = .ok (.istore_n 3, 1) := by decide +kernel
theorem dX10_build_21 : decode cX10_build 21 = .ok (.aload_n 2, 1) := by decide +kernel
theorem dX10_build_22 : decode cX10_build 22 = .ok (.invokevirtual 71, 3) := by decide +kernel
theorem dX10_build_25 : decode cX10_build 25 = .ok (.aload_n 2, 1) := by decide +kernel
theorem dX10_build_26 : decode cX10_build 26 = .ok (.dup, 1) := by decide +kernel
theorem dX10_build_27 : decode cX10_build 27 = .ok (.getfield 118, 3) := by decide +kernel
theorem dX10_build_30 : decode cX10_build 30 = .ok (.iconst 1, 1) := by decide +kernel
theorem dX10_build_31 : decode cX10_build 31 = .ok (.iadd, 1) := by decide +kernel
theorem dX10_build_32 : decode cX10_build 32 = .ok (.putfield 118, 3) := by decide +kernel
theorem dX10_build_35 : decode cX10_build 35 = .ok (.aload_n 2, 1) := by decide +kernel
theorem dX10_build_36 : decode cX10_build 36 = .ok (.getfield 109, 3) := by decide +kernel
theorem dX10_build_39 : decode cX10_build 39 = .ok (.getfield 113, 3) := by decide +kernel
theorem dX10_build_42 : decode cX10_build 42 = .ok (.iload_n 3, 1) := by decide +kernel
theorem dX10_build_43 : decode cX10_build 43 = .ok (.isub, 1) := by decide +kernel
theorem dX10_build_44 : decode cX10_build 44 = .ok (.ireturn, 1) := by decide +kernel
