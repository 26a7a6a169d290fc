theorem dX6_close_10 : decode cX6_close 10 = .ok (.aload_n 0, 1) := by decide +kernel
theorem dX6_close_11 : decode cX6_close 11 = .ok (.getfield 25, 3) := by decide +kernel
theorem dX6_close_14 : decode cX6_close 14 = .ok (.aload_n 0, 1) := by decide +kernel
theorem dX6_close_15 : decode cX6_close 15 = .ok (.getfield 49, 3) := by decide +kernel
theorem dX6_close_18 : decode cX6_close 18 = .ok (.iaload, 1) := by decide +kernel
theorem dX6_close_19 : decode cX6_close 19 = .ok (.istore_n 1, 1) := by decide +kernel
theorem dX6_close_20 : decode cX6_close 20 = .ok (.aload_n 0, 1) := by decide +kernel
theorem dX6_close_21 : decode cX6_close 21 = .ok (.getfield 12, 3) := by decide +kernel
theorem dX6_close_24 : decode cX6_close 24 = .ok (.iload_n 1, 1) := by decide +kernel
theorem dX6_close_25 : decode cX6_close 25 = .ok (.aload_n 0, 1) := by decide +kernel
theorem dX6_close_26 : decode cX6_close 26 = .ok (.getfield 12, 3) := by decide +kernel
theorem dX6_close_29 : decode cX6_close 29 = .ok (.getfield 36, 3) := by decide +kernel
theorem dX6_close_32 : decode cX6_close 32 = .ok (.invokevirtual 143, 3) := by decide +kernel
theorem dX6_close_35 : decode cX6_close 35 = .ok (.aload_n 0, 1) := by decide +kernel
theorem dX6_close_36 : decode cX6_close 36 = .ok (.getfield 12, 3) := by decide +kernel
theorem dX6_close_39 : decode cX6_close 39 = .ok (.iload_n 1, 1) := by decide +kernel
theorem dX6_close_40 : decode cX6_close 40 = .ok (.invokevirtual 146, 3) := by decide +kernel
theorem dX6_close_43 : decode cX6_close 43 = .ok (.ifCond .eq 30, 3) := by decide +kernel
theorem dX6_close_46 : decode cX6_close 46 = .ok (.aload_n 0, 1) := by decide +kernel
theorem dX6_close_47 : decode cX6_close 47 = .ok (.getfield 12, 3) := by decide +kernel
theorem dX6_close_50 : decode cX6_close 50 = .ok (.bipush 93, 2) := by decide +kernel
theorem dX6_close_52 : decode cX6_close 52 = .ok (.iconst 0, 1) := by decide +kernel
theorem dX6_close_53 : decode cX6_close 53 = .ok (.invokevirtual 118, 3) := by decide +kernel
theorem dX6_close_56 : decode cX6_close 56 = .ok (.aload_n 0, 1) := by decide +kernel
theorem dX6_close_57 : decode cX6_close 57 = .ok (.getfield 12, 3) := by decide +kernel
theorem dX6_close_60 : decode cX6_close 60 = .ok (.aload_n 0, 1) := by decide +kernel
theorem dX6_close_61 : decode cX6_close 61 = .ok (.getfield 12, 3) := by decide +kernel
theorem dX6_close_64 : decode cX6_close 64 = .ok (.getfield 36, 3) := by decide +kernel
theorem dX6_close_67 : decode cX6_close 67 = .ok (.iconst 1, 1) := by decide +kernel
theorem dX6_close_68 : decode cX6_close 68 = .ok (.isub, 1) := by decide +kernel
theorem dX6_close_69 : decode cX6_close 69 = .ok (.iload_n 1, 1) := by decide +kernel
theorem dX6_close_70 : decode cX6_close 70 = .ok (.invokevirtual 143, 3) := by decide +kernel
theorem dX6_close_73 : decode cX6_close 73 = .ok (.aload_n 0, 1) := by decide +kernel
theorem dX6_close_74 : decode cX6_close 74 = .ok (.iconst 5, 1) := by decide +kernel
theorem dX6_close_75 : decode cX6_close 75 = .ok (.putfield 39, 3) := by decide +kernel
theorem dX6_close_78 : decode cX6_close 78 = .ok (.return_, 1) := by decide +kernel
theorem dX6_strength_0 : decode cX6_strength 0 = .ok (.iload_n 0, 1) := by decide +kernel
theorem dX6_strength_1 : decode cX6_strength 1 = .ok (.tableswitch 63 37 47 #[61, 63, 63, 63, 63, 61, 59, 63, 59, 63, 61], 59) := by decide +kernel
theorem dX6_strength_60 : decode cX6_strength 60 = .ok (.iconst 1, 1) := by decide +kernel
theorem dX6_strength_61 : decode cX6_strength 61 = .ok (.ireturn, 1) := by decide +kernel
theorem dX6_strength_62 : decode cX6_strength 62 = .ok (.iconst 2, 1) := by decide +kernel
theorem dX6_strength_63 : decode cX6_strength 63 = .ok (.ireturn, 1) := by decide +kernel
theorem dX6_strength_64 : decode cX6_strength 64 = .ok (.iconst 0, 1) := by decide +kernel
theorem dX6_strength_65 : decode cX6_strength 65 = .ok (.ireturn, 1) := by decide +kernel
theorem dX6_await_0 : decode cX6_await 0 = .ok (.aload_n 0, 1) := by decide +kernel
theorem dX6_await_1 : decode cX6_await 1 = .ok (.getfield 52, 3) := by decide +kernel
theorem dX6_await_4 : decode cX6_await 4 = .ok (.aload_n 0, 1) := by decide +kernel
theorem dX6_await_5 : decode cX6_await 5 = .ok (.getfield 29, 3) := by decide +kernel
theorem dX6_await_8 : decode cX6_await 8 = .ok (.arraylength, 1) := by decide +kernel
theorem dX6_await_9 : decode cX6_await 9 = .ok (.if_icmp .ge 23, 3) := by decide +kernel
theorem dX6_await_12 : decode cX6_await 12 = .ok (.aload_n 0, 1) := by decide +kernel
theorem dX6_await_13 : decode cX6_await 13 = .ok (.getfield 29, 3) := by decide +kernel
theorem dX6_await_16 : decode cX6_await 16 = .ok (.aload_n 0, 1) := by decide +kernel
theorem dX6_await_17 : decode cX6_await 17 = .ok (.getfield 52, 3) := by decide +kernel
theorem dX6_await_20 : decode cX6_await 20 = .ok (.iload_n 1, 1) := by decide +kernel
theorem dX6_await_21 : decode cX6_await 21 = .ok (.iastore, 1) := by decide +kernel
theorem dX6_await_22 : decode cX6_await 22 = .ok (.aload_n 0, 1) := by decide +kernel
theorem dX6_await_23 : decode cX6_await 23 = .ok (.dup, 1) := by decide +kernel
theorem dX6_await_24 : decode cX6_await 24 = .ok (.getfield 52, 3) := by decide +kernel
theorem dX6_await_27 : decode cX6_await 27 = .ok (.iconst 1, 1) := by decide +kernel
theorem dX6_await_28 : decode cX6_await 28 = .ok (.iadd, 1) := by decide +kernel
theorem dX6_await_29 : decode cX6_await 29 = .ok (.putfield 52, 3) := by decide +kernel
theorem dX6_await_32 : decode cX6_await 32 = .ok (.return_, 1) := by decide +kernel
theorem dX6_release_0 : decode cX6_release 0 = .ok (.aload_n 0, 1) := by decide +kernel
theorem dX6_release_1 : decode cX6_release 1 = .ok (.getfield 52, 3) := by decide +kernel
theorem dX6_release_4 : decode cX6_release 4 = .ok (.ifCond .le 51, 3) := by decide +kernel
theorem dX6_release_7 : decode cX6_release 7 = .ok (.aload_n 0, 1) := by decide +kernel
theorem dX6_release_8 : decode cX6_release 8 = .ok (.getfield 29, 3) := by decide +kernel
theorem dX6_release_11 : decode cX6_release 11 = .ok (.aload_n 0, 1) := by decide +kernel
theorem dX6_release_12 : decode cX6_release 12 = .ok (.getfield 52, 3) := by decide +kernel
theorem dX6_release_15 : decode cX6_release 15 = .ok (.iconst 1, 1) := by decide +kernel
theorem dX6_release_16 : decode cX6_release 16 = .ok (.isub, 1) := by decide +kernel
theorem dX6_release_17 : decode cX6_release 17 = .ok (.iaload, 1) := by decide +kernel
theorem dX6_release_18 : decode cX6_release 18 = .ok (.invokestatic 124, 3) := by decide +kernel
theorem dX6_release_21 : decode cX6_release 21 = .ok (.iload_n 1, 1) := by decide +kernel
theorem dX6_release_22 : decode cX6_release 22 = .ok (.if_icmp .lt 33, 3) := by decide +kernel
theorem dX6_release_25 : decode cX6_release 25 = .ok (.aload_n 0, 1) := by decide +kernel
theorem dX6_release_26 : decode cX6_release 26 = .ok (.dup, 1) := by decide +kernel
theorem dX6_release_27 : decode cX6_release 27 = .ok (.getfield 52, 3) := by decide +kernel
theorem dX6_release_30 : decode cX6_release 30 = .ok (.iconst 1, 1) := by decide +kernel
theorem dX6_release_31 : decode cX6_release 31 = .ok (.isub, 1) := by decide +kernel
theorem dX6_release_32 : decode cX6_release 32 = .ok (.putfield 52, 3) := by decide +kernel
theorem dX6_release_35 : decode cX6_release 35 = .ok (.aload_n 0, 1) := by decide +kernel
theorem dX6_release_36 : decode cX6_release 36 = .ok (.getfield 12, 3) := by decide +kernel
theorem dX6_release_39 : decode cX6_release 39 = .ok (.aload_n 0, 1) := by decide +kernel
theorem dX6_release_40 : decode cX6_release 40 = .ok (.getfield 29, 3) := by decide +kernel
theorem dX6_release_43 : decode cX6_release 43 = .ok (.aload_n 0, 1) := by decide +kernel
theorem dX6_release_44 : decode cX6_release 44 = .ok (.getfield 52, 3) := by decide +kernel
theorem dX6_release_47 : decode cX6_release 47 = .ok (.iaload, 1) := by decide +kernel
theorem dX6_release_48 : decode cX6_release 48 = .ok (.iconst 0, 1) := by decide +kernel
theorem dX6_release_49 : decode cX6_release 49 = .ok (.invokevirtual 118, 3) := by decide +kernel
theorem dX6_release_52 : decode cX6_release 52 = .ok (.goto (-52), 3) := by decide +kernel
theorem dX6_release_55 : decode cX6_release 55 = .ok (.return_, 1) := by decide +kernel
