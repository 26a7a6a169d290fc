theorem dX11_roundNow_0 : decode cX11_roundNow 0 = .ok (.aload_n 0, 1) := by decide +kernel
theorem dX11_roundNow_1 : decode cX11_roundNow 1 = .ok (.getfield 385, 3) := by decide +kernel
theorem dX11_roundNow_4 : decode cX11_roundNow 4 = .ok (.iconst 1, 1) := by decide +kernel
theorem dX11_roundNow_5 : decode cX11_roundNow 5 = .ok (.isub, 1) := by decide +kernel
theorem dX11_roundNow_6 : decode cX11_roundNow 6 = .ok (.istore_n 1, 1) := by decide +kernel
theorem dX11_roundNow_7 : decode cX11_roundNow 7 = .ok (.iload_n 1, 1) := by decide +kernel
theorem dX11_roundNow_8 : decode cX11_roundNow 8 = .ok (.ifCond .lt 33, 3) := by decide +kernel
theorem dX11_roundNow_11 : decode cX11_roundNow 11 = .ok (.aload_n 0, 1) := by decide +kernel
theorem dX11_roundNow_12 : decode cX11_roundNow 12 = .ok (.getfield 45, 3) := by decide +kernel
theorem dX11_roundNow_15 : decode cX11_roundNow 15 = .ok (.iconst 2, 1) := by decide +kernel
theorem dX11_roundNow_16 : decode cX11_roundNow 16 = .ok (.aload_n 0, 1) := by decide +kernel
theorem dX11_roundNow_17 : decode cX11_roundNow 17 = .ok (.getfield 67, 3) := by decide +kernel
theorem dX11_roundNow_20 : decode cX11_roundNow 20 = .ok (.iload_n 1, 1) := by decide +kernel
theorem dX11_roundNow_21 : decode cX11_roundNow 21 = .ok (.iaload, 1) := by decide +kernel
theorem dX11_roundNow_22 : decode cX11_roundNow 22 = .ok (.imul, 1) := by decide +kernel
theorem dX11_roundNow_23 : decode cX11_roundNow 23 = .ok (.iaload, 1) := by decide +kernel
theorem dX11_roundNow_24 : decode cX11_roundNow 24 = .ok (.iconst 4, 1) := by decide +kernel
theorem dX11_roundNow_25 : decode cX11_roundNow 25 = .ok (.if_icmp .ne 10, 3) := by decide +kernel
theorem dX11_roundNow_28 : decode cX11_roundNow 28 = .ok (.aload_n 0, 1) := by decide +kernel
theorem dX11_roundNow_29 : decode cX11_roundNow 29 = .ok (.getfield 64, 3) := by decide +kernel
theorem dX11_roundNow_32 : decode cX11_roundNow 32 = .ok (.iload_n 1, 1) := by decide +kernel
theorem dX11_roundNow_33 : decode cX11_roundNow 33 = .ok (.iaload, 1) := by decide +kernel
theorem dX11_roundNow_34 : decode cX11_roundNow 34 = .ok (.ireturn, 1) := by decide +kernel
theorem dX11_roundNow_35 : decode cX11_roundNow 35 = .ok (.iinc 1 (-1), 3) := by decide +kernel
theorem dX11_roundNow_38 : decode cX11_roundNow 38 = .ok (.goto (-31), 3) := by decide +kernel
theorem dX11_roundNow_41 : decode cX11_roundNow 41 = .ok (.iconst 0, 1) := by decide +kernel
theorem dX11_roundNow_42 : decode cX11_roundNow 42 = .ok (.ireturn, 1) := by decide +kernel
theorem dX11_joined_0 : decode cX11_joined 0 = .ok (.iload_n 0, 1) := by decide +kernel
theorem dX11_joined_1 : decode cX11_joined 1 = .ok (.tableswitch 55 13 16 #[31, 35, 39, 43], 31) := by decide +kernel
theorem dX11_joined_32 : decode cX11_joined 32 = .ok (.iload_n 1, 1) := by decide +kernel
theorem dX11_joined_33 : decode cX11_joined 33 = .ok (.iload_n 2, 1) := by decide +kernel
theorem dX11_joined_34 : decode cX11_joined 34 = .ok (.iadd, 1) := by decide +kernel
theorem dX11_joined_35 : decode cX11_joined 35 = .ok (.ireturn, 1) := by decide +kernel
theorem dX11_joined_36 : decode cX11_joined 36 = .ok (.iload_n 1, 1) := by decide +kernel
theorem dX11_joined_37 : decode cX11_joined 37 = .ok (.iload_n 2, 1) := by decide +kernel
theorem dX11_joined_38 : decode cX11_joined 38 = .ok (.isub, 1) := by decide +kernel
theorem dX11_joined_39 : decode cX11_joined 39 = .ok (.ireturn, 1) := by decide +kernel
theorem dX11_joined_40 : decode cX11_joined 40 = .ok (.iload_n 1, 1) := by decide +kernel
theorem dX11_joined_41 : decode cX11_joined 41 = .ok (.iload_n 2, 1) := by decide +kernel
theorem dX11_joined_42 : decode cX11_joined 42 = .ok (.imul, 1) := by decide +kernel
theorem dX11_joined_43 : decode cX11_joined 43 = .ok (.ireturn, 1) := by decide +kernel
theorem dX11_joined_44 : decode cX11_joined 44 = .ok (.iload_n 2, 1) := by decide +kernel
theorem dX11_joined_45 : decode cX11_joined 45 = .ok (.ifCond .ne 7, 3) := by decide +kernel
theorem dX11_joined_48 : decode cX11_joined 48 = .ok (.iconst 0, 1) := by decide +kernel
theorem dX11_joined_49 : decode cX11_joined 49 = .ok (.goto 6, 3) := by decide +kernel
theorem dX11_joined_52 : decode cX11_joined 52 = .ok (.iload_n 1, 1) := by decide +kernel
theorem dX11_joined_53 : decode cX11_joined 53 = .ok (.iload_n 2, 1) := by decide +kernel
theorem dX11_joined_54 : decode cX11_joined 54 = .ok (.idiv, 1) := by decide +kernel
theorem dX11_joined_55 : decode cX11_joined 55 = .ok (.ireturn, 1) := by decide +kernel
theorem dX11_joined_56 : decode cX11_joined 56 = .ok (.iload_n 2, 1) := by decide +kernel
theorem dX11_joined_57 : decode cX11_joined 57 = .ok (.ifCond .ne 7, 3) := by decide +kernel
theorem dX11_joined_60 : decode cX11_joined 60 = .ok (.iconst 0, 1) := by decide +kernel
theorem dX11_joined_61 : decode cX11_joined 61 = .ok (.goto 6, 3) := by decide +kernel
theorem dX11_joined_64 : decode cX11_joined 64 = .ok (.iload_n 1, 1) := by decide +kernel
theorem dX11_joined_65 : decode cX11_joined 65 = .ok (.iload_n 2, 1) := by decide +kernel
theorem dX11_joined_66 : decode cX11_joined 66 = .ok (.irem, 1) := by decide +kernel
theorem dX11_joined_67 : decode cX11_joined 67 = .ok (.ireturn, 1) := by decide +kernel
theorem dX11_worksOn_0 : decode cX11_worksOn 0 = .ok (.iload_n 1, 1) := by decide +kernel
theorem dX11_worksOn_1 : decode cX11_worksOn 1 = .ok (.bipush 13, 2) := by decide +kernel
theorem dX11_worksOn_3 : decode cX11_worksOn 3 = .ok (.if_icmp .ge 50, 3) := by decide +kernel
theorem dX11_worksOn_6 : decode cX11_worksOn 6 = .ok (.aload_n 0, 1) := by decide +kernel
theorem dX11_worksOn_7 : decode cX11_worksOn 7 = .ok (.getfield 61, 3) := by decide +kernel
theorem dX11_worksOn_10 : decode cX11_worksOn 10 = .ok (.aload_n 0, 1) := by decide +kernel
theorem dX11_worksOn_11 : decode cX11_worksOn 11 = .ok (.getfield 388, 3) := by decide +kernel
theorem dX11_worksOn_14 : decode cX11_worksOn 14 = .ok (.iload_n 1, 1) := by decide +kernel
theorem dX11_worksOn_15 : decode cX11_worksOn 15 = .ok (.bipush 10, 2) := by decide +kernel
theorem dX11_worksOn_17 : decode cX11_worksOn 17 = .ok (.if_icmp .ne 7, 3) := by decide +kernel
theorem dX11_worksOn_20 : decode cX11_worksOn 20 = .ok (.iload_n 2, 1) := by decide +kernel
theorem dX11_worksOn_21 : decode cX11_worksOn 21 = .ok (.goto 20, 3) := by decide +kernel
theorem dX11_worksOn_24 : decode cX11_worksOn 24 = .ok (.iload_n 1, 1) := by decide +kernel
theorem dX11_worksOn_25 : decode cX11_worksOn 25 = .ok (.bipush 11, 2) := by decide +kernel
theorem dX11_worksOn_27 : decode cX11_worksOn 27 = .ok (.if_icmp .ne 10, 3) := by decide +kernel
theorem dX11_worksOn_30 : decode cX11_worksOn 30 = .ok (.aload_n 0, 1) := by decide +kernel
theorem dX11_worksOn_31 : decode cX11_worksOn 31 = .ok (.invokevirtual 391, 3) := by decide +kernel
theorem dX11_worksOn_34 : decode cX11_worksOn 34 = .ok (.goto 7, 3) := by decide +kernel
theorem dX11_worksOn_37 : decode cX11_worksOn 37 = .ok (.aload_n 0, 1) := by decide +kernel
theorem dX11_worksOn_38 : decode cX11_worksOn 38 = .ok (.getfield 394, 3) := by decide +kernel
theorem dX11_worksOn_41 : decode cX11_worksOn 41 = .ok (.iastore, 1) := by decide +kernel
theorem dX11_worksOn_42 : decode cX11_worksOn 42 = .ok (.aload_n 0, 1) := by decide +kernel
theorem dX11_worksOn_43 : decode cX11_worksOn 43 = .ok (.dup, 1) := by decide +kernel
theorem dX11_worksOn_44 : decode cX11_worksOn 44 = .ok (.getfield 388, 3) := by decide +kernel
theorem dX11_worksOn_47 : decode cX11_worksOn 47 = .ok (.iconst 1, 1) := by decide +kernel
theorem dX11_worksOn_48 : decode cX11_worksOn 48 = .ok (.iadd, 1) := by decide +kernel
theorem dX11_worksOn_49 : decode cX11_worksOn 49 = .ok (.putfield 388, 3) := by decide +kernel
theorem dX11_worksOn_52 : decode cX11_worksOn 52 = .ok (.return_, 1) := by decide +kernel
theorem dX11_worksOn_53 : decode cX11_worksOn 53 = .ok (.aload_n 0, 1) := by decide +kernel
theorem dX11_worksOn_54 : decode cX11_worksOn 54 = .ok (.dup, 1) := by decide +kernel
theorem dX11_worksOn_55 : decode cX11_worksOn 55 = .ok (.getfield 388, 3) := by decide +kernel
theorem dX11_worksOn_58 : decode cX11_worksOn 58 = .ok (.iconst 1, 1) := by decide +kernel
theorem dX11_worksOn_59 : decode cX11_worksOn 59 = .ok (.isub, 1) := by decide +kernel
theorem dX11_worksOn_60 : decode cX11_worksOn 60 = .ok (.putfield 388, 3) := by decide +kernel
theorem dX11_worksOn_63 : decode cX11_worksOn 63 = .ok (.aload_n 0, 1) := by decide +kernel
theorem dX11_worksOn_64 : decode cX11_worksOn 64 = .ok (.getfield 61, 3) := by decide +kernel
theorem dX11_worksOn_67 : decode cX11_worksOn 67 = .ok (.aload_n 0, 1) := by decide +kernel
theorem dX11_worksOn_68 : decode cX11_worksOn 68 = .ok (.getfield 388, 3) := by decide +kernel
theorem dX11_worksOn_71 : decode cX11_worksOn 71 = .ok (.iconst 1, 1) := by decide +kernel
theorem dX11_worksOn_72 : decode cX11_worksOn 72 = .ok (.isub, 1) := by decide +kernel
theorem dX11_worksOn_73 : decode cX11_worksOn 73 = .ok (.iload_n 1, 1) := by decide +kernel
theorem dX11_worksOn_74 : decode cX11_worksOn 74 = .ok (.aload_n 0, 1) := by decide +kernel
theorem dX11_worksOn_75 : decode cX11_worksOn 75 = .ok (.getfield 61, 3) := by decide +kernel
theorem dX11_worksOn_78 : decode cX11_worksOn 78 = .ok (.aload_n 0, 1) := by decide +kernel
theorem dX11_worksOn_79 : decode cX11_worksOn 79 = .ok (.getfield 388, 3) := by decide +kernel
theorem dX11_worksOn_82 : decode cX11_worksOn 82 = .ok (.iconst 1, 1) := by decide +kernel
theorem dX11_worksOn_83 : decode cX11_worksOn 83 = .ok (.isub, 1) := by decide +kernel
theorem dX11_worksOn_84 : decode cX11_worksOn 84 = .ok (.iaload, 1) := by decide +kernel
theorem dX11_worksOn_85 : decode cX11_worksOn 85 = .ok (.aload_n 0, 1) := by decide +kernel
theorem dX11_worksOn_86 : decode cX11_worksOn 86 = .ok (.getfield 61, 3) := by decide +kernel
theorem dX11_worksOn_89 : decode cX11_worksOn 89 = .ok (.aload_n 0, 1) := by decide +kernel
theorem dX11_worksOn_90 : decode cX11_worksOn 90 = .ok (.getfield 388, 3) := by decide +kernel
theorem dX11_worksOn_93 : decode cX11_worksOn 93 = .ok (.iaload, 1) := by decide +kernel
theorem dX11_worksOn_94 : decode cX11_worksOn 94 = .ok (.invokestatic 397, 3) := by decide +kernel
theorem dX11_worksOn_97 : decode cX11_worksOn 97 = .ok (.iastore, 1) := by decide +kernel
theorem dX11_worksOn_98 : decode cX11_worksOn 98 = .ok (.return_, 1) := by decide +kernel
theorem dX11_isStep_0 : decode cX11_isStep 0 = .ok (.aload_n 0, 1) := by decide +kernel
theorem dX11_isStep_1 : decode cX11_isStep 1 = .ok (.aload_n 0, 1) := by decide +kernel
theorem dX11_isStep_2 : decode cX11_isStep 2 = .ok (.getfield 400, 3) := by decide +kernel
theorem dX11_isStep_5 : decode cX11_isStep 5 = .ok (.sipush 300, 3) := by decide +kernel
theorem dX11_isStep_8 : decode cX11_isStep 8 = .ok (.if_icmp .ne 7, 3) := by decide +kernel
theorem dX11_isStep_11 : decode cX11_isStep 11 = .ok (.iconst 1, 1) := by decide +kernel
theorem dX11_isStep_12 : decode cX11_isStep 12 = .ok (.goto 4, 3) := by decide +kernel
theorem dX11_isStep_15 : decode cX11_isStep 15 = .ok (.iconst 0, 1) := by decide +kernel
theorem dX11_isStep_16 : decode cX11_isStep 16 = .ok (.putfield 403, 3) := by decide +kernel
theorem dX11_isStep_19 : decode cX11_isStep 19 = .ok (.aload_n 0, 1) := by decide +kernel
theorem dX11_isStep_20 : decode cX11_isStep 20 = .ok (.getfield 403, 3) := by decide +kernel
theorem dX11_isStep_23 : decode cX11_isStep 23 = .ok (.ifCond .ne 13, 3) := by decide +kernel
theorem dX11_isStep_26 : decode cX11_isStep 26 = .ok (.aload_n 0, 1) := by decide +kernel
theorem dX11_isStep_27 : decode cX11_isStep 27 = .ok (.dup, 1) := by decide +kernel
theorem dX11_isStep_28 : decode cX11_isStep 28 = .ok (.getfield 400, 3) := by decide +kernel
theorem dX11_isStep_31 : decode cX11_isStep 31 = .ok (.iconst 1, 1) := by decide +kernel
theorem dX11_isStep_32 : decode cX11_isStep 32 = .ok (.iadd, 1) := by decide +kernel
theorem dX11_isStep_33 : decode cX11_isStep 33 = .ok (.putfield 400, 3) := by decide +kernel
theorem dX11_isStep_36 : decode cX11_isStep 36 = .ok (.aload_n 0, 1) := by decide +kernel
theorem dX11_isStep_37 : decode cX11_isStep 37 = .ok (.getfield 403, 3) := by decide +kernel
theorem dX11_isStep_40 : decode cX11_isStep 40 = .ok (.ifCond .ne 7, 3) := by decide +kernel
theorem dX11_isStep_43 : decode cX11_isStep 43 = .ok (.iconst 1, 1) := by decide +kernel
theorem dX11_isStep_44 : decode cX11_isStep 44 = .ok (.goto 4, 3) := by decide +kernel
theorem dX11_isStep_47 : decode cX11_isStep 47 = .ok (.iconst 0, 1) := by decide +kernel
theorem dX11_isStep_48 : decode cX11_isStep 48 = .ok (.ireturn, 1) := by decide +kernel
theorem dX11_isAbove_0 : decode cX11_isAbove 0 = .ok (.aload_n 0, 1) := by decide +kernel
theorem dX11_isAbove_1 : decode cX11_isAbove 1 = .ok (.dup, 1) := by decide +kernel
theorem dX11_isAbove_2 : decode cX11_isAbove 2 = .ok (.getfield 388, 3) := by decide +kernel
theorem dX11_isAbove_5 : decode cX11_isAbove 5 = .ok (.iconst 1, 1) := by decide +kernel
theorem dX11_isAbove_6 : decode cX11_isAbove 6 = .ok (.isub, 1) := by decide +kernel
theorem dX11_isAbove_7 : decode cX11_isAbove 7 = .ok (.putfield 388, 3) := by decide +kernel
theorem dX11_isAbove_10 : decode cX11_isAbove 10 = .ok (.aload_n 0, 1) := by decide +kernel
theorem dX11_isAbove_11 : decode cX11_isAbove 11 = .ok (.getfield 61, 3) := by decide +kernel
theorem dX11_isAbove_14 : decode cX11_isAbove 14 = .ok (.aload_n 0, 1) := by decide +kernel
theorem dX11_isAbove_15 : decode cX11_isAbove 15 = .ok (.getfield 388, 3) := by decide +kernel
theorem dX11_isAbove_18 : decode cX11_isAbove 18 = .ok (.iaload, 1) := by decide +kernel
theorem dX11_isAbove_19 : decode cX11_isAbove 19 = .ok (.ifCond .le 7, 3) := by decide +kernel
theorem dX11_isAbove_22 : decode cX11_isAbove 22 = .ok (.iconst 1, 1) := by decide +kernel
theorem dX11_isAbove_23 : decode cX11_isAbove 23 = .ok (.goto 4, 3) := by decide +kernel
theorem dX11_isAbove_26 : decode cX11_isAbove 26 = .ok (.iconst 0, 1) := by decide +kernel
theorem dX11_isAbove_27 : decode cX11_isAbove 27 = .ok (.ireturn, 1) := by decide +kernel
