theorem dX11_room_0 : decode cX11_room 0 = .ok (.aload_n 0, 1) := by decide +kernel
theorem dX11_room_1 : decode cX11_room 1 = .ok (.iconst 0, 1) := by decide +kernel
theorem dX11_room_2 : decode cX11_room 2 = .ok (.putfield 73, 3) := by decide +kernel
theorem dX11_room_5 : decode cX11_room 5 = .ok (.aload_n 0, 1) := by decide +kernel
theorem dX11_room_6 : decode cX11_room 6 = .ok (.iload_n 1, 1) := by decide +kernel
theorem dX11_room_7 : decode cX11_room 7 = .ok (.iload_n 2, 1) := by decide +kernel
theorem dX11_room_8 : decode cX11_room 8 = .ok (.invokevirtual 246, 3) := by decide +kernel
theorem dX11_room_11 : decode cX11_room 11 = .ok (.ifCond .eq 21, 3) := by decide +kernel
theorem dX11_room_14 : decode cX11_room 14 = .ok (.iload_n 3, 1) := by decide +kernel
theorem dX11_room_15 : decode cX11_room 15 = .ok (.i2l, 1) := by decide +kernel
theorem dX11_room_16 : decode cX11_room 16 = .ok (.lconst 0, 1) := by decide +kernel
theorem dX11_room_17 : decode cX11_room 17 = .ok (.aload_n 0, 1) := by decide +kernel
theorem dX11_room_18 : decode cX11_room 18 = .ok (.iload_n 1, 1) := by decide +kernel
theorem dX11_room_19 : decode cX11_room 19 = .ok (.iload_n 2, 1) := by decide +kernel
theorem dX11_room_20 : decode cX11_room 20 = .ok (.invokevirtual 137, 3) := by decide +kernel
theorem dX11_room_23 : decode cX11_room 23 = .ok (.iconst 1, 1) := by decide +kernel
theorem dX11_room_24 : decode cX11_room 24 = .ok (.isub, 1) := by decide +kernel
theorem dX11_room_25 : decode cX11_room 25 = .ok (.i2l, 1) := by decide +kernel
theorem dX11_room_26 : decode cX11_room 26 = .ok (.invokestatic 83, 3) := by decide +kernel
theorem dX11_room_29 : decode cX11_room 29 = .ok (.ifCond .ne 6, 3) := by decide +kernel
theorem dX11_room_32 : decode cX11_room 32 = .ok (.bipush (-2), 2) := by decide +kernel
theorem dX11_room_34 : decode cX11_room 34 = .ok (.ireturn, 1) := by decide +kernel
theorem dX11_room_35 : decode cX11_room 35 = .ok (.sipush 160, 3) := by decide +kernel
theorem dX11_room_38 : decode cX11_room 38 = .ok (.iload_n 1, 1) := by decide +kernel
theorem dX11_room_39 : decode cX11_room 39 = .ok (.imul, 1) := by decide +kernel
theorem dX11_room_40 : decode cX11_room 40 = .ok (.istore 4, 2) := by decide +kernel
theorem dX11_room_42 : decode cX11_room 42 = .ok (.iload 4, 2) := by decide +kernel
theorem dX11_room_44 : decode cX11_room 44 = .ok (.sipush 160, 3) := by decide +kernel
theorem dX11_room_47 : decode cX11_room 47 = .ok (.iload_n 1, 1) := by decide +kernel
theorem dX11_room_48 : decode cX11_room 48 = .ok (.imul, 1) := by decide +kernel
theorem dX11_room_49 : decode cX11_room 49 = .ok (.aload_n 0, 1) := by decide +kernel
theorem dX11_room_50 : decode cX11_room 50 = .ok (.iload_n 1, 1) := by decide +kernel
theorem dX11_room_51 : decode cX11_room 51 = .ok (.invokevirtual 95, 3) := by decide +kernel
theorem dX11_room_54 : decode cX11_room 54 = .ok (.iadd, 1) := by decide +kernel
theorem dX11_room_55 : decode cX11_room 55 = .ok (.if_icmp .ge 39, 3) := by decide +kernel
theorem dX11_room_58 : decode cX11_room 58 = .ok (.aload_n 0, 1) := by decide +kernel
theorem dX11_room_59 : decode cX11_room 59 = .ok (.getfield 24, 3) := by decide +kernel
theorem dX11_room_62 : decode cX11_room 62 = .ok (.iload 4, 2) := by decide +kernel
theorem dX11_room_64 : decode cX11_room 64 = .ok (.iaload, 1) := by decide +kernel
theorem dX11_room_65 : decode cX11_room 65 = .ok (.iload_n 2, 1) := by decide +kernel
theorem dX11_room_66 : decode cX11_room 66 = .ok (.if_icmp .ne 22, 3) := by decide +kernel
theorem dX11_room_69 : decode cX11_room 69 = .ok (.aload_n 0, 1) := by decide +kernel
theorem dX11_room_70 : decode cX11_room 70 = .ok (.getfield 27, 3) := by decide +kernel
theorem dX11_room_73 : decode cX11_room 73 = .ok (.iload 4, 2) := by decide +kernel
theorem dX11_room_75 : decode cX11_room 75 = .ok (.iaload, 1) := by decide +kernel
theorem dX11_room_76 : decode cX11_room 76 = .ok (.iload_n 3, 1) := by decide +kernel
theorem dX11_room_77 : decode cX11_room 77 = .ok (.if_icmp .ne 11, 3) := by decide +kernel
theorem dX11_room_80 : decode cX11_room 80 = .ok (.aload_n 0, 1) := by decide +kernel
theorem dX11_room_81 : decode cX11_room 81 = .ok (.getfield 17, 3) := by decide +kernel
theorem dX11_room_84 : decode cX11_room 84 = .ok (.iload 4, 2) := by decide +kernel
theorem dX11_room_86 : decode cX11_room 86 = .ok (.iaload, 1) := by decide +kernel
theorem dX11_room_87 : decode cX11_room 87 = .ok (.ireturn, 1) := by decide +kernel
theorem dX11_room_88 : decode cX11_room 88 = .ok (.iinc 4 1, 3) := by decide +kernel
theorem dX11_room_91 : decode cX11_room 91 = .ok (.goto (-49), 3) := by decide +kernel
theorem dX11_room_94 : decode cX11_room 94 = .ok (.iconst (-1), 1) := by decide +kernel
theorem dX11_room_95 : decode cX11_room 95 = .ok (.ireturn, 1) := by decide +kernel
theorem dX11_aheadOf_0 : decode cX11_aheadOf 0 = .ok (.iconst 0, 1) := by decide +kernel
theorem dX11_aheadOf_1 : decode cX11_aheadOf 1 = .ok (.istore_n 3, 1) := by decide +kernel
theorem dX11_aheadOf_2 : decode cX11_aheadOf 2 = .ok (.sipush 160, 3) := by decide +kernel
theorem dX11_aheadOf_5 : decode cX11_aheadOf 5 = .ok (.iload_n 1, 1) := by decide +kernel
theorem dX11_aheadOf_6 : decode cX11_aheadOf 6 = .ok (.imul, 1) := by decide +kernel
theorem dX11_aheadOf_7 : decode cX11_aheadOf 7 = .ok (.istore 4, 2) := by decide +kernel
theorem dX11_aheadOf_9 : decode cX11_aheadOf 9 = .ok (.iload 4, 2) := by decide +kernel
theorem dX11_aheadOf_11 : decode cX11_aheadOf 11 = .ok (.sipush 160, 3) := by decide +kernel
theorem dX11_aheadOf_14 : decode cX11_aheadOf 14 = .ok (.iload_n 1, 1) := by decide +kernel
theorem dX11_aheadOf_15 : decode cX11_aheadOf 15 = .ok (.imul, 1) := by decide +kernel
theorem dX11_aheadOf_16 : decode cX11_aheadOf 16 = .ok (.aload_n 0, 1) := by decide +kernel
theorem dX11_aheadOf_17 : decode cX11_aheadOf 17 = .ok (.iload_n 1, 1) := by decide +kernel
theorem dX11_aheadOf_18 : decode cX11_aheadOf 18 = .ok (.invokevirtual 95, 3) := by decide +kernel
theorem dX11_aheadOf_21 : decode cX11_aheadOf 21 = .ok (.iadd, 1) := by decide +kernel
theorem dX11_aheadOf_22 : decode cX11_aheadOf 22 = .ok (.if_icmp .ge 68, 3) := by decide +kernel
theorem dX11_aheadOf_25 : decode cX11_aheadOf 25 = .ok (.iload_n 3, 1) := by decide +kernel
theorem dX11_aheadOf_26 : decode cX11_aheadOf 26 = .ok (.aload_n 0, 1) := by decide +kernel
theorem dX11_aheadOf_27 : decode cX11_aheadOf 27 = .ok (.getfield 24, 3) := by decide +kernel
theorem dX11_aheadOf_30 : decode cX11_aheadOf 30 = .ok (.iload 4, 2) := by decide +kernel
theorem dX11_aheadOf_32 : decode cX11_aheadOf 32 = .ok (.iaload, 1) := by decide +kernel
theorem dX11_aheadOf_33 : decode cX11_aheadOf 33 = .ok (.aload_n 0, 1) := by decide +kernel
theorem dX11_aheadOf_34 : decode cX11_aheadOf 34 = .ok (.getfield 24, 3) := by decide +kernel
theorem dX11_aheadOf_37 : decode cX11_aheadOf 37 = .ok (.iload_n 2, 1) := by decide +kernel
theorem dX11_aheadOf_38 : decode cX11_aheadOf 38 = .ok (.iaload, 1) := by decide +kernel
theorem dX11_aheadOf_39 : decode cX11_aheadOf 39 = .ok (.if_icmp .lt 35, 3) := by decide +kernel
theorem dX11_aheadOf_42 : decode cX11_aheadOf 42 = .ok (.aload_n 0, 1) := by decide +kernel
theorem dX11_aheadOf_43 : decode cX11_aheadOf 43 = .ok (.getfield 24, 3) := by decide +kernel
theorem dX11_aheadOf_46 : decode cX11_aheadOf 46 = .ok (.iload 4, 2) := by decide +kernel
theorem dX11_aheadOf_48 : decode cX11_aheadOf 48 = .ok (.iaload, 1) := by decide +kernel
theorem dX11_aheadOf_49 : decode cX11_aheadOf 49 = .ok (.aload_n 0, 1) := by decide +kernel
theorem dX11_aheadOf_50 : decode cX11_aheadOf 50 = .ok (.getfield 24, 3) := by decide +kernel
theorem dX11_aheadOf_53 : decode cX11_aheadOf 53 = .ok (.iload_n 2, 1) := by decide +kernel
theorem dX11_aheadOf_54 : decode cX11_aheadOf 54 = .ok (.iaload, 1) := by decide +kernel
theorem dX11_aheadOf_55 : decode cX11_aheadOf 55 = .ok (.if_icmp .ne 23, 3) := by decide +kernel
theorem dX11_aheadOf_58 : decode cX11_aheadOf 58 = .ok (.aload_n 0, 1) := by decide +kernel
theorem dX11_aheadOf_59 : decode cX11_aheadOf 59 = .ok (.getfield 27, 3) := by decide +kernel
theorem dX11_aheadOf_62 : decode cX11_aheadOf 62 = .ok (.iload 4, 2) := by decide +kernel
theorem dX11_aheadOf_64 : decode cX11_aheadOf 64 = .ok (.iaload, 1) := by decide +kernel
theorem dX11_aheadOf_65 : decode cX11_aheadOf 65 = .ok (.aload_n 0, 1) := by decide +kernel
theorem dX11_aheadOf_66 : decode cX11_aheadOf 66 = .ok (.getfield 27, 3) := by decide +kernel
theorem dX11_aheadOf_69 : decode cX11_aheadOf 69 = .ok (.iload_n 2, 1) := by decide +kernel
theorem dX11_aheadOf_70 : decode cX11_aheadOf 70 = .ok (.iaload, 1) := by decide +kernel
theorem dX11_aheadOf_71 : decode cX11_aheadOf 71 = .ok (.if_icmp .ge 7, 3) := by decide +kernel
theorem dX11_aheadOf_74 : decode cX11_aheadOf 74 = .ok (.iconst 1, 1) := by decide +kernel
theorem dX11_aheadOf_75 : decode cX11_aheadOf 75 = .ok (.goto 4, 3) := by decide +kernel
theorem dX11_aheadOf_78 : decode cX11_aheadOf 78 = .ok (.iconst 0, 1) := by decide +kernel
theorem dX11_aheadOf_79 : decode cX11_aheadOf 79 = .ok (.invokestatic 198, 3) := by decide +kernel
theorem dX11_aheadOf_82 : decode cX11_aheadOf 82 = .ok (.iadd, 1) := by decide +kernel
theorem dX11_aheadOf_83 : decode cX11_aheadOf 83 = .ok (.istore_n 3, 1) := by decide +kernel
theorem dX11_aheadOf_84 : decode cX11_aheadOf 84 = .ok (.iinc 4 1, 3) := by decide +kernel
theorem dX11_aheadOf_87 : decode cX11_aheadOf 87 = .ok (.goto (-78), 3) := by decide +kernel
theorem dX11_aheadOf_90 : decode cX11_aheadOf 90 = .ok (.iload_n 3, 1) := by decide +kernel
theorem dX11_aheadOf_91 : decode cX11_aheadOf 91 = .ok (.ireturn, 1) := by decide +kernel
theorem dX11_walk_0 : decode cX11_walk 0 = .ok (.aload_n 0, 1) := by decide +kernel
theorem dX11_walk_1 : decode cX11_walk 1 = .ok (.iconst 0, 1) := by decide +kernel
theorem dX11_walk_2 : decode cX11_walk 2 = .ok (.putfield 73, 3) := by decide +kernel
theorem dX11_walk_5 : decode cX11_walk 5 = .ok (.aload_n 0, 1) := by decide +kernel
theorem dX11_walk_6 : decode cX11_walk 6 = .ok (.iload_n 1, 1) := by decide +kernel
theorem dX11_walk_7 : decode cX11_walk 7 = .ok (.invokevirtual 222, 3) := by decide +kernel
theorem dX11_walk_10 : decode cX11_walk 10 = .ok (.ifCond .ne 5, 3) := by decide +kernel
theorem dX11_walk_13 : decode cX11_walk 13 = .ok (.iconst (-1), 1) := by decide +kernel
theorem dX11_walk_14 : decode cX11_walk 14 = .ok (.ireturn, 1) := by decide +kernel
theorem dX11_walk_15 : decode cX11_walk 15 = .ok (.sipush 160, 3) := by decide +kernel
theorem dX11_walk_18 : decode cX11_walk 18 = .ok (.iload_n 1, 1) := by decide +kernel
theorem dX11_walk_19 : decode cX11_walk 19 = .ok (.imul, 1) := by decide +kernel
theorem dX11_walk_20 : decode cX11_walk 20 = .ok (.istore_n 3, 1) := by decide +kernel
theorem dX11_walk_21 : decode cX11_walk 21 = .ok (.iload_n 3, 1) := by decide +kernel
theorem dX11_walk_22 : decode cX11_walk 22 = .ok (.sipush 160, 3) := by decide +kernel
theorem dX11_walk_25 : decode cX11_walk 25 = .ok (.iload_n 1, 1) := by decide +kernel
theorem dX11_walk_26 : decode cX11_walk 26 = .ok (.imul, 1) := by decide +kernel
theorem dX11_walk_27 : decode cX11_walk 27 = .ok (.aload_n 0, 1) := by decide +kernel
theorem dX11_walk_28 : decode cX11_walk 28 = .ok (.iload_n 1, 1) := by decide +kernel
theorem dX11_walk_29 : decode cX11_walk 29 = .ok (.invokevirtual 95, 3) := by decide +kernel
theorem dX11_walk_32 : decode cX11_walk 32 = .ok (.iadd, 1) := by decide +kernel
theorem dX11_walk_33 : decode cX11_walk 33 = .ok (.if_icmp .ge 26, 3) := by decide +kernel
theorem dX11_walk_36 : decode cX11_walk 36 = .ok (.aload_n 0, 1) := by decide +kernel
theorem dX11_walk_37 : decode cX11_walk 37 = .ok (.iload_n 1, 1) := by decide +kernel
theorem dX11_walk_38 : decode cX11_walk 38 = .ok (.iload_n 3, 1) := by decide +kernel
theorem dX11_walk_39 : decode cX11_walk 39 = .ok (.invokevirtual 249, 3) := by decide +kernel
theorem dX11_walk_42 : decode cX11_walk 42 = .ok (.iload_n 2, 1) := by decide +kernel
theorem dX11_walk_43 : decode cX11_walk 43 = .ok (.if_icmp .ne 10, 3) := by decide +kernel
theorem dX11_walk_46 : decode cX11_walk 46 = .ok (.aload_n 0, 1) := by decide +kernel
theorem dX11_walk_47 : decode cX11_walk 47 = .ok (.getfield 17, 3) := by decide +kernel
theorem dX11_walk_50 : decode cX11_walk 50 = .ok (.iload_n 3, 1) := by decide +kernel
theorem dX11_walk_51 : decode cX11_walk 51 = .ok (.iaload, 1) := by decide +kernel
theorem dX11_walk_52 : decode cX11_walk 52 = .ok (.ireturn, 1) := by decide +kernel
theorem dX11_walk_53 : decode cX11_walk 53 = .ok (.iinc 3 1, 3) := by decide +kernel
theorem dX11_walk_56 : decode cX11_walk 56 = .ok (.goto (-35), 3) := by decide +kernel
theorem dX11_walk_59 : decode cX11_walk 59 = .ok (.iconst (-1), 1) := by decide +kernel
theorem dX11_walk_60 : decode cX11_walk 60 = .ok (.ireturn, 1) := by decide +kernel
theorem dX11_many_0 : decode cX11_many 0 = .ok (.aload_n 0, 1) := by decide +kernel
theorem dX11_many_1 : decode cX11_many 1 = .ok (.iconst 0, 1) := by decide +kernel
theorem dX11_many_2 : decode cX11_many 2 = .ok (.putfield 73, 3) := by decide +kernel
theorem dX11_many_5 : decode cX11_many 5 = .ok (.aload_n 0, 1) := by decide +kernel
theorem dX11_many_6 : decode cX11_many 6 = .ok (.iload_n 1, 1) := by decide +kernel
theorem dX11_many_7 : decode cX11_many 7 = .ok (.invokevirtual 222, 3) := by decide +kernel
theorem dX11_many_10 : decode cX11_many 10 = .ok (.ifCond .eq 7, 3) := by decide +kernel
theorem dX11_many_13 : decode cX11_many 13 = .ok (.iload_n 2, 1) := by decide +kernel
theorem dX11_many_14 : decode cX11_many 14 = .ok (.ifCond .ge 5, 3) := by decide +kernel
theorem dX11_many_17 : decode cX11_many 17 = .ok (.iconst (-1), 1) := by decide +kernel
theorem dX11_many_18 : decode cX11_many 18 = .ok (.ireturn, 1) := by decide +kernel
theorem dX11_many_19 : decode cX11_many 19 = .ok (.iconst 0, 1) := by decide +kernel
theorem dX11_many_20 : decode cX11_many 20 = .ok (.istore_n 3, 1) := by decide +kernel
theorem dX11_many_21 : decode cX11_many 21 = .ok (.iconst 0, 1) := by decide +kernel
theorem dX11_many_22 : decode cX11_many 22 = .ok (.istore 4, 2) := by decide +kernel
theorem dX11_many_24 : decode cX11_many 24 = .ok (.iload 4, 2) := by decide +kernel
theorem dX11_many_26 : decode cX11_many 26 = .ok (.aload_n 0, 1) := by decide +kernel
theorem dX11_many_27 : decode cX11_many 27 = .ok (.iload_n 1, 1) := by decide +kernel
theorem dX11_many_28 : decode cX11_many 28 = .ok (.invokevirtual 152, 3) := by decide +kernel
theorem dX11_many_31 : decode cX11_many 31 = .ok (.if_icmp .ge 37, 3) := by decide +kernel
theorem dX11_many_34 : decode cX11_many 34 = .ok (.iload_n 3, 1) := by decide +kernel
theorem dX11_many_35 : decode cX11_many 35 = .ok (.aload_n 0, 1) := by decide +kernel
theorem dX11_many_36 : decode cX11_many 36 = .ok (.getfield 33, 3) := by decide +kernel
theorem dX11_many_39 : decode cX11_many 39 = .ok (.sipush 2048, 3) := by decide +kernel
theorem dX11_many_42 : decode cX11_many 42 = .ok (.iload_n 1, 1) := by decide +kernel
theorem dX11_many_43 : decode cX11_many 43 = .ok (.imul, 1) := by decide +kernel
theorem dX11_many_44 : decode cX11_many 44 = .ok (.iload 4, 2) := by decide +kernel
theorem dX11_many_46 : decode cX11_many 46 = .ok (.iadd, 1) := by decide +kernel
theorem dX11_many_47 : decode cX11_many 47 = .ok (.iaload, 1) := by decide +kernel
theorem dX11_many_48 : decode cX11_many 48 = .ok (.iload_n 2, 1) := by decide +kernel
theorem dX11_many_49 : decode cX11_many 49 = .ok (.if_icmp .ne 7, 3) := by decide +kernel
theorem dX11_many_52 : decode cX11_many 52 = .ok (.iconst 1, 1) := by decide +kernel
theorem dX11_many_53 : decode cX11_many 53 = .ok (.goto 4, 3) := by decide +kernel
theorem dX11_many_56 : decode cX11_many 56 = .ok (.iconst 0, 1) := by decide +kernel
theorem dX11_many_57 : decode cX11_many 57 = .ok (.invokestatic 198, 3) := by decide +kernel
theorem dX11_many_60 : decode cX11_many 60 = .ok (.iadd, 1) := by decide +kernel
theorem dX11_many_61 : decode cX11_many 61 = .ok (.istore_n 3, 1) := by decide +kernel
theorem dX11_many_62 : decode cX11_many 62 = .ok (.iinc 4 1, 3) := by decide +kernel
theorem dX11_many_65 : decode cX11_many 65 = .ok (.goto (-41), 3) := by decide +kernel
theorem dX11_many_68 : decode cX11_many 68 = .ok (.iload_n 3, 1) := by decide +kernel
theorem dX11_many_69 : decode cX11_many 69 = .ok (.ireturn, 1) := by decide +kernel
theorem dX11_crowd_0 : decode cX11_crowd 0 = .ok (.aload_n 0, 1) := by decide +kernel
theorem dX11_crowd_1 : decode cX11_crowd 1 = .ok (.iconst 0, 1) := by decide +kernel
theorem dX11_crowd_2 : decode cX11_crowd 2 = .ok (.putfield 73, 3) := by decide +kernel
theorem dX11_crowd_5 : decode cX11_crowd 5 = .ok (.aload_n 0, 1) := by decide +kernel
theorem dX11_crowd_6 : decode cX11_crowd 6 = .ok (.iload_n 1, 1) := by decide +kernel
theorem dX11_crowd_7 : decode cX11_crowd 7 = .ok (.invokevirtual 222, 3) := by decide +kernel
theorem dX11_crowd_10 : decode cX11_crowd 10 = .ok (.ifCond .eq 15, 3) := by decide +kernel
theorem dX11_crowd_13 : decode cX11_crowd 13 = .ok (.iload_n 2, 1) := by decide +kernel
theorem dX11_crowd_14 : decode cX11_crowd 14 = .ok (.i2l, 1) := by decide +kernel
theorem dX11_crowd_15 : decode cX11_crowd 15 = .ok (.lconst 0, 1) := by decide +kernel
theorem dX11_crowd_16 : decode cX11_crowd 16 = .ok (.ldc2_w 87, 3) := by decide +kernel
theorem dX11_crowd_19 : decode cX11_crowd 19 = .ok (.invokestatic 83, 3) := by decide +kernel
theorem dX11_crowd_22 : decode cX11_crowd 22 = .ok (.ifCond .ne 5, 3) := by decide +kernel
theorem dX11_crowd_25 : decode cX11_crowd 25 = .ok (.iconst (-1), 1) := by decide +kernel
theorem dX11_crowd_26 : decode cX11_crowd 26 = .ok (.ireturn, 1) := by decide +kernel
theorem dX11_crowd_27 : decode cX11_crowd 27 = .ok (.iconst 0, 1) := by decide +kernel
theorem dX11_crowd_28 : decode cX11_crowd 28 = .ok (.istore_n 3, 1) := by decide +kernel
theorem dX11_crowd_29 : decode cX11_crowd 29 = .ok (.iconst 0, 1) := by decide +kernel
theorem dX11_crowd_30 : decode cX11_crowd 30 = .ok (.istore 4, 2) := by decide +kernel
theorem dX11_crowd_32 : decode cX11_crowd 32 = .ok (.iconst 0, 1) := by decide +kernel
theorem dX11_crowd_33 : decode cX11_crowd 33 = .ok (.istore 5, 2) := by decide +kernel
theorem dX11_crowd_35 : decode cX11_crowd 35 = .ok (.iconst 0, 1) := by decide +kernel
theorem dX11_crowd_36 : decode cX11_crowd 36 = .ok (.istore 6, 2) := by decide +kernel
theorem dX11_crowd_38 : decode cX11_crowd 38 = .ok (.iload 6, 2) := by decide +kernel
theorem dX11_crowd_40 : decode cX11_crowd 40 = .ok (.aload_n 0, 1) := by decide +kernel
theorem dX11_crowd_41 : decode cX11_crowd 41 = .ok (.iload_n 1, 1) := by decide +kernel
theorem dX11_crowd_42 : decode cX11_crowd 42 = .ok (.invokevirtual 152, 3) := by decide +kernel
theorem dX11_crowd_45 : decode cX11_crowd 45 = .ok (.if_icmp .ge 75, 3) := by decide +kernel
theorem dX11_crowd_48 : decode cX11_crowd 48 = .ok (.aload_n 0, 1) := by decide +kernel
theorem dX11_crowd_49 : decode cX11_crowd 49 = .ok (.getfield 33, 3) := by decide +kernel
theorem dX11_crowd_52 : decode cX11_crowd 52 = .ok (.sipush 2048, 3) := by decide +kernel
theorem dX11_crowd_55 : decode cX11_crowd 55 = .ok (.iload_n 1, 1) := by decide +kernel
theorem dX11_crowd_56 : decode cX11_crowd 56 = .ok (.imul, 1) := by decide +kernel
theorem dX11_crowd_57 : decode cX11_crowd 57 = .ok (.iload 6, 2) := by decide +kernel
theorem dX11_crowd_59 : decode cX11_crowd 59 = .ok (.iadd, 1) := by decide +kernel
theorem dX11_crowd_60 : decode cX11_crowd 60 = .ok (.iaload, 1) := by decide +kernel
theorem dX11_crowd_61 : decode cX11_crowd 61 = .ok (.istore 7, 2) := by decide +kernel
theorem dX11_crowd_63 : decode cX11_crowd 63 = .ok (.iload 7, 2) := by decide +kernel
theorem dX11_crowd_65 : decode cX11_crowd 65 = .ok (.aload_n 0, 1) := by decide +kernel
theorem dX11_crowd_66 : decode cX11_crowd 66 = .ok (.getfield 33, 3) := by decide +kernel
theorem dX11_crowd_69 : decode cX11_crowd 69 = .ok (.sipush 2048, 3) := by decide +kernel
theorem dX11_crowd_72 : decode cX11_crowd 72 = .ok (.iload_n 1, 1) := by decide +kernel
theorem dX11_crowd_73 : decode cX11_crowd 73 = .ok (.imul, 1) := by decide +kernel
theorem dX11_crowd_74 : decode cX11_crowd 74 = .ok (.iload_n 3, 1) := by decide +kernel
theorem dX11_crowd_75 : decode cX11_crowd 75 = .ok (.iadd, 1) := by decide +kernel
theorem dX11_crowd_76 : decode cX11_crowd 76 = .ok (.iaload, 1) := by decide +kernel
theorem dX11_crowd_77 : decode cX11_crowd 77 = .ok (.if_icmp .le 6, 3) := by decide +kernel
theorem dX11_crowd_80 : decode cX11_crowd 80 = .ok (.iload 6, 2) := by decide +kernel
theorem dX11_crowd_82 : decode cX11_crowd 82 = .ok (.istore_n 3, 1) := by decide +kernel
theorem dX11_crowd_83 : decode cX11_crowd 83 = .ok (.iload 4, 2) := by decide +kernel
theorem dX11_crowd_85 : decode cX11_crowd 85 = .ok (.iload 7, 2) := by decide +kernel
theorem dX11_crowd_87 : decode cX11_crowd 87 = .ok (.iconst 1, 1) := by decide +kernel
theorem dX11_crowd_88 : decode cX11_crowd 88 = .ok (.if_icmp .le 8, 3) := by decide +kernel
theorem dX11_crowd_91 : decode cX11_crowd 91 = .ok (.iload 7, 2) := by decide +kernel
theorem dX11_crowd_93 : decode cX11_crowd 93 = .ok (.goto 4, 3) := by decide +kernel
theorem dX11_crowd_96 : decode cX11_crowd 96 = .ok (.iconst 0, 1) := by decide +kernel
theorem dX11_crowd_97 : decode cX11_crowd 97 = .ok (.iadd, 1) := by decide +kernel
theorem dX11_crowd_98 : decode cX11_crowd 98 = .ok (.istore 4, 2) := by decide +kernel
theorem dX11_crowd_100 : decode cX11_crowd 100 = .ok (.iload 5, 2) := by decide +kernel
theorem dX11_crowd_102 : decode cX11_crowd 102 = .ok (.iload 7, 2) := by decide +kernel
theorem dX11_crowd_104 : decode cX11_crowd 104 = .ok (.iload 7, 2) := by decide +kernel
theorem dX11_crowd_106 : decode cX11_crowd 106 = .ok (.iconst 1, 1) := by decide +kernel
theorem dX11_crowd_107 : decode cX11_crowd 107 = .ok (.isub, 1) := by decide +kernel
theorem dX11_crowd_108 : decode cX11_crowd 108 = .ok (.imul, 1) := by decide +kernel
theorem dX11_crowd_109 : decode cX11_crowd 109 = .ok (.iconst 2, 1) := by decide +kernel
theorem dX11_crowd_110 : decode cX11_crowd 110 = .ok (.idiv, 1) := by decide +kernel
theorem dX11_crowd_111 : decode cX11_crowd 111 = .ok (.iadd, 1) := by decide +kernel
theorem dX11_crowd_112 : decode cX11_crowd 112 = .ok (.istore 5, 2) := by decide +kernel
theorem dX11_crowd_114 : decode cX11_crowd 114 = .ok (.iinc 6 1, 3) := by decide +kernel
theorem dX11_crowd_117 : decode cX11_crowd 117 = .ok (.goto (-79), 3) := by decide +kernel
theorem dX11_crowd_120 : decode cX11_crowd 120 = .ok (.iload_n 2, 1) := by decide +kernel
theorem dX11_crowd_121 : decode cX11_crowd 121 = .ok (.ifCond .ne 7, 3) := by decide +kernel
theorem dX11_crowd_124 : decode cX11_crowd 124 = .ok (.iload_n 3, 1) := by decide +kernel
theorem dX11_crowd_125 : decode cX11_crowd 125 = .ok (.goto 35, 3) := by decide +kernel
theorem dX11_crowd_128 : decode cX11_crowd 128 = .ok (.iload_n 2, 1) := by decide +kernel
theorem dX11_crowd_129 : decode cX11_crowd 129 = .ok (.iconst 1, 1) := by decide +kernel
theorem dX11_crowd_130 : decode cX11_crowd 130 = .ok (.if_icmp .ne 18, 3) := by decide +kernel
theorem dX11_crowd_133 : decode cX11_crowd 133 = .ok (.aload_n 0, 1) := by decide +kernel
theorem dX11_crowd_134 : decode cX11_crowd 134 = .ok (.getfield 33, 3) := by decide +kernel
theorem dX11_crowd_137 : decode cX11_crowd 137 = .ok (.sipush 2048, 3) := by decide +kernel
theorem dX11_crowd_140 : decode cX11_crowd 140 = .ok (.iload_n 1, 1) := by decide +kernel
theorem dX11_crowd_141 : decode cX11_crowd 141 = .ok (.imul, 1) := by decide +kernel
theorem dX11_crowd_142 : decode cX11_crowd 142 = .ok (.iload_n 3, 1) := by decide +kernel
theorem dX11_crowd_143 : decode cX11_crowd 143 = .ok (.iadd, 1) := by decide +kernel
theorem dX11_crowd_144 : decode cX11_crowd 144 = .ok (.iaload, 1) := by decide +kernel
theorem dX11_crowd_145 : decode cX11_crowd 145 = .ok (.goto 15, 3) := by decide +kernel
theorem dX11_crowd_148 : decode cX11_crowd 148 = .ok (.iload_n 2, 1) := by decide +kernel
theorem dX11_crowd_149 : decode cX11_crowd 149 = .ok (.iconst 2, 1) := by decide +kernel
theorem dX11_crowd_150 : decode cX11_crowd 150 = .ok (.if_icmp .ne 8, 3) := by decide +kernel
theorem dX11_crowd_153 : decode cX11_crowd 153 = .ok (.iload 4, 2) := by decide +kernel
theorem dX11_crowd_155 : decode cX11_crowd 155 = .ok (.goto 5, 3) := by decide +kernel
theorem dX11_crowd_158 : decode cX11_crowd 158 = .ok (.iload 5, 2) := by decide +kernel
theorem dX11_crowd_160 : decode cX11_crowd 160 = .ok (.ireturn, 1) := by decide +kernel
def own_c_aheadOf : List Cond := [.methodLink RX11 95 yX11_manyOf, .instanceMethod yX11_manyOf, .selects RX11 yX11_manyOf yX11_manyOf, .initialized RX11, .fieldLink RX11 24 "ClashFreeModel" "inBucket" "[I", .methodLink RX11 198 yX11_flag, .static yX11_flag, .fieldLink RX11 27 "ClashFreeModel" "inRoom" "[I"]
def wp_c_aheadOf : List Cond := .code yX11_aheadOf cX11_aheadOf 5 (some .int) :: (own_c_aheadOf ++ (wp_c_manyOf ++ (wp_c_flag ++ (wsX110 ++ ([] : List Cond)))))
set_option maxRecDepth 20000 in
theorem inown_c_aheadOf : ∀ w ∈ own_c_aheadOf, w ∈ lw_tbl := mem_places [1396, 1398, 40, 115, 1222, 1502, 1503, 1223] (by decide +kernel)
set_option maxRecDepth 20000 in
theorem in_c_aheadOf : ∀ w ∈ wp_c_aheadOf, w ∈ lw_tbl := List.forall_mem_cons.mpr ⟨List.mem_of_getElem? (i := 1564) (by decide +kernel), List.forall_mem_append.mpr ⟨inown_c_aheadOf, List.forall_mem_append.mpr ⟨in_c_manyOf, List.forall_mem_append.mpr ⟨in_c_flag, List.forall_mem_append.mpr ⟨lwb_X11, fun _ h => absurd h List.not_mem_nil⟩⟩⟩⟩⟩
set_option maxRecDepth 20000 in
theorem good_c_aheadOf : wp_c_aheadOf.all goodWord = true := by decide +kernel
set_option maxRecDepth 20000 in
theorem g_c_aheadOf_c_manyOf_95 : GoodIn wp_c_aheadOf (wsV RX11 95 RX11 yX11_manyOf wp_c_manyOf) := goodIn_sub (List.forall_mem_append.mpr ⟨List.forall_mem_cons.mpr ⟨(List.mem_of_getElem? (i := 1) rfl), List.forall_mem_cons.mpr ⟨(List.mem_of_getElem? (i := 2) rfl), List.forall_mem_cons.mpr ⟨(List.mem_of_getElem? (i := 3) rfl), List.forall_mem_cons.mpr ⟨(List.mem_of_getElem? (i := 4) rfl), fun _ h => absurd h List.not_mem_nil⟩⟩⟩⟩, (fun _ h => (List.mem_cons_of_mem _ (List.mem_append_right _ (List.mem_append_left _ h))))⟩) (by decide +kernel)
set_option maxRecDepth 20000 in
theorem g_c_aheadOf_c_flag_198 : GoodIn wp_c_aheadOf (va_wsS RX11 198 yX11_flag wp_c_flag) := goodIn_sub (List.forall_mem_append.mpr ⟨List.forall_mem_cons.mpr ⟨(List.mem_of_getElem? (i := 6) rfl), List.forall_mem_cons.mpr ⟨(List.mem_of_getElem? (i := 7) rfl), List.forall_mem_cons.mpr ⟨(List.mem_of_getElem? (i := 4) rfl), fun _ h => absurd h List.not_mem_nil⟩⟩⟩, (fun _ h => (List.mem_cons_of_mem _ (List.mem_append_right _ (List.mem_append_right _ (List.mem_append_left _ h)))))⟩) (by decide +kernel)
set_option maxHeartbeats 4000000 in
set_option maxRecDepth 100000 in
theorem lp_ahead (l : Launch) {p : Program} {e : Env} {s : State} {m : MethodId} {args : Array Value} {below : List Frame} {meth : Method} {c : Code} {Q : State → Prop} {A : Nat → Prop} (D : va_G) (h0 : Nat) (a : Nat → Nat) (cm : Nat → ClassId) (i : Nat → Int32) (g : Nat → Int64) (fn : Nat → Int64) (fb : Nat → Int32) (fr : Nat → Int32) (k : Nat) (cn : Nat) (kp : Nat) (hk : k < 5) (h1 : fn (17 * k + 1) = lN cn) (hcn : cn ≤ 160) (hkp : kp < 800) (hx : p.tables.exec = Jvm.exec) (hb : c.code = cX11_aheadOf) (hml : c.maxLocals = 5) (hown : s.vm.findClass RX11 = some m.cls) (hts : ∀ w ∈ wp_c_aheadOf, w.before args s = true) (hA : ∀ q, s.heap.size ≤ q → A q) (hK : va_K D vwCl [(cm 3, .long), (cm 6, .int), (cm 7, .int)] s) (kx90 : ∀ (x : Nat), ∀ (su : Int32), (x ≤ cn) → ∀ (H : Heap) (locs : List Loc) (ls : Array Slot), va_P D vwCl [(h0, .inr (11, gM a i g)), (a 3, .inl (cm 3, 85, .inr (.inl fn))), (a 6, .inl (cm 6, 800, .inl fb)), (a 7, .inl (cm 7, 800, .inl fr))] H → va_S A s.heap H locs → lv_has ls 5 [(3, .int su)] → W p l e ({ frames := 3, cells := 0, slots := 0, locals := 80 }) s m args below meth c H locs 0 0 Q (F0 m 90 ls [])) : ∀ (N : Nat), ∀ (x : Nat), ∀ (su : Int32), (x ≤ cn) → cn - x < N → ∀ (H : Heap) (locs : List Loc) (ls : Array Slot), va_P D vwCl [(h0, .inr (11, gM a i g)), (a 3, .inl (cm 3, 85, .inr (.inl fn))), (a 6, .inl (cm 6, 800, .inl fb)), (a 7, .inl (cm 7, 800, .inl fr))] H → va_S A s.heap H locs → lv_has ls 5 [(4, .int (nI (160 * k + x))), (3, .int su), (0, .ref h0), (1, .int (nI k)), (2, .int (nI kp))] → W p l e ({ frames := 3, cells := 0, slots := 0, locals := 80 }) s m args below meth c H locs 0 0 Q (F0 m 9 ls []) := by
  have hin_X11 : ∀ w ∈ wsX110, w ∈ wp_c_aheadOf := fun _ h => (List.mem_cons_of_mem _ (List.mem_append_right _ (List.mem_append_right _ (List.mem_append_right _ (List.mem_append_left _ h)))))
  intro N
  induction N with
  | zero =>
    intro x su hx2 hm
    exact absurd hm (Nat.not_lt_zero _)
  | succ N ih =>
    intro x su hx2 hm H locs ls hP hS hl
    refine lv_iload hx hb dX11_aheadOf_9 (lv_at hl 0 rfl) ?_
    refine lv_sipush (v := 160) hx hb dX11_aheadOf_11 (by decide) ?_
    refine lv_iload_n hx hb dX11_aheadOf_14 rfl (lv_at hl 3 rfl) ?_
    refine lv_imul hx hb dX11_aheadOf_15 ?_
    refine lv_aload_n hx hb dX11_aheadOf_16 rfl (lv_at hl 2 rfl) ?_
    refine lv_iload_n hx hb dX11_aheadOf_17 rfl (lv_at hl 3 rfl) ?_
    have hPc := hP.sub (ws' := [(h0, .inr (11, gM a i g)), (a 3, .inl (cm 3, 85, .inr (.inl fn)))]) [0, 1] rfl
    have hKc := hK.sub (tys' := [(cm 3, .long)]) [0] rfl
    have hFc := va_free0 hS hA
    refine va_calli (va_runV (As := [.int (nI k)]) (rest := [.int (160 * (nI k)), .int (nI (160 * k + x))]) ⟨hx, hb, hml, hown, hts⟩ (c_manyOf l D _ h0 a cm i g fn k cn (by first | assumption | omega) h1) (cwV 1 hts g_c_aheadOf_c_manyOf_95 rfl rfl rfl (by decide +kernel) ⟨(Nat.le_of_ble_eq_true rfl), (Nat.le_of_ble_eq_true rfl)⟩) (PcR_V (q0 := 0) hPc hKc rfl rfl) rfl rfl hl.1 rfl (lv_room (Nat.le_of_ble_eq_true rfl)) dX11_aheadOf_18 ⟨(Nat.le_of_ble_eq_true rfl), (Nat.le_of_ble_eq_true rfl)⟩) hS (fun q _ h => hFc q h) hFc (fun r1 uu tt H locs htt hvm hw hB hz1 hk1 hS => ?_)
    have hP := va_keep hP hk1
    try dsimp only at hw
    clear hB hz1 hk1 hFc hPc hKc
    obtain rfl : r1 = nI cn := hw
    refine lv_iadd hx hb dX11_aheadOf_21 ?_
    refine lv_topi (fun v2 ev2 => ?_)
    obtain rfl : v2 = nI (160 * k + cn) := ev2.trans (ix160 k _)
    refine lv_icmp_ge (tgt := 90) hx hb dX11_aheadOf_22 (by decide) (fun hc3 => ?_) (fun hc3 => ?_)
    ·
      have hge_x : cn ≤ x := by
        have := (nI_leI (a := 160 * k + cn) (b := 160 * k + x) (by omega) (by omega)).mp hc3
        omega
      exact kx90 x su (hx2) H locs ls (hP.sub [0, 1, 2, 3] rfl) hS (lv_sub hl [1] rfl)
    ·
      have hlt_x : x < cn := by
        rcases Nat.lt_or_ge x cn with z | z
        · exact z
        · exact absurd (nI_le (show 160 * k + cn ≤ 160 * k + x by omega) (by omega)) hc3
      refine lv_iload_n hx hb dX11_aheadOf_25 rfl (lv_at hl 1 rfl) ?_
      refine lv_aload_n hx hb dX11_aheadOf_26 rfl (lv_at hl 2 rfl) ?_
      refine va_get (D := D) (ci := 11) (v := .ref (a 6)) (C := RX11) (T := TX11) (N := 47) hx hb hts hin_X11 hown hK hP 0 rfl rfl 6 (by decide) (hts (.fieldLink RX11 24 "ClashFreeModel" "inBucket" "[I") (List.mem_of_getElem? (i := 5) rfl)) (fun _ h9 => h9) rfl dX11_aheadOf_27 ?_
      refine lv_iload hx hb dX11_aheadOf_30 (lv_at hl 0 rfl) ?_
      refine va_iald hx hb hK hP 2 1 rfl rfl (vp_in_nI (by omega) (by decide)) dX11_aheadOf_32 ?_
      refine lv_topi (fun v4 ev4 => ?_)
      refine lv_aload_n hx hb dX11_aheadOf_33 rfl (lv_at hl 2 rfl) ?_
      refine va_get (D := D) (ci := 11) (v := .ref (a 6)) (C := RX11) (T := TX11) (N := 47) hx hb hts hin_X11 hown hK hP 0 rfl rfl 6 (by decide) (hts (.fieldLink RX11 24 "ClashFreeModel" "inBucket" "[I") (List.mem_of_getElem? (i := 5) rfl)) (fun _ h9 => h9) rfl dX11_aheadOf_34 ?_
      refine lv_iload_n hx hb dX11_aheadOf_37 rfl (lv_at hl 4 rfl) ?_
      refine va_iald hx hb hK hP 2 1 rfl rfl (vp_in_nI (by omega) (by decide)) dX11_aheadOf_38 ?_
      refine lv_topi (fun v5 ev5 => ?_)
      refine lv_icmp_lt (tgt := 74) hx hb dX11_aheadOf_39 (by decide) (fun hc6 => ?_) (fun hc6 => ?_)
      ·
        refine lv_iconst (v := 1) hx hb dX11_aheadOf_74 (by decide) ?_
        refine lv_goto (tgt := 79) hx hb dX11_aheadOf_75 (by decide) ?_
        have hPc := hP.sub (ws' := []) [] rfl
        have hKc := hK.sub (tys' := []) [] rfl
        have hFc := va_free0 hS hA
        refine va_calli (va_runS (As := [.int 1]) (rest := [.int su]) ⟨hx, hb, hml, hown, hts⟩ (c_flag l D _ 1) (va_cwS 1 hts g_c_aheadOf_c_flag_198 rfl rfl rfl (by decide +kernel) ⟨(Nat.le_of_ble_eq_true rfl), (Nat.le_of_ble_eq_true rfl)⟩) (PcR_S hPc hKc) rfl rfl hl.1 rfl (lv_room (Nat.le_of_ble_eq_true rfl)) dX11_aheadOf_79 ⟨(Nat.le_of_ble_eq_true rfl), (Nat.le_of_ble_eq_true rfl)⟩) hS (fun q _ h => hFc q h) hFc (fun r7 uu tt H locs htt hvm hw hB hz1 hk1 hS => ?_)
        have hP := va_keep hP hk1
        try dsimp only at hw
        clear hB hz1 hk1 hFc hPc hKc
        obtain rfl : r7 = 1 := hw.trans (by decide)
        refine lv_iadd hx hb dX11_aheadOf_82 ?_
        refine lv_topi (fun v8 ev8 => ?_)
        refine lv_istore_n (lv' := [(3, .int v8), (4, .int (nI (160 * k + x))), (0, .ref h0), (1, .int (nI k)), (2, .int (nI kp))]) hx hb dX11_aheadOf_83 rfl hl (by decide) rfl (fun ls hl => ?_)
        refine lv_iinc (v := nI (160 * k + (x + 1))) (lv' := [(4, .int (nI (160 * k + (x + 1)))), (3, .int v8), (0, .ref h0), (1, .int (nI k)), (2, .int (nI kp))]) hx hb dX11_aheadOf_84 hl (k := 1) rfl (nI_1 _) (by decide) rfl (fun ls hl => ?_)
        refine lv_goto (tgt := 9) hx hb dX11_aheadOf_87 (by decide) ?_
        exact ih (x + 1) v8 (by omega) (by omega) H locs ls (hP.sub [0, 1, 2, 3] rfl) hS (lv_sub hl [0, 1, 2, 3, 4] rfl)
      ·
        refine lv_aload_n hx hb dX11_aheadOf_42 rfl (lv_at hl 2 rfl) ?_
        refine va_get (D := D) (ci := 11) (v := .ref (a 6)) (C := RX11) (T := TX11) (N := 47) hx hb hts hin_X11 hown hK hP 0 rfl rfl 6 (by decide) (hts (.fieldLink RX11 24 "ClashFreeModel" "inBucket" "[I") (List.mem_of_getElem? (i := 5) rfl)) (fun _ h9 => h9) rfl dX11_aheadOf_43 ?_
        refine lv_iload hx hb dX11_aheadOf_46 (lv_at hl 0 rfl) ?_
        refine va_iald hx hb hK hP 2 1 rfl rfl (vp_in_nI (by omega) (by decide)) dX11_aheadOf_48 ?_
        refine lv_topi (fun v9 ev9 => ?_)
        refine lv_aload_n hx hb dX11_aheadOf_49 rfl (lv_at hl 2 rfl) ?_
        refine va_get (D := D) (ci := 11) (v := .ref (a 6)) (C := RX11) (T := TX11) (N := 47) hx hb hts hin_X11 hown hK hP 0 rfl rfl 6 (by decide) (hts (.fieldLink RX11 24 "ClashFreeModel" "inBucket" "[I") (List.mem_of_getElem? (i := 5) rfl)) (fun _ h9 => h9) rfl dX11_aheadOf_50 ?_
        refine lv_iload_n hx hb dX11_aheadOf_53 rfl (lv_at hl 4 rfl) ?_
        refine va_iald hx hb hK hP 2 1 rfl rfl (vp_in_nI (by omega) (by decide)) dX11_aheadOf_54 ?_
        refine lv_topi (fun v10 ev10 => ?_)
        refine lv_icmp_ne (tgt := 78) hx hb dX11_aheadOf_55 (by decide) (fun hc11 => ?_) (fun hc11 => ?_)
        ·
          refine lv_iconst (v := 0) hx hb dX11_aheadOf_78 (by decide) ?_
          have hPc := hP.sub (ws' := []) [] rfl
          have hKc := hK.sub (tys' := []) [] rfl
          have hFc := va_free0 hS hA
          refine va_calli (va_runS (As := [.int 0]) (rest := [.int su]) ⟨hx, hb, hml, hown, hts⟩ (c_flag l D _ 0) (va_cwS 1 hts g_c_aheadOf_c_flag_198 rfl rfl rfl (by decide +kernel) ⟨(Nat.le_of_ble_eq_true rfl), (Nat.le_of_ble_eq_true rfl)⟩) (PcR_S hPc hKc) rfl rfl hl.1 rfl (lv_room (Nat.le_of_ble_eq_true rfl)) dX11_aheadOf_79 ⟨(Nat.le_of_ble_eq_true rfl), (Nat.le_of_ble_eq_true rfl)⟩) hS (fun q _ h => hFc q h) hFc (fun r12 uu tt H locs htt hvm hw hB hz1 hk1 hS => ?_)
          have hP := va_keep hP hk1
          try dsimp only at hw
          clear hB hz1 hk1 hFc hPc hKc
          obtain rfl : r12 = 0 := hw.trans (by decide)
          refine lv_iadd hx hb dX11_aheadOf_82 ?_
          refine lv_topi (fun v13 ev13 => ?_)
          refine lv_istore_n (lv' := [(3, .int v13), (4, .int (nI (160 * k + x))), (0, .ref h0), (1, .int (nI k)), (2, .int (nI kp))]) hx hb dX11_aheadOf_83 rfl hl (by decide) rfl (fun ls hl => ?_)
          refine lv_iinc (v := nI (160 * k + (x + 1))) (lv' := [(4, .int (nI (160 * k + (x + 1)))), (3, .int v13), (0, .ref h0), (1, .int (nI k)), (2, .int (nI kp))]) hx hb dX11_aheadOf_84 hl (k := 1) rfl (nI_1 _) (by decide) rfl (fun ls hl => ?_)
          refine lv_goto (tgt := 9) hx hb dX11_aheadOf_87 (by decide) ?_
          exact ih (x + 1) v13 (by omega) (by omega) H locs ls (hP.sub [0, 1, 2, 3] rfl) hS (lv_sub hl [0, 1, 2, 3, 4] rfl)
        ·
          refine lv_aload_n hx hb dX11_aheadOf_58 rfl (lv_at hl 2 rfl) ?_
          refine va_get (D := D) (ci := 11) (v := .ref (a 7)) (C := RX11) (T := TX11) (N := 47) hx hb hts hin_X11 hown hK hP 0 rfl rfl 7 (by decide) (hts (.fieldLink RX11 27 "ClashFreeModel" "inRoom" "[I") (List.mem_of_getElem? (i := 8) rfl)) (fun _ h9 => h9) rfl dX11_aheadOf_59 ?_
          refine lv_iload hx hb dX11_aheadOf_62 (lv_at hl 0 rfl) ?_
          refine va_iald hx hb hK hP 3 2 rfl rfl (vp_in_nI (by omega) (by decide)) dX11_aheadOf_64 ?_
          refine lv_topi (fun v14 ev14 => ?_)
          refine lv_aload_n hx hb dX11_aheadOf_65 rfl (lv_at hl 2 rfl) ?_
          refine va_get (D := D) (ci := 11) (v := .ref (a 7)) (C := RX11) (T := TX11) (N := 47) hx hb hts hin_X11 hown hK hP 0 rfl rfl 7 (by decide) (hts (.fieldLink RX11 27 "ClashFreeModel" "inRoom" "[I") (List.mem_of_getElem? (i := 8) rfl)) (fun _ h9 => h9) rfl dX11_aheadOf_66 ?_
          refine lv_iload_n hx hb dX11_aheadOf_69 rfl (lv_at hl 4 rfl) ?_
          refine va_iald hx hb hK hP 3 2 rfl rfl (vp_in_nI (by omega) (by decide)) dX11_aheadOf_70 ?_
          refine lv_topi (fun v15 ev15 => ?_)
          refine lv_icmp_ge (tgt := 78) hx hb dX11_aheadOf_71 (by decide) (fun hc16 => ?_) (fun hc16 => ?_)
          ·
            refine lv_iconst (v := 0) hx hb dX11_aheadOf_78 (by decide) ?_
            have hPc := hP.sub (ws' := []) [] rfl
            have hKc := hK.sub (tys' := []) [] rfl
            have hFc := va_free0 hS hA
            refine va_calli (va_runS (As := [.int 0]) (rest := [.int su]) ⟨hx, hb, hml, hown, hts⟩ (c_flag l D _ 0) (va_cwS 1 hts g_c_aheadOf_c_flag_198 rfl rfl rfl (by decide +kernel) ⟨(Nat.le_of_ble_eq_true rfl), (Nat.le_of_ble_eq_true rfl)⟩) (PcR_S hPc hKc) rfl rfl hl.1 rfl (lv_room (Nat.le_of_ble_eq_true rfl)) dX11_aheadOf_79 ⟨(Nat.le_of_ble_eq_true rfl), (Nat.le_of_ble_eq_true rfl)⟩) hS (fun q _ h => hFc q h) hFc (fun r17 uu tt H locs htt hvm hw hB hz1 hk1 hS => ?_)
            have hP := va_keep hP hk1
            try dsimp only at hw
            clear hB hz1 hk1 hFc hPc hKc
            obtain rfl : r17 = 0 := hw.trans (by decide)
            refine lv_iadd hx hb dX11_aheadOf_82 ?_
            refine lv_topi (fun v18 ev18 => ?_)
            refine lv_istore_n (lv' := [(3, .int v18), (4, .int (nI (160 * k + x))), (0, .ref h0), (1, .int (nI k)), (2, .int (nI kp))]) hx hb dX11_aheadOf_83 rfl hl (by decide) rfl (fun ls hl => ?_)
            refine lv_iinc (v := nI (160 * k + (x + 1))) (lv' := [(4, .int (nI (160 * k + (x + 1)))), (3, .int v18), (0, .ref h0), (1, .int (nI k)), (2, .int (nI kp))]) hx hb dX11_aheadOf_84 hl (k := 1) rfl (nI_1 _) (by decide) rfl (fun ls hl => ?_)
            refine lv_goto (tgt := 9) hx hb dX11_aheadOf_87 (by decide) ?_
            exact ih (x + 1) v18 (by omega) (by omega) H locs ls (hP.sub [0, 1, 2, 3] rfl) hS (lv_sub hl [0, 1, 2, 3, 4] rfl)
          ·
            refine lv_iconst (v := 1) hx hb dX11_aheadOf_74 (by decide) ?_
            refine lv_goto (tgt := 79) hx hb dX11_aheadOf_75 (by decide) ?_
            have hPc := hP.sub (ws' := []) [] rfl
            have hKc := hK.sub (tys' := []) [] rfl
            have hFc := va_free0 hS hA
            refine va_calli (va_runS (As := [.int 1]) (rest := [.int su]) ⟨hx, hb, hml, hown, hts⟩ (c_flag l D _ 1) (va_cwS 1 hts g_c_aheadOf_c_flag_198 rfl rfl rfl (by decide +kernel) ⟨(Nat.le_of_ble_eq_true rfl), (Nat.le_of_ble_eq_true rfl)⟩) (PcR_S hPc hKc) rfl rfl hl.1 rfl (lv_room (Nat.le_of_ble_eq_true rfl)) dX11_aheadOf_79 ⟨(Nat.le_of_ble_eq_true rfl), (Nat.le_of_ble_eq_true rfl)⟩) hS (fun q _ h => hFc q h) hFc (fun r19 uu tt H locs htt hvm hw hB hz1 hk1 hS => ?_)
            have hP := va_keep hP hk1
            try dsimp only at hw
            clear hB hz1 hk1 hFc hPc hKc
            obtain rfl : r19 = 1 := hw.trans (by decide)
            refine lv_iadd hx hb dX11_aheadOf_82 ?_
            refine lv_topi (fun v20 ev20 => ?_)
            refine lv_istore_n (lv' := [(3, .int v20), (4, .int (nI (160 * k + x))), (0, .ref h0), (1, .int (nI k)), (2, .int (nI kp))]) hx hb dX11_aheadOf_83 rfl hl (by decide) rfl (fun ls hl => ?_)
            refine lv_iinc (v := nI (160 * k + (x + 1))) (lv' := [(4, .int (nI (160 * k + (x + 1)))), (3, .int v20), (0, .ref h0), (1, .int (nI k)), (2, .int (nI kp))]) hx hb dX11_aheadOf_84 hl (k := 1) rfl (nI_1 _) (by decide) rfl (fun ls hl => ?_)
            refine lv_goto (tgt := 9) hx hb dX11_aheadOf_87 (by decide) ?_
            exact ih (x + 1) v20 (by omega) (by omega) H locs ls (hP.sub [0, 1, 2, 3] rfl) hS (lv_sub hl [0, 1, 2, 3, 4] rfl)
set_option maxHeartbeats 4000000 in
set_option maxRecDepth 100000 in
theorem c_aheadOf (l : Launch) (D : va_G) (sz : Nat) (h0 : Nat) (a : Nat → Nat) (cm : Nat → ClassId) (i : Nat → Int32) (g : Nat → Int64) (fn : Nat → Int64) (fb : Nat → Int32) (fr : Nat → Int32) (k : Nat) (cn : Nat) (kp : Nat) (hk : k < 5) (h1 : fn (17 * k + 1) = lN cn) (hcn : cn ≤ 160) (hkp : kp < 800) : Met l yX11_aheadOf wp_c_aheadOf ({ frames := 3, cells := 0, slots := 0, locals := 80 }) (PcR D [.ref h0, .int (nI k), .int (nI kp)] sz [(h0, .inr (11, gM a i g)), (a 3, .inl (cm 3, 85, .inr (.inl fn))), (a 6, .inl (cm 6, 800, .inl fb)), (a 7, .inl (cm 7, 800, .inl fr))] [(cm 3, .long), (cm 6, .int), (cm 7, .int)]) (va_Qi (fun (r : Int32) (u : Unit) => True) (fun (_ : Unit) _ => True) (va_A [] sz)) 0 0 (va_A [] sz) := by
  refine Met.ofW (cc := cX11_aheadOf) (maxL := 5) (ret := (some .int)) (by decide) rfl ?_
  intro p e s m args below meth c s₁ B hml hv
  obtain ⟨rfl, hsz, hP, hK⟩ := hv
  have hx := B.exec
  have hb := B.bytes
  have hr := B.returns
  have hts := atoms_spec (ws := wp_c_aheadOf) B.pre
  have hin_X11 : ∀ w ∈ wsX110, w ∈ wp_c_aheadOf := fun _ h => (List.mem_cons_of_mem _ (List.mem_append_right _ (List.mem_append_right _ (List.mem_append_right _ (List.mem_append_left _ h)))))
  have hown : s.vm.findClass RX11 = some m.cls := findClass_of_methodNamed B.named
  have hlocks := B.notSynchronized
  subst hsz
  generalize hAe : va_A [] s.heap.size = A at ⊢
  have hA : ∀ q : Nat, s.heap.size ≤ q → A q := fun q h => by rw [← hAe]; exact Or.inr h
  have hS : va_S A s.heap s.heap [] := va_S.rf
  have hP : va_P D vwCl [(h0, .inr (11, gM a i g)), (a 3, .inl (cm 3, 85, .inr (.inl fn))), (a 6, .inl (cm 6, 800, .inl fb)), (a 7, .inl (cm 7, 800, .inl fr))] s.heap := hP
  have hl := lv_entry ([.ref h0, .int (nI k), .int (nI kp)]) (n := 5) (Nat.le_of_ble_eq_true rfl)
  rw [lg_entry_eq]
  generalize (lg_sl ([.ref h0, .int (nI k), .int (nI kp)]) ++ List.replicate (5 - (lg_sl ([.ref h0, .int (nI k), .int (nI kp)])).length) Slot.unset).toArray = ls at hl ⊢
  have hl : lv_has ls 5 [(0, .ref h0), (1, .int (nI k)), (2, .int (nI kp))] := hl
  refine lv_iconst (v := 0) hx hb dX11_aheadOf_0 (by decide) ?_
  refine lv_istore_n (lv' := [(3, .int 0), (0, .ref h0), (1, .int (nI k)), (2, .int (nI kp))]) hx hb dX11_aheadOf_1 rfl hl (by decide) rfl (fun ls hl => ?_)
  refine lv_sipush (v := 160) hx hb dX11_aheadOf_2 (by decide) ?_
  refine lv_iload_n hx hb dX11_aheadOf_5 rfl (lv_at hl 2 rfl) ?_
  refine lv_imul hx hb dX11_aheadOf_6 ?_
  refine lv_topi (fun v1 ev1 => ?_)
  obtain rfl : v1 = nI (160 * k + 0) := ev1.trans (pk_mul 160 k)
  refine lv_istore (lv' := [(4, .int (nI (160 * k + 0))), (3, .int 0), (0, .ref h0), (1, .int (nI k)), (2, .int (nI kp))]) hx hb dX11_aheadOf_7 hl (by decide) rfl (fun ls hl => ?_)
  refine lp_ahead l D h0 a cm i g fn fb fr k cn kp (hk) (h1) (hcn) (hkp) hx hb hml hown hts hA (hK.sub [0, 1, 2] rfl) ?_ (cn + 1) 0 0 (Nat.zero_le _) (by omega) _ _ _ (hP.sub [0, 1, 2, 3] rfl) hS (lv_sub hl [0, 1, 2, 3, 4] rfl)
  intro x_2 su_3 hx2_4 H locs ls hP hS hl
  refine lv_iload_n hx hb dX11_aheadOf_90 rfl (lv_at hl 0 rfl) ?_
  exact W.iret (v := su_3) hx hb hr (fun t ht hW => ⟨⟨su_3, (), rfl, trivial, trivial⟩, hS.F ht⟩) hS.2.2 dX11_aheadOf_91

def own_c_roomM : List Cond := [.methodLink RX11 95 yX11_manyOf, .instanceMethod yX11_manyOf, .selects RX11 yX11_manyOf yX11_manyOf, .initialized RX11, .fieldLink RX11 24 "ClashFreeModel" "inBucket" "[I", .fieldLink RX11 27 "ClashFreeModel" "inRoom" "[I", .fieldLink RX11 73 "ClashFreeModel" "thrown" "I", .methodLink RX11 246 yX11_isBucket, .instanceMethod yX11_isBucket, .selects RX11 yX11_isBucket yX11_isBucket, .methodLink RX11 137 yX11_roomsOf, .instanceMethod yX11_roomsOf, .selects RX11 yX11_roomsOf yX11_roomsOf, .methodLink RX11 83 yX11_isIn, .static yX11_isIn, .fieldLink RX11 17 "ClashFreeModel" "keys" "[I"]
def wp_c_roomM : List Cond := .code yX11_room cX11_room 5 (some .int) :: (own_c_roomM ++ (wp_c_manyOf ++ (wp_c_isBucket ++ (wp_c_roomsOf ++ (wp_c_isIn ++ (wsX110 ++ ([] : List Cond)))))))
set_option maxRecDepth 20000 in
theorem inown_c_roomM : ∀ w ∈ own_c_roomM, w ∈ lw_tbl := mem_places [1396, 1398, 40, 115, 1222, 1223, 1216, 1541, 1543, 65, 1437, 1439, 48, 1371, 1372, 1220] (by decide +kernel)
set_option maxRecDepth 20000 in
theorem in_c_roomM : ∀ w ∈ wp_c_roomM, w ∈ lw_tbl := List.forall_mem_cons.mpr ⟨List.mem_of_getElem? (i := 1548) (by decide +kernel), List.forall_mem_append.mpr ⟨inown_c_roomM, List.forall_mem_append.mpr ⟨in_c_manyOf, List.forall_mem_append.mpr ⟨in_c_isBucket, List.forall_mem_append.mpr ⟨in_c_roomsOf, List.forall_mem_append.mpr ⟨in_c_isIn, List.forall_mem_append.mpr ⟨lwb_X11, fun _ h => absurd h List.not_mem_nil⟩⟩⟩⟩⟩⟩⟩
set_option maxRecDepth 20000 in
theorem good_c_roomM : wp_c_roomM.all goodWord = true := by decide +kernel
set_option maxRecDepth 20000 in
theorem g_c_roomM_c_manyOf_95 : GoodIn wp_c_roomM (wsV RX11 95 RX11 yX11_manyOf wp_c_manyOf) := goodIn_sub (List.forall_mem_append.mpr ⟨List.forall_mem_cons.mpr ⟨(List.mem_of_getElem? (i := 1) rfl), List.forall_mem_cons.mpr ⟨(List.mem_of_getElem? (i := 2) rfl), List.forall_mem_cons.mpr ⟨(List.mem_of_getElem? (i := 3) rfl), List.forall_mem_cons.mpr ⟨(List.mem_of_getElem? (i := 4) rfl), fun _ h => absurd h List.not_mem_nil⟩⟩⟩⟩, (fun _ h => (List.mem_cons_of_mem _ (List.mem_append_right _ (List.mem_append_left _ h))))⟩) (by decide +kernel)
set_option maxRecDepth 20000 in
theorem g_c_roomM_c_isBucket_246 : GoodIn wp_c_roomM (wsV RX11 246 RX11 yX11_isBucket wp_c_isBucket) := goodIn_sub (List.forall_mem_append.mpr ⟨List.forall_mem_cons.mpr ⟨(List.mem_of_getElem? (i := 8) rfl), List.forall_mem_cons.mpr ⟨(List.mem_of_getElem? (i := 9) rfl), List.forall_mem_cons.mpr ⟨(List.mem_of_getElem? (i := 10) rfl), List.forall_mem_cons.mpr ⟨(List.mem_of_getElem? (i := 4) rfl), fun _ h => absurd h List.not_mem_nil⟩⟩⟩⟩, (fun _ h => (List.mem_cons_of_mem _ (List.mem_append_right _ (List.mem_append_right _ (List.mem_append_left _ h)))))⟩) (by decide +kernel)
set_option maxRecDepth 20000 in
theorem g_c_roomM_c_roomsOf_137 : GoodIn wp_c_roomM (wsV RX11 137 RX11 yX11_roomsOf wp_c_roomsOf) := goodIn_sub (List.forall_mem_append.mpr ⟨List.forall_mem_cons.mpr ⟨(List.mem_of_getElem? (i := 11) rfl), List.forall_mem_cons.mpr ⟨(List.mem_of_getElem? (i := 12) rfl), List.forall_mem_cons.mpr ⟨(List.mem_of_getElem? (i := 13) rfl), List.forall_mem_cons.mpr ⟨(List.mem_of_getElem? (i := 4) rfl), fun _ h => absurd h List.not_mem_nil⟩⟩⟩⟩, (fun _ h => (List.mem_cons_of_mem _ (List.mem_append_right _ (List.mem_append_right _ (List.mem_append_right _ (List.mem_append_left _ h))))))⟩) (by decide +kernel)
set_option maxRecDepth 20000 in
theorem g_c_roomM_c_isIn_83 : GoodIn wp_c_roomM (va_wsS RX11 83 yX11_isIn wp_c_isIn) := goodIn_sub (List.forall_mem_append.mpr ⟨List.forall_mem_cons.mpr ⟨(List.mem_of_getElem? (i := 14) rfl), List.forall_mem_cons.mpr ⟨(List.mem_of_getElem? (i := 15) rfl), List.forall_mem_cons.mpr ⟨(List.mem_of_getElem? (i := 4) rfl), fun _ h => absurd h List.not_mem_nil⟩⟩⟩, (fun _ h => (List.mem_cons_of_mem _ (List.mem_append_right _ (List.mem_append_right _ (List.mem_append_right _ (List.mem_append_right _ (List.mem_append_left _ h)))))))⟩) (by decide +kernel)
set_option maxHeartbeats 4000000 in
set_option maxRecDepth 100000 in
theorem lp_room (l : Launch) {p : Program} {e : Env} {s : State} {m : MethodId} {args : Array Value} {below : List Frame} {meth : Method} {c : Code} {Q : State → Prop} {A : Nat → Prop} (D : va_G) (h0 : Nat) (a : Nat → Nat) (cm : Nat → ClassId) (i : Nat → Int32) (g : Nat → Int64) (fn : Nat → Int64) (fk : Nat → Int32) (fb : Nat → Int32) (fr : Nat → Int32) (ff : Nat → Int32) (fh : Nat → Int32) (fa : Nat → Int64) (fs : Nat → Int64) (z2 : Int32) (z3 : Int32) (k : Nat) (cn : Nat) (hk : k < 4) (h1 : fn (17 * k + 1) = lN cn) (hcn : cn ≤ 160) (hx : p.tables.exec = Jvm.exec) (hb : c.code = cX11_room) (hml : c.maxLocals = 5) (hown : s.vm.findClass RX11 = some m.cls) (hts : ∀ w ∈ wp_c_roomM, w.before args s = true) (hA : ∀ q, s.heap.size ≤ q → A q) (hK : va_K D vwCl [(cm 3, .long), (cm 4, .int), (cm 6, .int), (cm 7, .int), (cm 8, .int), (cm 9, .int), (cm 10, .long), (cm 11, .long)] s) (kx94 : ∀ (x : Nat), (x ≤ cn) → ∀ (H : Heap) (locs : List Loc) (ls : Array Slot), va_P D vwCl [(h0, .inr (11, gM a (upd i 0 0) g)), (a 3, .inl (cm 3, 85, .inr (.inl fn))), (a 4, .inl (cm 4, 800, .inl fk)), (a 6, .inl (cm 6, 800, .inl fb)), (a 7, .inl (cm 7, 800, .inl fr)), (a 8, .inl (cm 8, 10240, .inl ff)), (a 9, .inl (cm 9, 10240, .inl fh)), (a 10, .inl (cm 10, 10240, .inr (.inl fa))), (a 11, .inl (cm 11, 10240, .inr (.inl fs)))] H → va_D A [(h0, .inr (11, gM a (upd i 0 0) g)), (a 3, .inl (cm 3, 85, .inr (.inl fn))), (a 4, .inl (cm 4, 800, .inl fk)), (a 6, .inl (cm 6, 800, .inl fb)), (a 7, .inl (cm 7, 800, .inl fr)), (a 8, .inl (cm 8, 10240, .inl ff)), (a 9, .inl (cm 9, 10240, .inl fh)), (a 10, .inl (cm 10, 10240, .inr (.inl fa))), (a 11, .inl (cm 11, 10240, .inr (.inl fs)))] → va_S A s.heap H locs → lv_has ls 5 [(0, .ref h0)] → W p l e ({ frames := 6, cells := 0, slots := 0, locals := 160 }) s m args below meth c H locs 0 0 Q (F0 m 94 ls [])) (kx80 : ∀ (x : Nat), (x ≤ cn) → (x < cn) → ∀ (H : Heap) (locs : List Loc) (ls : Array Slot), va_P D vwCl [(h0, .inr (11, gM a (upd i 0 0) g)), (a 3, .inl (cm 3, 85, .inr (.inl fn))), (a 4, .inl (cm 4, 800, .inl fk)), (a 6, .inl (cm 6, 800, .inl fb)), (a 7, .inl (cm 7, 800, .inl fr)), (a 8, .inl (cm 8, 10240, .inl ff)), (a 9, .inl (cm 9, 10240, .inl fh)), (a 10, .inl (cm 10, 10240, .inr (.inl fa))), (a 11, .inl (cm 11, 10240, .inr (.inl fs)))] H → va_D A [(h0, .inr (11, gM a (upd i 0 0) g)), (a 3, .inl (cm 3, 85, .inr (.inl fn))), (a 4, .inl (cm 4, 800, .inl fk)), (a 6, .inl (cm 6, 800, .inl fb)), (a 7, .inl (cm 7, 800, .inl fr)), (a 8, .inl (cm 8, 10240, .inl ff)), (a 9, .inl (cm 9, 10240, .inl fh)), (a 10, .inl (cm 10, 10240, .inr (.inl fa))), (a 11, .inl (cm 11, 10240, .inr (.inl fs)))] → va_S A s.heap H locs → lv_has ls 5 [(4, .int (nI (160 * k + x))), (0, .ref h0)] → W p l e ({ frames := 6, cells := 0, slots := 0, locals := 160 }) s m args below meth c H locs 0 0 Q (F0 m 80 ls [])) : ∀ (N : Nat), ∀ (x : Nat), (x ≤ cn) → cn - x < N → ∀ (H : Heap) (locs : List Loc) (ls : Array Slot), va_P D vwCl [(h0, .inr (11, gM a (upd i 0 0) g)), (a 3, .inl (cm 3, 85, .inr (.inl fn))), (a 4, .inl (cm 4, 800, .inl fk)), (a 6, .inl (cm 6, 800, .inl fb)), (a 7, .inl (cm 7, 800, .inl fr)), (a 8, .inl (cm 8, 10240, .inl ff)), (a 9, .inl (cm 9, 10240, .inl fh)), (a 10, .inl (cm 10, 10240, .inr (.inl fa))), (a 11, .inl (cm 11, 10240, .inr (.inl fs)))] H → va_D A [(h0, .inr (11, gM a (upd i 0 0) g)), (a 3, .inl (cm 3, 85, .inr (.inl fn))), (a 4, .inl (cm 4, 800, .inl fk)), (a 6, .inl (cm 6, 800, .inl fb)), (a 7, .inl (cm 7, 800, .inl fr)), (a 8, .inl (cm 8, 10240, .inl ff)), (a 9, .inl (cm 9, 10240, .inl fh)), (a 10, .inl (cm 10, 10240, .inr (.inl fa))), (a 11, .inl (cm 11, 10240, .inr (.inl fs)))] → va_S A s.heap H locs → lv_has ls 5 [(4, .int (nI (160 * k + x))), (0, .ref h0), (1, .int (nI k)), (2, .int z2), (3, .int z3)] → W p l e ({ frames := 6, cells := 0, slots := 0, locals := 160 }) s m args below meth c H locs 0 0 Q (F0 m 42 ls []) := by
  have hin_X11 : ∀ w ∈ wsX110, w ∈ wp_c_roomM := fun _ h => (List.mem_cons_of_mem _ (List.mem_append_right _ (List.mem_append_right _ (List.mem_append_right _ (List.mem_append_right _ (List.mem_append_right _ (List.mem_append_left _ h)))))))
  intro N
  induction N with
  | zero =>
    intro x hx2 hm
    exact absurd hm (Nat.not_lt_zero _)
  | succ N ih =>
    intro x hx2 hm H locs ls hP hD hS hl
    refine lv_iload hx hb dX11_room_42 (lv_at hl 0 rfl) ?_
    refine lv_sipush (v := 160) hx hb dX11_room_44 (by decide) ?_
    refine lv_iload_n hx hb dX11_room_47 rfl (lv_at hl 2 rfl) ?_
    refine lv_imul hx hb dX11_room_48 ?_
    refine lv_aload_n hx hb dX11_room_49 rfl (lv_at hl 1 rfl) ?_
    refine lv_iload_n hx hb dX11_room_50 rfl (lv_at hl 2 rfl) ?_
    have hPc := hP.sub (ws' := [(h0, .inr (11, gM a (upd i 0 0) g)), (a 3, .inl (cm 3, 85, .inr (.inl fn)))]) [0, 1] rfl
    have hKc := hK.sub (tys' := [(cm 3, .long)]) [0] rfl
    have hFc := va_free0 hS hA
    refine va_calli (va_runV (As := [.int (nI k)]) (rest := [.int (160 * (nI k)), .int (nI (160 * k + x))]) ⟨hx, hb, hml, hown, hts⟩ (c_manyOf l D _ h0 a cm (upd i 0 0) g fn k cn (by first | assumption | omega) h1) (cwV 1 hts g_c_roomM_c_manyOf_95 rfl rfl rfl (by decide +kernel) ⟨(Nat.le_of_ble_eq_true rfl), (Nat.le_of_ble_eq_true rfl)⟩) (PcR_V (q0 := 0) hPc hKc rfl rfl) rfl rfl hl.1 rfl (lv_room (Nat.le_of_ble_eq_true rfl)) dX11_room_51 ⟨(Nat.le_of_ble_eq_true rfl), (Nat.le_of_ble_eq_true rfl)⟩) hS (fun q _ h => hFc q h) hFc (fun r1 uu tt H locs htt hvm hw hB hz1 hk1 hS => ?_)
    have hP := va_keep hP hk1
    try dsimp only at hw
    clear hB hz1 hk1 hFc hPc hKc
    obtain rfl : r1 = nI cn := hw
    refine lv_iadd hx hb dX11_room_54 ?_
    refine lv_topi (fun v2 ev2 => ?_)
    obtain rfl : v2 = nI (160 * k + cn) := ev2.trans (ix160 k _)
    refine lv_icmp_ge (tgt := 94) hx hb dX11_room_55 (by decide) (fun hc3 => ?_) (fun hc3 => ?_)
    ·
      have hge_x : cn ≤ x := by
        have := (nI_leI (a := 160 * k + cn) (b := 160 * k + x) (by omega) (by omega)).mp hc3
        omega
      exact kx94 x (hx2) H locs ls (hP.sub [0, 1, 2, 3, 4, 5, 6, 7, 8] rfl) (hD.sub [0, 1, 2, 3, 4, 5, 6, 7, 8] (by decide) rfl) hS (lv_sub hl [1] rfl)
    ·
      have hlt_x : x < cn := by
        rcases Nat.lt_or_ge x cn with z | z
        · exact z
        · exact absurd (nI_le (show 160 * k + cn ≤ 160 * k + x by omega) (by omega)) hc3
      refine lv_aload_n hx hb dX11_room_58 rfl (lv_at hl 1 rfl) ?_
      refine va_get (D := D) (ci := 11) (v := .ref (a 6)) (C := RX11) (T := TX11) (N := 47) hx hb hts hin_X11 hown hK hP 0 rfl rfl 6 (by decide) (hts (.fieldLink RX11 24 "ClashFreeModel" "inBucket" "[I") (List.mem_of_getElem? (i := 5) rfl)) (fun _ h9 => h9) rfl dX11_room_59 ?_
      refine lv_iload hx hb dX11_room_62 (lv_at hl 0 rfl) ?_
      refine va_iald hx hb hK hP 3 2 rfl rfl (vp_in_nI (by omega) (by decide)) dX11_room_64 ?_
      refine lv_topi (fun v4 ev4 => ?_)
      refine lv_iload_n hx hb dX11_room_65 rfl (lv_at hl 3 rfl) ?_
      refine lv_icmp_ne (tgt := 88) hx hb dX11_room_66 (by decide) (fun hc5 => ?_) (fun hc5 => ?_)
      ·
        refine lv_iinc (v := nI (160 * k + (x + 1))) (lv' := [(4, .int (nI (160 * k + (x + 1)))), (0, .ref h0), (1, .int (nI k)), (2, .int z2), (3, .int z3)]) hx hb dX11_room_88 hl (k := 0) rfl (nI_1 _) (by decide) rfl (fun ls hl => ?_)
        refine lv_goto (tgt := 42) hx hb dX11_room_91 (by decide) ?_
        exact ih (x + 1) (by omega) (by omega) H locs ls (hP.sub [0, 1, 2, 3, 4, 5, 6, 7, 8] rfl) (hD.sub [0, 1, 2, 3, 4, 5, 6, 7, 8] (by decide) rfl) hS (lv_sub hl [0, 1, 2, 3, 4] rfl)
      ·
        refine lv_aload_n hx hb dX11_room_69 rfl (lv_at hl 1 rfl) ?_
        refine va_get (D := D) (ci := 11) (v := .ref (a 7)) (C := RX11) (T := TX11) (N := 47) hx hb hts hin_X11 hown hK hP 0 rfl rfl 7 (by decide) (hts (.fieldLink RX11 27 "ClashFreeModel" "inRoom" "[I") (List.mem_of_getElem? (i := 6) rfl)) (fun _ h9 => h9) rfl dX11_room_70 ?_
        refine lv_iload hx hb dX11_room_73 (lv_at hl 0 rfl) ?_
        refine va_iald hx hb hK hP 4 3 rfl rfl (vp_in_nI (by omega) (by decide)) dX11_room_75 ?_
        refine lv_topi (fun v6 ev6 => ?_)
        refine lv_iload_n hx hb dX11_room_76 rfl (lv_at hl 4 rfl) ?_
        refine lv_icmp_ne (tgt := 88) hx hb dX11_room_77 (by decide) (fun hc7 => ?_) (fun hc7 => ?_)
        ·
          refine lv_iinc (v := nI (160 * k + (x + 1))) (lv' := [(4, .int (nI (160 * k + (x + 1)))), (0, .ref h0), (1, .int (nI k)), (2, .int z2), (3, .int z3)]) hx hb dX11_room_88 hl (k := 0) rfl (nI_1 _) (by decide) rfl (fun ls hl => ?_)
          refine lv_goto (tgt := 42) hx hb dX11_room_91 (by decide) ?_
          exact ih (x + 1) (by omega) (by omega) H locs ls (hP.sub [0, 1, 2, 3, 4, 5, 6, 7, 8] rfl) (hD.sub [0, 1, 2, 3, 4, 5, 6, 7, 8] (by decide) rfl) hS (lv_sub hl [0, 1, 2, 3, 4] rfl)
        ·
          exact kx80 x (hx2) (by omega) H locs ls (hP.sub [0, 1, 2, 3, 4, 5, 6, 7, 8] rfl) (hD.sub [0, 1, 2, 3, 4, 5, 6, 7, 8] (by decide) rfl) hS (lv_sub hl [0, 1] rfl)
set_option maxHeartbeats 4000000 in
set_option maxRecDepth 100000 in
theorem c_roomM (l : Launch) (D : va_G) (sz : Nat) (h0 : Nat) (a : Nat → Nat) (cm : Nat → ClassId) (i : Nat → Int32) (g : Nat → Int64) (fn : Nat → Int64) (fk : Nat → Int32) (fb : Nat → Int32) (fr : Nat → Int32) (ff : Nat → Int32) (fh : Nat → Int32) (fa : Nat → Int64) (fs : Nat → Int64) (z1 : Int32) (z2 : Int32) (z3 : Int32) (hM : MInv fn fk fb ff fh fa fs) : Met l yX11_room wp_c_roomM ({ frames := 6, cells := 0, slots := 0, locals := 160 }) (PcW D [.ref h0, .int z1, .int z2, .int z3] sz [(h0, .inr (11, gM a i g)), (a 3, .inl (cm 3, 85, .inr (.inl fn))), (a 4, .inl (cm 4, 800, .inl fk)), (a 6, .inl (cm 6, 800, .inl fb)), (a 7, .inl (cm 7, 800, .inl fr)), (a 8, .inl (cm 8, 10240, .inl ff)), (a 9, .inl (cm 9, 10240, .inl fh)), (a 10, .inl (cm 10, 10240, .inr (.inl fa))), (a 11, .inl (cm 11, 10240, .inr (.inl fs)))] [(cm 3, .long), (cm 4, .int), (cm 6, .int), (cm 7, .int), (cm 8, .int), (cm 9, .int), (cm 10, .long), (cm 11, .long)]) (va_Qi (fun (r : Int32) (u : (Int32)) => True) (fun (u : (Int32)) t => va_P D vwCl [(h0, .inr (11, gM a (upd i 0 u) g)), (a 3, .inl (cm 3, 85, .inr (.inl fn))), (a 4, .inl (cm 4, 800, .inl fk)), (a 6, .inl (cm 6, 800, .inl fb)), (a 7, .inl (cm 7, 800, .inl fr)), (a 8, .inl (cm 8, 10240, .inl ff)), (a 9, .inl (cm 9, 10240, .inl fh)), (a 10, .inl (cm 10, 10240, .inr (.inl fa))), (a 11, .inl (cm 11, 10240, .inr (.inl fs)))] t.heap ∧ va_K D vwCl [(cm 3, .long), (cm 4, .int), (cm 6, .int), (cm 7, .int), (cm 8, .int), (cm 9, .int), (cm 10, .long), (cm 11, .long)] t ∧ va_D (va_A [(h0, .inr (11, gM a i g)), (a 3, .inl (cm 3, 85, .inr (.inl fn))), (a 4, .inl (cm 4, 800, .inl fk)), (a 6, .inl (cm 6, 800, .inl fb)), (a 7, .inl (cm 7, 800, .inl fr)), (a 8, .inl (cm 8, 10240, .inl ff)), (a 9, .inl (cm 9, 10240, .inl fh)), (a 10, .inl (cm 10, 10240, .inr (.inl fa))), (a 11, .inl (cm 11, 10240, .inr (.inl fs)))] sz) [(h0, .inr (11, gM a (upd i 0 u) g)), (a 3, .inl (cm 3, 85, .inr (.inl fn))), (a 4, .inl (cm 4, 800, .inl fk)), (a 6, .inl (cm 6, 800, .inl fb)), (a 7, .inl (cm 7, 800, .inl fr)), (a 8, .inl (cm 8, 10240, .inl ff)), (a 9, .inl (cm 9, 10240, .inl fh)), (a 10, .inl (cm 10, 10240, .inr (.inl fa))), (a 11, .inl (cm 11, 10240, .inr (.inl fs)))]) (va_A [(h0, .inr (11, gM a i g)), (a 3, .inl (cm 3, 85, .inr (.inl fn))), (a 4, .inl (cm 4, 800, .inl fk)), (a 6, .inl (cm 6, 800, .inl fb)), (a 7, .inl (cm 7, 800, .inl fr)), (a 8, .inl (cm 8, 10240, .inl ff)), (a 9, .inl (cm 9, 10240, .inl fh)), (a 10, .inl (cm 10, 10240, .inr (.inl fa))), (a 11, .inl (cm 11, 10240, .inr (.inl fs)))] sz)) 0 0 (va_A [(h0, .inr (11, gM a i g)), (a 3, .inl (cm 3, 85, .inr (.inl fn))), (a 4, .inl (cm 4, 800, .inl fk)), (a 6, .inl (cm 6, 800, .inl fb)), (a 7, .inl (cm 7, 800, .inl fr)), (a 8, .inl (cm 8, 10240, .inl ff)), (a 9, .inl (cm 9, 10240, .inl fh)), (a 10, .inl (cm 10, 10240, .inr (.inl fa))), (a 11, .inl (cm 11, 10240, .inr (.inl fs)))] sz) := by
  refine Met.ofW (cc := cX11_room) (maxL := 5) (ret := (some .int)) (by decide) rfl ?_
  intro p e s m args below meth c s₁ B hml hv
  obtain ⟨rfl, hsz, hP, hK, hD0⟩ := hv
  have hx := B.exec
  have hb := B.bytes
  have hr := B.returns
  have hts := atoms_spec (ws := wp_c_roomM) B.pre
  have hin_X11 : ∀ w ∈ wsX110, w ∈ wp_c_roomM := fun _ h => (List.mem_cons_of_mem _ (List.mem_append_right _ (List.mem_append_right _ (List.mem_append_right _ (List.mem_append_right _ (List.mem_append_right _ (List.mem_append_left _ h)))))))
  have hown : s.vm.findClass RX11 = some m.cls := findClass_of_methodNamed B.named
  have hlocks := B.notSynchronized
  subst hsz
  have hD := hD0.self (sz := s.heap.size)
  generalize hAe : va_A [(h0, .inr (11, gM a i g)), (a 3, .inl (cm 3, 85, .inr (.inl fn))), (a 4, .inl (cm 4, 800, .inl fk)), (a 6, .inl (cm 6, 800, .inl fb)), (a 7, .inl (cm 7, 800, .inl fr)), (a 8, .inl (cm 8, 10240, .inl ff)), (a 9, .inl (cm 9, 10240, .inl fh)), (a 10, .inl (cm 10, 10240, .inr (.inl fa))), (a 11, .inl (cm 11, 10240, .inr (.inl fs)))] s.heap.size = A at hD ⊢
  have hA : ∀ q : Nat, s.heap.size ≤ q → A q := fun q h => by rw [← hAe]; exact Or.inr h
  have hS : va_S A s.heap s.heap [] := va_S.rf
  have hP : va_P D vwCl [(h0, .inr (11, gM a i g)), (a 3, .inl (cm 3, 85, .inr (.inl fn))), (a 4, .inl (cm 4, 800, .inl fk)), (a 6, .inl (cm 6, 800, .inl fb)), (a 7, .inl (cm 7, 800, .inl fr)), (a 8, .inl (cm 8, 10240, .inl ff)), (a 9, .inl (cm 9, 10240, .inl fh)), (a 10, .inl (cm 10, 10240, .inr (.inl fa))), (a 11, .inl (cm 11, 10240, .inr (.inl fs)))] s.heap := hP
  have hl := lv_entry ([.ref h0, .int z1, .int z2, .int z3]) (n := 5) (Nat.le_of_ble_eq_true rfl)
  rw [lg_entry_eq]
  generalize (lg_sl ([.ref h0, .int z1, .int z2, .int z3]) ++ List.replicate (5 - (lg_sl ([.ref h0, .int z1, .int z2, .int z3])).length) Slot.unset).toArray = ls at hl ⊢
  have hl : lv_has ls 5 [(0, .ref h0), (1, .int z1), (2, .int z2), (3, .int z3)] := hl
  refine lv_aload_n hx hb dX11_room_0 rfl (lv_at hl 0 rfl) ?_
  refine lv_iconst (v := 0) hx hb dX11_room_1 (by decide) ?_
  refine va_put (D := D) (ci := 11) (v := .int 0) (ty := .int) (C := RX11) (T := TX11) (N := 47) hx hb hts hin_X11 tyX11 tyX11_ok nmX11 hown hK hP hD hS 0 rfl rfl 0 (by decide) (hts (.fieldLink RX11 73 "ClashFreeModel" "thrown" "I") (List.mem_of_getElem? (i := 7) rfl)) (fun _ h9 => h9) rfl (by decide +kernel) rfl rfl (Nat.le_of_ble_eq_true rfl) dX11_room_2 (fun H locs hP hD hS => ?_)
  have hP : va_P D vwCl [(h0, .inr (11, gM a (upd i 0 0) g)), (a 3, .inl (cm 3, 85, .inr (.inl fn))), (a 4, .inl (cm 4, 800, .inl fk)), (a 6, .inl (cm 6, 800, .inl fb)), (a 7, .inl (cm 7, 800, .inl fr)), (a 8, .inl (cm 8, 10240, .inl ff)), (a 9, .inl (cm 9, 10240, .inl fh)), (a 10, .inl (cm 10, 10240, .inr (.inl fa))), (a 11, .inl (cm 11, 10240, .inr (.inl fs)))] H := hP
  have hD : va_D A [(h0, .inr (11, gM a (upd i 0 0) g)), (a 3, .inl (cm 3, 85, .inr (.inl fn))), (a 4, .inl (cm 4, 800, .inl fk)), (a 6, .inl (cm 6, 800, .inl fb)), (a 7, .inl (cm 7, 800, .inl fr)), (a 8, .inl (cm 8, 10240, .inl ff)), (a 9, .inl (cm 9, 10240, .inl fh)), (a 10, .inl (cm 10, 10240, .inr (.inl fa))), (a 11, .inl (cm 11, 10240, .inr (.inl fs)))] := hD
  refine lv_aload_n hx hb dX11_room_5 rfl (lv_at hl 0 rfl) ?_
  refine lv_iload_n hx hb dX11_room_6 rfl (lv_at hl 1 rfl) ?_
  refine lv_iload_n hx hb dX11_room_7 rfl (lv_at hl 2 rfl) ?_
  have hPc := hP.sub (ws' := [(h0, .inr (11, gM a (upd i 0 0) g)), (a 3, .inl (cm 3, 85, .inr (.inl fn))), (a 4, .inl (cm 4, 800, .inl fk)), (a 6, .inl (cm 6, 800, .inl fb)), (a 8, .inl (cm 8, 10240, .inl ff)), (a 9, .inl (cm 9, 10240, .inl fh)), (a 10, .inl (cm 10, 10240, .inr (.inl fa))), (a 11, .inl (cm 11, 10240, .inr (.inl fs)))]) [0, 1, 2, 3, 5, 6, 7, 8] rfl
  have hKc := hK.sub (tys' := [(cm 3, .long), (cm 4, .int), (cm 6, .int), (cm 8, .int), (cm 9, .int), (cm 10, .long), (cm 11, .long)]) [0, 1, 2, 4, 5, 6, 7] rfl
  have hFc := va_free0 hS hA
  refine va_calli (va_runV (As := [.int z1, .int z2]) (rest := []) ⟨hx, hb, hml, hown, hts⟩ (c_isBucket l D _ h0 a cm (upd i 0 0) g fn fk fb ff fh fa fs z1 z2 (by first | assumption | omega)) (cwV 2 hts g_c_roomM_c_isBucket_246 rfl rfl rfl (by decide +kernel) ⟨(Nat.le_of_ble_eq_true rfl), (Nat.le_of_ble_eq_true rfl)⟩) (PcR_V (q0 := 0) hPc hKc rfl rfl) rfl rfl hl.1 rfl (lv_room (Nat.le_of_ble_eq_true rfl)) dX11_room_8 ⟨(Nat.le_of_ble_eq_true rfl), (Nat.le_of_ble_eq_true rfl)⟩) hS (fun q _ h => hFc q h) hFc (fun r1 uu tt H locs htt hvm hw hB hz1 hk1 hS => ?_)
  have hP := va_keep hP hk1
  try dsimp only at hw
  clear hB hz1 hk1 hFc hPc hKc
  rcases hw with ⟨rfl, hA_r1⟩ | ⟨rfl, hA_r1⟩
  ·
    obtain ⟨k, j, cn, nb, K, J, hk, rfl, rfl, hj, hT⟩ := hA_r1
    obtain ⟨h1, hcn, h4, hn1, hn2, ⟨ka, kb, hka, hkb, h6, h7⟩, hKy, hBk, hHs, ⟨bn, ns, gr, h14, hbn, h15, hs1, hs2, h16, hgr⟩⟩ := id hT
    obtain ⟨hq1, rf, hrf, hq2, hq3⟩ := hHs _ hj
    have hBk2 : BkS k fb cn 2048 J := fun y a => ⟨(hBk y a).1, by have := (hBk y a).2; omega⟩
    refine lv_if_eq (tgt := 32) hx hb dX11_room_11 (by decide) (fun hc => absurd hc (by decide)) (fun hc => ?_)
    refine lv_iload_n hx hb dX11_room_14 rfl (lv_at hl 3 rfl) ?_
    refine lv_i2l hx hb dX11_room_15 rfl ?_
    refine lv_lconst (v := 0) hx hb dX11_room_16 (by decide) ?_
    refine lv_aload_n hx hb dX11_room_17 rfl (lv_at hl 0 rfl) ?_
    refine lv_iload_n hx hb dX11_room_18 rfl (lv_at hl 1 rfl) ?_
    refine lv_iload_n hx hb dX11_room_19 rfl (lv_at hl 2 rfl) ?_
    have hPc := hP.sub (ws' := [(h0, .inr (11, gM a (upd i 0 0) g)), (a 8, .inl (cm 8, 10240, .inl ff))]) [0, 5] rfl
    have hKc := hK.sub (tys' := [(cm 8, .int)]) [4] rfl
    have hFc := va_free0 hS hA
    refine va_calli (va_runV (As := [.int (nI k), .int (nI j)]) (rest := [.long 0, .long (Int32.toInt64 z3)]) ⟨hx, hb, hml, hown, hts⟩ (c_roomsOf l D _ h0 a cm (upd i 0 0) g ff k j rf (by first | assumption | omega) (by first | assumption | omega) hrf) (cwV 2 hts g_c_roomM_c_roomsOf_137 rfl rfl rfl (by decide +kernel) ⟨(Nat.le_of_ble_eq_true rfl), (Nat.le_of_ble_eq_true rfl)⟩) (PcR_V (q0 := 0) hPc hKc rfl rfl) rfl rfl hl.1 rfl (lv_room (Nat.le_of_ble_eq_true rfl)) dX11_room_20 ⟨(Nat.le_of_ble_eq_true rfl), (Nat.le_of_ble_eq_true rfl)⟩) hS (fun q _ h => hFc q h) hFc (fun r2 uu tt H locs htt hvm hw hB hz1 hk1 hS => ?_)
    have hP := va_keep hP hk1
    try dsimp only at hw
    clear hB hz1 hk1 hFc hPc hKc
    obtain rfl : r2 = nI (rf * rf) := hw
    refine lv_iconst (v := 1) hx hb dX11_room_23 (by decide) ?_
    refine lv_isub hx hb dX11_room_24 ?_
    refine lv_topi (fun v3 ev3 => ?_)
    refine lv_i2l hx hb dX11_room_25 rfl ?_
    have hPc := hP.sub (ws' := []) [] rfl
    have hKc := hK.sub (tys' := []) [] rfl
    have hFc := va_free0 hS hA
    refine va_calli (va_runS (As := [.long (Int32.toInt64 z3), .long 0, .long (Int32.toInt64 v3)]) (rest := []) ⟨hx, hb, hml, hown, hts⟩ (c_isIn l D _ (Int32.toInt64 z3) 0 (Int32.toInt64 v3)) (va_cwS 3 hts g_c_roomM_c_isIn_83 rfl rfl rfl (by decide +kernel) ⟨(Nat.le_of_ble_eq_true rfl), (Nat.le_of_ble_eq_true rfl)⟩) (PcR_S hPc hKc) rfl rfl hl.1 rfl (lv_room (Nat.le_of_ble_eq_true rfl)) dX11_room_26 ⟨(Nat.le_of_ble_eq_true rfl), (Nat.le_of_ble_eq_true rfl)⟩) hS (fun q _ h => hFc q h) hFc (fun r4 uu tt H locs htt hvm hw hB hz1 hk1 hS => ?_)
    have hP := va_keep hP hk1
    try dsimp only at hw
    clear hB hz1 hk1 hFc hPc hKc
    rcases hw with ⟨rfl, hA_r4⟩ | ⟨rfl, hA_r4⟩
    ·
      refine lv_if_ne (tgt := 35) hx hb dX11_room_29 (by decide) (fun hc => ?_) (fun hc => absurd hc (by decide))
      refine lv_sipush (v := 160) hx hb dX11_room_35 (by decide) ?_
      refine lv_iload_n hx hb dX11_room_38 rfl (lv_at hl 1 rfl) ?_
      refine lv_imul hx hb dX11_room_39 ?_
      refine lv_topi (fun v5 ev5 => ?_)
      obtain rfl : v5 = nI (160 * k + 0) := ev5.trans (pk_mul 160 k)
      refine lv_istore (lv' := [(4, .int (nI (160 * k + 0))), (0, .ref h0), (1, .int (nI k)), (2, .int (nI j)), (3, .int z3)]) hx hb dX11_room_40 hl (by decide) rfl (fun ls hl => ?_)
      refine lp_room l D h0 a cm (upd i 0 0) g fn fk fb fr ff fh fa fs (nI j) z3 k cn (hk) (h1) (hcn) hx hb hml hown hts hA (hK.sub [0, 1, 2, 3, 4, 5, 6, 7] rfl) ?_ ?_ (cn + 1) 0 (Nat.zero_le _) (by omega) _ _ _ (hP.sub [0, 1, 2, 3, 4, 5, 6, 7, 8] rfl) (hD.sub [0, 1, 2, 3, 4, 5, 6, 7, 8] (by decide) rfl) hS (lv_sub hl [0, 1, 2, 3, 4] rfl)
      ·
        intro x_6 hx2_7 H locs ls hP hD hS hl
        refine lv_iconst (v := (-1)) hx hb dX11_room_94 (by decide) ?_
        exact W.iret (v := (-1)) hx hb hr (fun t ht hW => ⟨⟨(-1), 0, rfl, trivial, by rw [ht]; exact hP.sub [0, 1, 2, 3, 4, 5, 6, 7, 8] rfl, va_K.moved hW.alike (hK.sub [0, 1, 2, 3, 4, 5, 6, 7] rfl), hD.sub [0, 1, 2, 3, 4, 5, 6, 7, 8] (by decide) rfl⟩, hS.F ht⟩) hS.2.2 dX11_room_95
      ·
        intro x_8 hx2_9 hx10 H locs ls hP hD hS hl
        refine lv_aload_n hx hb dX11_room_80 rfl (lv_at hl 1 rfl) ?_
        refine va_get (D := D) (ci := 11) (v := .ref (a 4)) (C := RX11) (T := TX11) (N := 47) hx hb hts hin_X11 hown hK hP 0 rfl rfl 4 (by decide) (hts (.fieldLink RX11 17 "ClashFreeModel" "keys" "[I") (List.mem_of_getElem? (i := 16) rfl)) (fun _ h9 => h9) rfl dX11_room_81 ?_
        refine lv_iload hx hb dX11_room_84 (lv_at hl 0 rfl) ?_
        refine va_iald hx hb hK hP 2 1 rfl rfl (vp_in_nI (by omega) (by decide)) dX11_room_86 ?_
        refine lv_topi (fun v11 ev11 => ?_)
        exact W.iret (v := v11) hx hb hr (fun t ht hW => ⟨⟨v11, 0, rfl, trivial, by rw [ht]; exact hP.sub [0, 1, 2, 3, 4, 5, 6, 7, 8] rfl, va_K.moved hW.alike (hK.sub [0, 1, 2, 3, 4, 5, 6, 7] rfl), hD.sub [0, 1, 2, 3, 4, 5, 6, 7, 8] (by decide) rfl⟩, hS.F ht⟩) hS.2.2 dX11_room_87
    ·
      refine lv_if_ne (tgt := 35) hx hb dX11_room_29 (by decide) (fun hc => absurd (by decide) hc) (fun hc => ?_)
      refine lv_bipush (v := (-2)) hx hb dX11_room_32 (by decide) ?_
      exact W.iret (v := (-2)) hx hb hr (fun t ht hW => ⟨⟨(-2), 0, rfl, trivial, by rw [ht]; exact hP.sub [0, 1, 2, 3, 4, 5, 6, 7, 8] rfl, va_K.moved hW.alike (hK.sub [0, 1, 2, 3, 4, 5, 6, 7] rfl), hD.sub [0, 1, 2, 3, 4, 5, 6, 7, 8] (by decide) rfl⟩, hS.F ht⟩) hS.2.2 dX11_room_34
  ·
    refine lv_if_eq (tgt := 32) hx hb dX11_room_11 (by decide) (fun hc => ?_) (fun hc => absurd (by decide) hc)
    refine lv_bipush (v := (-2)) hx hb dX11_room_32 (by decide) ?_
    exact W.iret (v := (-2)) hx hb hr (fun t ht hW => ⟨⟨(-2), 0, rfl, trivial, by rw [ht]; exact hP.sub [0, 1, 2, 3, 4, 5, 6, 7, 8] rfl, va_K.moved hW.alike (hK.sub [0, 1, 2, 3, 4, 5, 6, 7] rfl), hD.sub [0, 1, 2, 3, 4, 5, 6, 7, 8] (by decide) rfl⟩, hS.F ht⟩) hS.2.2 dX11_room_34

def own_c_walkM : List Cond := [.methodLink RX11 95 yX11_manyOf, .instanceMethod yX11_manyOf, .selects RX11 yX11_manyOf yX11_manyOf, .initialized RX11, .methodLink RX11 249 yX11_aheadOf, .instanceMethod yX11_aheadOf, .selects RX11 yX11_aheadOf yX11_aheadOf, .fieldLink RX11 73 "ClashFreeModel" "thrown" "I", .methodLink RX11 222 yX11_isThere, .instanceMethod yX11_isThere, .selects RX11 yX11_isThere yX11_isThere, .fieldLink RX11 17 "ClashFreeModel" "keys" "[I"]
def wp_c_walkM : List Cond := .code yX11_walk cX11_walk 4 (some .int) :: (own_c_walkM ++ (wp_c_manyOf ++ (wp_c_aheadOf ++ (wp_c_isThere ++ (wsX110 ++ ([] : List Cond))))))
set_option maxRecDepth 20000 in
theorem inown_c_walkM : ∀ w ∈ own_c_walkM, w ∈ lw_tbl := mem_places [1396, 1398, 40, 115, 1561, 1563, 66, 1216, 1466, 1468, 54, 1220] (by decide +kernel)
set_option maxRecDepth 20000 in
theorem in_c_walkM : ∀ w ∈ wp_c_walkM, w ∈ lw_tbl := List.forall_mem_cons.mpr ⟨List.mem_of_getElem? (i := 1560) (by decide +kernel), List.forall_mem_append.mpr ⟨inown_c_walkM, List.forall_mem_append.mpr ⟨in_c_manyOf, List.forall_mem_append.mpr ⟨in_c_aheadOf, List.forall_mem_append.mpr ⟨in_c_isThere, List.forall_mem_append.mpr ⟨lwb_X11, fun _ h => absurd h List.not_mem_nil⟩⟩⟩⟩⟩⟩
set_option maxRecDepth 20000 in
theorem good_c_walkM : wp_c_walkM.all goodWord = true := by decide +kernel
set_option maxRecDepth 20000 in
theorem g_c_walkM_c_manyOf_95 : GoodIn wp_c_walkM (wsV RX11 95 RX11 yX11_manyOf wp_c_manyOf) := goodIn_sub (List.forall_mem_append.mpr ⟨List.forall_mem_cons.mpr ⟨(List.mem_of_getElem? (i := 1) rfl), List.forall_mem_cons.mpr ⟨(List.mem_of_getElem? (i := 2) rfl), List.forall_mem_cons.mpr ⟨(List.mem_of_getElem? (i := 3) rfl), List.forall_mem_cons.mpr ⟨(List.mem_of_getElem? (i := 4) rfl), fun _ h => absurd h List.not_mem_nil⟩⟩⟩⟩, (fun _ h => (List.mem_cons_of_mem _ (List.mem_append_right _ (List.mem_append_left _ h))))⟩) (by decide +kernel)
set_option maxRecDepth 20000 in
theorem g_c_walkM_c_aheadOf_249 : GoodIn wp_c_walkM (wsV RX11 249 RX11 yX11_aheadOf wp_c_aheadOf) := goodIn_sub (List.forall_mem_append.mpr ⟨List.forall_mem_cons.mpr ⟨(List.mem_of_getElem? (i := 5) rfl), List.forall_mem_cons.mpr ⟨(List.mem_of_getElem? (i := 6) rfl), List.forall_mem_cons.mpr ⟨(List.mem_of_getElem? (i := 7) rfl), List.forall_mem_cons.mpr ⟨(List.mem_of_getElem? (i := 4) rfl), fun _ h => absurd h List.not_mem_nil⟩⟩⟩⟩, (fun _ h => (List.mem_cons_of_mem _ (List.mem_append_right _ (List.mem_append_right _ (List.mem_append_left _ h)))))⟩) (by decide +kernel)
set_option maxRecDepth 20000 in
theorem g_c_walkM_c_isThere_222 : GoodIn wp_c_walkM (wsV RX11 222 RX11 yX11_isThere wp_c_isThere) := goodIn_sub (List.forall_mem_append.mpr ⟨List.forall_mem_cons.mpr ⟨(List.mem_of_getElem? (i := 9) rfl), List.forall_mem_cons.mpr ⟨(List.mem_of_getElem? (i := 10) rfl), List.forall_mem_cons.mpr ⟨(List.mem_of_getElem? (i := 11) rfl), List.forall_mem_cons.mpr ⟨(List.mem_of_getElem? (i := 4) rfl), fun _ h => absurd h List.not_mem_nil⟩⟩⟩⟩, (fun _ h => (List.mem_cons_of_mem _ (List.mem_append_right _ (List.mem_append_right _ (List.mem_append_right _ (List.mem_append_left _ h))))))⟩) (by decide +kernel)
set_option maxHeartbeats 4000000 in
set_option maxRecDepth 100000 in
theorem lp_walk (l : Launch) {p : Program} {e : Env} {s : State} {m : MethodId} {args : Array Value} {below : List Frame} {meth : Method} {c : Code} {Q : State → Prop} {A : Nat → Prop} (D : va_G) (h0 : Nat) (a : Nat → Nat) (cm : Nat → ClassId) (i : Nat → Int32) (g : Nat → Int64) (fn : Nat → Int64) (fk : Nat → Int32) (fb : Nat → Int32) (fr : Nat → Int32) (ff : Nat → Int32) (fh : Nat → Int32) (fa : Nat → Int64) (fs : Nat → Int64) (z2 : Int32) (k : Nat) (cn : Nat) (hk : k < 4) (h1 : fn (17 * k + 1) = lN cn) (hcn : cn ≤ 160) (hx : p.tables.exec = Jvm.exec) (hb : c.code = cX11_walk) (hml : c.maxLocals = 4) (hown : s.vm.findClass RX11 = some m.cls) (hts : ∀ w ∈ wp_c_walkM, w.before args s = true) (hA : ∀ q, s.heap.size ≤ q → A q) (hK : va_K D vwCl [(cm 3, .long), (cm 4, .int), (cm 6, .int), (cm 7, .int), (cm 8, .int), (cm 9, .int), (cm 10, .long), (cm 11, .long)] s) (kx59 : ∀ (x : Nat), (x ≤ cn) → ∀ (H : Heap) (locs : List Loc) (ls : Array Slot), va_P D vwCl [(h0, .inr (11, gM a (upd i 0 0) g)), (a 3, .inl (cm 3, 85, .inr (.inl fn))), (a 4, .inl (cm 4, 800, .inl fk)), (a 6, .inl (cm 6, 800, .inl fb)), (a 7, .inl (cm 7, 800, .inl fr)), (a 8, .inl (cm 8, 10240, .inl ff)), (a 9, .inl (cm 9, 10240, .inl fh)), (a 10, .inl (cm 10, 10240, .inr (.inl fa))), (a 11, .inl (cm 11, 10240, .inr (.inl fs)))] H → va_D A [(h0, .inr (11, gM a (upd i 0 0) g)), (a 3, .inl (cm 3, 85, .inr (.inl fn))), (a 4, .inl (cm 4, 800, .inl fk)), (a 6, .inl (cm 6, 800, .inl fb)), (a 7, .inl (cm 7, 800, .inl fr)), (a 8, .inl (cm 8, 10240, .inl ff)), (a 9, .inl (cm 9, 10240, .inl fh)), (a 10, .inl (cm 10, 10240, .inr (.inl fa))), (a 11, .inl (cm 11, 10240, .inr (.inl fs)))] → va_S A s.heap H locs → lv_has ls 4 [(0, .ref h0)] → W p l e ({ frames := 6, cells := 0, slots := 0, locals := 160 }) s m args below meth c H locs 0 0 Q (F0 m 59 ls [])) (kx46 : ∀ (x : Nat), (x ≤ cn) → (x < cn) → ∀ (H : Heap) (locs : List Loc) (ls : Array Slot), va_P D vwCl [(h0, .inr (11, gM a (upd i 0 0) g)), (a 3, .inl (cm 3, 85, .inr (.inl fn))), (a 4, .inl (cm 4, 800, .inl fk)), (a 6, .inl (cm 6, 800, .inl fb)), (a 7, .inl (cm 7, 800, .inl fr)), (a 8, .inl (cm 8, 10240, .inl ff)), (a 9, .inl (cm 9, 10240, .inl fh)), (a 10, .inl (cm 10, 10240, .inr (.inl fa))), (a 11, .inl (cm 11, 10240, .inr (.inl fs)))] H → va_D A [(h0, .inr (11, gM a (upd i 0 0) g)), (a 3, .inl (cm 3, 85, .inr (.inl fn))), (a 4, .inl (cm 4, 800, .inl fk)), (a 6, .inl (cm 6, 800, .inl fb)), (a 7, .inl (cm 7, 800, .inl fr)), (a 8, .inl (cm 8, 10240, .inl ff)), (a 9, .inl (cm 9, 10240, .inl fh)), (a 10, .inl (cm 10, 10240, .inr (.inl fa))), (a 11, .inl (cm 11, 10240, .inr (.inl fs)))] → va_S A s.heap H locs → lv_has ls 4 [(3, .int (nI (160 * k + x))), (0, .ref h0)] → W p l e ({ frames := 6, cells := 0, slots := 0, locals := 160 }) s m args below meth c H locs 0 0 Q (F0 m 46 ls [])) : ∀ (N : Nat), ∀ (x : Nat), (x ≤ cn) → cn - x < N → ∀ (H : Heap) (locs : List Loc) (ls : Array Slot), va_P D vwCl [(h0, .inr (11, gM a (upd i 0 0) g)), (a 3, .inl (cm 3, 85, .inr (.inl fn))), (a 4, .inl (cm 4, 800, .inl fk)), (a 6, .inl (cm 6, 800, .inl fb)), (a 7, .inl (cm 7, 800, .inl fr)), (a 8, .inl (cm 8, 10240, .inl ff)), (a 9, .inl (cm 9, 10240, .inl fh)), (a 10, .inl (cm 10, 10240, .inr (.inl fa))), (a 11, .inl (cm 11, 10240, .inr (.inl fs)))] H → va_D A [(h0, .inr (11, gM a (upd i 0 0) g)), (a 3, .inl (cm 3, 85, .inr (.inl fn))), (a 4, .inl (cm 4, 800, .inl fk)), (a 6, .inl (cm 6, 800, .inl fb)), (a 7, .inl (cm 7, 800, .inl fr)), (a 8, .inl (cm 8, 10240, .inl ff)), (a 9, .inl (cm 9, 10240, .inl fh)), (a 10, .inl (cm 10, 10240, .inr (.inl fa))), (a 11, .inl (cm 11, 10240, .inr (.inl fs)))] → va_S A s.heap H locs → lv_has ls 4 [(3, .int (nI (160 * k + x))), (0, .ref h0), (1, .int (nI k)), (2, .int z2)] → W p l e ({ frames := 6, cells := 0, slots := 0, locals := 160 }) s m args below meth c H locs 0 0 Q (F0 m 21 ls []) := by
  have hin_X11 : ∀ w ∈ wsX110, w ∈ wp_c_walkM := fun _ h => (List.mem_cons_of_mem _ (List.mem_append_right _ (List.mem_append_right _ (List.mem_append_right _ (List.mem_append_right _ (List.mem_append_left _ h))))))
  intro N
  induction N with
  | zero =>
    intro x hx2 hm
    exact absurd hm (Nat.not_lt_zero _)
  | succ N ih =>
    intro x hx2 hm H locs ls hP hD hS hl
    refine lv_iload_n hx hb dX11_walk_21 rfl (lv_at hl 0 rfl) ?_
    refine lv_sipush (v := 160) hx hb dX11_walk_22 (by decide) ?_
    refine lv_iload_n hx hb dX11_walk_25 rfl (lv_at hl 2 rfl) ?_
    refine lv_imul hx hb dX11_walk_26 ?_
    refine lv_aload_n hx hb dX11_walk_27 rfl (lv_at hl 1 rfl) ?_
    refine lv_iload_n hx hb dX11_walk_28 rfl (lv_at hl 2 rfl) ?_
    have hPc := hP.sub (ws' := [(h0, .inr (11, gM a (upd i 0 0) g)), (a 3, .inl (cm 3, 85, .inr (.inl fn)))]) [0, 1] rfl
    have hKc := hK.sub (tys' := [(cm 3, .long)]) [0] rfl
    have hFc := va_free0 hS hA
    refine va_calli (va_runV (As := [.int (nI k)]) (rest := [.int (160 * (nI k)), .int (nI (160 * k + x))]) ⟨hx, hb, hml, hown, hts⟩ (c_manyOf l D _ h0 a cm (upd i 0 0) g fn k cn (by first | assumption | omega) h1) (cwV 1 hts g_c_walkM_c_manyOf_95 rfl rfl rfl (by decide +kernel) ⟨(Nat.le_of_ble_eq_true rfl), (Nat.le_of_ble_eq_true rfl)⟩) (PcR_V (q0 := 0) hPc hKc rfl rfl) rfl rfl hl.1 rfl (lv_room (Nat.le_of_ble_eq_true rfl)) dX11_walk_29 ⟨(Nat.le_of_ble_eq_true rfl), (Nat.le_of_ble_eq_true rfl)⟩) hS (fun q _ h => hFc q h) hFc (fun r1 uu tt H locs htt hvm hw hB hz1 hk1 hS => ?_)
    have hP := va_keep hP hk1
    try dsimp only at hw
    clear hB hz1 hk1 hFc hPc hKc
    obtain rfl : r1 = nI cn := hw
    refine lv_iadd hx hb dX11_walk_32 ?_
    refine lv_topi (fun v2 ev2 => ?_)
    obtain rfl : v2 = nI (160 * k + cn) := ev2.trans (ix160 k _)
    refine lv_icmp_ge (tgt := 59) hx hb dX11_walk_33 (by decide) (fun hc3 => ?_) (fun hc3 => ?_)
    ·
      have hge_x : cn ≤ x := by
        have := (nI_leI (a := 160 * k + cn) (b := 160 * k + x) (by omega) (by omega)).mp hc3
        omega
      exact kx59 x (hx2) H locs ls (hP.sub [0, 1, 2, 3, 4, 5, 6, 7, 8] rfl) (hD.sub [0, 1, 2, 3, 4, 5, 6, 7, 8] (by decide) rfl) hS (lv_sub hl [1] rfl)
    ·
      have hlt_x : x < cn := by
        rcases Nat.lt_or_ge x cn with z | z
        · exact z
        · exact absurd (nI_le (show 160 * k + cn ≤ 160 * k + x by omega) (by omega)) hc3
      refine lv_aload_n hx hb dX11_walk_36 rfl (lv_at hl 1 rfl) ?_
      refine lv_iload_n hx hb dX11_walk_37 rfl (lv_at hl 2 rfl) ?_
      refine lv_iload_n hx hb dX11_walk_38 rfl (lv_at hl 0 rfl) ?_
      have hPc := hP.sub (ws' := [(h0, .inr (11, gM a (upd i 0 0) g)), (a 3, .inl (cm 3, 85, .inr (.inl fn))), (a 6, .inl (cm 6, 800, .inl fb)), (a 7, .inl (cm 7, 800, .inl fr))]) [0, 1, 3, 4] rfl
      have hKc := hK.sub (tys' := [(cm 3, .long), (cm 6, .int), (cm 7, .int)]) [0, 2, 3] rfl
      have hFc := va_free0 hS hA
      refine va_calli (va_runV (As := [.int (nI k), .int (nI (160 * k + x))]) (rest := []) ⟨hx, hb, hml, hown, hts⟩ (c_aheadOf l D _ h0 a cm (upd i 0 0) g fn fb fr k cn (160 * k + x) (by first | assumption | omega) h1 (by first | assumption | omega) (by first | assumption | omega)) (cwV 2 hts g_c_walkM_c_aheadOf_249 rfl rfl rfl (by decide +kernel) ⟨(Nat.le_of_ble_eq_true rfl), (Nat.le_of_ble_eq_true rfl)⟩) (PcR_V (q0 := 0) hPc hKc rfl rfl) rfl rfl hl.1 rfl (lv_room (Nat.le_of_ble_eq_true rfl)) dX11_walk_39 ⟨(Nat.le_of_ble_eq_true rfl), (Nat.le_of_ble_eq_true rfl)⟩) hS (fun q _ h => hFc q h) hFc (fun r4 uu tt H locs htt hvm hw hB hz1 hk1 hS => ?_)
      have hP := va_keep hP hk1
      try dsimp only at hw
      clear hB hz1 hk1 hFc hPc hKc
      refine lv_iload_n hx hb dX11_walk_42 rfl (lv_at hl 3 rfl) ?_
      refine lv_icmp_ne (tgt := 53) hx hb dX11_walk_43 (by decide) (fun hc5 => ?_) (fun hc5 => ?_)
      ·
        refine lv_iinc (v := nI (160 * k + (x + 1))) (lv' := [(3, .int (nI (160 * k + (x + 1)))), (0, .ref h0), (1, .int (nI k)), (2, .int z2)]) hx hb dX11_walk_53 hl (k := 0) rfl (nI_1 _) (by decide) rfl (fun ls hl => ?_)
        refine lv_goto (tgt := 21) hx hb dX11_walk_56 (by decide) ?_
        exact ih (x + 1) (by omega) (by omega) H locs ls (hP.sub [0, 1, 2, 3, 4, 5, 6, 7, 8] rfl) (hD.sub [0, 1, 2, 3, 4, 5, 6, 7, 8] (by decide) rfl) hS (lv_sub hl [0, 1, 2, 3] rfl)
      ·
        exact kx46 x (hx2) (by omega) H locs ls (hP.sub [0, 1, 2, 3, 4, 5, 6, 7, 8] rfl) (hD.sub [0, 1, 2, 3, 4, 5, 6, 7, 8] (by decide) rfl) hS (lv_sub hl [0, 1] rfl)
set_option maxHeartbeats 4000000 in
set_option maxRecDepth 100000 in
theorem c_walkM (l : Launch) (D : va_G) (sz : Nat) (h0 : Nat) (a : Nat → Nat) (cm : Nat → ClassId) (i : Nat → Int32) (g : Nat → Int64) (fn : Nat → Int64) (fk : Nat → Int32) (fb : Nat → Int32) (fr : Nat → Int32) (ff : Nat → Int32) (fh : Nat → Int32) (fa : Nat → Int64) (fs : Nat → Int64) (z1 : Int32) (z2 : Int32) (hM : MInv fn fk fb ff fh fa fs) : Met l yX11_walk wp_c_walkM ({ frames := 6, cells := 0, slots := 0, locals := 160 }) (PcW D [.ref h0, .int z1, .int z2] sz [(h0, .inr (11, gM a i g)), (a 3, .inl (cm 3, 85, .inr (.inl fn))), (a 4, .inl (cm 4, 800, .inl fk)), (a 6, .inl (cm 6, 800, .inl fb)), (a 7, .inl (cm 7, 800, .inl fr)), (a 8, .inl (cm 8, 10240, .inl ff)), (a 9, .inl (cm 9, 10240, .inl fh)), (a 10, .inl (cm 10, 10240, .inr (.inl fa))), (a 11, .inl (cm 11, 10240, .inr (.inl fs)))] [(cm 3, .long), (cm 4, .int), (cm 6, .int), (cm 7, .int), (cm 8, .int), (cm 9, .int), (cm 10, .long), (cm 11, .long)]) (va_Qi (fun (r : Int32) (u : (Int32)) => True) (fun (u : (Int32)) t => va_P D vwCl [(h0, .inr (11, gM a (upd i 0 u) g)), (a 3, .inl (cm 3, 85, .inr (.inl fn))), (a 4, .inl (cm 4, 800, .inl fk)), (a 6, .inl (cm 6, 800, .inl fb)), (a 7, .inl (cm 7, 800, .inl fr)), (a 8, .inl (cm 8, 10240, .inl ff)), (a 9, .inl (cm 9, 10240, .inl fh)), (a 10, .inl (cm 10, 10240, .inr (.inl fa))), (a 11, .inl (cm 11, 10240, .inr (.inl fs)))] t.heap ∧ va_K D vwCl [(cm 3, .long), (cm 4, .int), (cm 6, .int), (cm 7, .int), (cm 8, .int), (cm 9, .int), (cm 10, .long), (cm 11, .long)] t ∧ va_D (va_A [(h0, .inr (11, gM a i g)), (a 3, .inl (cm 3, 85, .inr (.inl fn))), (a 4, .inl (cm 4, 800, .inl fk)), (a 6, .inl (cm 6, 800, .inl fb)), (a 7, .inl (cm 7, 800, .inl fr)), (a 8, .inl (cm 8, 10240, .inl ff)), (a 9, .inl (cm 9, 10240, .inl fh)), (a 10, .inl (cm 10, 10240, .inr (.inl fa))), (a 11, .inl (cm 11, 10240, .inr (.inl fs)))] sz) [(h0, .inr (11, gM a (upd i 0 u) g)), (a 3, .inl (cm 3, 85, .inr (.inl fn))), (a 4, .inl (cm 4, 800, .inl fk)), (a 6, .inl (cm 6, 800, .inl fb)), (a 7, .inl (cm 7, 800, .inl fr)), (a 8, .inl (cm 8, 10240, .inl ff)), (a 9, .inl (cm 9, 10240, .inl fh)), (a 10, .inl (cm 10, 10240, .inr (.inl fa))), (a 11, .inl (cm 11, 10240, .inr (.inl fs)))]) (va_A [(h0, .inr (11, gM a i g)), (a 3, .inl (cm 3, 85, .inr (.inl fn))), (a 4, .inl (cm 4, 800, .inl fk)), (a 6, .inl (cm 6, 800, .inl fb)), (a 7, .inl (cm 7, 800, .inl fr)), (a 8, .inl (cm 8, 10240, .inl ff)), (a 9, .inl (cm 9, 10240, .inl fh)), (a 10, .inl (cm 10, 10240, .inr (.inl fa))), (a 11, .inl (cm 11, 10240, .inr (.inl fs)))] sz)) 0 0 (va_A [(h0, .inr (11, gM a i g)), (a 3, .inl (cm 3, 85, .inr (.inl fn))), (a 4, .inl (cm 4, 800, .inl fk)), (a 6, .inl (cm 6, 800, .inl fb)), (a 7, .inl (cm 7, 800, .inl fr)), (a 8, .inl (cm 8, 10240, .inl ff)), (a 9, .inl (cm 9, 10240, .inl fh)), (a 10, .inl (cm 10, 10240, .inr (.inl fa))), (a 11, .inl (cm 11, 10240, .inr (.inl fs)))] sz) := by
  refine Met.ofW (cc := cX11_walk) (maxL := 4) (ret := (some .int)) (by decide) rfl ?_
  intro p e s m args below meth c s₁ B hml hv
  obtain ⟨rfl, hsz, hP, hK, hD0⟩ := hv
  have hx := B.exec
  have hb := B.bytes
  have hr := B.returns
  have hts := atoms_spec (ws := wp_c_walkM) B.pre
  have hin_X11 : ∀ w ∈ wsX110, w ∈ wp_c_walkM := fun _ h => (List.mem_cons_of_mem _ (List.mem_append_right _ (List.mem_append_right _ (List.mem_append_right _ (List.mem_append_right _ (List.mem_append_left _ h))))))
  have hown : s.vm.findClass RX11 = some m.cls := findClass_of_methodNamed B.named
  have hlocks := B.notSynchronized
  subst hsz
  have hD := hD0.self (sz := s.heap.size)
  generalize hAe : va_A [(h0, .inr (11, gM a i g)), (a 3, .inl (cm 3, 85, .inr (.inl fn))), (a 4, .inl (cm 4, 800, .inl fk)), (a 6, .inl (cm 6, 800, .inl fb)), (a 7, .inl (cm 7, 800, .inl fr)), (a 8, .inl (cm 8, 10240, .inl ff)), (a 9, .inl (cm 9, 10240, .inl fh)), (a 10, .inl (cm 10, 10240, .inr (.inl fa))), (a 11, .inl (cm 11, 10240, .inr (.inl fs)))] s.heap.size = A at hD ⊢
  have hA : ∀ q : Nat, s.heap.size ≤ q → A q := fun q h => by rw [← hAe]; exact Or.inr h
  have hS : va_S A s.heap s.heap [] := va_S.rf
  have hP : va_P D vwCl [(h0, .inr (11, gM a i g)), (a 3, .inl (cm 3, 85, .inr (.inl fn))), (a 4, .inl (cm 4, 800, .inl fk)), (a 6, .inl (cm 6, 800, .inl fb)), (a 7, .inl (cm 7, 800, .inl fr)), (a 8, .inl (cm 8, 10240, .inl ff)), (a 9, .inl (cm 9, 10240, .inl fh)), (a 10, .inl (cm 10, 10240, .inr (.inl fa))), (a 11, .inl (cm 11, 10240, .inr (.inl fs)))] s.heap := hP
  have hl := lv_entry ([.ref h0, .int z1, .int z2]) (n := 4) (Nat.le_of_ble_eq_true rfl)
  rw [lg_entry_eq]
  generalize (lg_sl ([.ref h0, .int z1, .int z2]) ++ List.replicate (4 - (lg_sl ([.ref h0, .int z1, .int z2])).length) Slot.unset).toArray = ls at hl ⊢
  have hl : lv_has ls 4 [(0, .ref h0), (1, .int z1), (2, .int z2)] := hl
  refine lv_aload_n hx hb dX11_walk_0 rfl (lv_at hl 0 rfl) ?_
  refine lv_iconst (v := 0) hx hb dX11_walk_1 (by decide) ?_
  refine va_put (D := D) (ci := 11) (v := .int 0) (ty := .int) (C := RX11) (T := TX11) (N := 47) hx hb hts hin_X11 tyX11 tyX11_ok nmX11 hown hK hP hD hS 0 rfl rfl 0 (by decide) (hts (.fieldLink RX11 73 "ClashFreeModel" "thrown" "I") (List.mem_of_getElem? (i := 8) rfl)) (fun _ h9 => h9) rfl (by decide +kernel) rfl rfl (Nat.le_of_ble_eq_true rfl) dX11_walk_2 (fun H locs hP hD hS => ?_)
  have hP : va_P D vwCl [(h0, .inr (11, gM a (upd i 0 0) g)), (a 3, .inl (cm 3, 85, .inr (.inl fn))), (a 4, .inl (cm 4, 800, .inl fk)), (a 6, .inl (cm 6, 800, .inl fb)), (a 7, .inl (cm 7, 800, .inl fr)), (a 8, .inl (cm 8, 10240, .inl ff)), (a 9, .inl (cm 9, 10240, .inl fh)), (a 10, .inl (cm 10, 10240, .inr (.inl fa))), (a 11, .inl (cm 11, 10240, .inr (.inl fs)))] H := hP
  have hD : va_D A [(h0, .inr (11, gM a (upd i 0 0) g)), (a 3, .inl (cm 3, 85, .inr (.inl fn))), (a 4, .inl (cm 4, 800, .inl fk)), (a 6, .inl (cm 6, 800, .inl fb)), (a 7, .inl (cm 7, 800, .inl fr)), (a 8, .inl (cm 8, 10240, .inl ff)), (a 9, .inl (cm 9, 10240, .inl fh)), (a 10, .inl (cm 10, 10240, .inr (.inl fa))), (a 11, .inl (cm 11, 10240, .inr (.inl fs)))] := hD
  refine lv_aload_n hx hb dX11_walk_5 rfl (lv_at hl 0 rfl) ?_
  refine lv_iload_n hx hb dX11_walk_6 rfl (lv_at hl 1 rfl) ?_
  have hPc := hP.sub (ws' := [(h0, .inr (11, gM a (upd i 0 0) g)), (a 3, .inl (cm 3, 85, .inr (.inl fn)))]) [0, 1] rfl
  have hKc := hK.sub (tys' := [(cm 3, .long)]) [0] rfl
  have hFc := va_free0 hS hA
  refine va_calli (va_runV (As := [.int z1]) (rest := []) ⟨hx, hb, hml, hown, hts⟩ (c_isThere l D _ h0 a cm (upd i 0 0) g fn z1) (cwV 1 hts g_c_walkM_c_isThere_222 rfl rfl rfl (by decide +kernel) ⟨(Nat.le_of_ble_eq_true rfl), (Nat.le_of_ble_eq_true rfl)⟩) (PcR_V (q0 := 0) hPc hKc rfl rfl) rfl rfl hl.1 rfl (lv_room (Nat.le_of_ble_eq_true rfl)) dX11_walk_7 ⟨(Nat.le_of_ble_eq_true rfl), (Nat.le_of_ble_eq_true rfl)⟩) hS (fun q _ h => hFc q h) hFc (fun r1 uu tt H locs htt hvm hw hB hz1 hk1 hS => ?_)
  have hP := va_keep hP hk1
  try dsimp only at hw
  clear hB hz1 hk1 hFc hPc hKc
  rcases hw with ⟨rfl, hA_r1⟩ | ⟨rfl, hA_r1⟩
  ·
    obtain ⟨k, hk, rfl, ht⟩ := hA_r1
    obtain ⟨cn, nb, K, J, hT⟩ := hM.2.2 k hk ht
    have hth := (show there fn (nI k) from ⟨k, hk, rfl, ht⟩)
    obtain ⟨h1, hcn, h4, hn1, hn2, ⟨ka, kb, hka, hkb, h6, h7⟩, hKy, hBk, hHs, ⟨bn, ns, gr, h14, hbn, h15, hs1, hs2, h16, hgr⟩⟩ := id hT
    refine lv_if_ne (tgt := 15) hx hb dX11_walk_10 (by decide) (fun hc => ?_) (fun hc => absurd hc (by decide))
    refine lv_sipush (v := 160) hx hb dX11_walk_15 (by decide) ?_
    refine lv_iload_n hx hb dX11_walk_18 rfl (lv_at hl 1 rfl) ?_
    refine lv_imul hx hb dX11_walk_19 ?_
    refine lv_topi (fun v2 ev2 => ?_)
    obtain rfl : v2 = nI (160 * k + 0) := ev2.trans (pk_mul 160 k)
    refine lv_istore_n (lv' := [(3, .int (nI (160 * k + 0))), (0, .ref h0), (1, .int (nI k)), (2, .int z2)]) hx hb dX11_walk_20 rfl hl (by decide) rfl (fun ls hl => ?_)
    refine lp_walk l D h0 a cm (upd i 0 0) g fn fk fb fr ff fh fa fs z2 k cn (hk) (h1) (hcn) hx hb hml hown hts hA (hK.sub [0, 1, 2, 3, 4, 5, 6, 7] rfl) ?_ ?_ (cn + 1) 0 (Nat.zero_le _) (by omega) _ _ _ (hP.sub [0, 1, 2, 3, 4, 5, 6, 7, 8] rfl) (hD.sub [0, 1, 2, 3, 4, 5, 6, 7, 8] (by decide) rfl) hS (lv_sub hl [0, 1, 2, 3] rfl)
    ·
      intro x_3 hx2_4 H locs ls hP hD hS hl
      refine lv_iconst (v := (-1)) hx hb dX11_walk_59 (by decide) ?_
      exact W.iret (v := (-1)) hx hb hr (fun t ht hW => ⟨⟨(-1), 0, rfl, trivial, by rw [ht]; exact hP.sub [0, 1, 2, 3, 4, 5, 6, 7, 8] rfl, va_K.moved hW.alike (hK.sub [0, 1, 2, 3, 4, 5, 6, 7] rfl), hD.sub [0, 1, 2, 3, 4, 5, 6, 7, 8] (by decide) rfl⟩, hS.F ht⟩) hS.2.2 dX11_walk_60
    ·
      intro x_5 hx2_6 hx7 H locs ls hP hD hS hl
      refine lv_aload_n hx hb dX11_walk_46 rfl (lv_at hl 1 rfl) ?_
      refine va_get (D := D) (ci := 11) (v := .ref (a 4)) (C := RX11) (T := TX11) (N := 47) hx hb hts hin_X11 hown hK hP 0 rfl rfl 4 (by decide) (hts (.fieldLink RX11 17 "ClashFreeModel" "keys" "[I") (List.mem_of_getElem? (i := 12) rfl)) (fun _ h9 => h9) rfl dX11_walk_47 ?_
      refine lv_iload_n hx hb dX11_walk_50 rfl (lv_at hl 0 rfl) ?_
      refine va_iald hx hb hK hP 2 1 rfl rfl (vp_in_nI (by omega) (by decide)) dX11_walk_51 ?_
      refine lv_topi (fun v8 ev8 => ?_)
      exact W.iret (v := v8) hx hb hr (fun t ht hW => ⟨⟨v8, 0, rfl, trivial, by rw [ht]; exact hP.sub [0, 1, 2, 3, 4, 5, 6, 7, 8] rfl, va_K.moved hW.alike (hK.sub [0, 1, 2, 3, 4, 5, 6, 7] rfl), hD.sub [0, 1, 2, 3, 4, 5, 6, 7, 8] (by decide) rfl⟩, hS.F ht⟩) hS.2.2 dX11_walk_52
  ·
    refine lv_if_ne (tgt := 15) hx hb dX11_walk_10 (by decide) (fun hc => absurd (by decide) hc) (fun hc => ?_)
    refine lv_iconst (v := (-1)) hx hb dX11_walk_13 (by decide) ?_
    exact W.iret (v := (-1)) hx hb hr (fun t ht hW => ⟨⟨(-1), 0, rfl, trivial, by rw [ht]; exact hP.sub [0, 1, 2, 3, 4, 5, 6, 7, 8] rfl, va_K.moved hW.alike (hK.sub [0, 1, 2, 3, 4, 5, 6, 7] rfl), hD.sub [0, 1, 2, 3, 4, 5, 6, 7, 8] (by decide) rfl⟩, hS.F ht⟩) hS.2.2 dX11_walk_14

def own_c_manyM : List Cond := [.methodLink RX11 152 yX11_buckets, .instanceMethod yX11_buckets, .selects RX11 yX11_buckets yX11_buckets, .initialized RX11, .fieldLink RX11 33 "ClashFreeModel" "has" "[I", .methodLink RX11 198 yX11_flag, .static yX11_flag, .fieldLink RX11 73 "ClashFreeModel" "thrown" "I", .methodLink RX11 222 yX11_isThere, .instanceMethod yX11_isThere, .selects RX11 yX11_isThere yX11_isThere]
def wp_c_manyM : List Cond := .code yX11_many cX11_many 5 (some .int) :: (own_c_manyM ++ (wp_c_buckets ++ (wp_c_flag ++ (wp_c_isThere ++ (wsX110 ++ ([] : List Cond))))))
set_option maxRecDepth 20000 in
theorem inown_c_manyM : ∀ w ∈ own_c_manyM, w ∈ lw_tbl := mem_places [1426, 1428, 46, 115, 1225, 1502, 1503, 1216, 1466, 1468, 54] (by decide +kernel)
set_option maxRecDepth 20000 in
theorem in_c_manyM : ∀ w ∈ wp_c_manyM, w ∈ lw_tbl := List.forall_mem_cons.mpr ⟨List.mem_of_getElem? (i := 1572) (by decide +kernel), List.forall_mem_append.mpr ⟨inown_c_manyM, List.forall_mem_append.mpr ⟨in_c_buckets, List.forall_mem_append.mpr ⟨in_c_flag, List.forall_mem_append.mpr ⟨in_c_isThere, List.forall_mem_append.mpr ⟨lwb_X11, fun _ h => absurd h List.not_mem_nil⟩⟩⟩⟩⟩⟩
set_option maxRecDepth 20000 in
theorem good_c_manyM : wp_c_manyM.all goodWord = true := by decide +kernel
set_option maxRecDepth 20000 in
theorem g_c_manyM_c_buckets_152 : GoodIn wp_c_manyM (wsV RX11 152 RX11 yX11_buckets wp_c_buckets) := goodIn_sub (List.forall_mem_append.mpr ⟨List.forall_mem_cons.mpr ⟨(List.mem_of_getElem? (i := 1) rfl), List.forall_mem_cons.mpr ⟨(List.mem_of_getElem? (i := 2) rfl), List.forall_mem_cons.mpr ⟨(List.mem_of_getElem? (i := 3) rfl), List.forall_mem_cons.mpr ⟨(List.mem_of_getElem? (i := 4) rfl), fun _ h => absurd h List.not_mem_nil⟩⟩⟩⟩, (fun _ h => (List.mem_cons_of_mem _ (List.mem_append_right _ (List.mem_append_left _ h))))⟩) (by decide +kernel)
set_option maxRecDepth 20000 in
theorem g_c_manyM_c_flag_198 : GoodIn wp_c_manyM (va_wsS RX11 198 yX11_flag wp_c_flag) := goodIn_sub (List.forall_mem_append.mpr ⟨List.forall_mem_cons.mpr ⟨(List.mem_of_getElem? (i := 6) rfl), List.forall_mem_cons.mpr ⟨(List.mem_of_getElem? (i := 7) rfl), List.forall_mem_cons.mpr ⟨(List.mem_of_getElem? (i := 4) rfl), fun _ h => absurd h List.not_mem_nil⟩⟩⟩, (fun _ h => (List.mem_cons_of_mem _ (List.mem_append_right _ (List.mem_append_right _ (List.mem_append_left _ h)))))⟩) (by decide +kernel)
set_option maxRecDepth 20000 in
theorem g_c_manyM_c_isThere_222 : GoodIn wp_c_manyM (wsV RX11 222 RX11 yX11_isThere wp_c_isThere) := goodIn_sub (List.forall_mem_append.mpr ⟨List.forall_mem_cons.mpr ⟨(List.mem_of_getElem? (i := 9) rfl), List.forall_mem_cons.mpr ⟨(List.mem_of_getElem? (i := 10) rfl), List.forall_mem_cons.mpr ⟨(List.mem_of_getElem? (i := 11) rfl), List.forall_mem_cons.mpr ⟨(List.mem_of_getElem? (i := 4) rfl), fun _ h => absurd h List.not_mem_nil⟩⟩⟩⟩, (fun _ h => (List.mem_cons_of_mem _ (List.mem_append_right _ (List.mem_append_right _ (List.mem_append_right _ (List.mem_append_left _ h))))))⟩) (by decide +kernel)
set_option maxHeartbeats 4000000 in
set_option maxRecDepth 100000 in
theorem lp_many (l : Launch) {p : Program} {e : Env} {s : State} {m : MethodId} {args : Array Value} {below : List Frame} {meth : Method} {c : Code} {Q : State → Prop} {A : Nat → Prop} (D : va_G) (h0 : Nat) (a : Nat → Nat) (cm : Nat → ClassId) (i : Nat → Int32) (g : Nat → Int64) (fn : Nat → Int64) (fk : Nat → Int32) (fb : Nat → Int32) (ff : Nat → Int32) (fh : Nat → Int32) (fa : Nat → Int64) (fs : Nat → Int64) (z2 : Int32) (k : Nat) (nb : Nat) (hk : k < 4) (h4 : fn (17 * k + 4) = lN nb) (hn2 : nb ≤ 2048) (hx : p.tables.exec = Jvm.exec) (hb : c.code = cX11_many) (hml : c.maxLocals = 5) (hown : s.vm.findClass RX11 = some m.cls) (hts : ∀ w ∈ wp_c_manyM, w.before args s = true) (hA : ∀ q, s.heap.size ≤ q → A q) (hK : va_K D vwCl [(cm 3, .long), (cm 4, .int), (cm 6, .int), (cm 8, .int), (cm 9, .int), (cm 10, .long), (cm 11, .long)] s) (kx68 : ∀ (j : Nat), ∀ (su : Int32), (j ≤ nb) → ∀ (H : Heap) (locs : List Loc) (ls : Array Slot), va_P D vwCl [(h0, .inr (11, gM a (upd i 0 0) g)), (a 3, .inl (cm 3, 85, .inr (.inl fn))), (a 4, .inl (cm 4, 800, .inl fk)), (a 6, .inl (cm 6, 800, .inl fb)), (a 8, .inl (cm 8, 10240, .inl ff)), (a 9, .inl (cm 9, 10240, .inl fh)), (a 10, .inl (cm 10, 10240, .inr (.inl fa))), (a 11, .inl (cm 11, 10240, .inr (.inl fs)))] H → va_D A [(h0, .inr (11, gM a (upd i 0 0) g)), (a 3, .inl (cm 3, 85, .inr (.inl fn))), (a 4, .inl (cm 4, 800, .inl fk)), (a 6, .inl (cm 6, 800, .inl fb)), (a 8, .inl (cm 8, 10240, .inl ff)), (a 9, .inl (cm 9, 10240, .inl fh)), (a 10, .inl (cm 10, 10240, .inr (.inl fa))), (a 11, .inl (cm 11, 10240, .inr (.inl fs)))] → va_S A s.heap H locs → lv_has ls 5 [(3, .int su), (0, .ref h0)] → W p l e ({ frames := 6, cells := 0, slots := 0, locals := 160 }) s m args below meth c H locs 0 0 Q (F0 m 68 ls [])) : ∀ (N : Nat), ∀ (j : Nat), ∀ (su : Int32), (j ≤ nb) → nb - j < N → ∀ (H : Heap) (locs : List Loc) (ls : Array Slot), va_P D vwCl [(h0, .inr (11, gM a (upd i 0 0) g)), (a 3, .inl (cm 3, 85, .inr (.inl fn))), (a 4, .inl (cm 4, 800, .inl fk)), (a 6, .inl (cm 6, 800, .inl fb)), (a 8, .inl (cm 8, 10240, .inl ff)), (a 9, .inl (cm 9, 10240, .inl fh)), (a 10, .inl (cm 10, 10240, .inr (.inl fa))), (a 11, .inl (cm 11, 10240, .inr (.inl fs)))] H → va_D A [(h0, .inr (11, gM a (upd i 0 0) g)), (a 3, .inl (cm 3, 85, .inr (.inl fn))), (a 4, .inl (cm 4, 800, .inl fk)), (a 6, .inl (cm 6, 800, .inl fb)), (a 8, .inl (cm 8, 10240, .inl ff)), (a 9, .inl (cm 9, 10240, .inl fh)), (a 10, .inl (cm 10, 10240, .inr (.inl fa))), (a 11, .inl (cm 11, 10240, .inr (.inl fs)))] → va_S A s.heap H locs → lv_has ls 5 [(4, .int (nI j)), (3, .int su), (0, .ref h0), (1, .int (nI k)), (2, .int z2)] → W p l e ({ frames := 6, cells := 0, slots := 0, locals := 160 }) s m args below meth c H locs 0 0 Q (F0 m 24 ls []) := by
  have hin_X11 : ∀ w ∈ wsX110, w ∈ wp_c_manyM := fun _ h => (List.mem_cons_of_mem _ (List.mem_append_right _ (List.mem_append_right _ (List.mem_append_right _ (List.mem_append_right _ (List.mem_append_left _ h))))))
  intro N
  induction N with
  | zero =>
    intro j su hj1 hm
    exact absurd hm (Nat.not_lt_zero _)
  | succ N ih =>
    intro j su hj1 hm H locs ls hP hD hS hl
    refine lv_iload hx hb dX11_many_24 (lv_at hl 0 rfl) ?_
    refine lv_aload_n hx hb dX11_many_26 rfl (lv_at hl 2 rfl) ?_
    refine lv_iload_n hx hb dX11_many_27 rfl (lv_at hl 3 rfl) ?_
    have hPc := hP.sub (ws' := [(h0, .inr (11, gM a (upd i 0 0) g)), (a 3, .inl (cm 3, 85, .inr (.inl fn)))]) [0, 1] rfl
    have hKc := hK.sub (tys' := [(cm 3, .long)]) [0] rfl
    have hFc := va_free0 hS hA
    refine va_calli (va_runV (As := [.int (nI k)]) (rest := [.int (nI j)]) ⟨hx, hb, hml, hown, hts⟩ (c_buckets l D _ h0 a cm (upd i 0 0) g fn k nb (by first | assumption | omega) h4) (cwV 1 hts g_c_manyM_c_buckets_152 rfl rfl rfl (by decide +kernel) ⟨(Nat.le_of_ble_eq_true rfl), (Nat.le_of_ble_eq_true rfl)⟩) (PcR_V (q0 := 0) hPc hKc rfl rfl) rfl rfl hl.1 rfl (lv_room (Nat.le_of_ble_eq_true rfl)) dX11_many_28 ⟨(Nat.le_of_ble_eq_true rfl), (Nat.le_of_ble_eq_true rfl)⟩) hS (fun q _ h => hFc q h) hFc (fun r1 uu tt H locs htt hvm hw hB hz1 hk1 hS => ?_)
    have hP := va_keep hP hk1
    try dsimp only at hw
    clear hB hz1 hk1 hFc hPc hKc
    obtain rfl : r1 = nI nb := hw
    refine lv_icmp_ge (tgt := 68) hx hb dX11_many_31 (by decide) (fun hc2 => ?_) (fun hc2 => ?_)
    ·
      have hge_j : nb ≤ j := (nI_leI (by omega) (by omega)).mp hc2
      exact kx68 j su (hj1) H locs ls (hP.sub [0, 1, 2, 3, 4, 5, 6, 7] rfl) (hD.sub [0, 1, 2, 3, 4, 5, 6, 7] (by decide) rfl) hS (lv_sub hl [1, 2] rfl)
    ·
      have hlt_j : j < nb := by
        rcases Nat.lt_or_ge j nb with z | z
        · exact z
        · exact absurd (nI_le z (by omega)) hc2
      refine lv_iload_n hx hb dX11_many_34 rfl (lv_at hl 1 rfl) ?_
      refine lv_aload_n hx hb dX11_many_35 rfl (lv_at hl 2 rfl) ?_
      refine va_get (D := D) (ci := 11) (v := .ref (a 9)) (C := RX11) (T := TX11) (N := 47) hx hb hts hin_X11 hown hK hP 0 rfl rfl 9 (by decide) (hts (.fieldLink RX11 33 "ClashFreeModel" "has" "[I") (List.mem_of_getElem? (i := 5) rfl)) (fun _ h9 => h9) rfl dX11_many_36 ?_
      refine lv_sipush (v := 2048) hx hb dX11_many_39 (by decide) ?_
      refine lv_iload_n hx hb dX11_many_42 rfl (lv_at hl 3 rfl) ?_
      refine lv_imul hx hb dX11_many_43 ?_
      refine lv_iload hx hb dX11_many_44 (lv_at hl 0 rfl) ?_
      refine lv_iadd hx hb dX11_many_46 ?_
      refine lv_topi (fun v3 ev3 => ?_)
      obtain rfl : v3 = nI (2048 * k + j) := ev3.trans (ix2048 k j)
      refine va_iald hx hb hK hP 5 4 rfl rfl (vp_in_nI (by omega) (by decide)) dX11_many_47 ?_
      refine lv_topi (fun v4 ev4 => ?_)
      refine lv_iload_n hx hb dX11_many_48 rfl (lv_at hl 4 rfl) ?_
      refine lv_icmp_ne (tgt := 56) hx hb dX11_many_49 (by decide) (fun hc5 => ?_) (fun hc5 => ?_)
      ·
        refine lv_iconst (v := 0) hx hb dX11_many_56 (by decide) ?_
        have hPc := hP.sub (ws' := []) [] rfl
        have hKc := hK.sub (tys' := []) [] rfl
        have hFc := va_free0 hS hA
        refine va_calli (va_runS (As := [.int 0]) (rest := [.int su]) ⟨hx, hb, hml, hown, hts⟩ (c_flag l D _ 0) (va_cwS 1 hts g_c_manyM_c_flag_198 rfl rfl rfl (by decide +kernel) ⟨(Nat.le_of_ble_eq_true rfl), (Nat.le_of_ble_eq_true rfl)⟩) (PcR_S hPc hKc) rfl rfl hl.1 rfl (lv_room (Nat.le_of_ble_eq_true rfl)) dX11_many_57 ⟨(Nat.le_of_ble_eq_true rfl), (Nat.le_of_ble_eq_true rfl)⟩) hS (fun q _ h => hFc q h) hFc (fun r6 uu tt H locs htt hvm hw hB hz1 hk1 hS => ?_)
        have hP := va_keep hP hk1
        try dsimp only at hw
        clear hB hz1 hk1 hFc hPc hKc
        obtain rfl : r6 = 0 := hw.trans (by decide)
        refine lv_iadd hx hb dX11_many_60 ?_
        refine lv_topi (fun v7 ev7 => ?_)
        refine lv_istore_n (lv' := [(3, .int v7), (4, .int (nI j)), (0, .ref h0), (1, .int (nI k)), (2, .int z2)]) hx hb dX11_many_61 rfl hl (by decide) rfl (fun ls hl => ?_)
        refine lv_iinc (v := nI (j + 1)) (lv' := [(4, .int (nI (j + 1))), (3, .int v7), (0, .ref h0), (1, .int (nI k)), (2, .int z2)]) hx hb dX11_many_62 hl (k := 1) rfl (nI_1 j) (by decide) rfl (fun ls hl => ?_)
        refine lv_goto (tgt := 24) hx hb dX11_many_65 (by decide) ?_
        exact ih (j + 1) v7 (by omega) (by omega) H locs ls (hP.sub [0, 1, 2, 3, 4, 5, 6, 7] rfl) (hD.sub [0, 1, 2, 3, 4, 5, 6, 7] (by decide) rfl) hS (lv_sub hl [0, 1, 2, 3, 4] rfl)
      ·
        refine lv_iconst (v := 1) hx hb dX11_many_52 (by decide) ?_
        refine lv_goto (tgt := 57) hx hb dX11_many_53 (by decide) ?_
        have hPc := hP.sub (ws' := []) [] rfl
        have hKc := hK.sub (tys' := []) [] rfl
        have hFc := va_free0 hS hA
        refine va_calli (va_runS (As := [.int 1]) (rest := [.int su]) ⟨hx, hb, hml, hown, hts⟩ (c_flag l D _ 1) (va_cwS 1 hts g_c_manyM_c_flag_198 rfl rfl rfl (by decide +kernel) ⟨(Nat.le_of_ble_eq_true rfl), (Nat.le_of_ble_eq_true rfl)⟩) (PcR_S hPc hKc) rfl rfl hl.1 rfl (lv_room (Nat.le_of_ble_eq_true rfl)) dX11_many_57 ⟨(Nat.le_of_ble_eq_true rfl), (Nat.le_of_ble_eq_true rfl)⟩) hS (fun q _ h => hFc q h) hFc (fun r8 uu tt H locs htt hvm hw hB hz1 hk1 hS => ?_)
        have hP := va_keep hP hk1
        try dsimp only at hw
        clear hB hz1 hk1 hFc hPc hKc
        obtain rfl : r8 = 1 := hw.trans (by decide)
        refine lv_iadd hx hb dX11_many_60 ?_
        refine lv_topi (fun v9 ev9 => ?_)
        refine lv_istore_n (lv' := [(3, .int v9), (4, .int (nI j)), (0, .ref h0), (1, .int (nI k)), (2, .int z2)]) hx hb dX11_many_61 rfl hl (by decide) rfl (fun ls hl => ?_)
        refine lv_iinc (v := nI (j + 1)) (lv' := [(4, .int (nI (j + 1))), (3, .int v9), (0, .ref h0), (1, .int (nI k)), (2, .int z2)]) hx hb dX11_many_62 hl (k := 1) rfl (nI_1 j) (by decide) rfl (fun ls hl => ?_)
        refine lv_goto (tgt := 24) hx hb dX11_many_65 (by decide) ?_
        exact ih (j + 1) v9 (by omega) (by omega) H locs ls (hP.sub [0, 1, 2, 3, 4, 5, 6, 7] rfl) (hD.sub [0, 1, 2, 3, 4, 5, 6, 7] (by decide) rfl) hS (lv_sub hl [0, 1, 2, 3, 4] rfl)
set_option maxHeartbeats 4000000 in
set_option maxRecDepth 100000 in
theorem c_manyM (l : Launch) (D : va_G) (sz : Nat) (h0 : Nat) (a : Nat → Nat) (cm : Nat → ClassId) (i : Nat → Int32) (g : Nat → Int64) (fn : Nat → Int64) (fk : Nat → Int32) (fb : Nat → Int32) (ff : Nat → Int32) (fh : Nat → Int32) (fa : Nat → Int64) (fs : Nat → Int64) (z1 : Int32) (z2 : Int32) (hM : MInv fn fk fb ff fh fa fs) : Met l yX11_many wp_c_manyM ({ frames := 6, cells := 0, slots := 0, locals := 160 }) (PcW D [.ref h0, .int z1, .int z2] sz [(h0, .inr (11, gM a i g)), (a 3, .inl (cm 3, 85, .inr (.inl fn))), (a 4, .inl (cm 4, 800, .inl fk)), (a 6, .inl (cm 6, 800, .inl fb)), (a 8, .inl (cm 8, 10240, .inl ff)), (a 9, .inl (cm 9, 10240, .inl fh)), (a 10, .inl (cm 10, 10240, .inr (.inl fa))), (a 11, .inl (cm 11, 10240, .inr (.inl fs)))] [(cm 3, .long), (cm 4, .int), (cm 6, .int), (cm 8, .int), (cm 9, .int), (cm 10, .long), (cm 11, .long)]) (va_Qi (fun (r : Int32) (u : (Int32)) => True) (fun (u : (Int32)) t => va_P D vwCl [(h0, .inr (11, gM a (upd i 0 u) g)), (a 3, .inl (cm 3, 85, .inr (.inl fn))), (a 4, .inl (cm 4, 800, .inl fk)), (a 6, .inl (cm 6, 800, .inl fb)), (a 8, .inl (cm 8, 10240, .inl ff)), (a 9, .inl (cm 9, 10240, .inl fh)), (a 10, .inl (cm 10, 10240, .inr (.inl fa))), (a 11, .inl (cm 11, 10240, .inr (.inl fs)))] t.heap ∧ va_K D vwCl [(cm 3, .long), (cm 4, .int), (cm 6, .int), (cm 8, .int), (cm 9, .int), (cm 10, .long), (cm 11, .long)] t ∧ va_D (va_A [(h0, .inr (11, gM a i g)), (a 3, .inl (cm 3, 85, .inr (.inl fn))), (a 4, .inl (cm 4, 800, .inl fk)), (a 6, .inl (cm 6, 800, .inl fb)), (a 8, .inl (cm 8, 10240, .inl ff)), (a 9, .inl (cm 9, 10240, .inl fh)), (a 10, .inl (cm 10, 10240, .inr (.inl fa))), (a 11, .inl (cm 11, 10240, .inr (.inl fs)))] sz) [(h0, .inr (11, gM a (upd i 0 u) g)), (a 3, .inl (cm 3, 85, .inr (.inl fn))), (a 4, .inl (cm 4, 800, .inl fk)), (a 6, .inl (cm 6, 800, .inl fb)), (a 8, .inl (cm 8, 10240, .inl ff)), (a 9, .inl (cm 9, 10240, .inl fh)), (a 10, .inl (cm 10, 10240, .inr (.inl fa))), (a 11, .inl (cm 11, 10240, .inr (.inl fs)))]) (va_A [(h0, .inr (11, gM a i g)), (a 3, .inl (cm 3, 85, .inr (.inl fn))), (a 4, .inl (cm 4, 800, .inl fk)), (a 6, .inl (cm 6, 800, .inl fb)), (a 8, .inl (cm 8, 10240, .inl ff)), (a 9, .inl (cm 9, 10240, .inl fh)), (a 10, .inl (cm 10, 10240, .inr (.inl fa))), (a 11, .inl (cm 11, 10240, .inr (.inl fs)))] sz)) 0 0 (va_A [(h0, .inr (11, gM a i g)), (a 3, .inl (cm 3, 85, .inr (.inl fn))), (a 4, .inl (cm 4, 800, .inl fk)), (a 6, .inl (cm 6, 800, .inl fb)), (a 8, .inl (cm 8, 10240, .inl ff)), (a 9, .inl (cm 9, 10240, .inl fh)), (a 10, .inl (cm 10, 10240, .inr (.inl fa))), (a 11, .inl (cm 11, 10240, .inr (.inl fs)))] sz) := by
  refine Met.ofW (cc := cX11_many) (maxL := 5) (ret := (some .int)) (by decide) rfl ?_
  intro p e s m args below meth c s₁ B hml hv
  obtain ⟨rfl, hsz, hP, hK, hD0⟩ := hv
  have hx := B.exec
  have hb := B.bytes
  have hr := B.returns
  have hts := atoms_spec (ws := wp_c_manyM) B.pre
  have hin_X11 : ∀ w ∈ wsX110, w ∈ wp_c_manyM := fun _ h => (List.mem_cons_of_mem _ (List.mem_append_right _ (List.mem_append_right _ (List.mem_append_right _ (List.mem_append_right _ (List.mem_append_left _ h))))))
  have hown : s.vm.findClass RX11 = some m.cls := findClass_of_methodNamed B.named
  have hlocks := B.notSynchronized
  subst hsz
  have hD := hD0.self (sz := s.heap.size)
  generalize hAe : va_A [(h0, .inr (11, gM a i g)), (a 3, .inl (cm 3, 85, .inr (.inl fn))), (a 4, .inl (cm 4, 800, .inl fk)), (a 6, .inl (cm 6, 800, .inl fb)), (a 8, .inl (cm 8, 10240, .inl ff)), (a 9, .inl (cm 9, 10240, .inl fh)), (a 10, .inl (cm 10, 10240, .inr (.inl fa))), (a 11, .inl (cm 11, 10240, .inr (.inl fs)))] s.heap.size = A at hD ⊢
  have hA : ∀ q : Nat, s.heap.size ≤ q → A q := fun q h => by rw [← hAe]; exact Or.inr h
  have hS : va_S A s.heap s.heap [] := va_S.rf
  have hP : va_P D vwCl [(h0, .inr (11, gM a i g)), (a 3, .inl (cm 3, 85, .inr (.inl fn))), (a 4, .inl (cm 4, 800, .inl fk)), (a 6, .inl (cm 6, 800, .inl fb)), (a 8, .inl (cm 8, 10240, .inl ff)), (a 9, .inl (cm 9, 10240, .inl fh)), (a 10, .inl (cm 10, 10240, .inr (.inl fa))), (a 11, .inl (cm 11, 10240, .inr (.inl fs)))] s.heap := hP
  have hl := lv_entry ([.ref h0, .int z1, .int z2]) (n := 5) (Nat.le_of_ble_eq_true rfl)
  rw [lg_entry_eq]
  generalize (lg_sl ([.ref h0, .int z1, .int z2]) ++ List.replicate (5 - (lg_sl ([.ref h0, .int z1, .int z2])).length) Slot.unset).toArray = ls at hl ⊢
  have hl : lv_has ls 5 [(0, .ref h0), (1, .int z1), (2, .int z2)] := hl
  refine lv_aload_n hx hb dX11_many_0 rfl (lv_at hl 0 rfl) ?_
  refine lv_iconst (v := 0) hx hb dX11_many_1 (by decide) ?_
  refine va_put (D := D) (ci := 11) (v := .int 0) (ty := .int) (C := RX11) (T := TX11) (N := 47) hx hb hts hin_X11 tyX11 tyX11_ok nmX11 hown hK hP hD hS 0 rfl rfl 0 (by decide) (hts (.fieldLink RX11 73 "ClashFreeModel" "thrown" "I") (List.mem_of_getElem? (i := 8) rfl)) (fun _ h9 => h9) rfl (by decide +kernel) rfl rfl (Nat.le_of_ble_eq_true rfl) dX11_many_2 (fun H locs hP hD hS => ?_)
  have hP : va_P D vwCl [(h0, .inr (11, gM a (upd i 0 0) g)), (a 3, .inl (cm 3, 85, .inr (.inl fn))), (a 4, .inl (cm 4, 800, .inl fk)), (a 6, .inl (cm 6, 800, .inl fb)), (a 8, .inl (cm 8, 10240, .inl ff)), (a 9, .inl (cm 9, 10240, .inl fh)), (a 10, .inl (cm 10, 10240, .inr (.inl fa))), (a 11, .inl (cm 11, 10240, .inr (.inl fs)))] H := hP
  have hD : va_D A [(h0, .inr (11, gM a (upd i 0 0) g)), (a 3, .inl (cm 3, 85, .inr (.inl fn))), (a 4, .inl (cm 4, 800, .inl fk)), (a 6, .inl (cm 6, 800, .inl fb)), (a 8, .inl (cm 8, 10240, .inl ff)), (a 9, .inl (cm 9, 10240, .inl fh)), (a 10, .inl (cm 10, 10240, .inr (.inl fa))), (a 11, .inl (cm 11, 10240, .inr (.inl fs)))] := hD
  refine lv_aload_n hx hb dX11_many_5 rfl (lv_at hl 0 rfl) ?_
  refine lv_iload_n hx hb dX11_many_6 rfl (lv_at hl 1 rfl) ?_
  have hPc := hP.sub (ws' := [(h0, .inr (11, gM a (upd i 0 0) g)), (a 3, .inl (cm 3, 85, .inr (.inl fn)))]) [0, 1] rfl
  have hKc := hK.sub (tys' := [(cm 3, .long)]) [0] rfl
  have hFc := va_free0 hS hA
  refine va_calli (va_runV (As := [.int z1]) (rest := []) ⟨hx, hb, hml, hown, hts⟩ (c_isThere l D _ h0 a cm (upd i 0 0) g fn z1) (cwV 1 hts g_c_manyM_c_isThere_222 rfl rfl rfl (by decide +kernel) ⟨(Nat.le_of_ble_eq_true rfl), (Nat.le_of_ble_eq_true rfl)⟩) (PcR_V (q0 := 0) hPc hKc rfl rfl) rfl rfl hl.1 rfl (lv_room (Nat.le_of_ble_eq_true rfl)) dX11_many_7 ⟨(Nat.le_of_ble_eq_true rfl), (Nat.le_of_ble_eq_true rfl)⟩) hS (fun q _ h => hFc q h) hFc (fun r1 uu tt H locs htt hvm hw hB hz1 hk1 hS => ?_)
  have hP := va_keep hP hk1
  try dsimp only at hw
  clear hB hz1 hk1 hFc hPc hKc
  rcases hw with ⟨rfl, hA_r1⟩ | ⟨rfl, hA_r1⟩
  ·
    obtain ⟨k, hk, rfl, ht⟩ := hA_r1
    obtain ⟨cn, nb, K, J, hT⟩ := hM.2.2 k hk ht
    have hth := (show there fn (nI k) from ⟨k, hk, rfl, ht⟩)
    obtain ⟨h1, hcn, h4, hn1, hn2, ⟨ka, kb, hka, hkb, h6, h7⟩, hKy, hBk, hHs, ⟨bn, ns, gr, h14, hbn, h15, hs1, hs2, h16, hgr⟩⟩ := id hT
    refine lv_if_eq (tgt := 17) hx hb dX11_many_10 (by decide) (fun hc => absurd hc (by decide)) (fun hc => ?_)
    refine lv_iload_n hx hb dX11_many_13 rfl (lv_at hl 2 rfl) ?_
    refine lv_if_ge (tgt := 19) hx hb dX11_many_14 (by decide) (fun hc2 => ?_) (fun hc2 => ?_)
    ·
      refine lv_iconst (v := 0) hx hb dX11_many_19 (by decide) ?_
      refine lv_istore_n (lv' := [(3, .int 0), (0, .ref h0), (1, .int (nI k)), (2, .int z2)]) hx hb dX11_many_20 rfl hl (by decide) rfl (fun ls hl => ?_)
      refine lv_iconst (v := 0) hx hb dX11_many_21 (by decide) ?_
      refine lv_istore (lv' := [(4, .int 0), (3, .int 0), (0, .ref h0), (1, .int (nI k)), (2, .int z2)]) hx hb dX11_many_22 hl (by decide) rfl (fun ls hl => ?_)
      refine lp_many l D h0 a cm (upd i 0 0) g fn fk fb ff fh fa fs z2 k nb (hk) (h4) (hn2) hx hb hml hown hts hA (hK.sub [0, 1, 2, 3, 4, 5, 6] rfl) ?_ (nb + 1) 0 0 (Nat.zero_le _) (by omega) _ _ _ (hP.sub [0, 1, 2, 3, 4, 5, 6, 7] rfl) (hD.sub [0, 1, 2, 3, 4, 5, 6, 7] (by decide) rfl) hS (lv_sub hl [0, 1, 2, 3, 4] rfl)
      intro j_3 su_4 hj1_5 H locs ls hP hD hS hl
      refine lv_iload_n hx hb dX11_many_68 rfl (lv_at hl 0 rfl) ?_
      exact W.iret (v := su_4) hx hb hr (fun t ht hW => ⟨⟨su_4, 0, rfl, trivial, by rw [ht]; exact hP.sub [0, 1, 2, 3, 4, 5, 6, 7] rfl, va_K.moved hW.alike (hK.sub [0, 1, 2, 3, 4, 5, 6] rfl), hD.sub [0, 1, 2, 3, 4, 5, 6, 7] (by decide) rfl⟩, hS.F ht⟩) hS.2.2 dX11_many_69
    ·
      refine lv_iconst (v := (-1)) hx hb dX11_many_17 (by decide) ?_
      exact W.iret (v := (-1)) hx hb hr (fun t ht hW => ⟨⟨(-1), 0, rfl, trivial, by rw [ht]; exact hP.sub [0, 1, 2, 3, 4, 5, 6, 7] rfl, va_K.moved hW.alike (hK.sub [0, 1, 2, 3, 4, 5, 6] rfl), hD.sub [0, 1, 2, 3, 4, 5, 6, 7] (by decide) rfl⟩, hS.F ht⟩) hS.2.2 dX11_many_18
  ·
    refine lv_if_eq (tgt := 17) hx hb dX11_many_10 (by decide) (fun hc => ?_) (fun hc => absurd (by decide) hc)
    refine lv_iconst (v := (-1)) hx hb dX11_many_17 (by decide) ?_
    exact W.iret (v := (-1)) hx hb hr (fun t ht hW => ⟨⟨(-1), 0, rfl, trivial, by rw [ht]; exact hP.sub [0, 1, 2, 3, 4, 5, 6, 7] rfl, va_K.moved hW.alike (hK.sub [0, 1, 2, 3, 4, 5, 6] rfl), hD.sub [0, 1, 2, 3, 4, 5, 6, 7] (by decide) rfl⟩, hS.F ht⟩) hS.2.2 dX11_many_18

def own_c_crowdM : List Cond := [.methodLink RX11 152 yX11_buckets, .instanceMethod yX11_buckets, .selects RX11 yX11_buckets yX11_buckets, .initialized RX11, .fieldLink RX11 33 "ClashFreeModel" "has" "[I", .fieldLink RX11 73 "ClashFreeModel" "thrown" "I", .methodLink RX11 222 yX11_isThere, .instanceMethod yX11_isThere, .selects RX11 yX11_isThere yX11_isThere, .constantLong RX11 87 (3), .methodLink RX11 83 yX11_isIn, .static yX11_isIn]
def wp_c_crowdM : List Cond := .code yX11_crowd cX11_crowd 8 (some .int) :: (own_c_crowdM ++ (wp_c_buckets ++ (wp_c_isThere ++ (wp_c_isIn ++ (wsX110 ++ ([] : List Cond))))))
set_option maxRecDepth 20000 in
theorem inown_c_crowdM : ∀ w ∈ own_c_crowdM, w ∈ lw_tbl := mem_places [1426, 1428, 46, 115, 1225, 1216, 1466, 1468, 54, 1378, 1371, 1372] (by decide +kernel)
set_option maxRecDepth 20000 in
theorem in_c_crowdM : ∀ w ∈ wp_c_crowdM, w ∈ lw_tbl := List.forall_mem_cons.mpr ⟨List.mem_of_getElem? (i := 1576) (by decide +kernel), List.forall_mem_append.mpr ⟨inown_c_crowdM, List.forall_mem_append.mpr ⟨in_c_buckets, List.forall_mem_append.mpr ⟨in_c_isThere, List.forall_mem_append.mpr ⟨in_c_isIn, List.forall_mem_append.mpr ⟨lwb_X11, fun _ h => absurd h List.not_mem_nil⟩⟩⟩⟩⟩⟩
set_option maxRecDepth 20000 in
theorem good_c_crowdM : wp_c_crowdM.all goodWord = true := by decide +kernel
set_option maxRecDepth 20000 in
theorem g_c_crowdM_c_buckets_152 : GoodIn wp_c_crowdM (wsV RX11 152 RX11 yX11_buckets wp_c_buckets) := goodIn_sub (List.forall_mem_append.mpr ⟨List.forall_mem_cons.mpr ⟨(List.mem_of_getElem? (i := 1) rfl), List.forall_mem_cons.mpr ⟨(List.mem_of_getElem? (i := 2) rfl), List.forall_mem_cons.mpr ⟨(List.mem_of_getElem? (i := 3) rfl), List.forall_mem_cons.mpr ⟨(List.mem_of_getElem? (i := 4) rfl), fun _ h => absurd h List.not_mem_nil⟩⟩⟩⟩, (fun _ h => (List.mem_cons_of_mem _ (List.mem_append_right _ (List.mem_append_left _ h))))⟩) (by decide +kernel)
set_option maxRecDepth 20000 in
theorem g_c_crowdM_c_isThere_222 : GoodIn wp_c_crowdM (wsV RX11 222 RX11 yX11_isThere wp_c_isThere) := goodIn_sub (List.forall_mem_append.mpr ⟨List.forall_mem_cons.mpr ⟨(List.mem_of_getElem? (i := 7) rfl), List.forall_mem_cons.mpr ⟨(List.mem_of_getElem? (i := 8) rfl), List.forall_mem_cons.mpr ⟨(List.mem_of_getElem? (i := 9) rfl), List.forall_mem_cons.mpr ⟨(List.mem_of_getElem? (i := 4) rfl), fun _ h => absurd h List.not_mem_nil⟩⟩⟩⟩, (fun _ h => (List.mem_cons_of_mem _ (List.mem_append_right _ (List.mem_append_right _ (List.mem_append_left _ h)))))⟩) (by decide +kernel)
set_option maxRecDepth 20000 in
theorem g_c_crowdM_c_isIn_83 : GoodIn wp_c_crowdM (va_wsS RX11 83 yX11_isIn wp_c_isIn) := goodIn_sub (List.forall_mem_append.mpr ⟨List.forall_mem_cons.mpr ⟨(List.mem_of_getElem? (i := 11) rfl), List.forall_mem_cons.mpr ⟨(List.mem_of_getElem? (i := 12) rfl), List.forall_mem_cons.mpr ⟨(List.mem_of_getElem? (i := 4) rfl), fun _ h => absurd h List.not_mem_nil⟩⟩⟩, (fun _ h => (List.mem_cons_of_mem _ (List.mem_append_right _ (List.mem_append_right _ (List.mem_append_right _ (List.mem_append_left _ h))))))⟩) (by decide +kernel)
set_option maxHeartbeats 4000000 in
set_option maxRecDepth 100000 in
theorem lp_crowd (l : Launch) {p : Program} {e : Env} {s : State} {m : MethodId} {args : Array Value} {below : List Frame} {meth : Method} {c : Code} {Q : State → Prop} {A : Nat → Prop} (D : va_G) (h0 : Nat) (a : Nat → Nat) (cm : Nat → ClassId) (i : Nat → Int32) (g : Nat → Int64) (fn : Nat → Int64) (fk : Nat → Int32) (fb : Nat → Int32) (ff : Nat → Int32) (fh : Nat → Int32) (fa : Nat → Int64) (fs : Nat → Int64) (z2 : Int32) (k : Nat) (nb : Nat) (hk : k < 4) (h4 : fn (17 * k + 4) = lN nb) (hn2 : nb ≤ 2048) (hx : p.tables.exec = Jvm.exec) (hb : c.code = cX11_crowd) (hml : c.maxLocals = 8) (hown : s.vm.findClass RX11 = some m.cls) (hts : ∀ w ∈ wp_c_crowdM, w.before args s = true) (hA : ∀ q, s.heap.size ≤ q → A q) (hK : va_K D vwCl [(cm 3, .long), (cm 4, .int), (cm 6, .int), (cm 8, .int), (cm 9, .int), (cm 10, .long), (cm 11, .long)] s) (kx120 : ∀ (j : Nat), ∀ (tw : Int32), ∀ (sh : Int32), ∀ (bb : Nat), (j ≤ nb) → (bb < 2048) → ∀ (H : Heap) (locs : List Loc) (ls : Array Slot), va_P D vwCl [(h0, .inr (11, gM a (upd i 0 0) g)), (a 3, .inl (cm 3, 85, .inr (.inl fn))), (a 4, .inl (cm 4, 800, .inl fk)), (a 6, .inl (cm 6, 800, .inl fb)), (a 8, .inl (cm 8, 10240, .inl ff)), (a 9, .inl (cm 9, 10240, .inl fh)), (a 10, .inl (cm 10, 10240, .inr (.inl fa))), (a 11, .inl (cm 11, 10240, .inr (.inl fs)))] H → va_D A [(h0, .inr (11, gM a (upd i 0 0) g)), (a 3, .inl (cm 3, 85, .inr (.inl fn))), (a 4, .inl (cm 4, 800, .inl fk)), (a 6, .inl (cm 6, 800, .inl fb)), (a 8, .inl (cm 8, 10240, .inl ff)), (a 9, .inl (cm 9, 10240, .inl fh)), (a 10, .inl (cm 10, 10240, .inr (.inl fa))), (a 11, .inl (cm 11, 10240, .inr (.inl fs)))] → va_S A s.heap H locs → lv_has ls 8 [(5, .int tw), (4, .int sh), (3, .int (nI bb)), (0, .ref h0), (1, .int (nI k)), (2, .int z2)] → W p l e ({ frames := 6, cells := 0, slots := 0, locals := 160 }) s m args below meth c H locs 0 0 Q (F0 m 120 ls [])) : ∀ (N : Nat), ∀ (j : Nat), ∀ (tw : Int32), ∀ (sh : Int32), ∀ (bb : Nat), (j ≤ nb) → (bb < 2048) → nb - j < N → ∀ (H : Heap) (locs : List Loc) (ls : Array Slot), va_P D vwCl [(h0, .inr (11, gM a (upd i 0 0) g)), (a 3, .inl (cm 3, 85, .inr (.inl fn))), (a 4, .inl (cm 4, 800, .inl fk)), (a 6, .inl (cm 6, 800, .inl fb)), (a 8, .inl (cm 8, 10240, .inl ff)), (a 9, .inl (cm 9, 10240, .inl fh)), (a 10, .inl (cm 10, 10240, .inr (.inl fa))), (a 11, .inl (cm 11, 10240, .inr (.inl fs)))] H → va_D A [(h0, .inr (11, gM a (upd i 0 0) g)), (a 3, .inl (cm 3, 85, .inr (.inl fn))), (a 4, .inl (cm 4, 800, .inl fk)), (a 6, .inl (cm 6, 800, .inl fb)), (a 8, .inl (cm 8, 10240, .inl ff)), (a 9, .inl (cm 9, 10240, .inl fh)), (a 10, .inl (cm 10, 10240, .inr (.inl fa))), (a 11, .inl (cm 11, 10240, .inr (.inl fs)))] → va_S A s.heap H locs → lv_has ls 8 [(6, .int (nI j)), (5, .int tw), (4, .int sh), (3, .int (nI bb)), (0, .ref h0), (1, .int (nI k)), (2, .int z2)] → W p l e ({ frames := 6, cells := 0, slots := 0, locals := 160 }) s m args below meth c H locs 0 0 Q (F0 m 38 ls []) := by
  have hin_X11 : ∀ w ∈ wsX110, w ∈ wp_c_crowdM := fun _ h => (List.mem_cons_of_mem _ (List.mem_append_right _ (List.mem_append_right _ (List.mem_append_right _ (List.mem_append_right _ (List.mem_append_left _ h))))))
  intro N
  induction N with
  | zero =>
    intro j tw sh bb hj1 hbb hm
    exact absurd hm (Nat.not_lt_zero _)
  | succ N ih =>
    intro j tw sh bb hj1 hbb hm H locs ls hP hD hS hl
    refine lv_iload hx hb dX11_crowd_38 (lv_at hl 0 rfl) ?_
    refine lv_aload_n hx hb dX11_crowd_40 rfl (lv_at hl 4 rfl) ?_
    refine lv_iload_n hx hb dX11_crowd_41 rfl (lv_at hl 5 rfl) ?_
    have hPc := hP.sub (ws' := [(h0, .inr (11, gM a (upd i 0 0) g)), (a 3, .inl (cm 3, 85, .inr (.inl fn)))]) [0, 1] rfl
    have hKc := hK.sub (tys' := [(cm 3, .long)]) [0] rfl
    have hFc := va_free0 hS hA
    refine va_calli (va_runV (As := [.int (nI k)]) (rest := [.int (nI j)]) ⟨hx, hb, hml, hown, hts⟩ (c_buckets l D _ h0 a cm (upd i 0 0) g fn k nb (by first | assumption | omega) h4) (cwV 1 hts g_c_crowdM_c_buckets_152 rfl rfl rfl (by decide +kernel) ⟨(Nat.le_of_ble_eq_true rfl), (Nat.le_of_ble_eq_true rfl)⟩) (PcR_V (q0 := 0) hPc hKc rfl rfl) rfl rfl hl.1 rfl (lv_room (Nat.le_of_ble_eq_true rfl)) dX11_crowd_42 ⟨(Nat.le_of_ble_eq_true rfl), (Nat.le_of_ble_eq_true rfl)⟩) hS (fun q _ h => hFc q h) hFc (fun r1 uu tt H locs htt hvm hw hB hz1 hk1 hS => ?_)
    have hP := va_keep hP hk1
    try dsimp only at hw
    clear hB hz1 hk1 hFc hPc hKc
    obtain rfl : r1 = nI nb := hw
    refine lv_icmp_ge (tgt := 120) hx hb dX11_crowd_45 (by decide) (fun hc2 => ?_) (fun hc2 => ?_)
    ·
      have hge_j : nb ≤ j := (nI_leI (by omega) (by omega)).mp hc2
      exact kx120 j tw sh bb (hj1) (hbb) H locs ls (hP.sub [0, 1, 2, 3, 4, 5, 6, 7] rfl) (hD.sub [0, 1, 2, 3, 4, 5, 6, 7] (by decide) rfl) hS (lv_sub hl [1, 2, 3, 4, 5, 6] rfl)
    ·
      have hlt_j : j < nb := by
        rcases Nat.lt_or_ge j nb with z | z
        · exact z
        · exact absurd (nI_le z (by omega)) hc2
      refine lv_aload_n hx hb dX11_crowd_48 rfl (lv_at hl 4 rfl) ?_
      refine va_get (D := D) (ci := 11) (v := .ref (a 9)) (C := RX11) (T := TX11) (N := 47) hx hb hts hin_X11 hown hK hP 0 rfl rfl 9 (by decide) (hts (.fieldLink RX11 33 "ClashFreeModel" "has" "[I") (List.mem_of_getElem? (i := 5) rfl)) (fun _ h9 => h9) rfl dX11_crowd_49 ?_
      refine lv_sipush (v := 2048) hx hb dX11_crowd_52 (by decide) ?_
      refine lv_iload_n hx hb dX11_crowd_55 rfl (lv_at hl 5 rfl) ?_
      refine lv_imul hx hb dX11_crowd_56 ?_
      refine lv_iload hx hb dX11_crowd_57 (lv_at hl 0 rfl) ?_
      refine lv_iadd hx hb dX11_crowd_59 ?_
      refine lv_topi (fun v3 ev3 => ?_)
      obtain rfl : v3 = nI (2048 * k + j) := ev3.trans (ix2048 k j)
      refine va_iald hx hb hK hP 5 4 rfl rfl (vp_in_nI (by omega) (by decide)) dX11_crowd_60 ?_
      refine lv_topi (fun v4 ev4 => ?_)
      refine lv_istore (lv' := [(7, .int v4), (6, .int (nI j)), (5, .int tw), (4, .int sh), (3, .int (nI bb)), (0, .ref h0), (1, .int (nI k)), (2, .int z2)]) hx hb dX11_crowd_61 hl (by decide) rfl (fun ls hl => ?_)
      refine lv_iload hx hb dX11_crowd_63 (lv_at hl 0 rfl) ?_
      refine lv_aload_n hx hb dX11_crowd_65 rfl (lv_at hl 5 rfl) ?_
      refine va_get (D := D) (ci := 11) (v := .ref (a 9)) (C := RX11) (T := TX11) (N := 47) hx hb hts hin_X11 hown hK hP 0 rfl rfl 9 (by decide) (hts (.fieldLink RX11 33 "ClashFreeModel" "has" "[I") (List.mem_of_getElem? (i := 5) rfl)) (fun _ h9 => h9) rfl dX11_crowd_66 ?_
      refine lv_sipush (v := 2048) hx hb dX11_crowd_69 (by decide) ?_
      refine lv_iload_n hx hb dX11_crowd_72 rfl (lv_at hl 6 rfl) ?_
      refine lv_imul hx hb dX11_crowd_73 ?_
      refine lv_iload_n hx hb dX11_crowd_74 rfl (lv_at hl 4 rfl) ?_
      refine lv_iadd hx hb dX11_crowd_75 ?_
      refine lv_topi (fun v5 ev5 => ?_)
      obtain rfl : v5 = nI (2048 * k + bb) := ev5.trans (ix2048 k bb)
      refine va_iald hx hb hK hP 5 4 rfl rfl (vp_in_nI (by omega) (by decide)) dX11_crowd_76 ?_
      refine lv_topi (fun v6 ev6 => ?_)
      refine lv_icmp_le (tgt := 83) hx hb dX11_crowd_77 (by decide) (fun hc7 => ?_) (fun hc7 => ?_)
      ·
        refine lv_iload hx hb dX11_crowd_83 (lv_at hl 3 rfl) ?_
        refine lv_iload hx hb dX11_crowd_85 (lv_at hl 0 rfl) ?_
        refine lv_iconst (v := 1) hx hb dX11_crowd_87 (by decide) ?_
        refine lv_icmp_le (tgt := 96) hx hb dX11_crowd_88 (by decide) (fun hc8 => ?_) (fun hc8 => ?_)
        ·
          refine lv_iconst (v := 0) hx hb dX11_crowd_96 (by decide) ?_
          refine lv_iadd hx hb dX11_crowd_97 ?_
          refine lv_topi (fun v9 ev9 => ?_)
          refine lv_istore (lv' := [(4, .int v9), (7, .int v4), (6, .int (nI j)), (5, .int tw), (3, .int (nI bb)), (0, .ref h0), (1, .int (nI k)), (2, .int z2)]) hx hb dX11_crowd_98 hl (by decide) rfl (fun ls hl => ?_)
          refine lv_iload hx hb dX11_crowd_100 (lv_at hl 3 rfl) ?_
          refine lv_iload hx hb dX11_crowd_102 (lv_at hl 1 rfl) ?_
          refine lv_iload hx hb dX11_crowd_104 (lv_at hl 1 rfl) ?_
          refine lv_iconst (v := 1) hx hb dX11_crowd_106 (by decide) ?_
          refine lv_isub hx hb dX11_crowd_107 ?_
          refine lv_topi (fun v10 ev10 => ?_)
          refine lv_imul hx hb dX11_crowd_108 ?_
          refine lv_topi (fun v11 ev11 => ?_)
          refine lv_iconst (v := 2) hx hb dX11_crowd_109 (by decide) ?_
          refine lv_idiv hx hb dX11_crowd_110 (by decide) ?_
          refine lv_topi (fun v12 ev12 => ?_)
          refine lv_iadd hx hb dX11_crowd_111 ?_
          refine lv_topi (fun v13 ev13 => ?_)
          refine lv_istore (lv' := [(5, .int v13), (4, .int v9), (7, .int v4), (6, .int (nI j)), (3, .int (nI bb)), (0, .ref h0), (1, .int (nI k)), (2, .int z2)]) hx hb dX11_crowd_112 hl (by decide) rfl (fun ls hl => ?_)
          refine lv_iinc (v := nI (j + 1)) (lv' := [(6, .int (nI (j + 1))), (5, .int v13), (4, .int v9), (7, .int v4), (3, .int (nI bb)), (0, .ref h0), (1, .int (nI k)), (2, .int z2)]) hx hb dX11_crowd_114 hl (k := 3) rfl (nI_1 j) (by decide) rfl (fun ls hl => ?_)
          refine lv_goto (tgt := 38) hx hb dX11_crowd_117 (by decide) ?_
          exact ih (j + 1) v13 v9 bb (by omega) (by omega) (by omega) H locs ls (hP.sub [0, 1, 2, 3, 4, 5, 6, 7] rfl) (hD.sub [0, 1, 2, 3, 4, 5, 6, 7] (by decide) rfl) hS (lv_sub hl [0, 1, 2, 4, 5, 6, 7] rfl)
        ·
          refine lv_iload hx hb dX11_crowd_91 (lv_at hl 0 rfl) ?_
          refine lv_goto (tgt := 97) hx hb dX11_crowd_93 (by decide) ?_
          refine lv_iadd hx hb dX11_crowd_97 ?_
          refine lv_topi (fun v14 ev14 => ?_)
          refine lv_istore (lv' := [(4, .int v14), (7, .int v4), (6, .int (nI j)), (5, .int tw), (3, .int (nI bb)), (0, .ref h0), (1, .int (nI k)), (2, .int z2)]) hx hb dX11_crowd_98 hl (by decide) rfl (fun ls hl => ?_)
          refine lv_iload hx hb dX11_crowd_100 (lv_at hl 3 rfl) ?_
          refine lv_iload hx hb dX11_crowd_102 (lv_at hl 1 rfl) ?_
          refine lv_iload hx hb dX11_crowd_104 (lv_at hl 1 rfl) ?_
          refine lv_iconst (v := 1) hx hb dX11_crowd_106 (by decide) ?_
          refine lv_isub hx hb dX11_crowd_107 ?_
          refine lv_topi (fun v15 ev15 => ?_)
          refine lv_imul hx hb dX11_crowd_108 ?_
          refine lv_topi (fun v16 ev16 => ?_)
          refine lv_iconst (v := 2) hx hb dX11_crowd_109 (by decide) ?_
          refine lv_idiv hx hb dX11_crowd_110 (by decide) ?_
          refine lv_topi (fun v17 ev17 => ?_)
          refine lv_iadd hx hb dX11_crowd_111 ?_
          refine lv_topi (fun v18 ev18 => ?_)
          refine lv_istore (lv' := [(5, .int v18), (4, .int v14), (7, .int v4), (6, .int (nI j)), (3, .int (nI bb)), (0, .ref h0), (1, .int (nI k)), (2, .int z2)]) hx hb dX11_crowd_112 hl (by decide) rfl (fun ls hl => ?_)
          refine lv_iinc (v := nI (j + 1)) (lv' := [(6, .int (nI (j + 1))), (5, .int v18), (4, .int v14), (7, .int v4), (3, .int (nI bb)), (0, .ref h0), (1, .int (nI k)), (2, .int z2)]) hx hb dX11_crowd_114 hl (k := 3) rfl (nI_1 j) (by decide) rfl (fun ls hl => ?_)
          refine lv_goto (tgt := 38) hx hb dX11_crowd_117 (by decide) ?_
          exact ih (j + 1) v18 v14 bb (by omega) (by omega) (by omega) H locs ls (hP.sub [0, 1, 2, 3, 4, 5, 6, 7] rfl) (hD.sub [0, 1, 2, 3, 4, 5, 6, 7] (by decide) rfl) hS (lv_sub hl [0, 1, 2, 4, 5, 6, 7] rfl)
      ·
        refine lv_iload hx hb dX11_crowd_80 (lv_at hl 1 rfl) ?_
        refine lv_istore_n (lv' := [(3, .int (nI j)), (7, .int v4), (6, .int (nI j)), (5, .int tw), (4, .int sh), (0, .ref h0), (1, .int (nI k)), (2, .int z2)]) hx hb dX11_crowd_82 rfl hl (by decide) rfl (fun ls hl => ?_)
        refine lv_iload hx hb dX11_crowd_83 (lv_at hl 4 rfl) ?_
        refine lv_iload hx hb dX11_crowd_85 (lv_at hl 1 rfl) ?_
        refine lv_iconst (v := 1) hx hb dX11_crowd_87 (by decide) ?_
        refine lv_icmp_le (tgt := 96) hx hb dX11_crowd_88 (by decide) (fun hc19 => ?_) (fun hc19 => ?_)
        ·
          refine lv_iconst (v := 0) hx hb dX11_crowd_96 (by decide) ?_
          refine lv_iadd hx hb dX11_crowd_97 ?_
          refine lv_topi (fun v20 ev20 => ?_)
          refine lv_istore (lv' := [(4, .int v20), (3, .int (nI j)), (7, .int v4), (6, .int (nI j)), (5, .int tw), (0, .ref h0), (1, .int (nI k)), (2, .int z2)]) hx hb dX11_crowd_98 hl (by decide) rfl (fun ls hl => ?_)
          refine lv_iload hx hb dX11_crowd_100 (lv_at hl 4 rfl) ?_
          refine lv_iload hx hb dX11_crowd_102 (lv_at hl 2 rfl) ?_
          refine lv_iload hx hb dX11_crowd_104 (lv_at hl 2 rfl) ?_
          refine lv_iconst (v := 1) hx hb dX11_crowd_106 (by decide) ?_
          refine lv_isub hx hb dX11_crowd_107 ?_
          refine lv_topi (fun v21 ev21 => ?_)
          refine lv_imul hx hb dX11_crowd_108 ?_
          refine lv_topi (fun v22 ev22 => ?_)
          refine lv_iconst (v := 2) hx hb dX11_crowd_109 (by decide) ?_
          refine lv_idiv hx hb dX11_crowd_110 (by decide) ?_
          refine lv_topi (fun v23 ev23 => ?_)
          refine lv_iadd hx hb dX11_crowd_111 ?_
          refine lv_topi (fun v24 ev24 => ?_)
          refine lv_istore (lv' := [(5, .int v24), (4, .int v20), (3, .int (nI j)), (7, .int v4), (6, .int (nI j)), (0, .ref h0), (1, .int (nI k)), (2, .int z2)]) hx hb dX11_crowd_112 hl (by decide) rfl (fun ls hl => ?_)
          refine lv_iinc (v := nI (j + 1)) (lv' := [(6, .int (nI (j + 1))), (5, .int v24), (4, .int v20), (3, .int (nI j)), (7, .int v4), (0, .ref h0), (1, .int (nI k)), (2, .int z2)]) hx hb dX11_crowd_114 hl (k := 4) rfl (nI_1 j) (by decide) rfl (fun ls hl => ?_)
          refine lv_goto (tgt := 38) hx hb dX11_crowd_117 (by decide) ?_
          exact ih (j + 1) v24 v20 j (by omega) (by omega) (by omega) H locs ls (hP.sub [0, 1, 2, 3, 4, 5, 6, 7] rfl) (hD.sub [0, 1, 2, 3, 4, 5, 6, 7] (by decide) rfl) hS (lv_sub hl [0, 1, 2, 3, 5, 6, 7] rfl)
        ·
          refine lv_iload hx hb dX11_crowd_91 (lv_at hl 1 rfl) ?_
          refine lv_goto (tgt := 97) hx hb dX11_crowd_93 (by decide) ?_
          refine lv_iadd hx hb dX11_crowd_97 ?_
          refine lv_topi (fun v25 ev25 => ?_)
          refine lv_istore (lv' := [(4, .int v25), (3, .int (nI j)), (7, .int v4), (6, .int (nI j)), (5, .int tw), (0, .ref h0), (1, .int (nI k)), (2, .int z2)]) hx hb dX11_crowd_98 hl (by decide) rfl (fun ls hl => ?_)
          refine lv_iload hx hb dX11_crowd_100 (lv_at hl 4 rfl) ?_
          refine lv_iload hx hb dX11_crowd_102 (lv_at hl 2 rfl) ?_
          refine lv_iload hx hb dX11_crowd_104 (lv_at hl 2 rfl) ?_
          refine lv_iconst (v := 1) hx hb dX11_crowd_106 (by decide) ?_
          refine lv_isub hx hb dX11_crowd_107 ?_
          refine lv_topi (fun v26 ev26 => ?_)
          refine lv_imul hx hb dX11_crowd_108 ?_
          refine lv_topi (fun v27 ev27 => ?_)
          refine lv_iconst (v := 2) hx hb dX11_crowd_109 (by decide) ?_
          refine lv_idiv hx hb dX11_crowd_110 (by decide) ?_
          refine lv_topi (fun v28 ev28 => ?_)
          refine lv_iadd hx hb dX11_crowd_111 ?_
          refine lv_topi (fun v29 ev29 => ?_)
          refine lv_istore (lv' := [(5, .int v29), (4, .int v25), (3, .int (nI j)), (7, .int v4), (6, .int (nI j)), (0, .ref h0), (1, .int (nI k)), (2, .int z2)]) hx hb dX11_crowd_112 hl (by decide) rfl (fun ls hl => ?_)
          refine lv_iinc (v := nI (j + 1)) (lv' := [(6, .int (nI (j + 1))), (5, .int v29), (4, .int v25), (3, .int (nI j)), (7, .int v4), (0, .ref h0), (1, .int (nI k)), (2, .int z2)]) hx hb dX11_crowd_114 hl (k := 4) rfl (nI_1 j) (by decide) rfl (fun ls hl => ?_)
          refine lv_goto (tgt := 38) hx hb dX11_crowd_117 (by decide) ?_
          exact ih (j + 1) v29 v25 j (by omega) (by omega) (by omega) H locs ls (hP.sub [0, 1, 2, 3, 4, 5, 6, 7] rfl) (hD.sub [0, 1, 2, 3, 4, 5, 6, 7] (by decide) rfl) hS (lv_sub hl [0, 1, 2, 3, 5, 6, 7] rfl)
set_option maxHeartbeats 4000000 in
set_option maxRecDepth 100000 in
theorem c_crowdM (l : Launch) (D : va_G) (sz : Nat) (h0 : Nat) (a : Nat → Nat) (cm : Nat → ClassId) (i : Nat → Int32) (g : Nat → Int64) (fn : Nat → Int64) (fk : Nat → Int32) (fb : Nat → Int32) (ff : Nat → Int32) (fh : Nat → Int32) (fa : Nat → Int64) (fs : Nat → Int64) (z1 : Int32) (z2 : Int32) (hM : MInv fn fk fb ff fh fa fs) : Met l yX11_crowd wp_c_crowdM ({ frames := 6, cells := 0, slots := 0, locals := 160 }) (PcW D [.ref h0, .int z1, .int z2] sz [(h0, .inr (11, gM a i g)), (a 3, .inl (cm 3, 85, .inr (.inl fn))), (a 4, .inl (cm 4, 800, .inl fk)), (a 6, .inl (cm 6, 800, .inl fb)), (a 8, .inl (cm 8, 10240, .inl ff)), (a 9, .inl (cm 9, 10240, .inl fh)), (a 10, .inl (cm 10, 10240, .inr (.inl fa))), (a 11, .inl (cm 11, 10240, .inr (.inl fs)))] [(cm 3, .long), (cm 4, .int), (cm 6, .int), (cm 8, .int), (cm 9, .int), (cm 10, .long), (cm 11, .long)]) (va_Qi (fun (r : Int32) (u : (Int32)) => True) (fun (u : (Int32)) t => va_P D vwCl [(h0, .inr (11, gM a (upd i 0 u) g)), (a 3, .inl (cm 3, 85, .inr (.inl fn))), (a 4, .inl (cm 4, 800, .inl fk)), (a 6, .inl (cm 6, 800, .inl fb)), (a 8, .inl (cm 8, 10240, .inl ff)), (a 9, .inl (cm 9, 10240, .inl fh)), (a 10, .inl (cm 10, 10240, .inr (.inl fa))), (a 11, .inl (cm 11, 10240, .inr (.inl fs)))] t.heap ∧ va_K D vwCl [(cm 3, .long), (cm 4, .int), (cm 6, .int), (cm 8, .int), (cm 9, .int), (cm 10, .long), (cm 11, .long)] t ∧ va_D (va_A [(h0, .inr (11, gM a i g)), (a 3, .inl (cm 3, 85, .inr (.inl fn))), (a 4, .inl (cm 4, 800, .inl fk)), (a 6, .inl (cm 6, 800, .inl fb)), (a 8, .inl (cm 8, 10240, .inl ff)), (a 9, .inl (cm 9, 10240, .inl fh)), (a 10, .inl (cm 10, 10240, .inr (.inl fa))), (a 11, .inl (cm 11, 10240, .inr (.inl fs)))] sz) [(h0, .inr (11, gM a (upd i 0 u) g)), (a 3, .inl (cm 3, 85, .inr (.inl fn))), (a 4, .inl (cm 4, 800, .inl fk)), (a 6, .inl (cm 6, 800, .inl fb)), (a 8, .inl (cm 8, 10240, .inl ff)), (a 9, .inl (cm 9, 10240, .inl fh)), (a 10, .inl (cm 10, 10240, .inr (.inl fa))), (a 11, .inl (cm 11, 10240, .inr (.inl fs)))]) (va_A [(h0, .inr (11, gM a i g)), (a 3, .inl (cm 3, 85, .inr (.inl fn))), (a 4, .inl (cm 4, 800, .inl fk)), (a 6, .inl (cm 6, 800, .inl fb)), (a 8, .inl (cm 8, 10240, .inl ff)), (a 9, .inl (cm 9, 10240, .inl fh)), (a 10, .inl (cm 10, 10240, .inr (.inl fa))), (a 11, .inl (cm 11, 10240, .inr (.inl fs)))] sz)) 0 0 (va_A [(h0, .inr (11, gM a i g)), (a 3, .inl (cm 3, 85, .inr (.inl fn))), (a 4, .inl (cm 4, 800, .inl fk)), (a 6, .inl (cm 6, 800, .inl fb)), (a 8, .inl (cm 8, 10240, .inl ff)), (a 9, .inl (cm 9, 10240, .inl fh)), (a 10, .inl (cm 10, 10240, .inr (.inl fa))), (a 11, .inl (cm 11, 10240, .inr (.inl fs)))] sz) := by
  refine Met.ofW (cc := cX11_crowd) (maxL := 8) (ret := (some .int)) (by decide) rfl ?_
  intro p e s m args below meth c s₁ B hml hv
  obtain ⟨rfl, hsz, hP, hK, hD0⟩ := hv
  have hx := B.exec
  have hb := B.bytes
  have hr := B.returns
  have hts := atoms_spec (ws := wp_c_crowdM) B.pre
  have hin_X11 : ∀ w ∈ wsX110, w ∈ wp_c_crowdM := fun _ h => (List.mem_cons_of_mem _ (List.mem_append_right _ (List.mem_append_right _ (List.mem_append_right _ (List.mem_append_right _ (List.mem_append_left _ h))))))
  have hown : s.vm.findClass RX11 = some m.cls := findClass_of_methodNamed B.named
  have hlocks := B.notSynchronized
  subst hsz
  have hD := hD0.self (sz := s.heap.size)
  generalize hAe : va_A [(h0, .inr (11, gM a i g)), (a 3, .inl (cm 3, 85, .inr (.inl fn))), (a 4, .inl (cm 4, 800, .inl fk)), (a 6, .inl (cm 6, 800, .inl fb)), (a 8, .inl (cm 8, 10240, .inl ff)), (a 9, .inl (cm 9, 10240, .inl fh)), (a 10, .inl (cm 10, 10240, .inr (.inl fa))), (a 11, .inl (cm 11, 10240, .inr (.inl fs)))] s.heap.size = A at hD ⊢
  have hA : ∀ q : Nat, s.heap.size ≤ q → A q := fun q h => by rw [← hAe]; exact Or.inr h
  have hS : va_S A s.heap s.heap [] := va_S.rf
  have hP : va_P D vwCl [(h0, .inr (11, gM a i g)), (a 3, .inl (cm 3, 85, .inr (.inl fn))), (a 4, .inl (cm 4, 800, .inl fk)), (a 6, .inl (cm 6, 800, .inl fb)), (a 8, .inl (cm 8, 10240, .inl ff)), (a 9, .inl (cm 9, 10240, .inl fh)), (a 10, .inl (cm 10, 10240, .inr (.inl fa))), (a 11, .inl (cm 11, 10240, .inr (.inl fs)))] s.heap := hP
  have hl := lv_entry ([.ref h0, .int z1, .int z2]) (n := 8) (Nat.le_of_ble_eq_true rfl)
  rw [lg_entry_eq]
  generalize (lg_sl ([.ref h0, .int z1, .int z2]) ++ List.replicate (8 - (lg_sl ([.ref h0, .int z1, .int z2])).length) Slot.unset).toArray = ls at hl ⊢
  have hl : lv_has ls 8 [(0, .ref h0), (1, .int z1), (2, .int z2)] := hl
  refine lv_aload_n hx hb dX11_crowd_0 rfl (lv_at hl 0 rfl) ?_
  refine lv_iconst (v := 0) hx hb dX11_crowd_1 (by decide) ?_
  refine va_put (D := D) (ci := 11) (v := .int 0) (ty := .int) (C := RX11) (T := TX11) (N := 47) hx hb hts hin_X11 tyX11 tyX11_ok nmX11 hown hK hP hD hS 0 rfl rfl 0 (by decide) (hts (.fieldLink RX11 73 "ClashFreeModel" "thrown" "I") (List.mem_of_getElem? (i := 6) rfl)) (fun _ h9 => h9) rfl (by decide +kernel) rfl rfl (Nat.le_of_ble_eq_true rfl) dX11_crowd_2 (fun H locs hP hD hS => ?_)
  have hP : va_P D vwCl [(h0, .inr (11, gM a (upd i 0 0) g)), (a 3, .inl (cm 3, 85, .inr (.inl fn))), (a 4, .inl (cm 4, 800, .inl fk)), (a 6, .inl (cm 6, 800, .inl fb)), (a 8, .inl (cm 8, 10240, .inl ff)), (a 9, .inl (cm 9, 10240, .inl fh)), (a 10, .inl (cm 10, 10240, .inr (.inl fa))), (a 11, .inl (cm 11, 10240, .inr (.inl fs)))] H := hP
  have hD : va_D A [(h0, .inr (11, gM a (upd i 0 0) g)), (a 3, .inl (cm 3, 85, .inr (.inl fn))), (a 4, .inl (cm 4, 800, .inl fk)), (a 6, .inl (cm 6, 800, .inl fb)), (a 8, .inl (cm 8, 10240, .inl ff)), (a 9, .inl (cm 9, 10240, .inl fh)), (a 10, .inl (cm 10, 10240, .inr (.inl fa))), (a 11, .inl (cm 11, 10240, .inr (.inl fs)))] := hD
  refine lv_aload_n hx hb dX11_crowd_5 rfl (lv_at hl 0 rfl) ?_
  refine lv_iload_n hx hb dX11_crowd_6 rfl (lv_at hl 1 rfl) ?_
  have hPc := hP.sub (ws' := [(h0, .inr (11, gM a (upd i 0 0) g)), (a 3, .inl (cm 3, 85, .inr (.inl fn)))]) [0, 1] rfl
  have hKc := hK.sub (tys' := [(cm 3, .long)]) [0] rfl
  have hFc := va_free0 hS hA
  refine va_calli (va_runV (As := [.int z1]) (rest := []) ⟨hx, hb, hml, hown, hts⟩ (c_isThere l D _ h0 a cm (upd i 0 0) g fn z1) (cwV 1 hts g_c_crowdM_c_isThere_222 rfl rfl rfl (by decide +kernel) ⟨(Nat.le_of_ble_eq_true rfl), (Nat.le_of_ble_eq_true rfl)⟩) (PcR_V (q0 := 0) hPc hKc rfl rfl) rfl rfl hl.1 rfl (lv_room (Nat.le_of_ble_eq_true rfl)) dX11_crowd_7 ⟨(Nat.le_of_ble_eq_true rfl), (Nat.le_of_ble_eq_true rfl)⟩) hS (fun q _ h => hFc q h) hFc (fun r1 uu tt H locs htt hvm hw hB hz1 hk1 hS => ?_)
  have hP := va_keep hP hk1
  try dsimp only at hw
  clear hB hz1 hk1 hFc hPc hKc
  rcases hw with ⟨rfl, hA_r1⟩ | ⟨rfl, hA_r1⟩
  ·
    obtain ⟨k, hk, rfl, ht⟩ := hA_r1
    obtain ⟨cn, nb, K, J, hT⟩ := hM.2.2 k hk ht
    have hth := (show there fn (nI k) from ⟨k, hk, rfl, ht⟩)
    obtain ⟨h1, hcn, h4, hn1, hn2, ⟨ka, kb, hka, hkb, h6, h7⟩, hKy, hBk, hHs, ⟨bn, ns, gr, h14, hbn, h15, hs1, hs2, h16, hgr⟩⟩ := id hT
    refine lv_if_eq (tgt := 25) hx hb dX11_crowd_10 (by decide) (fun hc => absurd hc (by decide)) (fun hc => ?_)
    refine lv_iload_n hx hb dX11_crowd_13 rfl (lv_at hl 2 rfl) ?_
    refine lv_i2l hx hb dX11_crowd_14 rfl ?_
    refine lv_lconst (v := 0) hx hb dX11_crowd_15 (by decide) ?_
    refine lv_ldc2 (v := 3) hx hb hown (hts (.constantLong RX11 87 (3)) (List.mem_of_getElem? (i := 10) rfl)) dX11_crowd_16 ?_
    have hPc := hP.sub (ws' := []) [] rfl
    have hKc := hK.sub (tys' := []) [] rfl
    have hFc := va_free0 hS hA
    refine va_calli (va_runS (As := [.long (Int32.toInt64 z2), .long 0, .long 3]) (rest := []) ⟨hx, hb, hml, hown, hts⟩ (c_isIn l D _ (Int32.toInt64 z2) 0 3) (va_cwS 3 hts g_c_crowdM_c_isIn_83 rfl rfl rfl (by decide +kernel) ⟨(Nat.le_of_ble_eq_true rfl), (Nat.le_of_ble_eq_true rfl)⟩) (PcR_S hPc hKc) rfl rfl hl.1 rfl (lv_room (Nat.le_of_ble_eq_true rfl)) dX11_crowd_19 ⟨(Nat.le_of_ble_eq_true rfl), (Nat.le_of_ble_eq_true rfl)⟩) hS (fun q _ h => hFc q h) hFc (fun r2 uu tt H locs htt hvm hw hB hz1 hk1 hS => ?_)
    have hP := va_keep hP hk1
    try dsimp only at hw
    clear hB hz1 hk1 hFc hPc hKc
    rcases hw with ⟨rfl, hA_r2⟩ | ⟨rfl, hA_r2⟩
    ·
      refine lv_if_ne (tgt := 27) hx hb dX11_crowd_22 (by decide) (fun hc => ?_) (fun hc => absurd hc (by decide))
      refine lv_iconst (v := 0) hx hb dX11_crowd_27 (by decide) ?_
      refine lv_istore_n (lv' := [(3, .int 0), (0, .ref h0), (1, .int (nI k)), (2, .int z2)]) hx hb dX11_crowd_28 rfl hl (by decide) rfl (fun ls hl => ?_)
      refine lv_iconst (v := 0) hx hb dX11_crowd_29 (by decide) ?_
      refine lv_istore (lv' := [(4, .int 0), (3, .int 0), (0, .ref h0), (1, .int (nI k)), (2, .int z2)]) hx hb dX11_crowd_30 hl (by decide) rfl (fun ls hl => ?_)
      refine lv_iconst (v := 0) hx hb dX11_crowd_32 (by decide) ?_
      refine lv_istore (lv' := [(5, .int 0), (4, .int 0), (3, .int 0), (0, .ref h0), (1, .int (nI k)), (2, .int z2)]) hx hb dX11_crowd_33 hl (by decide) rfl (fun ls hl => ?_)
      refine lv_iconst (v := 0) hx hb dX11_crowd_35 (by decide) ?_
      refine lv_istore (lv' := [(6, .int 0), (5, .int 0), (4, .int 0), (3, .int 0), (0, .ref h0), (1, .int (nI k)), (2, .int z2)]) hx hb dX11_crowd_36 hl (by decide) rfl (fun ls hl => ?_)
      refine lp_crowd l D h0 a cm (upd i 0 0) g fn fk fb ff fh fa fs z2 k nb (hk) (h4) (hn2) hx hb hml hown hts hA (hK.sub [0, 1, 2, 3, 4, 5, 6] rfl) ?_ (nb + 1) 0 0 0 0 (Nat.zero_le _) (by omega) (by omega) _ _ _ (hP.sub [0, 1, 2, 3, 4, 5, 6, 7] rfl) (hD.sub [0, 1, 2, 3, 4, 5, 6, 7] (by decide) rfl) hS (lv_sub hl [0, 1, 2, 3, 4, 5, 6] rfl)
      intro j_3 tw_4 sh_5 bb_6 hj1_7 hbb_8 H locs ls hP hD hS hl
      refine lv_iload_n hx hb dX11_crowd_120 rfl (lv_at hl 5 rfl) ?_
      refine lv_if_ne (tgt := 128) hx hb dX11_crowd_121 (by decide) (fun hc9 => ?_) (fun hc9 => ?_)
      ·
        refine lv_iload_n hx hb dX11_crowd_128 rfl (lv_at hl 5 rfl) ?_
        refine lv_iconst (v := 1) hx hb dX11_crowd_129 (by decide) ?_
        refine lv_icmp_ne (tgt := 148) hx hb dX11_crowd_130 (by decide) (fun hc10 => ?_) (fun hc10 => ?_)
        ·
          refine lv_iload_n hx hb dX11_crowd_148 rfl (lv_at hl 5 rfl) ?_
          refine lv_iconst (v := 2) hx hb dX11_crowd_149 (by decide) ?_
          refine lv_icmp_ne (tgt := 158) hx hb dX11_crowd_150 (by decide) (fun hc11 => ?_) (fun hc11 => ?_)
          ·
            refine lv_iload hx hb dX11_crowd_158 (lv_at hl 0 rfl) ?_
            exact W.iret (v := tw_4) hx hb hr (fun t ht hW => ⟨⟨tw_4, 0, rfl, trivial, by rw [ht]; exact hP.sub [0, 1, 2, 3, 4, 5, 6, 7] rfl, va_K.moved hW.alike (hK.sub [0, 1, 2, 3, 4, 5, 6] rfl), hD.sub [0, 1, 2, 3, 4, 5, 6, 7] (by decide) rfl⟩, hS.F ht⟩) hS.2.2 dX11_crowd_160
          ·
            refine lv_iload hx hb dX11_crowd_153 (lv_at hl 1 rfl) ?_
            refine lv_goto (tgt := 160) hx hb dX11_crowd_155 (by decide) ?_
            exact W.iret (v := sh_5) hx hb hr (fun t ht hW => ⟨⟨sh_5, 0, rfl, trivial, by rw [ht]; exact hP.sub [0, 1, 2, 3, 4, 5, 6, 7] rfl, va_K.moved hW.alike (hK.sub [0, 1, 2, 3, 4, 5, 6] rfl), hD.sub [0, 1, 2, 3, 4, 5, 6, 7] (by decide) rfl⟩, hS.F ht⟩) hS.2.2 dX11_crowd_160
        ·
          refine lv_aload_n hx hb dX11_crowd_133 rfl (lv_at hl 3 rfl) ?_
          refine va_get (D := D) (ci := 11) (v := .ref (a 9)) (C := RX11) (T := TX11) (N := 47) hx hb hts hin_X11 hown hK hP 0 rfl rfl 9 (by decide) (hts (.fieldLink RX11 33 "ClashFreeModel" "has" "[I") (List.mem_of_getElem? (i := 5) rfl)) (fun _ h9 => h9) rfl dX11_crowd_134 ?_
          refine lv_sipush (v := 2048) hx hb dX11_crowd_137 (by decide) ?_
          refine lv_iload_n hx hb dX11_crowd_140 rfl (lv_at hl 4 rfl) ?_
          refine lv_imul hx hb dX11_crowd_141 ?_
          refine lv_iload_n hx hb dX11_crowd_142 rfl (lv_at hl 2 rfl) ?_
          refine lv_iadd hx hb dX11_crowd_143 ?_
          refine lv_topi (fun v12 ev12 => ?_)
          obtain rfl : v12 = nI (2048 * k + bb_6) := ev12.trans (ix2048 k _)
          refine va_iald hx hb hK hP 5 4 rfl rfl (vp_in_nI (by omega) (by decide)) dX11_crowd_144 ?_
          refine lv_topi (fun v13 ev13 => ?_)
          refine lv_goto (tgt := 160) hx hb dX11_crowd_145 (by decide) ?_
          exact W.iret (v := v13) hx hb hr (fun t ht hW => ⟨⟨v13, 0, rfl, trivial, by rw [ht]; exact hP.sub [0, 1, 2, 3, 4, 5, 6, 7] rfl, va_K.moved hW.alike (hK.sub [0, 1, 2, 3, 4, 5, 6] rfl), hD.sub [0, 1, 2, 3, 4, 5, 6, 7] (by decide) rfl⟩, hS.F ht⟩) hS.2.2 dX11_crowd_160
      ·
        refine lv_iload_n hx hb dX11_crowd_124 rfl (lv_at hl 2 rfl) ?_
        refine lv_goto (tgt := 160) hx hb dX11_crowd_125 (by decide) ?_
        exact W.iret (v := nI bb_6) hx hb hr (fun t ht hW => ⟨⟨nI bb_6, 0, rfl, trivial, by rw [ht]; exact hP.sub [0, 1, 2, 3, 4, 5, 6, 7] rfl, va_K.moved hW.alike (hK.sub [0, 1, 2, 3, 4, 5, 6] rfl), hD.sub [0, 1, 2, 3, 4, 5, 6, 7] (by decide) rfl⟩, hS.F ht⟩) hS.2.2 dX11_crowd_160
    ·
      refine lv_if_ne (tgt := 27) hx hb dX11_crowd_22 (by decide) (fun hc => absurd (by decide) hc) (fun hc => ?_)
      refine lv_iconst (v := (-1)) hx hb dX11_crowd_25 (by decide) ?_
      exact W.iret (v := (-1)) hx hb hr (fun t ht hW => ⟨⟨(-1), 0, rfl, trivial, by rw [ht]; exact hP.sub [0, 1, 2, 3, 4, 5, 6, 7] rfl, va_K.moved hW.alike (hK.sub [0, 1, 2, 3, 4, 5, 6] rfl), hD.sub [0, 1, 2, 3, 4, 5, 6, 7] (by decide) rfl⟩, hS.F ht⟩) hS.2.2 dX11_crowd_26
  ·
    refine lv_if_eq (tgt := 25) hx hb dX11_crowd_10 (by decide) (fun hc => ?_) (fun hc => absurd (by decide) hc)
    refine lv_iconst (v := (-1)) hx hb dX11_crowd_25 (by decide) ?_
    exact W.iret (v := (-1)) hx hb hr (fun t ht hW => ⟨⟨(-1), 0, rfl, trivial, by rw [ht]; exact hP.sub [0, 1, 2, 3, 4, 5, 6, 7] rfl, va_K.moved hW.alike (hK.sub [0, 1, 2, 3, 4, 5, 6] rfl), hD.sub [0, 1, 2, 3, 4, 5, 6, 7] (by decide) rfl⟩, hS.F ht⟩) hS.2.2 dX11_crowd_26

