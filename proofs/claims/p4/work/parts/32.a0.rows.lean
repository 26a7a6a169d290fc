theorem dX11_room_0 : decode cX11_room 0 = .ok (.aload_n 0, 1) := by decide +kernel
theorem dX11_room_1 : decode cX11_room 1 = .ok (.iconst 0, 1) := by decide +kernel
theorem dX11_room_2 : decode cX11_room 2 = .ok (.putfield 73, 3) := by decide +kernel
theorem dX11_room_5 : decode cX11_room 5 = .ok (.aload_n 0, 1) := by decide +kernel
theorem dX11_room_6 : decode cX11_room 6 = .ok (.iload_n 1, 1) := by decide +kernel
theorem dX11_room_7 : decode cX11_room 7 = .ok (.iload_n 2, 1) := by decide +kernel
theorem dX11_room_8 : decode cX11_room 8 = .ok (.invokevirtual 246, 3) := by decide +kernel
theorem dX11_room_11 : decode cX11_room 11 = .ok (.ifCond .eq 21, 3) := by decide +kernel
theorem dX11_room_14 : decode cX11_room 14 = .ok (.iload_n 3, 1) := by decide +kernel
theorem dX11_room_15 : decode cX11_room 15 = .ok (.i2l, 1) := by decide +kernel
theorem dX11_room_16 : decode cX11_room 16 = .ok (.lconst 0, 1) := by decide +kernel
theorem dX11_room_17 : decode cX11_room 17 = .ok (.aload_n 0, 1) := by decide +kernel
theorem dX11_room_18 : decode cX11_room 18 = .ok (.iload_n 1, 1) := by decide +kernel
theorem dX11_room_19 : decode cX11_room 19 = .ok (.iload_n 2, 1) := by decide +kernel
theorem dX11_room_20 : decode cX11_room 20 = .ok (.invokevirtual 137, 3) := by decide +kernel
theorem dX11_room_23 : decode cX11_room 23 = .ok (.iconst 1, 1) := by decide +kernel
theorem dX11_room_24 : decode cX11_room 24 = .ok (.isub, 1) := by decide +kernel
theorem dX11_room_25 : decode cX11_room 25 = .ok (.i2l, 1) := by decide +kernel
theorem dX11_room_26 : decode cX11_room 26 = .ok (.invokestatic 83, 3) := by decide +kernel
theorem dX11_room_29 : decode cX11_room 29 = .ok (.ifCond .ne 6, 3) := by decide +kernel
theorem dX11_room_32 : decode cX11_room 32 = .ok (.bipush (-2), 2) := by decide +kernel
theorem dX11_room_34 : decode cX11_room 34 = .ok (.ireturn, 1) := by decide +kernel
theorem dX11_room_35 : decode cX11_room 35 = .ok (.sipush 160, 3) := by decide +kernel
theorem dX11_room_38 : decode cX11_room 38 = .ok (.iload_n 1, 1) := by decide +kernel
theorem dX11_room_39 : decode cX11_room 39 = .ok (.imul, 1) := by decide +kernel
theorem dX11_room_40 : decode cX11_room 40 = .ok (.istore 4, 2) := by decide +kernel
theorem dX11_room_42 : decode cX11_room 42 = .ok (.iload 4, 2) := by decide +kernel
theorem dX11_room_44 : decode cX11_room 44 = .ok (.sipush 160, 3) := by decide +kernel
theorem dX11_room_47 : decode cX11_room 47 = .ok (.iload_n 1, 1) := by decide +kernel
theorem dX11_room_48 : decode cX11_room 48 = .ok (.imul, 1) := by decide +kernel
theorem dX11_room_49 : decode cX11_room 49 = .ok (.aload_n 0, 1) := by decide +kernel
theorem dX11_room_50 : decode cX11_room 50 = .ok (.iload_n 1, 1) := by decide +kernel
theorem dX11_room_51 : decode cX11_room 51 = .ok (.invokevirtual 95, 3) := by decide +kernel
theorem dX11_room_54 : decode cX11_room 54 = .ok (.iadd, 1) := by decide +kernel
theorem dX11_room_55 : decode cX11_room 55 = .ok (.if_icmp .ge 39, 3) := by decide +kernel
theorem dX11_room_58 : decode cX11_room 58 = .ok (.aload_n 0, 1) := by decide +kernel
theorem dX11_room_59 : decode cX11_room 59 = .ok (.getfield 24, 3) := by decide +kernel
theorem dX11_room_62 : decode cX11_room 62 = .ok (.iload 4, 2) := by decide +kernel
theorem dX11_room_64 : decode cX11_room 64 = .ok (.iaload, 1) := by decide +kernel
theorem dX11_room_65 : decode cX11_room 65 = .ok (.iload_n 2, 1) := by decide +kernel
theorem dX11_room_66 : decode cX11_room 66 = .ok (.if_icmp .ne 22, 3) := by decide +kernel
theorem dX11_room_69 : decode cX11_room 69 = .ok (.aload_n 0, 1) := by decide +kernel
theorem dX11_room_70 : decode cX11_room 70 = .ok (.getfield 27, 3) := by decide +kernel
theorem dX11_room_73 : decode cX11_room 73 = .ok (.iload 4, 2) := by decide +kernel
theorem dX11_room_75 : decode cX11_room 75 = .ok (.iaload, 1) := by decide +kernel
theorem dX11_room_76 : decode cX11_room 76 = .ok (.iload_n 3, 1) := by decide +kernel
theorem dX11_room_77 : decode cX11_room 77 = .ok (.if_icmp .ne 11, 3) := by decide +kernel
theorem dX11_room_80 : decode cX11_room 80 = .ok (.aload_n 0, 1) := by decide +kernel
theorem dX11_room_81 : decode cX11_room 81 = .ok (.getfield 17, 3) := by decide +kernel
theorem dX11_room_84 : decode cX11_room 84 = .ok (.iload 4, 2) := by decide +kernel
theorem dX11_room_86 : decode cX11_room 86 = .ok (.iaload, 1) := by decide +kernel
theorem dX11_room_87 : decode cX11_room 87 = .ok (.ireturn, 1) := by decide +kernel
theorem dX11_room_88 : decode cX11_room 88 = .ok (.iinc 4 1, 3) := by decide +kernel
theorem dX11_room_91 : decode cX11_room 91 = .ok (.goto (-49), 3) := by decide +kernel
theorem dX11_room_94 : decode cX11_room 94 = .ok (.iconst (-1), 1) := by decide +kernel
theorem dX11_room_95 : decode cX11_room 95 = .ok (.ireturn, 1) := by decide +kernel
theorem dX11_aheadOf_0 : decode cX11_aheadOf 0 = .ok (.iconst 0, 1) := by decide +kernel
theorem dX11_aheadOf_1 : decode cX11_aheadOf 1 = .ok (.istore_n 3, 1) := by decide +kernel
theorem dX11_aheadOf_2 : decode cX11_aheadOf 2 = .ok (.sipush 160, 3) := by decide +kernel
theorem dX11_aheadOf_5 : decode cX11_aheadOf 5 = .ok (.iload_n 1, 1) := by decide +kernel
theorem dX11_aheadOf_6 : decode cX11_aheadOf 6 = .ok (.imul, 1) := by decide +kernel
theorem dX11_aheadOf_7 : decode cX11_aheadOf 7 = .ok (.istore 4, 2) := by decide +kernel
theorem dX11_aheadOf_9 : decode cX11_aheadOf 9 = .ok (.iload 4, 2) := by decide +kernel
theorem dX11_aheadOf_11 : decode cX11_aheadOf 11 = .ok (.sipush 160, 3) := by decide +kernel
theorem dX11_aheadOf_14 : decode cX11_aheadOf 14 = .ok (.iload_n 1, 1) := by decide +kernel
theorem dX11_aheadOf_15 : decode cX11_aheadOf 15 = .ok (.imul, 1) := by decide +kernel
theorem dX11_aheadOf_16 : decode cX11_aheadOf 16 = .ok (.aload_n 0, 1) := by decide +kernel
theorem dX11_aheadOf_17 : decode cX11_aheadOf 17 = .ok (.iload_n 1, 1) := by decide +kernel
theorem dX11_aheadOf_18 : decode cX11_aheadOf 18 = .ok (.invokevirtual 95, 3) := by decide +kernel
theorem dX11_aheadOf_21 : decode cX11_aheadOf 21 = .ok (.iadd, 1) := by decide +kernel
theorem dX11_aheadOf_22 : decode cX11_aheadOf 22 = .ok (.if_icmp .ge 68, 3) := by decide +kernel
theorem dX11_aheadOf_25 : decode cX11_aheadOf 25 = .ok (.iload_n 3, 1) := by decide +kernel
theorem dX11_aheadOf_26 : decode cX11_aheadOf 26 = .ok (.aload_n 0, 1) := by decide +kernel
theorem dX11_aheadOf_27 : decode cX11_aheadOf 27 = .ok (.getfield 24, 3) := by decide +kernel
theorem dX11_aheadOf_30 : decode cX11_aheadOf 30 = .ok (.iload 4, 2) := by decide +kernel
theorem dX11_aheadOf_32 : decode cX11_aheadOf 32 = .ok (.iaload, 1) := by decide +kernel
theorem dX11_aheadOf_33 : decode cX11_aheadOf 33 = .ok (.aload_n 0, 1) := by decide +kernel
theorem dX11_aheadOf_34 : decode cX11_aheadOf 34 = .ok (.getfield 24, 3) := by decide +kernel
theorem dX11_aheadOf_37 : decode cX11_aheadOf 37 = .ok (.iload_n 2, 1) := by decide +kernel
theorem dX11_aheadOf_38 : decode cX11_aheadOf 38 = .ok (.iaload, 1) := by decide +kernel
theorem dX11_aheadOf_39 : decode cX11_aheadOf 39 = .ok (.if_icmp .lt 35, 3) := by decide +kernel
theorem dX11_aheadOf_42 : decode cX11_aheadOf 42 = .ok (.aload_n 0, 1) := by decide +kernel
theorem dX11_aheadOf_43 : decode cX11_aheadOf 43 = .ok (.getfield 24, 3) := by decide +kernel
theorem dX11_aheadOf_46 : decode cX11_aheadOf 46 = .ok (.iload 4, 2) := by decide +kernel
theorem dX11_aheadOf_48 : decode cX11_aheadOf 48 = .ok (.iaload, 1) := by decide +kernel
theorem dX11_aheadOf_49 : decode cX11_aheadOf 49 = .ok (.aload_n 0, 1) := by decide +kernel
theorem dX11_aheadOf_50 : decode cX11_aheadOf 50 = .ok (.getfield 24, 3) := by decide +kernel
theorem dX11_aheadOf_53 : decode cX11_aheadOf 53 = .ok (.iload_n 2, 1) := by decide +kernel
theorem dX11_aheadOf_54 : decode cX11_aheadOf 54 = .ok (.iaload, 1) := by decide +kernel
theorem dX11_aheadOf_55 : decode cX11_aheadOf 55 = .ok (.if_icmp .ne 23, 3) := by decide +kernel
theorem dX11_aheadOf_58 : decode cX11_aheadOf 58 = .ok (.aload_n 0, 1) := by decide +kernel
theorem dX11_aheadOf_59 : decode cX11_aheadOf 59 = .ok (.getfield 27, 3) := by decide +kernel
theorem dX11_aheadOf_62 : decode cX11_aheadOf 62 = .ok (.iload 4, 2) := by decide +kernel
theorem dX11_aheadOf_64 : decode cX11_aheadOf 64 = .ok (.iaload, 1) := by decide +kernel
theorem dX11_aheadOf_65 : decode cX11_aheadOf 65 = .ok (.aload_n 0, 1) := by decide +kernel
theorem dX11_aheadOf_66 : decode cX11_aheadOf 66 = .ok (.getfield 27, 3) := by decide +kernel
theorem dX11_aheadOf_69 : decode cX11_aheadOf 69 = .ok (.iload_n 2, 1) := by decide +kernel
theorem dX11_aheadOf_70 : decode cX11_aheadOf 70 = .ok (.iaload, 1) := by decide +kernel
theorem dX11_aheadOf_71 : decode cX11_aheadOf 71 = .ok (.if_icmp .ge 7, 3) := by decide +kernel
theorem dX11_aheadOf_74 : decode cX11_aheadOf 74 = .ok (.iconst 1, 1) := by decide +kernel
theorem dX11_aheadOf_75 : decode cX11_aheadOf 75 = .ok (.goto 4, 3) := by decide +kernel
theorem dX11_aheadOf_78 : decode cX11_aheadOf 78 = .ok (.iconst 0, 1) := by decide +kernel
theorem dX11_aheadOf_79 : decode cX11_aheadOf 79 = .ok (.invokestatic 198, 3) := by decide +kernel
theorem dX11_aheadOf_82 : decode cX11_aheadOf 82 = .ok (.iadd, 1) := by decide +kernel
theorem dX11_aheadOf_83 : decode cX11_aheadOf 83 = .ok (.istore_n 3, 1) := by decide +kernel
theorem dX11_aheadOf_84 : decode cX11_aheadOf 84 = .ok (.iinc 4 1, 3) := by decide +kernel
theorem dX11_aheadOf_87 : decode cX11_aheadOf 87 = .ok (.goto (-78), 3) := by decide +kernel
theorem dX11_aheadOf_90 : decode cX11_aheadOf 90 = .ok (.iload_n 3, 1) := by decide +kernel
theorem dX11_aheadOf_91 : decode cX11_aheadOf 91 = .ok (.ireturn, 1) := by decide +kernel
theorem dX11_walk_0 : decode cX11_walk 0 = .ok (.aload_n 0, 1) := by decide +kernel
theorem dX11_walk_1 : decode cX11_walk 1 = .ok (.iconst 0, 1) := by decide +kernel
theorem dX11_walk_2 : decode cX11_walk 2 = .ok (.putfield 73, 3) := by decide +kernel
theorem dX11_walk_5 : decode cX11_walk 5 = .ok (.aload_n 0, 1) := by decide +kernel
theorem dX11_walk_6 : decode cX11_walk 6 = .ok (.iload_n 1, 1) := by decide +kernel
theorem dX11_walk_7 : decode cX11_walk 7 = .ok (.invokevirtual 222, 3) := by decide +kernel
theorem dX11_walk_10 : decode cX11_walk 10 = .ok (.ifCond .ne 5, 3) := by decide +kernel
theorem dX11_walk_13 : decode cX11_walk 13 = .ok (.iconst (-1), 1) := by decide +kernel
theorem dX11_walk_14 : decode cX11_walk 14 = .ok (.ireturn, 1) := by decide +kernel
theorem dX11_walk_15 : decode cX11_walk 15 = .ok (.sipush 160, 3) := by decide +kernel
theorem dX11_walk_18 : decode cX11_walk 18 = .ok (.iload_n 1, 1) := by decide +kernel
theorem dX11_walk_19 : decode cX11_walk 19 = .ok (.imul, 1) := by decide +kernel
theorem dX11_walk_20 : decode cX11_walk 20 = .ok (.istore_n 3, 1) := by decide +kernel
theorem dX11_walk_21 : decode cX11_walk 21 = .ok (.iload_n 3, 1) := by decide +kernel
theorem dX11_walk_22 : decode cX11_walk 22 = .ok (.sipush 160, 3) := by decide +kernel
theorem dX11_walk_25 : decode cX11_walk 25 = .ok (.iload_n 1, 1) := by decide +kernel
theorem dX11_walk_26 : decode cX11_walk 26 = .ok (.imul, 1) := by decide +kernel
theorem dX11_walk_27 : decode cX11_walk 27 = .ok (.aload_n 0, 1) := by decide +kernel
theorem dX11_walk_28 : decode cX11_walk 28 = .ok (.iload_n 1, 1) := by decide +kernel
theorem dX11_walk_29 : decode cX11_walk 29 = .ok (.invokevirtual 95, 3) := by decide +kernel
theorem dX11_walk_32 : decode cX11_walk 32 = .ok (.iadd, 1) := by decide +kernel
theorem dX11_walk_33 : decode cX11_walk 33 = .ok (.if_icmp .ge 26, 3) := by decide +kernel
theorem dX11_walk_36 : decode cX11_walk 36 = .ok (.aload_n 0, 1) := by decide +kernel
theorem dX11_walk_37 : decode cX11_walk 37 = .ok (.iload_n 1, 1) := by decide +kernel
theorem dX11_walk_38 : decode cX11_walk 38 = .ok (.iload_n 3, 1) := by decide +kernel
theorem dX11_walk_39 : decode cX11_walk 39 = .ok (.invokevirtual 249, 3) := by decide +kernel
theorem dX11_walk_42 : decode cX11_walk 42 = .ok (.iload_n 2, 1) := by decide +kernel
theorem dX11_walk_43 : decode cX11_walk 43 = .ok (.if_icmp .ne 10, 3) := by decide +kernel
theorem dX11_walk_46 : decode cX11_walk 46 = .ok (.aload_n 0, 1) := by decide +kernel
theorem dX11_walk_47 : decode cX11_walk 47 = .ok (.getfield 17, 3) := by decide +kernel
theorem dX11_walk_50 : decode cX11_walk 50 = .ok (.iload_n 3, 1) := by decide +kernel
theorem dX11_walk_51 : decode cX11_walk 51 = .ok (.iaload, 1) := by decide +kernel
theorem dX11_walk_52 : decode cX11_walk 52 = .ok (.ireturn, 1) := by decide +kernel
theorem dX11_walk_53 : decode cX11_walk 53 = .ok (.iinc 3 1, 3) := by decide +kernel
theorem dX11_walk_56 : decode cX11_walk 56 = .ok (.goto (-35), 3) := by decide +kernel
theorem dX11_walk_59 : decode cX11_walk 59 = .ok (.iconst (-1), 1) := by decide +kernel
theorem dX11_walk_60 : decode cX11_walk 60 = .ok (.ireturn, 1) := by decide +kernel
theorem dX11_many_0 : decode cX11_many 0 = .ok (.aload_n 0, 1) := by decide +kernel
theorem dX11_many_1 : decode cX11_many 1 = .ok (.iconst 0, 1) := by decide +kernel
theorem dX11_many_2 : decode cX11_many 2 = .ok (.putfield 73, 3) := by decide +kernel
theorem dX11_many_5 : decode cX11_many 5 = .ok (.aload_n 0, 1) := by decide +kernel
theorem dX11_many_6 : decode cX11_many 6 = .ok (.iload_n 1, 1) := by decide +kernel
theorem dX11_many_7 : decode cX11_many 7 = .ok (.invokevirtual 222, 3) := by decide +kernel
theorem dX11_many_10 : decode cX11_many 10 = .ok (.ifCond .eq 7, 3) := by decide +kernel
theorem dX11_many_13 : decode cX11_many 13 = .ok (.iload_n 2, 1) := by decide +kernel
theorem dX11_many_14 : decode cX11_many 14 = .ok (.ifCond .ge 5, 3) := by decide +kernel
theorem dX11_many_17 : decode cX11_many 17 = .ok (.iconst (-1), 1) := by decide +kernel
theorem dX11_many_18 : decode cX11_many 18 = .ok (.ireturn, 1) := by decide +kernel
theorem dX11_many_19 : decode cX11_many 19 = .ok (.iconst 0, 1) := by decide +kernel
theorem dX11_many_20 : decode cX11_many 20 = .ok (.istore_n 3, 1) := by decide +kernel
theorem dX11_many_21 : decode cX11_many 21 = .ok (.iconst 0, 1) := by decide +kernel
theorem dX11_many_22 : decode cX11_many 22 = .ok (.istore 4, 2) := by decide +kernel
theorem dX11_many_24 : decode cX11_many 24 = .ok (.iload 4, 2) := by decide +kernel
theorem dX11_many_26 : decode cX11_many 26 = .ok (.aload_n 0, 1) := by decide +kernel
theorem dX11_many_27 : decode cX11_many 27 = .ok (.iload_n 1, 1) := by decide +kernel
theorem dX11_many_28 : decode cX11_many 28 = .ok (.invokevirtual 152, 3) := by decide +kernel
theorem dX11_many_31 : decode cX11_many 31 = .ok (.if_icmp .ge 37, 3) := by decide +kernel
theorem dX11_many_34 : decode cX11_many 34 = .ok (.iload_n 3, 1) := by decide +kernel
theorem dX11_many_35 : decode cX11_many 35 = .ok (.aload_n 0, 1) := by decide +kernel
theorem dX11_many_36 : decode cX11_many 36 = .ok (.getfield 33, 3) := by decide +kernel
theorem dX11_many_39 : decode cX11_many 39 = .ok (.sipush 2048, 3) := by decide +kernel
theorem dX11_many_42 : decode cX11_many 42 = .ok (.iload_n 1, 1) := by decide +kernel
theorem dX11_many_43 : decode cX11_many 43 = .ok (.imul, 1) := by decide +kernel
theorem dX11_many_44 : decode cX11_many 44 = .ok (.iload 4, 2) := by decide +kernel
theorem dX11_many_46 : decode cX11_many 46 = .ok (.iadd, 1) := by decide +kernel
theorem dX11_many_47 : decode cX11_many 47 = .ok (.iaload, 1) := by decide +kernel
theorem dX11_many_48 : decode cX11_many 48 = .ok (.iload_n 2, 1) := by decide +kernel
theorem dX11_many_49 : decode cX11_many 49 = .ok (.if_icmp .ne 7, 3) := by decide +kernel
theorem dX11_many_52 : decode cX11_many 52 = .ok (.iconst 1, 1) := by decide +kernel
theorem dX11_many_53 : decode cX11_many 53 = .ok (.goto 4, 3) := by decide +kernel
theorem dX11_many_56 : decode cX11_many 56 = .ok (.iconst 0, 1) := by decide +kernel
theorem dX11_many_57 : decode cX11_many 57 = .ok (.invokestatic 198, 3) := by decide +kernel
theorem dX11_many_60 : decode cX11_many 60 = .ok (.iadd, 1) := by decide +kernel
theorem dX11_many_61 : decode cX11_many 61 = .ok (.istore_n 3, 1) := by decide +kernel
theorem dX11_many_62 : decode cX11_many 62 = .ok (.iinc 4 1, 3) := by decide +kernel
theorem dX11_many_65 : decode cX11_many 65 = .ok (.goto (-41), 3) := by decide +kernel
theorem dX11_many_68 : decode cX11_many 68 = .ok (.iload_n 3, 1) := by decide +kernel
theorem dX11_many_69 : decode cX11_many 69 = .ok (.ireturn, 1) := by decide +kernel
theorem dX11_crowd_0 : decode cX11_crowd 0 = .ok (.aload_n 0, 1) := by decide +kernel
theorem dX11_crowd_1 : decode cX11_crowd 1 = .ok (.iconst 0, 1) := by decide +kernel
theorem dX11_crowd_2 : decode cX11_crowd 2 = .ok (.putfield 73, 3) := by decide +kernel
theorem dX11_crowd_5 : decode cX11_crowd 5 = .ok (.aload_n 0, 1) := by decide +kernel
theorem dX11_crowd_6 : decode cX11_crowd 6 = .ok (.iload_n 1, 1) := by decide +kernel
theorem dX11_crowd_7 : decode cX11_crowd 7 = .ok (.invokevirtual 222, 3) := by decide +kernel
theorem dX11_crowd_10 : decode cX11_crowd 10 = .ok (.ifCond .eq 15, 3) := by decide +kernel
theorem dX11_crowd_13 : decode cX11_crowd 13 = .ok (.iload_n 2, 1) := by decide +kernel
theorem dX11_crowd_14 : decode cX11_crowd 14 = .ok (.i2l, 1) := by decide +kernel
theorem dX11_crowd_15 : decode cX11_crowd 15 = .ok (.lconst 0, 1) := by decide +kernel
theorem dX11_crowd_16 : decode cX11_crowd 16 = .ok (.ldc2_w 87, 3) := by decide +kernel
theorem dX11_crowd_19 : decode cX11_crowd 19 = .ok (.invokestatic 83, 3) := by decide +kernel
theorem dX11_crowd_22 : decode cX11_crowd 22 = .ok (.ifCond .ne 5, 3) := by decide +kernel
theorem dX11_crowd_25 : decode cX11_crowd 25 = .ok (.iconst (-1), 1) := by decide +kernel
theorem dX11_crowd_26 : decode cX11_crowd 26 = .ok (.ireturn, 1) := by decide +kernel
theorem dX11_crowd_27 : decode cX11_crowd 27 = .ok (.iconst 0, 1) := by decide +kernel
theorem dX11_crowd_28 : decode cX11_crowd 28 = .ok (.istore_n 3, 1) := by decide +kernel
theorem dX11_crowd_29 : decode cX11_crowd 29 = .ok (.iconst 0, 1) := by decide +kernel
theorem dX11_crowd_30 : decode cX11_crowd 30 = .ok (.istore 4, 2) := by decide +kernel
theorem dX11_crowd_32 : decode cX11_crowd 32 = .ok (.iconst 0, 1) := by decide +kernel
theorem dX11_crowd_33 : decode cX11_crowd 33 = .ok (.istore 5, 2) := by decide +kernel
theorem dX11_crowd_35 : decode cX11_crowd 35 = .ok (.iconst 0, 1) := by decide +kernel
theorem dX11_crowd_36 : decode cX11_crowd 36 = .ok (.istore 6, 2) := by decide +kernel
theorem dX11_crowd_38 : decode cX11_crowd 38 = .ok (.iload 6, 2) := by decide +kernel
theorem dX11_crowd_40 : decode cX11_crowd 40 = .ok (.aload_n 0, 1) := by decide +kernel
theorem dX11_crowd_41 : decode cX11_crowd 41 = .ok (.iload_n 1, 1) := by decide +kernel
theorem dX11_crowd_42 : decode cX11_crowd 42 = .ok (.invokevirtual 152, 3) := by decide +kernel
theorem dX11_crowd_45 : decode cX11_crowd 45 = .ok (.if_icmp .ge 75, 3) := by decide +kernel
theorem dX11_crowd_48 : decode cX11_crowd 48 = .ok (.aload_n 0, 1) := by decide +kernel
theorem dX11_crowd_49 : decode cX11_crowd 49 = .ok (.getfield 33, 3) := by decide +kernel
theorem dX11_crowd_52 : decode cX11_crowd 52 = .ok (.sipush 2048, 3) := by decide +kernel
theorem dX11_crowd_55 : decode cX11_crowd 55 = .ok (.iload_n 1, 1) := by decide +kernel
theorem dX11_crowd_56 : decode cX11_crowd 56 = .ok (.imul, 1) := by decide +kernel
theorem dX11_crowd_57 : decode cX11_crowd 57 = .ok (.iload 6, 2) := by decide +kernel
theorem dX11_crowd_59 : decode cX11_crowd 59 = .ok (.iadd, 1) := by decide +kernel
theorem dX11_crowd_60 : decode cX11_crowd 60 = .ok (.iaload, 1) := by decide +kernel
theorem dX11_crowd_61 : decode cX11_crowd 61 = .ok (.istore 7, 2) := by decide +kernel
theorem dX11_crowd_63 : decode cX11_crowd 63 = .ok (.iload 7, 2) := by decide +kernel
theorem dX11_crowd_65 : decode cX11_crowd 65 = .ok (.aload_n 0, 1) := by decide +kernel
theorem dX11_crowd_66 : decode cX11_crowd 66 = .ok (.getfield 33, 3) := by decide +kernel
theorem dX11_crowd_69 : decode cX11_crowd 69 = .ok (.sipush 2048, 3) := by decide +kernel
theorem dX11_crowd_72 : decode cX11_crowd 72 = .ok (.iload_n 1, 1) := by decide +kernel
theorem dX11_crowd_73 : decode cX11_crowd 73 = .ok (.imul, 1) := by decide +kernel
theorem dX11_crowd_74 : decode cX11_crowd 74 = .ok (.iload_n 3, 1) := by decide +kernel
theorem dX11_crowd_75 : decode cX11_crowd 75 = .ok (.iadd, 1) := by decide +kernel
theorem dX11_crowd_76 : decode cX11_crowd 76 = .ok (.iaload, 1) := by decide +kernel
theorem dX11_crowd_77 : decode cX11_crowd 77 = .ok (.if_icmp .le 6, 3) := by decide +kernel
theorem dX11_crowd_80 : decode cX11_crowd 80 = .ok (.iload 6, 2) := by decide +kernel
theorem dX11_crowd_82 : decode cX11_crowd 82 = .ok (.istore_n 3, 1) := by decide +kernel
theorem dX11_crowd_83 : decode cX11_crowd 83 = .ok (.iload 4, 2) := by decide +kernel
theorem dX11_crowd_85 : decode cX11_crowd 85 = .ok (.iload 7, 2) := by decide +kernel
theorem dX11_crowd_87 : decode cX11_crowd 87 = .ok (.iconst 1, 1) := by decide +kernel
theorem dX11_crowd_88 : decode cX11_crowd 88 = .ok (.if_icmp .le 8, 3) := by decide +kernel
theorem dX11_crowd_91 : decode cX11_crowd 91 = .ok (.iload 7, 2) := by decide +kernel
theorem dX11_crowd_93 : decode cX11_crowd 93 = .ok (.goto 4, 3) := by decide +kernel
theorem dX11_crowd_96 : decode cX11_crowd 96 = .ok (.iconst 0, 1) := by decide +kernel
theorem dX11_crowd_97 : decode cX11_crowd 97 = .ok (.iadd, 1) := by decide +kernel
theorem dX11_crowd_98 : decode cX11_crowd 98 = .ok (.istore 4, 2) := by decide +kernel
theorem dX11_crowd_100 : decode cX11_crowd 100 = .ok (.iload 5, 2) := by decide +kernel
theorem dX11_crowd_102 : decode cX11_crowd 102 = .ok (.iload 7, 2) := by decide +kernel
theorem dX11_crowd_104 : decode cX11_crowd 104 = .ok (.iload 7, 2) := by decide +kernel
theorem dX11_crowd_106 : decode cX11_crowd 106 = .ok (.iconst 1, 1) := by decide +kernel
theorem dX11_crowd_107 : decode cX11_crowd 107 = .ok (.isub, 1) := by decide +kernel
theorem dX11_crowd_108 : decode cX11_crowd 108 = .ok (.imul, 1) := by decide +kernel
theorem dX11_crowd_109 : decode cX11_crowd 109 = .ok (.iconst 2, 1) := by decide +kernel
theorem dX11_crowd_110 : decode cX11_crowd 110 = .ok (.idiv, 1) := by decide +kernel
theorem dX11_crowd_111 : decode cX11_crowd 111 = .ok (.iadd, 1) := by decide +kernel
theorem dX11_crowd_112 : decode cX11_crowd 112 = .ok (.istore 5, 2) := by decide +kernel
theorem dX11_crowd_114 : decode cX11_crowd 114 = .ok (.iinc 6 1, 3) := by decide +kernel
theorem dX11_crowd_117 : decode cX11_crowd 117 = .ok (.goto (-79), 3) := by decide +kernel
theorem dX11_crowd_120 : decode cX11_crowd 120 = .ok (.iload_n 2, 1) := by decide +kernel
theorem dX11_crowd_121 : decode cX11_crowd 121 = .ok (.ifCond .ne 7, 3) := by decide +kernel
theorem dX11_crowd_124 : decode cX11_crowd 124 = .ok (.iload_n 3, 1) := by decide +kernel
theorem dX11_crowd_125 : decode cX11_crowd 125 = .ok (.goto 35, 3) := by decide +kernel
theorem dX11_crowd_128 : decode cX11_crowd 128 = .ok (.iload_n 2, 1) := by decide +kernel
theorem dX11_crowd_129 : decode cX11_crowd 129 = .ok (.iconst 1, 1) := by decide +kernel
theorem dX11_crowd_130 : decode cX11_crowd 130 = .ok (.if_icmp .ne 18, 3) := by decide +kernel
theorem dX11_crowd_133 : decode cX11_crowd 133 = .ok (.aload_n 0, 1) := by decide +kernel
theorem dX11_crowd_134 : decode cX11_crowd 134 = .ok (.getfield 33, 3) := by decide +kernel
theorem dX11_crowd_137 : decode cX11_crowd 137 = .ok (.sipush 2048, 3) := by decide +kernel
theorem dX11_crowd_140 : decode cX11_crowd 140 = .ok (.iload_n 1, 1) := by decide +kernel
theorem dX11_crowd_141 : decode cX11_crowd 141 = .ok (.imul, 1) := by decide +kernel
theorem dX11_crowd_142 : decode cX11_crowd 142 = .ok (.iload_n 3, 1) := by decide +kernel
theorem dX11_crowd_143 : decode cX11_crowd 143 = .ok (.iadd, 1) := by decide +kernel
theorem dX11_crowd_144 : decode cX11_crowd 144 = .ok (.iaload, 1) := by decide +kernel
theorem dX11_crowd_145 : decode cX11_crowd 145 = .ok (.goto 15, 3) := by decide +kernel
theorem dX11_crowd_148 : decode cX11_crowd 148 = .ok (.iload_n 2, 1) := by decide +kernel
theorem dX11_crowd_149 : decode cX11_crowd 149 = .ok (.iconst 2, 1) := by decide +kernel
theorem dX11_crowd_150 : decode cX11_crowd 150 = .ok (.if_icmp .ne 8, 3) := by decide +kernel
theorem dX11_crowd_153 : decode cX11_crowd 153 = .ok (.iload 4, 2) := by decide +kernel
theorem dX11_crowd_155 : decode cX11_crowd 155 = .ok (.goto 5, 3) := by decide +kernel
theorem dX11_crowd_158 : decode cX11_crowd 158 = .ok (.iload 5, 2) := by decide +kernel
theorem dX11_crowd_160 : decode cX11_crowd 160 = .ok (.ireturn, 1) := by decide +kernel
