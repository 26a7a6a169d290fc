theorem dX3_raised_0 : decode cX3_raised 0 = .ok (.aload_n 0, 1) := by decide +kernel
theorem dX3_raised_1 : decode cX3_raised 1 = .ok (.getfield 15, 3) := by decide +kernel
theorem dX3_raised_4 : decode cX3_raised 4 = .ok (.iload_n 1, 1) := by decide +kernel
theorem dX3_raised_5 : decode cX3_raised 5 = .ok (.iaload, 1) := by decide +kernel
theorem dX3_raised_6 : decode cX3_raised 6 = .ok (.ifCond .ne 7, 3) := by decide +kernel
theorem dX3_raised_9 : decode cX3_raised 9 = .ok (.iconst 2, 1) := by decide +kernel
theorem dX3_raised_10 : decode cX3_raised 10 = .ok (.goto 11, 3) := by decide +kernel
theorem dX3_raised_13 : decode cX3_raised 13 = .ok (.iconst 2, 1) := by decide +kernel
theorem dX3_raised_14 : decode cX3_raised 14 = .ok (.aload_n 0, 1) := by decide +kernel
theorem dX3_raised_15 : decode cX3_raised 15 = .ok (.getfield 15, 3) := by decide +kernel
theorem dX3_raised_18 : decode cX3_raised 18 = .ok (.iload_n 1, 1) := by decide +kernel
theorem dX3_raised_19 : decode cX3_raised 19 = .ok (.iaload, 1) := by decide +kernel
theorem dX3_raised_20 : decode cX3_raised 20 = .ok (.imul, 1) := by decide +kernel
theorem dX3_raised_21 : decode cX3_raised 21 = .ok (.ireturn, 1) := by decide +kernel
theorem dX3_raise_0 : decode cX3_raise 0 = .ok (.aload_n 0, 1) := by decide +kernel
theorem dX3_raise_1 : decode cX3_raise 1 = .ok (.iload_n 1, 1) := by decide +kernel
theorem dX3_raise_2 : decode cX3_raise 2 = .ok (.invokevirtual 89, 3) := by decide +kernel
theorem dX3_raise_5 : decode cX3_raise 5 = .ok (.istore_n 2, 1) := by decide +kernel
theorem dX3_raise_6 : decode cX3_raise 6 = .ok (.aload_n 0, 1) := by decide +kernel
theorem dX3_raise_7 : decode cX3_raise 7 = .ok (.dup, 1) := by decide +kernel
theorem dX3_raise_8 : decode cX3_raise 8 = .ok (.getfield 78, 3) := by decide +kernel
theorem dX3_raise_11 : decode cX3_raise 11 = .ok (.iload_n 2, 1) := by decide +kernel
theorem dX3_raise_12 : decode cX3_raise 12 = .ok (.iload_n 2, 1) := by decide +kernel
theorem dX3_raise_13 : decode cX3_raise 13 = .ok (.imul, 1) := by decide +kernel
theorem dX3_raise_14 : decode cX3_raise 14 = .ok (.aload_n 0, 1) := by decide +kernel
theorem dX3_raise_15 : decode cX3_raise 15 = .ok (.getfield 15, 3) := by decide +kernel
theorem dX3_raise_18 : decode cX3_raise 18 = .ok (.iload_n 1, 1) := by decide +kernel
theorem dX3_raise_19 : decode cX3_raise 19 = .ok (.iaload, 1) := by decide +kernel
theorem dX3_raise_20 : decode cX3_raise 20 = .ok (.aload_n 0, 1) := by decide +kernel
theorem dX3_raise_21 : decode cX3_raise 21 = .ok (.getfield 15, 3) := by decide +kernel
theorem dX3_raise_24 : decode cX3_raise 24 = .ok (.iload_n 1, 1) := by decide +kernel
theorem dX3_raise_25 : decode cX3_raise 25 = .ok (.iaload, 1) := by decide +kernel
theorem dX3_raise_26 : decode cX3_raise 26 = .ok (.imul, 1) := by decide +kernel
theorem dX3_raise_27 : decode cX3_raise 27 = .ok (.isub, 1) := by decide +kernel
theorem dX3_raise_28 : decode cX3_raise 28 = .ok (.iadd, 1) := by decide +kernel
theorem dX3_raise_29 : decode cX3_raise 29 = .ok (.putfield 78, 3) := by decide +kernel
theorem dX3_raise_32 : decode cX3_raise 32 = .ok (.aload_n 0, 1) := by decide +kernel
theorem dX3_raise_33 : decode cX3_raise 33 = .ok (.getfield 15, 3) := by decide +kernel
theorem dX3_raise_36 : decode cX3_raise 36 = .ok (.iload_n 1, 1) := by decide +kernel
theorem dX3_raise_37 : decode cX3_raise 37 = .ok (.iload_n 2, 1) := by decide +kernel
theorem dX3_raise_38 : decode cX3_raise 38 = .ok (.iastore, 1) := by decide +kernel
theorem dX3_raise_39 : decode cX3_raise 39 = .ok (.return_, 1) := by decide +kernel
theorem dX3_insert_0 : decode cX3_insert 0 = .ok (.iload_n 1, 1) := by decide +kernel
theorem dX3_insert_1 : decode cX3_insert 1 = .ok (.ifCond .lt 29, 3) := by decide +kernel
theorem dX3_insert_4 : decode cX3_insert 4 = .ok (.iload_n 1, 1) := by decide +kernel
theorem dX3_insert_5 : decode cX3_insert 5 = .ok (.aload_n 0, 1) := by decide +kernel
theorem dX3_insert_6 : decode cX3_insert 6 = .ok (.getfield 54, 3) := by decide +kernel
theorem dX3_insert_9 : decode cX3_insert 9 = .ok (.if_icmp .gt 21, 3) := by decide +kernel
theorem dX3_insert_12 : decode cX3_insert 12 = .ok (.aload_n 0, 1) := by decide +kernel
theorem dX3_insert_13 : decode cX3_insert 13 = .ok (.getfield 54, 3) := by decide +kernel
theorem dX3_insert_16 : decode cX3_insert 16 = .ok (.sipush 160, 3) := by decide +kernel
theorem dX3_insert_19 : decode cX3_insert 19 = .ok (.if_icmp .ge 11, 3) := by decide +kernel
theorem dX3_insert_22 : decode cX3_insert 22 = .ok (.aload_n 0, 1) := by decide +kernel
theorem dX3_insert_23 : decode cX3_insert 23 = .ok (.iload_n 2, 1) := by decide +kernel
theorem dX3_insert_24 : decode cX3_insert 24 = .ok (.invokevirtual 92, 3) := by decide +kernel
theorem dX3_insert_27 : decode cX3_insert 27 = .ok (.ifCond .ne 4, 3) := by decide +kernel
theorem dX3_insert_30 : decode cX3_insert 30 = .ok (.return_, 1) := by decide +kernel
theorem dX3_insert_31 : decode cX3_insert 31 = .ok (.aload_n 0, 1) := by decide +kernel
theorem dX3_insert_32 : decode cX3_insert 32 = .ok (.getfield 27, 3) := by decide +kernel
theorem dX3_insert_35 : decode cX3_insert 35 = .ok (.iload_n 1, 1) := by decide +kernel
theorem dX3_insert_36 : decode cX3_insert 36 = .ok (.aload_n 0, 1) := by decide +kernel
theorem dX3_insert_37 : decode cX3_insert 37 = .ok (.getfield 27, 3) := by decide +kernel
theorem dX3_insert_40 : decode cX3_insert 40 = .ok (.iload_n 1, 1) := by decide +kernel
theorem dX3_insert_41 : decode cX3_insert 41 = .ok (.iconst 1, 1) := by decide +kernel
theorem dX3_insert_42 : decode cX3_insert 42 = .ok (.iadd, 1) := by decide +kernel
theorem dX3_insert_43 : decode cX3_insert 43 = .ok (.aload_n 0, 1) := by decide +kernel
theorem dX3_insert_44 : decode cX3_insert 44 = .ok (.getfield 54, 3) := by decide +kernel
theorem dX3_insert_47 : decode cX3_insert 47 = .ok (.iload_n 1, 1) := by decide +kernel
theorem dX3_insert_48 : decode cX3_insert 48 = .ok (.isub, 1) := by decide +kernel
theorem dX3_insert_49 : decode cX3_insert 49 = .ok (.invokestatic 96, 3) := by decide +kernel
theorem dX3_insert_52 : decode cX3_insert 52 = .ok (.aload_n 0, 1) := by decide +kernel
theorem dX3_insert_53 : decode cX3_insert 53 = .ok (.getfield 30, 3) := by decide +kernel
theorem dX3_insert_56 : decode cX3_insert 56 = .ok (.iload_n 1, 1) := by decide +kernel
theorem dX3_insert_57 : decode cX3_insert 57 = .ok (.aload_n 0, 1) := by decide +kernel
theorem dX3_insert_58 : decode cX3_insert 58 = .ok (.getfield 30, 3) := by decide +kernel
theorem dX3_insert_61 : decode cX3_insert 61 = .ok (.iload_n 1, 1) := by decide +kernel
theorem dX3_insert_62 : decode cX3_insert 62 = .ok (.iconst 1, 1) := by decide +kernel
theorem dX3_insert_63 : decode cX3_insert 63 = .ok (.iadd, 1) := by decide +kernel
theorem dX3_insert_64 : decode cX3_insert 64 = .ok (.aload_n 0, 1) := by decide +kernel
theorem dX3_insert_65 : decode cX3_insert 65 = .ok (.getfield 54, 3) := by decide +kernel
theorem dX3_insert_68 : decode cX3_insert 68 = .ok (.iload_n 1, 1) := by decide +kernel
theorem dX3_insert_69 : decode cX3_insert 69 = .ok (.isub, 1) := by decide +kernel
theorem dX3_insert_70 : decode cX3_insert 70 = .ok (.invokestatic 96, 3) := by decide +kernel
theorem dX3_insert_73 : decode cX3_insert 73 = .ok (.aload_n 0, 1) := by decide +kernel
theorem dX3_insert_74 : decode cX3_insert 74 = .ok (.getfield 27, 3) := by decide +kernel
theorem dX3_insert_77 : decode cX3_insert 77 = .ok (.iload_n 1, 1) := by decide +kernel
theorem dX3_insert_78 : decode cX3_insert 78 = .ok (.iload_n 2, 1) := by decide +kernel
theorem dX3_insert_79 : decode cX3_insert 79 = .ok (.iastore, 1) := by decide +kernel
theorem dX3_insert_80 : decode cX3_insert 80 = .ok (.aload_n 0, 1) := by decide +kernel
theorem dX3_insert_81 : decode cX3_insert 81 = .ok (.getfield 30, 3) := by decide +kernel
theorem dX3_insert_84 : decode cX3_insert 84 = .ok (.iload_n 1, 1) := by decide +kernel
theorem dX3_insert_85 : decode cX3_insert 85 = .ok (.iconst (-1), 1) := by decide +kernel
theorem dX3_insert_86 : decode cX3_insert 86 = .ok (.iastore, 1) := by decide +kernel
theorem dX3_insert_87 : decode cX3_insert 87 = .ok (.aload_n 0, 1) := by decide +kernel
theorem dX3_insert_88 : decode cX3_insert 88 = .ok (.getfield 9, 3) := by decide +kernel
theorem dX3_insert_91 : decode cX3_insert 91 = .ok (.iload_n 2, 1) := by decide +kernel
theorem dX3_insert_92 : decode cX3_insert 92 = .ok (.dup2, 1) := by decide +kernel
theorem dX3_insert_93 : decode cX3_insert 93 = .ok (.iaload, 1) := by decide +kernel
theorem dX3_insert_94 : decode cX3_insert 94 = .ok (.iconst 1, 1) := by decide +kernel
theorem dX3_insert_95 : decode cX3_insert 95 = .ok (.iadd, 1) := by decide +kernel
theorem dX3_insert_96 : decode cX3_insert 96 = .ok (.iastore, 1) := by decide +kernel
theorem dX3_insert_97 : decode cX3_insert 97 = .ok (.aload_n 0, 1) := by decide +kernel
theorem dX3_insert_98 : decode cX3_insert 98 = .ok (.dup, 1) := by decide +kernel
theorem dX3_insert_99 : decode cX3_insert 99 = .ok (.getfield 54, 3) := by decide +kernel
theorem dX3_insert_102 : decode cX3_insert 102 = .ok (.iconst 1, 1) := by decide +kernel
theorem dX3_insert_103 : decode cX3_insert 103 = .ok (.iadd, 1) := by decide +kernel
theorem dX3_insert_104 : decode cX3_insert 104 = .ok (.putfield 54, 3) := by decide +kernel
theorem dX3_insert_107 : decode cX3_insert 107 = .ok (.return_, 1) := by decide +kernel
theorem dX3_remove_0 : decode cX3_remove 0 = .ok (.iload_n 1, 1) := by decide +kernel
theorem dX3_remove_1 : decode cX3_remove 1 = .ok (.ifCond .lt 11, 3) := by decide +kernel
theorem dX3_remove_4 : decode cX3_remove 4 = .ok (.iload_n 1, 1) := by decide +kernel
theorem dX3_remove_5 : decode cX3_remove 5 = .ok (.aload_n 0, 1) := by decide +kernel
theorem dX3_remove_6 : decode cX3_remove 6 = .ok (.getfield 54, 3) := by decide +kernel
theorem dX3_remove_9 : decode cX3_remove 9 = .ok (.if_icmp .lt 4, 3) := by decide +kernel
theorem dX3_remove_12 : decode cX3_remove 12 = .ok (.return_, 1) := by decide +kernel
theorem dX3_remove_13 : decode cX3_remove 13 = .ok (.aload_n 0, 1) := by decide +kernel
theorem dX3_remove_14 : decode cX3_remove 14 = .ok (.getfield 9, 3) := by decide +kernel
theorem dX3_remove_17 : decode cX3_remove 17 = .ok (.aload_n 0, 1) := by decide +kernel
theorem dX3_remove_18 : decode cX3_remove 18 = .ok (.getfield 27, 3) := by decide +kernel
theorem dX3_remove_21 : decode cX3_remove 21 = .ok (.iload_n 1, 1) := by decide +kernel
theorem dX3_remove_22 : decode cX3_remove 22 = .ok (.iaload, 1) := by decide +kernel
theorem dX3_remove_23 : decode cX3_remove 23 = .ok (.dup2, 1) := by decide +kernel
theorem dX3_remove_24 : decode cX3_remove 24 = .ok (.iaload, 1) := by decide +kernel
theorem dX3_remove_25 : decode cX3_remove 25 = .ok (.iconst 1, 1) := by decide +kernel
theorem dX3_remove_26 : decode cX3_remove 26 = .ok (.isub, 1) := by decide +kernel
theorem dX3_remove_27 : decode cX3_remove 27 = .ok (.iastore, 1) := by decide +kernel
theorem dX3_remove_28 : decode cX3_remove 28 = .ok (.aload_n 0, 1) := by decide +kernel
theorem dX3_remove_29 : decode cX3_remove 29 = .ok (.dup, 1) := by decide +kernel
theorem dX3_remove_30 : decode cX3_remove 30 = .ok (.getfield 54, 3) := by decide +kernel
theorem dX3_remove_33 : decode cX3_remove 33 = .ok (.iconst 1, 1) := by decide +kernel
theorem dX3_remove_34 : decode cX3_remove 34 = .ok (.isub, 1) := by decide +kernel
theorem dX3_remove_35 : decode cX3_remove 35 = .ok (.putfield 54, 3) := by decide +kernel
theorem dX3_remove_38 : decode cX3_remove 38 = .ok (.aload_n 0, 1) := by decide +kernel
theorem dX3_remove_39 : decode cX3_remove 39 = .ok (.getfield 27, 3) := by decide +kernel
theorem dX3_remove_42 : decode cX3_remove 42 = .ok (.iload_n 1, 1) := by decide +kernel
theorem dX3_remove_43 : decode cX3_remove 43 = .ok (.iconst 1, 1) := by decide +kernel
theorem dX3_remove_44 : decode cX3_remove 44 = .ok (.iadd, 1) := by decide +kernel
theorem dX3_remove_45 : decode cX3_remove 45 = .ok (.aload_n 0, 1) := by decide +kernel
theorem dX3_remove_46 : decode cX3_remove 46 = .ok (.getfield 27, 3) := by decide +kernel
theorem dX3_remove_49 : decode cX3_remove 49 = .ok (.iload_n 1, 1) := by decide +kernel
theorem dX3_remove_50 : decode cX3_remove 50 = .ok (.aload_n 0, 1) := by decide +kernel
theorem dX3_remove_51 : decode cX3_remove 51 = .ok (.getfield 54, 3) := by decide +kernel
theorem dX3_remove_54 : decode cX3_remove 54 = .ok (.iload_n 1, 1) := by decide +kernel
theorem dX3_remove_55 : decode cX3_remove 55 = .ok (.isub, 1) := by decide +kernel
theorem dX3_remove_56 : decode cX3_remove 56 = .ok (.invokestatic 96, 3) := by decide +kernel
theorem dX3_remove_59 : decode cX3_remove 59 = .ok (.aload_n 0, 1) := by decide +kernel
theorem dX3_remove_60 : decode cX3_remove 60 = .ok (.getfield 30, 3) := by decide +kernel
theorem dX3_remove_63 : decode cX3_remove 63 = .ok (.iload_n 1, 1) := by decide +kernel
theorem dX3_remove_64 : decode cX3_remove 64 = .ok (.iconst 1, 1) := by decide +kernel
theorem dX3_remove_65 : decode cX3_remove 65 = .ok (.iadd, 1) := by decide +kernel
theorem dX3_remove_66 : decode cX3_remove 66 = .ok (.aload_n 0, 1) := by decide +kernel
theorem dX3_remove_67 : decode cX3_remove 67 = .ok (.getfield 30, 3) := by decide +kernel
theorem dX3_remove_70 : decode cX3_remove 70 = .ok (.iload_n 1, 1) := by decide +kernel
theorem dX3_remove_71 : decode cX3_remove 71 = .ok (.aload_n 0, 1) := by decide +kernel
theorem dX3_remove_72 : decode cX3_remove 72 = .ok (.getfield 54, 3) := by decide +kernel
theorem dX3_remove_75 : decode cX3_remove 75 = .ok (.iload_n 1, 1) := by decide +kernel
theorem dX3_remove_76 : decode cX3_remove 76 = .ok (.isub, 1) := by decide +kernel
theorem dX3_remove_77 : decode cX3_remove 77 = .ok (.invokestatic 96, 3) := by decide +kernel
theorem dX3_remove_80 : decode cX3_remove 80 = .ok (.return_, 1) := by decide +kernel
theorem dX3_roomOfAll_0 : decode cX3_roomOfAll 0 = .ok (.iload_n 1, 1) := by decide +kernel
theorem dX3_roomOfAll_1 : decode cX3_roomOfAll 1 = .ok (.ifCond .lt 11, 3) := by decide +kernel
theorem dX3_roomOfAll_4 : decode cX3_roomOfAll 4 = .ok (.iload_n 1, 1) := by decide +kernel
theorem dX3_roomOfAll_5 : decode cX3_roomOfAll 5 = .ok (.aload_n 0, 1) := by decide +kernel
theorem dX3_roomOfAll_6 : decode cX3_roomOfAll 6 = .ok (.getfield 54, 3) := by decide +kernel
theorem dX3_roomOfAll_9 : decode cX3_roomOfAll 9 = .ok (.if_icmp .lt 5, 3) := by decide +kernel
theorem dX3_roomOfAll_12 : decode cX3_roomOfAll 12 = .ok (.iconst (-1), 1) := by decide +kernel
theorem dX3_roomOfAll_13 : decode cX3_roomOfAll 13 = .ok (.ireturn, 1) := by decide +kernel
theorem dX3_roomOfAll_14 : decode cX3_roomOfAll 14 = .ok (.aload_n 0, 1) := by decide +kernel
theorem dX3_roomOfAll_15 : decode cX3_roomOfAll 15 = .ok (.getfield 30, 3) := by decide +kernel
theorem dX3_roomOfAll_18 : decode cX3_roomOfAll 18 = .ok (.iload_n 1, 1) := by decide +kernel
theorem dX3_roomOfAll_19 : decode cX3_roomOfAll 19 = .ok (.iaload, 1) := by decide +kernel
theorem dX3_roomOfAll_20 : decode cX3_roomOfAll 20 = .ok (.istore_n 2, 1) := by decide +kernel
theorem dX3_roomOfAll_21 : decode cX3_roomOfAll 21 = .ok (.iconst 0, 1) := by decide +kernel
theorem dX3_roomOfAll_22 : decode cX3_roomOfAll 22 = .ok (.istore_n 3, 1) := by decide +kernel
theorem dX3_roomOfAll_23 : decode cX3_roomOfAll 23 = .ok (.iload_n 3, 1) := by decide +kernel
theorem dX3_roomOfAll_24 : decode cX3_roomOfAll 24 = .ok (.aload_n 0, 1) := by decide +kernel
theorem dX3_roomOfAll_25 : decode cX3_roomOfAll 25 = .ok (.getfield 27, 3) := by decide +kernel
theorem dX3_roomOfAll_28 : decode cX3_roomOfAll 28 = .ok (.iload_n 1, 1) := by decide +kernel
theorem dX3_roomOfAll_29 : decode cX3_roomOfAll 29 = .ok (.iaload, 1) := by decide +kernel
theorem dX3_roomOfAll_30 : decode cX3_roomOfAll 30 = .ok (.if_icmp .ge 25, 3) := by decide +kernel
theorem dX3_roomOfAll_33 : decode cX3_roomOfAll 33 = .ok (.iload_n 2, 1) := by decide +kernel
theorem dX3_roomOfAll_34 : decode cX3_roomOfAll 34 = .ok (.aload_n 0, 1) := by decide +kernel
theorem dX3_roomOfAll_35 : decode cX3_roomOfAll 35 = .ok (.getfield 15, 3) := by decide +kernel
theorem dX3_roomOfAll_38 : decode cX3_roomOfAll 38 = .ok (.iload_n 3, 1) := by decide +kernel
theorem dX3_roomOfAll_39 : decode cX3_roomOfAll 39 = .ok (.iaload, 1) := by decide +kernel
theorem dX3_roomOfAll_40 : decode cX3_roomOfAll 40 = .ok (.aload_n 0, 1) := by decide +kernel
theorem dX3_roomOfAll_41 : decode cX3_roomOfAll 41 = .ok (.getfield 15, 3) := by decide +kernel
theorem dX3_roomOfAll_44 : decode cX3_roomOfAll 44 = .ok (.iload_n 3, 1) := by decide +kernel
theorem dX3_roomOfAll_45 : decode cX3_roomOfAll 45 = .ok (.iaload, 1) := by decide +kernel
theorem dX3_roomOfAll_46 : decode cX3_roomOfAll 46 = .ok (.imul, 1) := by decide +kernel
theorem dX3_roomOfAll_47 : decode cX3_roomOfAll 47 = .ok (.iadd, 1) := by decide +kernel
theorem dX3_roomOfAll_48 : decode cX3_roomOfAll 48 = .ok (.istore_n 2, 1) := by decide +kernel
theorem dX3_roomOfAll_49 : decode cX3_roomOfAll 49 = .ok (.iinc 3 1, 3) := by decide +kernel
theorem dX3_roomOfAll_52 : decode cX3_roomOfAll 52 = .ok (.goto (-29), 3) := by decide +kernel
theorem dX3_roomOfAll_55 : decode cX3_roomOfAll 55 = .ok (.iload_n 2, 1) := by decide +kernel
theorem dX3_roomOfAll_56 : decode cX3_roomOfAll 56 = .ok (.ireturn, 1) := by decide +kernel
theorem dX3_become_0 : decode cX3_become 0 = .ok (.aload_n 0, 1) := by decide +kernel
theorem dX3_become_1 : decode cX3_become 1 = .ok (.invokevirtual 60, 3) := by decide +kernel
theorem dX3_become_4 : decode cX3_become 4 = .ok (.aload_n 0, 1) := by decide +kernel
theorem dX3_become_5 : decode cX3_become 5 = .ok (.aload_n 1, 1) := by decide +kernel
theorem dX3_become_6 : decode cX3_become 6 = .ok (.getfield 36, 3) := by decide +kernel
theorem dX3_become_9 : decode cX3_become 9 = .ok (.putfield 36, 3) := by decide +kernel
theorem dX3_become_12 : decode cX3_become 12 = .ok (.aload_n 0, 1) := by decide +kernel
theorem dX3_become_13 : decode cX3_become 13 = .ok (.aload_n 1, 1) := by decide +kernel
theorem dX3_become_14 : decode cX3_become 14 = .ok (.getfield 40, 3) := by decide +kernel
theorem dX3_become_17 : decode cX3_become 17 = .ok (.putfield 40, 3) := by decide +kernel
theorem dX3_become_20 : decode cX3_become 20 = .ok (.aload_n 0, 1) := by decide +kernel
theorem dX3_become_21 : decode cX3_become 21 = .ok (.aload_n 1, 1) := by decide +kernel
theorem dX3_become_22 : decode cX3_become 22 = .ok (.getfield 43, 3) := by decide +kernel
theorem dX3_become_25 : decode cX3_become 25 = .ok (.putfield 43, 3) := by decide +kernel
theorem dX3_become_28 : decode cX3_become 28 = .ok (.aload_n 0, 1) := by decide +kernel
theorem dX3_become_29 : decode cX3_become 29 = .ok (.aload_n 1, 1) := by decide +kernel
theorem dX3_become_30 : decode cX3_become 30 = .ok (.getfield 78, 3) := by decide +kernel
theorem dX3_become_33 : decode cX3_become 33 = .ok (.putfield 78, 3) := by decide +kernel
theorem dX3_become_36 : decode cX3_become 36 = .ok (.aload_n 0, 1) := by decide +kernel
theorem dX3_become_37 : decode cX3_become 37 = .ok (.aload_n 1, 1) := by decide +kernel
theorem dX3_become_38 : decode cX3_become 38 = .ok (.getfield 54, 3) := by decide +kernel
theorem dX3_become_41 : decode cX3_become 41 = .ok (.putfield 54, 3) := by decide +kernel
theorem dX3_become_44 : decode cX3_become 44 = .ok (.aload_n 1, 1) := by decide +kernel
theorem dX3_become_45 : decode cX3_become 45 = .ok (.getfield 9, 3) := by decide +kernel
theorem dX3_become_48 : decode cX3_become 48 = .ok (.iconst 0, 1) := by decide +kernel
theorem dX3_become_49 : decode cX3_become 49 = .ok (.aload_n 0, 1) := by decide +kernel
theorem dX3_become_50 : decode cX3_become 50 = .ok (.getfield 9, 3) := by decide +kernel
theorem dX3_become_53 : decode cX3_become 53 = .ok (.iconst 0, 1) := by decide +kernel
theorem dX3_become_54 : decode cX3_become 54 = .ok (.aload_n 0, 1) := by decide +kernel
theorem dX3_become_55 : decode cX3_become 55 = .ok (.getfield 36, 3) := by decide +kernel
theorem dX3_become_58 : decode cX3_become 58 = .ok (.invokestatic 96, 3) := by decide +kernel
theorem dX3_become_61 : decode cX3_become 61 = .ok (.aload_n 1, 1) := by decide +kernel
theorem dX3_become_62 : decode cX3_become 62 = .ok (.getfield 15, 3) := by decide +kernel
theorem dX3_become_65 : decode cX3_become 65 = .ok (.iconst 0, 1) := by decide +kernel
theorem dX3_become_66 : decode cX3_become 66 = .ok (.aload_n 0, 1) := by decide +kernel
theorem dX3_become_67 : decode cX3_become 67 = .ok (.getfield 15, 3) := by decide +kernel
theorem dX3_become_70 : decode cX3_become 70 = .ok (.iconst 0, 1) := by decide +kernel
theorem dX3_become_71 : decode cX3_become 71 = .ok (.aload_n 0, 1) := by decide +kernel
theorem dX3_become_72 : decode cX3_become 72 = .ok (.getfield 36, 3) := by decide +kernel
theorem dX3_become_75 : decode cX3_become 75 = .ok (.invokestatic 96, 3) := by decide +kernel
theorem dX3_become_78 : decode cX3_become 78 = .ok (.aload_n 1, 1) := by decide +kernel
theorem dX3_become_79 : decode cX3_become 79 = .ok (.getfield 18, 3) := by decide +kernel
theorem dX3_become_82 : decode cX3_become 82 = .ok (.iconst 0, 1) := by decide +kernel
theorem dX3_become_83 : decode cX3_become 83 = .ok (.aload_n 0, 1) := by decide +kernel
theorem dX3_become_84 : decode cX3_become 84 = .ok (.getfield 18, 3) := by decide +kernel
theorem dX3_become_87 : decode cX3_become 87 = .ok (.iconst 0, 1) := by decide +kernel
theorem dX3_become_88 : decode cX3_become 88 = .ok (.aload_n 0, 1) := by decide +kernel
theorem dX3_become_89 : decode cX3_become 89 = .ok (.getfield 36, 3) := by decide +kernel
theorem dX3_become_92 : decode cX3_become 92 = .ok (.invokestatic 96, 3) := by decide +kernel
theorem dX3_become_95 : decode cX3_become 95 = .ok (.aload_n 1, 1) := by decide +kernel
theorem dX3_become_96 : decode cX3_become 96 = .ok (.getfield 21, 3) := by decide +kernel
theorem dX3_become_99 : decode cX3_become 99 = .ok (.iconst 0, 1) := by decide +kernel
theorem dX3_become_100 : decode cX3_become 100 = .ok (.aload_n 0, 1) := by decide +kernel
theorem dX3_become_101 : decode cX3_become 101 = .ok (.getfield 21, 3) := by decide +kernel
theorem dX3_become_104 : decode cX3_become 104 = .ok (.iconst 0, 1) := by decide +kernel
theorem dX3_become_105 : decode cX3_become 105 = .ok (.aload_n 0, 1) := by decide +kernel
theorem dX3_become_106 : decode cX3_become 106 = .ok (.getfield 36, 3) := by decide +kernel
theorem dX3_become_109 : decode cX3_become 109 = .ok (.invokestatic 96, 3) := by decide +kernel
theorem dX3_become_112 : decode cX3_become 112 = .ok (.aload_n 1, 1) := by decide +kernel
theorem dX3_become_113 : decode cX3_become 113 = .ok (.getfield 27, 3) := by decide +kernel
theorem dX3_become_116 : decode cX3_become 116 = .ok (.iconst 0, 1) := by decide +kernel
theorem dX3_become_117 : decode cX3_become 117 = .ok (.aload_n 0, 1) := by decide +kernel
theorem dX3_become_118 : decode cX3_become 118 = .ok (.getfield 27, 3) := by decide +kernel
theorem dX3_become_121 : decode cX3_become 121 = .ok (.iconst 0, 1) := by decide +kernel
theorem dX3_become_122 : decode cX3_become 122 = .ok (.aload_n 0, 1) := by decide +kernel
theorem dX3_become_123 : decode cX3_become 123 = .ok (.getfield 54, 3) := by decide +kernel
theorem dX3_become_126 : decode cX3_become 126 = .ok (.invokestatic 96, 3) := by decide +kernel
theorem dX3_become_129 : decode cX3_become 129 = .ok (.aload_n 1, 1) := by decide +kernel
theorem dX3_become_130 : decode cX3_become 130 = .ok (.getfield 30, 3) := by decide +kernel
theorem dX3_become_133 : decode cX3_become 133 = .ok (.iconst 0, 1) := by decide +kernel
theorem dX3_become_134 : decode cX3_become 134 = .ok (.aload_n 0, 1) := by decide +kernel
theorem dX3_become_135 : decode cX3_become 135 = .ok (.getfield 30, 3) := by decide +kernel
theorem dX3_become_138 : decode cX3_become 138 = .ok (.iconst 0, 1) := by decide +kernel
theorem dX3_become_139 : decode cX3_become 139 = .ok (.aload_n 0, 1) := by decide +kernel
theorem dX3_become_140 : decode cX3_become 140 = .ok (.getfield 54, 3) := by decide +kernel
theorem dX3_become_143 : decode cX3_become 143 = .ok (.invokestatic 96, 3) := by decide +kernel
theorem dX3_become_146 : decode cX3_become 146 = .ok (.return_, 1) := by decide +kernel
theorem rem_cpy2 {f : Nat → Int32} {j cn : Nat} (hj : j < cn) : ∀ k, k < cn - 1 → va_cpy f f (j + 1) j (cn - 1 - j) k = if k < j then f k else f (k + 1) := by
  intro k hk
  by_cases h1 : k < j
  · rw [if_pos h1, cpy_out (by omega)]
  · rw [if_neg h1, cpy_in (by omega) (by omega)]
    exact congrArg f (by omega)
def own_k_raised : List Cond := [.fieldLink RX3 15 "ClashFree$Layout" "roof" "[I"]
def wp_k_raised : List Cond := .code yX3_raised cX3_raised 2 (some .int) :: (own_k_raised ++ (wsX30 ++ ([] : List Cond)))
set_option maxRecDepth 20000 in
theorem inown_k_raised : ∀ w ∈ own_k_raised, w ∈ lw_tbl := mem_places [195] (by decide +kernel)
set_option maxRecDepth 20000 in
theorem in_k_raised : ∀ w ∈ wp_k_raised, w ∈ lw_tbl := List.forall_mem_cons.mpr ⟨List.mem_of_getElem? (i := 662) (by decide +kernel), List.forall_mem_append.mpr ⟨inown_k_raised, List.forall_mem_append.mpr ⟨lwb_X3, fun _ h => absurd h List.not_mem_nil⟩⟩⟩
set_option maxRecDepth 20000 in
theorem good_k_raised : wp_k_raised.all goodWord = true := by decide +kernel
set_option maxHeartbeats 4000000 in
set_option maxRecDepth 100000 in
theorem k_raised (l : Launch) (D : va_G) (sz : Nat) (ob : Nat → Nat) (cI : ClassId) (nb : Nat) (ka : Nat) (kb : Nat) (sm : Int32) (ln : Nat) (ff : Nat → Int32) (xj : Nat) (hxj : xj < 2048) : Met l yX3_raised wp_k_raised ({ frames := 0, cells := 0, slots := 0, locals := 0 }) (PcRC D [.ref (ob 5), .int (nI xj)] sz [(ob 5, .inr (3, gY ob (nI nb) (nI ka) (nI kb) sm (nI ln))), (ob 7, .inl (cI, 2048, .inl ff))] [(cI, .int)]) (va_Qi (fun (r : Int32) (u : Unit) => True) (fun (_ : Unit) _ => True) (va_A [] sz)) 0 0 (va_A [] sz) := by
  refine Met.ofW (cc := cX3_raised) (maxL := 2) (ret := (some .int)) (by decide) rfl ?_
  intro p e s m args below meth c s₁ B hml hv
  obtain ⟨rfl, hsz, hP, hK, hN⟩ := hv
  have hx := B.exec
  have hb := B.bytes
  have hr := B.returns
  have hts := atoms_spec (ws := wp_k_raised) B.pre
  have hin_X3 : ∀ w ∈ wsX30, w ∈ wp_k_raised := fun _ h => (List.mem_cons_of_mem _ (List.mem_append_right _ (List.mem_append_left _ h)))
  have hown : s.vm.findClass RX3 = some m.cls := findClass_of_methodNamed B.named
  have hlocks := B.notSynchronized
  subst hsz
  generalize hAe : va_A [] s.heap.size = A at ⊢
  have hA : ∀ q : Nat, s.heap.size ≤ q → A q := fun q h => by rw [← hAe]; exact Or.inr h
  have hS : va_S A s.heap s.heap [] := va_S.rf
  have hP : va_P D vwCl [(ob 5, .inr (3, gY ob (nI nb) (nI ka) (nI kb) sm (nI ln))), (ob 7, .inl (cI, 2048, .inl ff))] s.heap := hP
  have hl := lv_entry ([.ref (ob 5), .int (nI xj)]) (n := 2) (Nat.le_of_ble_eq_true rfl)
  rw [lg_entry_eq]
  generalize (lg_sl ([.ref (ob 5), .int (nI xj)]) ++ List.replicate (2 - (lg_sl ([.ref (ob 5), .int (nI xj)])).length) Slot.unset).toArray = ls at hl ⊢
  have hl : lv_has ls 2 [(0, .ref (ob 5)), (1, .int (nI xj))] := hl
  refine lv_aload_n hx hb dX3_raised_0 rfl (lv_at hl 0 rfl) ?_
  refine va_get (D := D) (ci := 3) (v := .ref (ob 7)) (C := RX3) (T := TX3) (N := 13) hx hb hts hin_X3 hown hK hP 0 rfl rfl 6 (by decide) (hts (.fieldLink RX3 15 "ClashFree$Layout" "roof" "[I") (List.mem_of_getElem? (i := 1) rfl)) (fun _ h9 => h9) rfl dX3_raised_1 ?_
  refine lv_iload_n hx hb dX3_raised_4 rfl (lv_at hl 1 rfl) ?_
  refine va_iald hx hb hK hP 1 0 rfl rfl (vp_in_nI (by omega) (by decide)) dX3_raised_5 ?_
  refine lv_topi (fun v1 ev1 => ?_)
  refine lv_if_ne (tgt := 13) hx hb dX3_raised_6 (by decide) (fun hc2 => ?_) (fun hc2 => ?_)
  ·
    refine lv_iconst (v := 2) hx hb dX3_raised_13 (by decide) ?_
    refine lv_aload_n hx hb dX3_raised_14 rfl (lv_at hl 0 rfl) ?_
    refine va_get (D := D) (ci := 3) (v := .ref (ob 7)) (C := RX3) (T := TX3) (N := 13) hx hb hts hin_X3 hown hK hP 0 rfl rfl 6 (by decide) (hts (.fieldLink RX3 15 "ClashFree$Layout" "roof" "[I") (List.mem_of_getElem? (i := 1) rfl)) (fun _ h9 => h9) rfl dX3_raised_15 ?_
    refine lv_iload_n hx hb dX3_raised_18 rfl (lv_at hl 1 rfl) ?_
    refine va_iald hx hb hK hP 1 0 rfl rfl (vp_in_nI (by omega) (by decide)) dX3_raised_19 ?_
    refine lv_topi (fun v3 ev3 => ?_)
    refine lv_imul hx hb dX3_raised_20 ?_
    refine lv_topi (fun v4 ev4 => ?_)
    exact W.iret (v := v4) hx hb hr (fun t ht hW => ⟨⟨v4, (), rfl, trivial, trivial⟩, hS.F ht⟩) hS.2.2 dX3_raised_21
  ·
    refine lv_iconst (v := 2) hx hb dX3_raised_9 (by decide) ?_
    refine lv_goto (tgt := 21) hx hb dX3_raised_10 (by decide) ?_
    exact W.iret (v := 2) hx hb hr (fun t ht hW => ⟨⟨2, (), rfl, trivial, trivial⟩, hS.F ht⟩) hS.2.2 dX3_raised_21

def own_k_raise : List Cond := [.methodLink RX3 89 yX3_raised, .instanceMethod yX3_raised, .selects RX3 yX3_raised yX3_raised, .initialized RX3, .fieldLink RX3 78 "ClashFree$Layout" "sum" "I", .fieldLink RX3 15 "ClashFree$Layout" "roof" "[I"]
def wp_k_raise : List Cond := .code yX3_raise cX3_raise 3 none :: (own_k_raise ++ (wp_k_raised ++ (wsX30 ++ ([] : List Cond))))
set_option maxRecDepth 20000 in
theorem inown_k_raise : ∀ w ∈ own_k_raise, w ∈ lw_tbl := mem_places [682, 660, 661, 109, 188, 195] (by decide +kernel)
set_option maxRecDepth 20000 in
theorem in_k_raise : ∀ w ∈ wp_k_raise, w ∈ lw_tbl := List.forall_mem_cons.mpr ⟨List.mem_of_getElem? (i := 681) (by decide +kernel), List.forall_mem_append.mpr ⟨inown_k_raise, List.forall_mem_append.mpr ⟨in_k_raised, List.forall_mem_append.mpr ⟨lwb_X3, fun _ h => absurd h List.not_mem_nil⟩⟩⟩⟩
set_option maxRecDepth 20000 in
theorem good_k_raise : wp_k_raise.all goodWord = true := by decide +kernel
set_option maxRecDepth 20000 in
theorem g_k_raise_k_raised_89 : GoodIn wp_k_raise (wsV RX3 89 RX3 yX3_raised wp_k_raised) := goodIn_sub (List.forall_mem_append.mpr ⟨List.forall_mem_cons.mpr ⟨(List.mem_of_getElem? (i := 1) rfl), List.forall_mem_cons.mpr ⟨(List.mem_of_getElem? (i := 2) rfl), List.forall_mem_cons.mpr ⟨(List.mem_of_getElem? (i := 3) rfl), List.forall_mem_cons.mpr ⟨(List.mem_of_getElem? (i := 4) rfl), fun _ h => absurd h List.not_mem_nil⟩⟩⟩⟩, (fun _ h => (List.mem_cons_of_mem _ (List.mem_append_right _ (List.mem_append_left _ h))))⟩) (by decide +kernel)
set_option maxHeartbeats 4000000 in
set_option maxRecDepth 100000 in
theorem k_raise (l : Launch) (D : va_G) (sz : Nat) (ob : Nat → Nat) (cI : ClassId) (nb : Nat) (ka : Nat) (kb : Nat) (sm : Int32) (ln : Nat) (ff : Nat → Int32) (xj : Nat) (hxj : xj < 2048) : Met l yX3_raise wp_k_raise ({ frames := 1, cells := 0, slots := 0, locals := 21 }) (PcWC D [.ref (ob 5), .int (nI xj)] sz [(ob 5, .inr (3, gY ob (nI nb) (nI ka) (nI kb) sm (nI ln))), (ob 7, .inl (cI, 2048, .inl ff))] [(cI, .int)]) (va_Qv (fun (u : (Int32) × (Nat → Int32)) => True) (fun (u : (Int32) × (Nat → Int32)) t => va_P D vwCl [(ob 5, .inr (3, gY ob (nI nb) (nI ka) (nI kb) u.1 (nI ln))), (ob 7, .inl (cI, 2048, .inl u.2))] t.heap ∧ va_K D vwCl [(cI, .int)] t ∧ va_D (va_A [(ob 5, .inr (3, gY ob (nI nb) (nI ka) (nI kb) sm (nI ln))), (ob 7, .inl (cI, 2048, .inl ff))] sz) [(ob 5, .inr (3, gY ob (nI nb) (nI ka) (nI kb) u.1 (nI ln))), (ob 7, .inl (cI, 2048, .inl u.2))]) (va_A [(ob 5, .inr (3, gY ob (nI nb) (nI ka) (nI kb) sm (nI ln))), (ob 7, .inl (cI, 2048, .inl ff))] sz)) 0 0 (va_A [(ob 5, .inr (3, gY ob (nI nb) (nI ka) (nI kb) sm (nI ln))), (ob 7, .inl (cI, 2048, .inl ff))] sz) := by
  refine Met.ofW (cc := cX3_raise) (maxL := 3) (ret := none) (by decide) rfl ?_
  intro p e s m args below meth c s₁ B hml hv
  obtain ⟨rfl, hsz, hP, hK, hD0, hN⟩ := hv
  have hx := B.exec
  have hb := B.bytes
  have hr := B.returns
  have hts := atoms_spec (ws := wp_k_raise) B.pre
  have hin_X3 : ∀ w ∈ wsX30, w ∈ wp_k_raise := fun _ h => (List.mem_cons_of_mem _ (List.mem_append_right _ (List.mem_append_right _ (List.mem_append_left _ h))))
  have hown : s.vm.findClass RX3 = some m.cls := findClass_of_methodNamed B.named
  have hlocks := B.notSynchronized
  subst hsz
  have hD := hD0.self (sz := s.heap.size)
  generalize hAe : va_A [(ob 5, .inr (3, gY ob (nI nb) (nI ka) (nI kb) sm (nI ln))), (ob 7, .inl (cI, 2048, .inl ff))] s.heap.size = A at hD ⊢
  have hA : ∀ q : Nat, s.heap.size ≤ q → A q := fun q h => by rw [← hAe]; exact Or.inr h
  have hS : va_S A s.heap s.heap [] := va_S.rf
  have hP : va_P D vwCl [(ob 5, .inr (3, gY ob (nI nb) (nI ka) (nI kb) sm (nI ln))), (ob 7, .inl (cI, 2048, .inl ff))] s.heap := hP
  have hl := lv_entry ([.ref (ob 5), .int (nI xj)]) (n := 3) (Nat.le_of_ble_eq_true rfl)
  rw [lg_entry_eq]
  generalize (lg_sl ([.ref (ob 5), .int (nI xj)]) ++ List.replicate (3 - (lg_sl ([.ref (ob 5), .int (nI xj)])).length) Slot.unset).toArray = ls at hl ⊢
  have hl : lv_has ls 3 [(0, .ref (ob 5)), (1, .int (nI xj))] := hl
  refine lv_aload_n hx hb dX3_raise_0 rfl (lv_at hl 0 rfl) ?_
  refine lv_iload_n hx hb dX3_raise_1 rfl (lv_at hl 1 rfl) ?_
  have hPc := hP.sub (ws' := [(ob 5, .inr (3, gY ob (nI nb) (nI ka) (nI kb) sm (nI ln))), (ob 7, .inl (cI, 2048, .inl ff))]) [0, 1] rfl
  have hKc := hK.sub (tys' := [(cI, .int)]) [0] rfl
  have hFc := va_free0 hS hA
  refine va_calli (va_runV (As := [.int (nI xj)]) (rest := []) ⟨hx, hb, hml, hown, hts⟩ (k_raised l D _ ob cI nb ka kb sm ln ff xj (by first | assumption | omega)) (cwV 1 hts g_k_raise_k_raised_89 rfl rfl rfl (by decide +kernel) ⟨(Nat.le_of_ble_eq_true rfl), (Nat.le_of_ble_eq_true rfl)⟩) (PcRC_V (q0 := 0) hPc hKc hN rfl rfl) rfl rfl hl.1 rfl (lv_room (Nat.le_of_ble_eq_true rfl)) dX3_raise_2 ⟨(Nat.le_of_ble_eq_true rfl), (Nat.le_of_ble_eq_true rfl)⟩) hS (fun q _ h => hFc q h) hFc (fun r1 uu tt H locs htt hvm hw hB hz1 hk1 hS => ?_)
  have hP := va_keep hP hk1
  try dsimp only at hw
  clear hB hz1 hk1 hFc hPc hKc
  refine lv_istore_n (lv' := [(2, .int r1), (0, .ref (ob 5)), (1, .int (nI xj))]) hx hb dX3_raise_5 rfl hl (by decide) rfl (fun ls hl => ?_)
  refine lv_aload_n hx hb dX3_raise_6 rfl (lv_at hl 1 rfl) ?_
  refine lv_dup hx hb dX3_raise_7 rfl ?_
  refine va_get (D := D) (ci := 3) (v := .int sm) (C := RX3) (T := TX3) (N := 13) hx hb hts hin_X3 hown hK hP 0 rfl rfl 3 (by decide) (hts (.fieldLink RX3 78 "ClashFree$Layout" "sum" "I") (List.mem_of_getElem? (i := 5) rfl)) (fun _ h9 => h9) rfl dX3_raise_8 ?_
  refine lv_iload_n hx hb dX3_raise_11 rfl (lv_at hl 0 rfl) ?_
  refine lv_iload_n hx hb dX3_raise_12 rfl (lv_at hl 0 rfl) ?_
  refine lv_imul hx hb dX3_raise_13 ?_
  refine lv_topi (fun v2 ev2 => ?_)
  refine lv_aload_n hx hb dX3_raise_14 rfl (lv_at hl 1 rfl) ?_
  refine va_get (D := D) (ci := 3) (v := .ref (ob 7)) (C := RX3) (T := TX3) (N := 13) hx hb hts hin_X3 hown hK hP 0 rfl rfl 6 (by decide) (hts (.fieldLink RX3 15 "ClashFree$Layout" "roof" "[I") (List.mem_of_getElem? (i := 6) rfl)) (fun _ h9 => h9) rfl dX3_raise_15 ?_
  refine lv_iload_n hx hb dX3_raise_18 rfl (lv_at hl 2 rfl) ?_
  refine va_iald hx hb hK hP 1 0 rfl rfl (vp_in_nI (by omega) (by decide)) dX3_raise_19 ?_
  refine lv_topi (fun v3 ev3 => ?_)
  refine lv_aload_n hx hb dX3_raise_20 rfl (lv_at hl 1 rfl) ?_
  refine va_get (D := D) (ci := 3) (v := .ref (ob 7)) (C := RX3) (T := TX3) (N := 13) hx hb hts hin_X3 hown hK hP 0 rfl rfl 6 (by decide) (hts (.fieldLink RX3 15 "ClashFree$Layout" "roof" "[I") (List.mem_of_getElem? (i := 6) rfl)) (fun _ h9 => h9) rfl dX3_raise_21 ?_
  refine lv_iload_n hx hb dX3_raise_24 rfl (lv_at hl 2 rfl) ?_
  refine va_iald hx hb hK hP 1 0 rfl rfl (vp_in_nI (by omega) (by decide)) dX3_raise_25 ?_
  refine lv_topi (fun v4 ev4 => ?_)
  refine lv_imul hx hb dX3_raise_26 ?_
  refine lv_topi (fun v5 ev5 => ?_)
  refine lv_isub hx hb dX3_raise_27 ?_
  refine lv_topi (fun v6 ev6 => ?_)
  refine lv_iadd hx hb dX3_raise_28 ?_
  refine lv_topi (fun v7 ev7 => ?_)
  refine va_put (D := D) (ci := 3) (v := .int v7) (ty := .int) (C := RX3) (T := TX3) (N := 13) hx hb hts hin_X3 tyX3 tyX3_ok nmX3 hown hK hP hD hS 0 rfl rfl 3 (by decide) (hts (.fieldLink RX3 78 "ClashFree$Layout" "sum" "I") (List.mem_of_getElem? (i := 5) rfl)) (fun _ h9 => h9) rfl (by decide +kernel) rfl rfl (Nat.le_of_ble_eq_true rfl) dX3_raise_29 (fun H locs hP hD hS => ?_)
  have hP : va_P D vwCl [(ob 5, .inr (3, gY ob (nI nb) (nI ka) (nI kb) v7 (nI ln))), (ob 7, .inl (cI, 2048, .inl ff))] H := hP
  have hD : va_D A [(ob 5, .inr (3, gY ob (nI nb) (nI ka) (nI kb) v7 (nI ln))), (ob 7, .inl (cI, 2048, .inl ff))] := hD
  refine lv_aload_n hx hb dX3_raise_32 rfl (lv_at hl 1 rfl) ?_
  refine va_get (D := D) (ci := 3) (v := .ref (ob 7)) (C := RX3) (T := TX3) (N := 13) hx hb hts hin_X3 hown hK hP 0 rfl rfl 6 (by decide) (hts (.fieldLink RX3 15 "ClashFree$Layout" "roof" "[I") (List.mem_of_getElem? (i := 6) rfl)) (fun _ h9 => h9) rfl dX3_raise_33 ?_
  refine lv_iload_n hx hb dX3_raise_36 rfl (lv_at hl 2 rfl) ?_
  refine lv_iload_n hx hb dX3_raise_37 rfl (lv_at hl 0 rfl) ?_
  refine va_iast hx hb hK hP hD hS 1 0 rfl rfl (vp_in_nI (by omega) (by decide)) dX3_raise_38 (fun H locs hP hD hS => ?_)
  have hP : va_P D vwCl [(ob 5, .inr (3, gY ob (nI nb) (nI ka) (nI kb) v7 (nI ln))), (ob 7, .inl (cI, 2048, .inl (upd ff (Int32.toNatClampNeg (nI xj)) r1)))] H := hP
  have hD : va_D A [(ob 5, .inr (3, gY ob (nI nb) (nI ka) (nI kb) v7 (nI ln))), (ob 7, .inl (cI, 2048, .inl (upd ff (Int32.toNatClampNeg (nI xj)) r1)))] := hD
  generalize upd ff (Int32.toNatClampNeg (nI xj)) r1 = g8 at hP hD
  exact W.vret hx hb hr (fun t ht hW => ⟨⟨(v7, g8), rfl, (by (try dsimp only); first | done | exact trivial), by rw [ht]; exact hP.sub [0, 1] rfl, va_K.moved hW.alike (hK.sub [0] rfl), hD.sub [0, 1] (by decide) rfl⟩, hS.F ht⟩) hS.2.2 dX3_raise_39

def own_k_linsert : List Cond := [.fieldLink RX3 54 "ClashFree$Layout" "size" "I", .methodLink RX3 92 yX3_isBucket, .instanceMethod yX3_isBucket, .selects RX3 yX3_isBucket yX3_isBucket, .initialized RX3, .fieldLink RX3 27 "ClashFree$Layout" "home" "[I", .methodLink RX3 96 arraycopyName, .native arraycopyName, .static arraycopyName, .initialized "java/lang/System", .fieldLink RX3 30 "ClashFree$Layout" "lies" "[I", .fieldLink RX3 9 "ClashFree$Layout" "held" "[I"]
def wp_k_linsert : List Cond := .code yX3_insert cX3_insert 3 none :: (own_k_linsert ++ (wp_k_isBucket ++ (wsX30 ++ ([] : List Cond))))
set_option maxRecDepth 20000 in
theorem inown_k_linsert : ∀ w ∈ own_k_linsert, w ∈ lw_tbl := mem_places [189, 668, 648, 649, 109, 202, 669, 671, 670, 119, 203, 191] (by decide +kernel)
set_option maxRecDepth 20000 in
theorem in_k_linsert : ∀ w ∈ wp_k_linsert, w ∈ lw_tbl := List.forall_mem_cons.mpr ⟨List.mem_of_getElem? (i := 667) (by decide +kernel), List.forall_mem_append.mpr ⟨inown_k_linsert, List.forall_mem_append.mpr ⟨in_k_isBucket, List.forall_mem_append.mpr ⟨lwb_X3, fun _ h => absurd h List.not_mem_nil⟩⟩⟩⟩
set_option maxRecDepth 20000 in
theorem good_k_linsert : wp_k_linsert.all goodWord = true := by decide +kernel
set_option maxRecDepth 20000 in
theorem g_k_linsert_k_isBucket_92 : GoodIn wp_k_linsert (wsV RX3 92 RX3 yX3_isBucket wp_k_isBucket) := goodIn_sub (List.forall_mem_append.mpr ⟨List.forall_mem_cons.mpr ⟨(List.mem_of_getElem? (i := 2) rfl), List.forall_mem_cons.mpr ⟨(List.mem_of_getElem? (i := 3) rfl), List.forall_mem_cons.mpr ⟨(List.mem_of_getElem? (i := 4) rfl), List.forall_mem_cons.mpr ⟨(List.mem_of_getElem? (i := 5) rfl), fun _ h => absurd h List.not_mem_nil⟩⟩⟩⟩, (fun _ h => (List.mem_cons_of_mem _ (List.mem_append_right _ (List.mem_append_left _ h))))⟩) (by decide +kernel)
set_option maxHeartbeats 4000000 in
set_option maxRecDepth 100000 in
theorem k_linsert (l : Launch) (D : va_G) (sz : Nat) (ob : Nat → Nat) (cI : ClassId) (nb : Nat) (ka : Nat) (kb : Nat) (sm : Int32) (ln : Nat) (fh : Nat → Int32) (fj : Nat → Int32) (fr : Nat → Int32) (z1 : Int32) (z2 : Int32) (hL : LyH fj fh nb ln) : Met l yX3_insert wp_k_linsert ({ frames := 1, cells := 0, slots := 0, locals := 40 }) (PcWC D [.ref (ob 5), .int z1, .int z2] sz [(ob 5, .inr (3, gY ob (nI nb) (nI ka) (nI kb) sm (nI ln))), (ob 6, .inl (cI, 2048, .inl fh)), (ob 10, .inl (cI, 160, .inl fj)), (ob 11, .inl (cI, 160, .inl fr))] [(cI, .int)]) (va_Qv (fun (u : (Nat) × (Nat → Int32) × (Nat → Int32) × (Nat → Int32)) => LyH u.2.2.1 u.2.1 nb u.1) (fun (u : (Nat) × (Nat → Int32) × (Nat → Int32) × (Nat → Int32)) t => va_P D vwCl [(ob 5, .inr (3, gY ob (nI nb) (nI ka) (nI kb) sm (nI u.1))), (ob 6, .inl (cI, 2048, .inl u.2.1)), (ob 10, .inl (cI, 160, .inl u.2.2.1)), (ob 11, .inl (cI, 160, .inl u.2.2.2))] t.heap ∧ va_K D vwCl [(cI, .int)] t ∧ va_D (va_A [(ob 5, .inr (3, gY ob (nI nb) (nI ka) (nI kb) sm (nI ln))), (ob 6, .inl (cI, 2048, .inl fh)), (ob 10, .inl (cI, 160, .inl fj)), (ob 11, .inl (cI, 160, .inl fr))] sz) [(ob 5, .inr (3, gY ob (nI nb) (nI ka) (nI kb) sm (nI u.1))), (ob 6, .inl (cI, 2048, .inl u.2.1)), (ob 10, .inl (cI, 160, .inl u.2.2.1)), (ob 11, .inl (cI, 160, .inl u.2.2.2))]) (va_A [(ob 5, .inr (3, gY ob (nI nb) (nI ka) (nI kb) sm (nI ln))), (ob 6, .inl (cI, 2048, .inl fh)), (ob 10, .inl (cI, 160, .inl fj)), (ob 11, .inl (cI, 160, .inl fr))] sz)) 0 0 (va_A [(ob 5, .inr (3, gY ob (nI nb) (nI ka) (nI kb) sm (nI ln))), (ob 6, .inl (cI, 2048, .inl fh)), (ob 10, .inl (cI, 160, .inl fj)), (ob 11, .inl (cI, 160, .inl fr))] sz) := by
  refine Met.ofW (cc := cX3_insert) (maxL := 3) (ret := none) (by decide) rfl ?_
  intro p e s m args below meth c s₁ B hml hv
  obtain ⟨rfl, hsz, hP, hK, hD0, hN⟩ := hv
  have hx := B.exec
  have hb := B.bytes
  have hr := B.returns
  have hts := atoms_spec (ws := wp_k_linsert) B.pre
  have hin_X3 : ∀ w ∈ wsX30, w ∈ wp_k_linsert := fun _ h => (List.mem_cons_of_mem _ (List.mem_append_right _ (List.mem_append_right _ (List.mem_append_left _ h))))
  have hown : s.vm.findClass RX3 = some m.cls := findClass_of_methodNamed B.named
  have hlocks := B.notSynchronized
  subst hsz
  have hD := hD0.self (sz := s.heap.size)
  generalize hAe : va_A [(ob 5, .inr (3, gY ob (nI nb) (nI ka) (nI kb) sm (nI ln))), (ob 6, .inl (cI, 2048, .inl fh)), (ob 10, .inl (cI, 160, .inl fj)), (ob 11, .inl (cI, 160, .inl fr))] s.heap.size = A at hD ⊢
  have hA : ∀ q : Nat, s.heap.size ≤ q → A q := fun q h => by rw [← hAe]; exact Or.inr h
  have hS : va_S A s.heap s.heap [] := va_S.rf
  have hP : va_P D vwCl [(ob 5, .inr (3, gY ob (nI nb) (nI ka) (nI kb) sm (nI ln))), (ob 6, .inl (cI, 2048, .inl fh)), (ob 10, .inl (cI, 160, .inl fj)), (ob 11, .inl (cI, 160, .inl fr))] s.heap := hP
  have hl := lv_entry ([.ref (ob 5), .int z1, .int z2]) (n := 3) (Nat.le_of_ble_eq_true rfl)
  rw [lg_entry_eq]
  generalize (lg_sl ([.ref (ob 5), .int z1, .int z2]) ++ List.replicate (3 - (lg_sl ([.ref (ob 5), .int z1, .int z2])).length) Slot.unset).toArray = ls at hl ⊢
  have hl : lv_has ls 3 [(0, .ref (ob 5)), (1, .int z1), (2, .int z2)] := hl
  obtain ⟨hnb, hln, J, hm9⟩ := id hL
  refine lv_iload_n hx hb dX3_insert_0 rfl (lv_at hl 1 rfl) ?_
  refine lv_if_lt (tgt := 30) hx hb dX3_insert_1 (by decide) (fun hc1 => ?_) (fun hc1 => ?_)
  ·
    exact W.vret hx hb hr (fun t ht hW => ⟨⟨(ln, fh, fj, fr), rfl, (by (try dsimp only); first | done | exact hL), by rw [ht]; exact hP.sub [0, 1, 2, 3] rfl, va_K.moved hW.alike (hK.sub [0] rfl), hD.sub [0, 1, 2, 3] (by decide) rfl⟩, hS.F ht⟩) hS.2.2 dX3_insert_30
  ·
    refine lv_iload_n hx hb dX3_insert_4 rfl (lv_at hl 1 rfl) ?_
    refine lv_aload_n hx hb dX3_insert_5 rfl (lv_at hl 0 rfl) ?_
    refine va_get (D := D) (ci := 3) (v := .int (nI ln)) (C := RX3) (T := TX3) (N := 13) hx hb hts hin_X3 hown hK hP 0 rfl rfl 4 (by decide) (hts (.fieldLink RX3 54 "ClashFree$Layout" "size" "I") (List.mem_of_getElem? (i := 1) rfl)) (fun _ h9 => h9) rfl dX3_insert_6 ?_
    refine lv_icmp_gt (tgt := 30) hx hb dX3_insert_9 (by decide) (fun hc2 => ?_) (fun hc2 => ?_)
    ·
      exact W.vret hx hb hr (fun t ht hW => ⟨⟨(ln, fh, fj, fr), rfl, (by (try dsimp only); first | done | exact hL), by rw [ht]; exact hP.sub [0, 1, 2, 3] rfl, va_K.moved hW.alike (hK.sub [0] rfl), hD.sub [0, 1, 2, 3] (by decide) rfl⟩, hS.F ht⟩) hS.2.2 dX3_insert_30
    ·
      obtain ⟨j, hj, rfl⟩ := inz_le (by omega) hc1 (Int32.not_lt.mp hc2)
      refine lv_aload_n hx hb dX3_insert_12 rfl (lv_at hl 0 rfl) ?_
      refine va_get (D := D) (ci := 3) (v := .int (nI ln)) (C := RX3) (T := TX3) (N := 13) hx hb hts hin_X3 hown hK hP 0 rfl rfl 4 (by decide) (hts (.fieldLink RX3 54 "ClashFree$Layout" "size" "I") (List.mem_of_getElem? (i := 1) rfl)) (fun _ h9 => h9) rfl dX3_insert_13 ?_
      refine lv_sipush (v := 160) hx hb dX3_insert_16 (by decide) ?_
      refine lv_icmp_ge (tgt := 30) hx hb dX3_insert_19 (by decide) (fun hc3 => ?_) (fun hc3 => ?_)
      ·
        exact W.vret hx hb hr (fun t ht hW => ⟨⟨(ln, fh, fj, fr), rfl, (by (try dsimp only); first | done | exact hL), by rw [ht]; exact hP.sub [0, 1, 2, 3] rfl, va_K.moved hW.alike (hK.sub [0] rfl), hD.sub [0, 1, 2, 3] (by decide) rfl⟩, hS.F ht⟩) hS.2.2 dX3_insert_30
      ·
        have hlt : ln < 160 := by
          rcases Nat.lt_or_ge ln 160 with z | z
          · exact z
          · exact absurd (nI_le (a := 160) z (by omega)) hc3
        refine lv_aload_n hx hb dX3_insert_22 rfl (lv_at hl 0 rfl) ?_
        refine lv_iload_n hx hb dX3_insert_23 rfl (lv_at hl 2 rfl) ?_
        have hPc := hP.sub (ws' := [(ob 5, .inr (3, gY ob (nI nb) (nI ka) (nI kb) sm (nI ln)))]) [0] rfl
        have hKc := hK.sub (tys' := []) [] rfl
        have hFc := va_free0 hS hA
        refine va_calli (va_runV (As := [.int z2]) (rest := []) ⟨hx, hb, hml, hown, hts⟩ (k_isBucket l D _ ob cI nb ka kb sm ln z2 (by first | assumption | omega)) (cwV 1 hts g_k_linsert_k_isBucket_92 rfl rfl rfl (by decide +kernel) ⟨(Nat.le_of_ble_eq_true rfl), (Nat.le_of_ble_eq_true rfl)⟩) (PcRC_V (q0 := 0) hPc hKc hN rfl rfl) rfl rfl hl.1 rfl (lv_room (Nat.le_of_ble_eq_true rfl)) dX3_insert_24 ⟨(Nat.le_of_ble_eq_true rfl), (Nat.le_of_ble_eq_true rfl)⟩) hS (fun q _ h => hFc q h) hFc (fun r4 uu tt H locs htt hvm hw hB hz1 hk1 hS => ?_)
        have hP := va_keep hP hk1
        try dsimp only at hw
        clear hB hz1 hk1 hFc hPc hKc
        rcases hw with ⟨rfl, hA_r4⟩ | ⟨rfl, hA_r4⟩
        ·
          obtain ⟨xj, hxj, rfl⟩ := hA_r4
          refine lv_if_ne (tgt := 31) hx hb dX3_insert_27 (by decide) (fun hc => ?_) (fun hc => absurd hc (by decide))
          refine lv_aload_n hx hb dX3_insert_31 rfl (lv_at hl 0 rfl) ?_
          refine va_get (D := D) (ci := 3) (v := .ref (ob 10)) (C := RX3) (T := TX3) (N := 13) hx hb hts hin_X3 hown hK hP 0 rfl rfl 9 (by decide) (hts (.fieldLink RX3 27 "ClashFree$Layout" "home" "[I") (List.mem_of_getElem? (i := 6) rfl)) (fun _ h9 => h9) rfl dX3_insert_32 ?_
          refine lv_iload_n hx hb dX3_insert_35 rfl (lv_at hl 1 rfl) ?_
          refine lv_aload_n hx hb dX3_insert_36 rfl (lv_at hl 0 rfl) ?_
          refine va_get (D := D) (ci := 3) (v := .ref (ob 10)) (C := RX3) (T := TX3) (N := 13) hx hb hts hin_X3 hown hK hP 0 rfl rfl 9 (by decide) (hts (.fieldLink RX3 27 "ClashFree$Layout" "home" "[I") (List.mem_of_getElem? (i := 6) rfl)) (fun _ h9 => h9) rfl dX3_insert_37 ?_
          refine lv_iload_n hx hb dX3_insert_40 rfl (lv_at hl 1 rfl) ?_
          refine lv_iconst (v := 1) hx hb dX3_insert_41 (by decide) ?_
          refine lv_iadd hx hb dX3_insert_42 ?_
          refine lv_topi (fun v5 ev5 => ?_)
          obtain rfl : v5 = nI (j + 1) := ev5.trans (nI_1 _)
          refine lv_aload_n hx hb dX3_insert_43 rfl (lv_at hl 0 rfl) ?_
          refine va_get (D := D) (ci := 3) (v := .int (nI ln)) (C := RX3) (T := TX3) (N := 13) hx hb hts hin_X3 hown hK hP 0 rfl rfl 4 (by decide) (hts (.fieldLink RX3 54 "ClashFree$Layout" "size" "I") (List.mem_of_getElem? (i := 1) rfl)) (fun _ h9 => h9) rfl dX3_insert_44 ?_
          refine lv_iload_n hx hb dX3_insert_47 rfl (lv_at hl 1 rfl) ?_
          refine lv_isub hx hb dX3_insert_48 ?_
          refine lv_topi (fun v6 ev6 => ?_)
          obtain rfl : v6 = nI (ln - j) := ev6.trans (pk_sub (by omega))
          refine va_copyi (ty := .int) hx hb (hml.trans hl.1.symm) hown (hts (.methodLink RX3 96 arraycopyName) (List.mem_of_getElem? (i := 7) rfl)) (hts (.native arraycopyName) (List.mem_of_getElem? (i := 8) rfl)) (hts (.static arraycopyName) (List.mem_of_getElem? (i := 9) rfl)) (hts (.initialized "java/lang/System") (List.mem_of_getElem? (i := 10) rfl)) hK hP hD hS 2 2 0 0 rfl rfl rfl rfl rfl (Int32.not_lt.mpr (nI_pos' (by omega))) (Int32.not_lt.mpr (nI_pos' (by omega))) (Int32.not_lt.mpr (nI_pos' (by omega))) (by rw [nI_clamp (n := j) (by omega), nI_clamp (n := (ln - j)) (by omega)]; omega) (by rw [nI_clamp (n := (j + 1)) (by omega), nI_clamp (n := (ln - j)) (by omega)]; omega) (fun _ _ => rfl) (Nat.le_of_ble_eq_true rfl) (Nat.le_of_ble_eq_true rfl) dX3_insert_49 (fun H locs hP hD hS => ?_)
          have hP : va_P D vwCl [(ob 5, .inr (3, gY ob (nI nb) (nI ka) (nI kb) sm (nI ln))), (ob 6, .inl (cI, 2048, .inl fh)), (ob 10, .inl (cI, 160, .inl (va_cpy fj fj (Int32.toNatClampNeg (nI j)) (Int32.toNatClampNeg (nI (j + 1))) (Int32.toNatClampNeg (nI (ln - j)))))), (ob 11, .inl (cI, 160, .inl fr))] H := hP
          have hD : va_D A [(ob 5, .inr (3, gY ob (nI nb) (nI ka) (nI kb) sm (nI ln))), (ob 6, .inl (cI, 2048, .inl fh)), (ob 10, .inl (cI, 160, .inl (va_cpy fj fj (Int32.toNatClampNeg (nI j)) (Int32.toNatClampNeg (nI (j + 1))) (Int32.toNatClampNeg (nI (ln - j)))))), (ob 11, .inl (cI, 160, .inl fr))] := hD
          rw [show (va_cpy fj fj (Int32.toNatClampNeg (nI j)) (Int32.toNatClampNeg (nI (j + 1))) (Int32.toNatClampNeg (nI (ln - j)))) = (va_cpy fj fj j (j + 1) (ln - j)) from by rw [nI_clamp (n := j) (by omega), nI_clamp (n := j + 1) (by omega), nI_clamp (n := ln - j) (by omega)]] at hP hD
          refine lv_aload_n hx hb dX3_insert_52 rfl (lv_at hl 0 rfl) ?_
          refine va_get (D := D) (ci := 3) (v := .ref (ob 11)) (C := RX3) (T := TX3) (N := 13) hx hb hts hin_X3 hown hK hP 0 rfl rfl 10 (by decide) (hts (.fieldLink RX3 30 "ClashFree$Layout" "lies" "[I") (List.mem_of_getElem? (i := 11) rfl)) (fun _ h9 => h9) rfl dX3_insert_53 ?_
          refine lv_iload_n hx hb dX3_insert_56 rfl (lv_at hl 1 rfl) ?_
          refine lv_aload_n hx hb dX3_insert_57 rfl (lv_at hl 0 rfl) ?_
          refine va_get (D := D) (ci := 3) (v := .ref (ob 11)) (C := RX3) (T := TX3) (N := 13) hx hb hts hin_X3 hown hK hP 0 rfl rfl 10 (by decide) (hts (.fieldLink RX3 30 "ClashFree$Layout" "lies" "[I") (List.mem_of_getElem? (i := 11) rfl)) (fun _ h9 => h9) rfl dX3_insert_58 ?_
          refine lv_iload_n hx hb dX3_insert_61 rfl (lv_at hl 1 rfl) ?_
          refine lv_iconst (v := 1) hx hb dX3_insert_62 (by decide) ?_
          refine lv_iadd hx hb dX3_insert_63 ?_
          refine lv_topi (fun v7 ev7 => ?_)
          obtain rfl : v7 = nI (j + 1) := ev7.trans (nI_1 _)
          refine lv_aload_n hx hb dX3_insert_64 rfl (lv_at hl 0 rfl) ?_
          refine va_get (D := D) (ci := 3) (v := .int (nI ln)) (C := RX3) (T := TX3) (N := 13) hx hb hts hin_X3 hown hK hP 0 rfl rfl 4 (by decide) (hts (.fieldLink RX3 54 "ClashFree$Layout" "size" "I") (List.mem_of_getElem? (i := 1) rfl)) (fun _ h9 => h9) rfl dX3_insert_65 ?_
          refine lv_iload_n hx hb dX3_insert_68 rfl (lv_at hl 1 rfl) ?_
          refine lv_isub hx hb dX3_insert_69 ?_
          refine lv_topi (fun v8 ev8 => ?_)
          obtain rfl : v8 = nI (ln - j) := ev8.trans (pk_sub (by omega))
          refine va_copyi (ty := .int) hx hb (hml.trans hl.1.symm) hown (hts (.methodLink RX3 96 arraycopyName) (List.mem_of_getElem? (i := 7) rfl)) (hts (.native arraycopyName) (List.mem_of_getElem? (i := 8) rfl)) (hts (.static arraycopyName) (List.mem_of_getElem? (i := 9) rfl)) (hts (.initialized "java/lang/System") (List.mem_of_getElem? (i := 10) rfl)) hK hP hD hS 3 3 0 0 rfl rfl rfl rfl rfl (Int32.not_lt.mpr (nI_pos' (by omega))) (Int32.not_lt.mpr (nI_pos' (by omega))) (Int32.not_lt.mpr (nI_pos' (by omega))) (by rw [nI_clamp (n := j) (by omega), nI_clamp (n := (ln - j)) (by omega)]; omega) (by rw [nI_clamp (n := (j + 1)) (by omega), nI_clamp (n := (ln - j)) (by omega)]; omega) (fun _ _ => rfl) (Nat.le_of_ble_eq_true rfl) (Nat.le_of_ble_eq_true rfl) dX3_insert_70 (fun H locs hP hD hS => ?_)
          have hP : va_P D vwCl [(ob 5, .inr (3, gY ob (nI nb) (nI ka) (nI kb) sm (nI ln))), (ob 6, .inl (cI, 2048, .inl fh)), (ob 10, .inl (cI, 160, .inl (va_cpy fj fj j (j + 1) (ln - j)))), (ob 11, .inl (cI, 160, .inl (va_cpy fr fr (Int32.toNatClampNeg (nI j)) (Int32.toNatClampNeg (nI (j + 1))) (Int32.toNatClampNeg (nI (ln - j))))))] H := hP
          have hD : va_D A [(ob 5, .inr (3, gY ob (nI nb) (nI ka) (nI kb) sm (nI ln))), (ob 6, .inl (cI, 2048, .inl fh)), (ob 10, .inl (cI, 160, .inl (va_cpy fj fj j (j + 1) (ln - j)))), (ob 11, .inl (cI, 160, .inl (va_cpy fr fr (Int32.toNatClampNeg (nI j)) (Int32.toNatClampNeg (nI (j + 1))) (Int32.toNatClampNeg (nI (ln - j))))))] := hD
          rw [show (va_cpy fr fr (Int32.toNatClampNeg (nI j)) (Int32.toNatClampNeg (nI (j + 1))) (Int32.toNatClampNeg (nI (ln - j)))) = (va_cpy fr fr j (j + 1) (ln - j)) from by rw [nI_clamp (n := j) (by omega), nI_clamp (n := j + 1) (by omega), nI_clamp (n := ln - j) (by omega)]] at hP hD
          refine lv_aload_n hx hb dX3_insert_73 rfl (lv_at hl 0 rfl) ?_
          refine va_get (D := D) (ci := 3) (v := .ref (ob 10)) (C := RX3) (T := TX3) (N := 13) hx hb hts hin_X3 hown hK hP 0 rfl rfl 9 (by decide) (hts (.fieldLink RX3 27 "ClashFree$Layout" "home" "[I") (List.mem_of_getElem? (i := 6) rfl)) (fun _ h9 => h9) rfl dX3_insert_74 ?_
          refine lv_iload_n hx hb dX3_insert_77 rfl (lv_at hl 1 rfl) ?_
          refine lv_iload_n hx hb dX3_insert_78 rfl (lv_at hl 2 rfl) ?_
          refine va_iast hx hb hK hP hD hS 2 0 rfl rfl (vp_in_nI (by omega) (by decide)) dX3_insert_79 (fun H locs hP hD hS => ?_)
          have hP : va_P D vwCl [(ob 5, .inr (3, gY ob (nI nb) (nI ka) (nI kb) sm (nI ln))), (ob 6, .inl (cI, 2048, .inl fh)), (ob 10, .inl (cI, 160, .inl (upd (va_cpy fj fj j (j + 1) (ln - j)) (Int32.toNatClampNeg (nI j)) (nI xj)))), (ob 11, .inl (cI, 160, .inl (va_cpy fr fr j (j + 1) (ln - j))))] H := hP
          have hD : va_D A [(ob 5, .inr (3, gY ob (nI nb) (nI ka) (nI kb) sm (nI ln))), (ob 6, .inl (cI, 2048, .inl fh)), (ob 10, .inl (cI, 160, .inl (upd (va_cpy fj fj j (j + 1) (ln - j)) (Int32.toNatClampNeg (nI j)) (nI xj)))), (ob 11, .inl (cI, 160, .inl (va_cpy fr fr j (j + 1) (ln - j))))] := hD
          rw [show (upd (va_cpy fj fj j (j + 1) (ln - j)) (Int32.toNatClampNeg (nI j)) (nI xj)) = (upd (va_cpy fj fj j (j + 1) (ln - j)) j (nI xj)) from by rw [nI_clamp (by omega)]] at hP hD
          refine lv_aload_n hx hb dX3_insert_80 rfl (lv_at hl 0 rfl) ?_
          refine va_get (D := D) (ci := 3) (v := .ref (ob 11)) (C := RX3) (T := TX3) (N := 13) hx hb hts hin_X3 hown hK hP 0 rfl rfl 10 (by decide) (hts (.fieldLink RX3 30 "ClashFree$Layout" "lies" "[I") (List.mem_of_getElem? (i := 11) rfl)) (fun _ h9 => h9) rfl dX3_insert_81 ?_
          refine lv_iload_n hx hb dX3_insert_84 rfl (lv_at hl 1 rfl) ?_
          refine lv_iconst (v := (-1)) hx hb dX3_insert_85 (by decide) ?_
          refine va_iast hx hb hK hP hD hS 3 0 rfl rfl (vp_in_nI (by omega) (by decide)) dX3_insert_86 (fun H locs hP hD hS => ?_)
          have hP : va_P D vwCl [(ob 5, .inr (3, gY ob (nI nb) (nI ka) (nI kb) sm (nI ln))), (ob 6, .inl (cI, 2048, .inl fh)), (ob 10, .inl (cI, 160, .inl (upd (va_cpy fj fj j (j + 1) (ln - j)) j (nI xj)))), (ob 11, .inl (cI, 160, .inl (upd (va_cpy fr fr j (j + 1) (ln - j)) (Int32.toNatClampNeg (nI j)) (-1))))] H := hP
          have hD : va_D A [(ob 5, .inr (3, gY ob (nI nb) (nI ka) (nI kb) sm (nI ln))), (ob 6, .inl (cI, 2048, .inl fh)), (ob 10, .inl (cI, 160, .inl (upd (va_cpy fj fj j (j + 1) (ln - j)) j (nI xj)))), (ob 11, .inl (cI, 160, .inl (upd (va_cpy fr fr j (j + 1) (ln - j)) (Int32.toNatClampNeg (nI j)) (-1))))] := hD
          generalize upd (va_cpy fr fr j (j + 1) (ln - j)) (Int32.toNatClampNeg (nI j)) (-1) = g9 at hP hD
          refine lv_aload_n hx hb dX3_insert_87 rfl (lv_at hl 0 rfl) ?_
          refine va_get (D := D) (ci := 3) (v := .ref (ob 6)) (C := RX3) (T := TX3) (N := 13) hx hb hts hin_X3 hown hK hP 0 rfl rfl 5 (by decide) (hts (.fieldLink RX3 9 "ClashFree$Layout" "held" "[I") (List.mem_of_getElem? (i := 12) rfl)) (fun _ h9 => h9) rfl dX3_insert_88 ?_
          refine lv_iload_n hx hb dX3_insert_91 rfl (lv_at hl 2 rfl) ?_
          refine lv_dup2_11 hx hb dX3_insert_92 rfl rfl ?_
          refine va_iald hx hb hK hP 1 0 rfl rfl (vp_in_nI (by omega) (by decide)) dX3_insert_93 ?_
          refine lv_topi (fun v10 ev10 => ?_)
          obtain rfl : v10 = nI (cntJ J ln xj) := ev10.trans (by rw [nI_clamp (by omega)]; exact hm9.2 _ (by omega))
          refine lv_iconst (v := 1) hx hb dX3_insert_94 (by decide) ?_
          refine lv_iadd hx hb dX3_insert_95 ?_
          refine lv_topi (fun v11 ev11 => ?_)
          obtain rfl : v11 = nI (cntJ J ln xj + 1) := ev11.trans (nI_1 _)
          refine va_iast hx hb hK hP hD hS 1 0 rfl rfl (vp_in_nI (by omega) (by decide)) dX3_insert_96 (fun H locs hP hD hS => ?_)
          have hP : va_P D vwCl [(ob 5, .inr (3, gY ob (nI nb) (nI ka) (nI kb) sm (nI ln))), (ob 6, .inl (cI, 2048, .inl (upd fh (Int32.toNatClampNeg (nI xj)) (nI (cntJ J ln xj + 1))))), (ob 10, .inl (cI, 160, .inl (upd (va_cpy fj fj j (j + 1) (ln - j)) j (nI xj)))), (ob 11, .inl (cI, 160, .inl g9))] H := hP
          have hD : va_D A [(ob 5, .inr (3, gY ob (nI nb) (nI ka) (nI kb) sm (nI ln))), (ob 6, .inl (cI, 2048, .inl (upd fh (Int32.toNatClampNeg (nI xj)) (nI (cntJ J ln xj + 1))))), (ob 10, .inl (cI, 160, .inl (upd (va_cpy fj fj j (j + 1) (ln - j)) j (nI xj)))), (ob 11, .inl (cI, 160, .inl g9))] := hD
          rw [show (upd fh (Int32.toNatClampNeg (nI xj)) (nI (cntJ J ln xj + 1))) = (upd fh xj (nI (cntJ J ln xj + 1))) from by rw [nI_clamp (by omega)]] at hP hD
          refine lv_aload_n hx hb dX3_insert_97 rfl (lv_at hl 0 rfl) ?_
          refine lv_dup hx hb dX3_insert_98 rfl ?_
          refine va_get (D := D) (ci := 3) (v := .int (nI ln)) (C := RX3) (T := TX3) (N := 13) hx hb hts hin_X3 hown hK hP 0 rfl rfl 4 (by decide) (hts (.fieldLink RX3 54 "ClashFree$Layout" "size" "I") (List.mem_of_getElem? (i := 1) rfl)) (fun _ h9 => h9) rfl dX3_insert_99 ?_
          refine lv_iconst (v := 1) hx hb dX3_insert_102 (by decide) ?_
          refine lv_iadd hx hb dX3_insert_103 ?_
          refine lv_topi (fun v12 ev12 => ?_)
          obtain rfl : v12 = nI (ln + 1) := ev12.trans (nI_1 _)
          refine va_put (D := D) (ci := 3) (v := .int (nI (ln + 1))) (ty := .int) (C := RX3) (T := TX3) (N := 13) hx hb hts hin_X3 tyX3 tyX3_ok nmX3 hown hK hP hD hS 0 rfl rfl 4 (by decide) (hts (.fieldLink RX3 54 "ClashFree$Layout" "size" "I") (List.mem_of_getElem? (i := 1) rfl)) (fun _ h9 => h9) rfl (by decide +kernel) rfl rfl (Nat.le_of_ble_eq_true rfl) dX3_insert_104 (fun H locs hP hD hS => ?_)
          have hP : va_P D vwCl [(ob 5, .inr (3, gY ob (nI nb) (nI ka) (nI kb) sm (nI (ln + 1)))), (ob 6, .inl (cI, 2048, .inl (upd fh xj (nI (cntJ J ln xj + 1))))), (ob 10, .inl (cI, 160, .inl (upd (va_cpy fj fj j (j + 1) (ln - j)) j (nI xj)))), (ob 11, .inl (cI, 160, .inl g9))] H := hP
          have hD : va_D A [(ob 5, .inr (3, gY ob (nI nb) (nI ka) (nI kb) sm (nI (ln + 1)))), (ob 6, .inl (cI, 2048, .inl (upd fh xj (nI (cntJ J ln xj + 1))))), (ob 10, .inl (cI, 160, .inl (upd (va_cpy fj fj j (j + 1) (ln - j)) j (nI xj)))), (ob 11, .inl (cI, 160, .inl g9))] := hD
          exact W.vret hx hb hr (fun t ht hW => ⟨⟨((ln + 1), (upd fh xj (nI (cntJ J ln xj + 1))), (upd (va_cpy fj fj j (j + 1) (ln - j)) j (nI xj)), g9), rfl, (by (try dsimp only); first | done | exact ⟨hnb, by omega, _, Hm_ins hm9 hj hxj hnb (ins_cpy hj)⟩), by rw [ht]; exact hP.sub [0, 1, 2, 3] rfl, va_K.moved hW.alike (hK.sub [0] rfl), hD.sub [0, 1, 2, 3] (by decide) rfl⟩, hS.F ht⟩) hS.2.2 dX3_insert_107
        ·
          refine lv_if_ne (tgt := 31) hx hb dX3_insert_27 (by decide) (fun hc => absurd (by decide) hc) (fun hc => ?_)
          exact W.vret hx hb hr (fun t ht hW => ⟨⟨(ln, fh, fj, fr), rfl, (by (try dsimp only); first | done | exact hL), by rw [ht]; exact hP.sub [0, 1, 2, 3] rfl, va_K.moved hW.alike (hK.sub [0] rfl), hD.sub [0, 1, 2, 3] (by decide) rfl⟩, hS.F ht⟩) hS.2.2 dX3_insert_30

def own_k_lremove : List Cond := [.fieldLink RX3 54 "ClashFree$Layout" "size" "I", .fieldLink RX3 9 "ClashFree$Layout" "held" "[I", .fieldLink RX3 27 "ClashFree$Layout" "home" "[I", .methodLink RX3 96 arraycopyName, .native arraycopyName, .static arraycopyName, .initialized "java/lang/System", .fieldLink RX3 30 "ClashFree$Layout" "lies" "[I"]
def wp_k_lremove : List Cond := .code yX3_remove cX3_remove 2 none :: (own_k_lremove ++ (wsX30 ++ ([] : List Cond)))
set_option maxRecDepth 20000 in
theorem inown_k_lremove : ∀ w ∈ own_k_lremove, w ∈ lw_tbl := mem_places [189, 191, 202, 669, 671, 670, 119, 203] (by decide +kernel)
set_option maxRecDepth 20000 in
theorem in_k_lremove : ∀ w ∈ wp_k_lremove, w ∈ lw_tbl := List.forall_mem_cons.mpr ⟨List.mem_of_getElem? (i := 708) (by decide +kernel), List.forall_mem_append.mpr ⟨inown_k_lremove, List.forall_mem_append.mpr ⟨lwb_X3, fun _ h => absurd h List.not_mem_nil⟩⟩⟩
set_option maxRecDepth 20000 in
theorem good_k_lremove : wp_k_lremove.all goodWord = true := by decide +kernel
set_option maxHeartbeats 4000000 in
set_option maxRecDepth 100000 in
theorem k_lremove (l : Launch) (D : va_G) (sz : Nat) (ob : Nat → Nat) (cI : ClassId) (nb : Nat) (ka : Nat) (kb : Nat) (sm : Int32) (ln : Nat) (fh : Nat → Int32) (fj : Nat → Int32) (fr : Nat → Int32) (z1 : Int32) (hL : LyH fj fh nb ln) : Met l yX3_remove wp_k_lremove ({ frames := 1, cells := 0, slots := 0, locals := 40 }) (PcWC D [.ref (ob 5), .int z1] sz [(ob 5, .inr (3, gY ob (nI nb) (nI ka) (nI kb) sm (nI ln))), (ob 6, .inl (cI, 2048, .inl fh)), (ob 10, .inl (cI, 160, .inl fj)), (ob 11, .inl (cI, 160, .inl fr))] [(cI, .int)]) (va_Qv (fun (u : (Nat) × (Nat → Int32) × (Nat → Int32) × (Nat → Int32)) => LyH u.2.2.1 u.2.1 nb u.1) (fun (u : (Nat) × (Nat → Int32) × (Nat → Int32) × (Nat → Int32)) t => va_P D vwCl [(ob 5, .inr (3, gY ob (nI nb) (nI ka) (nI kb) sm (nI u.1))), (ob 6, .inl (cI, 2048, .inl u.2.1)), (ob 10, .inl (cI, 160, .inl u.2.2.1)), (ob 11, .inl (cI, 160, .inl u.2.2.2))] t.heap ∧ va_K D vwCl [(cI, .int)] t ∧ va_D (va_A [(ob 5, .inr (3, gY ob (nI nb) (nI ka) (nI kb) sm (nI ln))), (ob 6, .inl (cI, 2048, .inl fh)), (ob 10, .inl (cI, 160, .inl fj)), (ob 11, .inl (cI, 160, .inl fr))] sz) [(ob 5, .inr (3, gY ob (nI nb) (nI ka) (nI kb) sm (nI u.1))), (ob 6, .inl (cI, 2048, .inl u.2.1)), (ob 10, .inl (cI, 160, .inl u.2.2.1)), (ob 11, .inl (cI, 160, .inl u.2.2.2))]) (va_A [(ob 5, .inr (3, gY ob (nI nb) (nI ka) (nI kb) sm (nI ln))), (ob 6, .inl (cI, 2048, .inl fh)), (ob 10, .inl (cI, 160, .inl fj)), (ob 11, .inl (cI, 160, .inl fr))] sz)) 0 0 (va_A [(ob 5, .inr (3, gY ob (nI nb) (nI ka) (nI kb) sm (nI ln))), (ob 6, .inl (cI, 2048, .inl fh)), (ob 10, .inl (cI, 160, .inl fj)), (ob 11, .inl (cI, 160, .inl fr))] sz) := by
  refine Met.ofW (cc := cX3_remove) (maxL := 2) (ret := none) (by decide) rfl ?_
  intro p e s m args below meth c s₁ B hml hv
  obtain ⟨rfl, hsz, hP, hK, hD0, hN⟩ := hv
  have hx := B.exec
  have hb := B.bytes
  have hr := B.returns
  have hts := atoms_spec (ws := wp_k_lremove) B.pre
  have hin_X3 : ∀ w ∈ wsX30, w ∈ wp_k_lremove := fun _ h => (List.mem_cons_of_mem _ (List.mem_append_right _ (List.mem_append_left _ h)))
  have hown : s.vm.findClass RX3 = some m.cls := findClass_of_methodNamed B.named
  have hlocks := B.notSynchronized
  subst hsz
  have hD := hD0.self (sz := s.heap.size)
  generalize hAe : va_A [(ob 5, .inr (3, gY ob (nI nb) (nI ka) (nI kb) sm (nI ln))), (ob 6, .inl (cI, 2048, .inl fh)), (ob 10, .inl (cI, 160, .inl fj)), (ob 11, .inl (cI, 160, .inl fr))] s.heap.size = A at hD ⊢
  have hA : ∀ q : Nat, s.heap.size ≤ q → A q := fun q h => by rw [← hAe]; exact Or.inr h
  have hS : va_S A s.heap s.heap [] := va_S.rf
  have hP : va_P D vwCl [(ob 5, .inr (3, gY ob (nI nb) (nI ka) (nI kb) sm (nI ln))), (ob 6, .inl (cI, 2048, .inl fh)), (ob 10, .inl (cI, 160, .inl fj)), (ob 11, .inl (cI, 160, .inl fr))] s.heap := hP
  have hl := lv_entry ([.ref (ob 5), .int z1]) (n := 2) (Nat.le_of_ble_eq_true rfl)
  rw [lg_entry_eq]
  generalize (lg_sl ([.ref (ob 5), .int z1]) ++ List.replicate (2 - (lg_sl ([.ref (ob 5), .int z1])).length) Slot.unset).toArray = ls at hl ⊢
  have hl : lv_has ls 2 [(0, .ref (ob 5)), (1, .int z1)] := hl
  obtain ⟨hnb, hln, J, hm9⟩ := id hL
  refine lv_iload_n hx hb dX3_remove_0 rfl (lv_at hl 1 rfl) ?_
  refine lv_if_lt (tgt := 12) hx hb dX3_remove_1 (by decide) (fun hc1 => ?_) (fun hc1 => ?_)
  ·
    exact W.vret hx hb hr (fun t ht hW => ⟨⟨(ln, fh, fj, fr), rfl, (by (try dsimp only); first | done | exact hL), by rw [ht]; exact hP.sub [0, 1, 2, 3] rfl, va_K.moved hW.alike (hK.sub [0] rfl), hD.sub [0, 1, 2, 3] (by decide) rfl⟩, hS.F ht⟩) hS.2.2 dX3_remove_12
  ·
    refine lv_iload_n hx hb dX3_remove_4 rfl (lv_at hl 1 rfl) ?_
    refine lv_aload_n hx hb dX3_remove_5 rfl (lv_at hl 0 rfl) ?_
    refine va_get (D := D) (ci := 3) (v := .int (nI ln)) (C := RX3) (T := TX3) (N := 13) hx hb hts hin_X3 hown hK hP 0 rfl rfl 4 (by decide) (hts (.fieldLink RX3 54 "ClashFree$Layout" "size" "I") (List.mem_of_getElem? (i := 1) rfl)) (fun _ h9 => h9) rfl dX3_remove_6 ?_
    refine lv_icmp_lt (tgt := 13) hx hb dX3_remove_9 (by decide) (fun hc2 => ?_) (fun hc2 => ?_)
    ·
      obtain ⟨j, hj, rfl⟩ := inz (by omega) hc1 (hc2)
      have hJ9 := hm9.1 j hj
      have hJ8 := hJ9.2
      have hcp := cnt_pos (J := J) _ hj
      refine lv_aload_n hx hb dX3_remove_13 rfl (lv_at hl 0 rfl) ?_
      refine va_get (D := D) (ci := 3) (v := .ref (ob 6)) (C := RX3) (T := TX3) (N := 13) hx hb hts hin_X3 hown hK hP 0 rfl rfl 5 (by decide) (hts (.fieldLink RX3 9 "ClashFree$Layout" "held" "[I") (List.mem_of_getElem? (i := 2) rfl)) (fun _ h9 => h9) rfl dX3_remove_14 ?_
      refine lv_aload_n hx hb dX3_remove_17 rfl (lv_at hl 0 rfl) ?_
      refine va_get (D := D) (ci := 3) (v := .ref (ob 10)) (C := RX3) (T := TX3) (N := 13) hx hb hts hin_X3 hown hK hP 0 rfl rfl 9 (by decide) (hts (.fieldLink RX3 27 "ClashFree$Layout" "home" "[I") (List.mem_of_getElem? (i := 3) rfl)) (fun _ h9 => h9) rfl dX3_remove_18 ?_
      refine lv_iload_n hx hb dX3_remove_21 rfl (lv_at hl 1 rfl) ?_
      refine va_iald hx hb hK hP 2 0 rfl rfl (vp_in_nI (by omega) (by decide)) dX3_remove_22 ?_
      refine lv_topi (fun v3 ev3 => ?_)
      obtain rfl : v3 = nI (J j) := ev3.trans (by rw [nI_clamp (by omega)]; exact hJ9.1)
      refine lv_dup2_11 hx hb dX3_remove_23 rfl rfl ?_
      refine va_iald hx hb hK hP 1 0 rfl rfl (vp_in_nI (by omega) (by decide)) dX3_remove_24 ?_
      refine lv_topi (fun v4 ev4 => ?_)
      obtain rfl : v4 = nI (cntJ J ln (J j)) := ev4.trans (by rw [nI_clamp (by omega)]; exact hm9.2 _ (by omega))
      refine lv_iconst (v := 1) hx hb dX3_remove_25 (by decide) ?_
      refine lv_isub hx hb dX3_remove_26 ?_
      refine lv_topi (fun v5 ev5 => ?_)
      obtain rfl : v5 = nI (cntJ J ln (J j) - 1) := ev5.trans (pk_sub (b := 1) (by omega))
      refine va_iast hx hb hK hP hD hS 1 0 rfl rfl (vp_in_nI (by omega) (by decide)) dX3_remove_27 (fun H locs hP hD hS => ?_)
      have hP : va_P D vwCl [(ob 5, .inr (3, gY ob (nI nb) (nI ka) (nI kb) sm (nI ln))), (ob 6, .inl (cI, 2048, .inl (upd fh (Int32.toNatClampNeg (nI (J j))) (nI (cntJ J ln (J j) - 1))))), (ob 10, .inl (cI, 160, .inl fj)), (ob 11, .inl (cI, 160, .inl fr))] H := hP
      have hD : va_D A [(ob 5, .inr (3, gY ob (nI nb) (nI ka) (nI kb) sm (nI ln))), (ob 6, .inl (cI, 2048, .inl (upd fh (Int32.toNatClampNeg (nI (J j))) (nI (cntJ J ln (J j) - 1))))), (ob 10, .inl (cI, 160, .inl fj)), (ob 11, .inl (cI, 160, .inl fr))] := hD
      rw [show (upd fh (Int32.toNatClampNeg (nI (J j))) (nI (cntJ J ln (J j) - 1))) = (upd fh (J j) (nI (cntJ J ln (J j) - 1))) from by rw [nI_clamp (by omega)]] at hP hD
      refine lv_aload_n hx hb dX3_remove_28 rfl (lv_at hl 0 rfl) ?_
      refine lv_dup hx hb dX3_remove_29 rfl ?_
      refine va_get (D := D) (ci := 3) (v := .int (nI ln)) (C := RX3) (T := TX3) (N := 13) hx hb hts hin_X3 hown hK hP 0 rfl rfl 4 (by decide) (hts (.fieldLink RX3 54 "ClashFree$Layout" "size" "I") (List.mem_of_getElem? (i := 1) rfl)) (fun _ h9 => h9) rfl dX3_remove_30 ?_
      refine lv_iconst (v := 1) hx hb dX3_remove_33 (by decide) ?_
      refine lv_isub hx hb dX3_remove_34 ?_
      refine lv_topi (fun v6 ev6 => ?_)
      obtain rfl : v6 = nI (ln - 1) := ev6.trans (pk_sub (b := 1) (by omega))
      refine va_put (D := D) (ci := 3) (v := .int (nI (ln - 1))) (ty := .int) (C := RX3) (T := TX3) (N := 13) hx hb hts hin_X3 tyX3 tyX3_ok nmX3 hown hK hP hD hS 0 rfl rfl 4 (by decide) (hts (.fieldLink RX3 54 "ClashFree$Layout" "size" "I") (List.mem_of_getElem? (i := 1) rfl)) (fun _ h9 => h9) rfl (by decide +kernel) rfl rfl (Nat.le_of_ble_eq_true rfl) dX3_remove_35 (fun H locs hP hD hS => ?_)
      have hP : va_P D vwCl [(ob 5, .inr (3, gY ob (nI nb) (nI ka) (nI kb) sm (nI (ln - 1)))), (ob 6, .inl (cI, 2048, .inl (upd fh (J j) (nI (cntJ J ln (J j) - 1))))), (ob 10, .inl (cI, 160, .inl fj)), (ob 11, .inl (cI, 160, .inl fr))] H := hP
      have hD : va_D A [(ob 5, .inr (3, gY ob (nI nb) (nI ka) (nI kb) sm (nI (ln - 1)))), (ob 6, .inl (cI, 2048, .inl (upd fh (J j) (nI (cntJ J ln (J j) - 1))))), (ob 10, .inl (cI, 160, .inl fj)), (ob 11, .inl (cI, 160, .inl fr))] := hD
      refine lv_aload_n hx hb dX3_remove_38 rfl (lv_at hl 0 rfl) ?_
      refine va_get (D := D) (ci := 3) (v := .ref (ob 10)) (C := RX3) (T := TX3) (N := 13) hx hb hts hin_X3 hown hK hP 0 rfl rfl 9 (by decide) (hts (.fieldLink RX3 27 "ClashFree$Layout" "home" "[I") (List.mem_of_getElem? (i := 3) rfl)) (fun _ h9 => h9) rfl dX3_remove_39 ?_
      refine lv_iload_n hx hb dX3_remove_42 rfl (lv_at hl 1 rfl) ?_
      refine lv_iconst (v := 1) hx hb dX3_remove_43 (by decide) ?_
      refine lv_iadd hx hb dX3_remove_44 ?_
      refine lv_topi (fun v7 ev7 => ?_)
      obtain rfl : v7 = nI (j + 1) := ev7.trans (nI_1 _)
      refine lv_aload_n hx hb dX3_remove_45 rfl (lv_at hl 0 rfl) ?_
      refine va_get (D := D) (ci := 3) (v := .ref (ob 10)) (C := RX3) (T := TX3) (N := 13) hx hb hts hin_X3 hown hK hP 0 rfl rfl 9 (by decide) (hts (.fieldLink RX3 27 "ClashFree$Layout" "home" "[I") (List.mem_of_getElem? (i := 3) rfl)) (fun _ h9 => h9) rfl dX3_remove_46 ?_
      refine lv_iload_n hx hb dX3_remove_49 rfl (lv_at hl 1 rfl) ?_
      refine lv_aload_n hx hb dX3_remove_50 rfl (lv_at hl 0 rfl) ?_
      refine va_get (D := D) (ci := 3) (v := .int (nI (ln - 1))) (C := RX3) (T := TX3) (N := 13) hx hb hts hin_X3 hown hK hP 0 rfl rfl 4 (by decide) (hts (.fieldLink RX3 54 "ClashFree$Layout" "size" "I") (List.mem_of_getElem? (i := 1) rfl)) (fun _ h9 => h9) rfl dX3_remove_51 ?_
      refine lv_iload_n hx hb dX3_remove_54 rfl (lv_at hl 1 rfl) ?_
      refine lv_isub hx hb dX3_remove_55 ?_
      refine lv_topi (fun v8 ev8 => ?_)
      obtain rfl : v8 = nI (ln - 1 - j) := ev8.trans (pk_sub (by omega))
      refine va_copyi (ty := .int) hx hb (hml.trans hl.1.symm) hown (hts (.methodLink RX3 96 arraycopyName) (List.mem_of_getElem? (i := 4) rfl)) (hts (.native arraycopyName) (List.mem_of_getElem? (i := 5) rfl)) (hts (.static arraycopyName) (List.mem_of_getElem? (i := 6) rfl)) (hts (.initialized "java/lang/System") (List.mem_of_getElem? (i := 7) rfl)) hK hP hD hS 2 2 0 0 rfl rfl rfl rfl rfl (Int32.not_lt.mpr (nI_pos' (by omega))) (Int32.not_lt.mpr (nI_pos' (by omega))) (Int32.not_lt.mpr (nI_pos' (by omega))) (by rw [nI_clamp (n := (j + 1)) (by omega), nI_clamp (n := (ln - 1 - j)) (by omega)]; omega) (by rw [nI_clamp (n := j) (by omega), nI_clamp (n := (ln - 1 - j)) (by omega)]; omega) (fun _ _ => rfl) (Nat.le_of_ble_eq_true rfl) (Nat.le_of_ble_eq_true rfl) dX3_remove_56 (fun H locs hP hD hS => ?_)
      have hP : va_P D vwCl [(ob 5, .inr (3, gY ob (nI nb) (nI ka) (nI kb) sm (nI (ln - 1)))), (ob 6, .inl (cI, 2048, .inl (upd fh (J j) (nI (cntJ J ln (J j) - 1))))), (ob 10, .inl (cI, 160, .inl (va_cpy fj fj (Int32.toNatClampNeg (nI (j + 1))) (Int32.toNatClampNeg (nI j)) (Int32.toNatClampNeg (nI (ln - 1 - j)))))), (ob 11, .inl (cI, 160, .inl fr))] H := hP
      have hD : va_D A [(ob 5, .inr (3, gY ob (nI nb) (nI ka) (nI kb) sm (nI (ln - 1)))), (ob 6, .inl (cI, 2048, .inl (upd fh (J j) (nI (cntJ J ln (J j) - 1))))), (ob 10, .inl (cI, 160, .inl (va_cpy fj fj (Int32.toNatClampNeg (nI (j + 1))) (Int32.toNatClampNeg (nI j)) (Int32.toNatClampNeg (nI (ln - 1 - j)))))), (ob 11, .inl (cI, 160, .inl fr))] := hD
      rw [show (va_cpy fj fj (Int32.toNatClampNeg (nI (j + 1))) (Int32.toNatClampNeg (nI j)) (Int32.toNatClampNeg (nI (ln - 1 - j)))) = (va_cpy fj fj (j + 1) j (ln - 1 - j)) from by rw [nI_clamp (n := j) (by omega), nI_clamp (n := j + 1) (by omega), nI_clamp (n := ln - 1 - j) (by omega)]] at hP hD
      refine lv_aload_n hx hb dX3_remove_59 rfl (lv_at hl 0 rfl) ?_
      refine va_get (D := D) (ci := 3) (v := .ref (ob 11)) (C := RX3) (T := TX3) (N := 13) hx hb hts hin_X3 hown hK hP 0 rfl rfl 10 (by decide) (hts (.fieldLink RX3 30 "ClashFree$Layout" "lies" "[I") (List.mem_of_getElem? (i := 8) rfl)) (fun _ h9 => h9) rfl dX3_remove_60 ?_
      refine lv_iload_n hx hb dX3_remove_63 rfl (lv_at hl 1 rfl) ?_
      refine lv_iconst (v := 1) hx hb dX3_remove_64 (by decide) ?_
      refine lv_iadd hx hb dX3_remove_65 ?_
      refine lv_topi (fun v9 ev9 => ?_)
      obtain rfl : v9 = nI (j + 1) := ev9.trans (nI_1 _)
      refine lv_aload_n hx hb dX3_remove_66 rfl (lv_at hl 0 rfl) ?_
      refine va_get (D := D) (ci := 3) (v := .ref (ob 11)) (C := RX3) (T := TX3) (N := 13) hx hb hts hin_X3 hown hK hP 0 rfl rfl 10 (by decide) (hts (.fieldLink RX3 30 "ClashFree$Layout" "lies" "[I") (List.mem_of_getElem? (i := 8) rfl)) (fun _ h9 => h9) rfl dX3_remove_67 ?_
      refine lv_iload_n hx hb dX3_remove_70 rfl (lv_at hl 1 rfl) ?_
      refine lv_aload_n hx hb dX3_remove_71 rfl (lv_at hl 0 rfl) ?_
      refine va_get (D := D) (ci := 3) (v := .int (nI (ln - 1))) (C := RX3) (T := TX3) (N := 13) hx hb hts hin_X3 hown hK hP 0 rfl rfl 4 (by decide) (hts (.fieldLink RX3 54 "ClashFree$Layout" "size" "I") (List.mem_of_getElem? (i := 1) rfl)) (fun _ h9 => h9) rfl dX3_remove_72 ?_
      refine lv_iload_n hx hb dX3_remove_75 rfl (lv_at hl 1 rfl) ?_
      refine lv_isub hx hb dX3_remove_76 ?_
      refine lv_topi (fun v10 ev10 => ?_)
      obtain rfl : v10 = nI (ln - 1 - j) := ev10.trans (pk_sub (by omega))
      refine va_copyi (ty := .int) hx hb (hml.trans hl.1.symm) hown (hts (.methodLink RX3 96 arraycopyName) (List.mem_of_getElem? (i := 4) rfl)) (hts (.native arraycopyName) (List.mem_of_getElem? (i := 5) rfl)) (hts (.static arraycopyName) (List.mem_of_getElem? (i := 6) rfl)) (hts (.initialized "java/lang/System") (List.mem_of_getElem? (i := 7) rfl)) hK hP hD hS 3 3 0 0 rfl rfl rfl rfl rfl (Int32.not_lt.mpr (nI_pos' (by omega))) (Int32.not_lt.mpr (nI_pos' (by omega))) (Int32.not_lt.mpr (nI_pos' (by omega))) (by rw [nI_clamp (n := (j + 1)) (by omega), nI_clamp (n := (ln - 1 - j)) (by omega)]; omega) (by rw [nI_clamp (n := j) (by omega), nI_clamp (n := (ln - 1 - j)) (by omega)]; omega) (fun _ _ => rfl) (Nat.le_of_ble_eq_true rfl) (Nat.le_of_ble_eq_true rfl) dX3_remove_77 (fun H locs hP hD hS => ?_)
      have hP : va_P D vwCl [(ob 5, .inr (3, gY ob (nI nb) (nI ka) (nI kb) sm (nI (ln - 1)))), (ob 6, .inl (cI, 2048, .inl (upd fh (J j) (nI (cntJ J ln (J j) - 1))))), (ob 10, .inl (cI, 160, .inl (va_cpy fj fj (j + 1) j (ln - 1 - j)))), (ob 11, .inl (cI, 160, .inl (va_cpy fr fr (Int32.toNatClampNeg (nI (j + 1))) (Int32.toNatClampNeg (nI j)) (Int32.toNatClampNeg (nI (ln - 1 - j))))))] H := hP
      have hD : va_D A [(ob 5, .inr (3, gY ob (nI nb) (nI ka) (nI kb) sm (nI (ln - 1)))), (ob 6, .inl (cI, 2048, .inl (upd fh (J j) (nI (cntJ J ln (J j) - 1))))), (ob 10, .inl (cI, 160, .inl (va_cpy fj fj (j + 1) j (ln - 1 - j)))), (ob 11, .inl (cI, 160, .inl (va_cpy fr fr (Int32.toNatClampNeg (nI (j + 1))) (Int32.toNatClampNeg (nI j)) (Int32.toNatClampNeg (nI (ln - 1 - j))))))] := hD
      rw [show (va_cpy fr fr (Int32.toNatClampNeg (nI (j + 1))) (Int32.toNatClampNeg (nI j)) (Int32.toNatClampNeg (nI (ln - 1 - j)))) = (va_cpy fr fr (j + 1) j (ln - 1 - j)) from by rw [nI_clamp (n := j) (by omega), nI_clamp (n := j + 1) (by omega), nI_clamp (n := ln - 1 - j) (by omega)]] at hP hD
      exact W.vret hx hb hr (fun t ht hW => ⟨⟨((ln - 1), (upd fh (J j) (nI (cntJ J ln (J j) - 1))), (va_cpy fj fj (j + 1) j (ln - 1 - j)), (va_cpy fr fr (j + 1) j (ln - 1 - j))), rfl, (by (try dsimp only); first | done | exact ⟨hnb, by omega, _, Hm_del hm9 hj (rem_cpy2 hj)⟩), by rw [ht]; exact hP.sub [0, 1, 2, 3] rfl, va_K.moved hW.alike (hK.sub [0] rfl), hD.sub [0, 1, 2, 3] (by decide) rfl⟩, hS.F ht⟩) hS.2.2 dX3_remove_80
    ·
      exact W.vret hx hb hr (fun t ht hW => ⟨⟨(ln, fh, fj, fr), rfl, (by (try dsimp only); first | done | exact hL), by rw [ht]; exact hP.sub [0, 1, 2, 3] rfl, va_K.moved hW.alike (hK.sub [0] rfl), hD.sub [0, 1, 2, 3] (by decide) rfl⟩, hS.F ht⟩) hS.2.2 dX3_remove_12

def own_k_roomOfAll : List Cond := [.fieldLink RX3 27 "ClashFree$Layout" "home" "[I", .fieldLink RX3 15 "ClashFree$Layout" "roof" "[I", .fieldLink RX3 54 "ClashFree$Layout" "size" "I", .fieldLink RX3 30 "ClashFree$Layout" "lies" "[I"]
def wp_k_roomOfAll : List Cond := .code yX3_roomOfAll cX3_roomOfAll 4 (some .int) :: (own_k_roomOfAll ++ (wsX30 ++ ([] : List Cond)))
set_option maxRecDepth 20000 in
theorem inown_k_roomOfAll : ∀ w ∈ own_k_roomOfAll, w ∈ lw_tbl := mem_places [202, 195, 189, 203] (by decide +kernel)
set_option maxRecDepth 20000 in
theorem in_k_roomOfAll : ∀ w ∈ wp_k_roomOfAll, w ∈ lw_tbl := List.forall_mem_cons.mpr ⟨List.mem_of_getElem? (i := 872) (by decide +kernel), List.forall_mem_append.mpr ⟨inown_k_roomOfAll, List.forall_mem_append.mpr ⟨lwb_X3, fun _ h => absurd h List.not_mem_nil⟩⟩⟩
set_option maxRecDepth 20000 in
theorem good_k_roomOfAll : wp_k_roomOfAll.all goodWord = true := by decide +kernel
set_option maxHeartbeats 4000000 in
set_option maxRecDepth 100000 in
theorem lk_roa (l : Launch) {p : Program} {e : Env} {s : State} {m : MethodId} {args : Array Value} {below : List Frame} {meth : Method} {c : Code} {Q : State → Prop} {A : Nat → Prop} (D : va_G) (ob : Nat → Nat) (cI : ClassId) (nb : Nat) (ka : Nat) (kb : Nat) (sm : Int32) (ln : Nat) (fh : Nat → Int32) (ff : Nat → Int32) (fj : Nat → Int32) (fr : Nat → Int32) (j : Nat) (J : Nat → Nat) (hnb : nb ≤ 2048) (hln : ln ≤ 160) (hj : j < ln) (hJ9 : fj j = nI (J j) ∧ J j < nb) (hx : p.tables.exec = Jvm.exec) (hb : c.code = cX3_roomOfAll) (hml : c.maxLocals = 4) (hown : s.vm.findClass RX3 = some m.cls) (hts : ∀ w ∈ wp_k_roomOfAll, w.before args s = true) (hA : ∀ q, s.heap.size ≤ q → A q) (hK : va_K D vwCl [(cI, .int)] s) (hN : NC s) (kx55 : ∀ (y : Nat), ∀ (su : Int32), (y ≤ J j) → ∀ (H : Heap) (locs : List Loc) (ls : Array Slot), va_P D vwCl [(ob 5, .inr (3, gY ob (nI nb) (nI ka) (nI kb) sm (nI ln))), (ob 6, .inl (cI, 2048, .inl fh)), (ob 7, .inl (cI, 2048, .inl ff)), (ob 10, .inl (cI, 160, .inl fj)), (ob 11, .inl (cI, 160, .inl fr))] H → va_S A s.heap H locs → lv_has ls 4 [(2, .int su)] → W p l e ({ frames := 0, cells := 0, slots := 0, locals := 0 }) s m args below meth c H locs 0 0 Q (F0 m 55 ls [])) : ∀ (N : Nat), ∀ (y : Nat), ∀ (su : Int32), (y ≤ J j) → J j - y < N → ∀ (H : Heap) (locs : List Loc) (ls : Array Slot), va_P D vwCl [(ob 5, .inr (3, gY ob (nI nb) (nI ka) (nI kb) sm (nI ln))), (ob 6, .inl (cI, 2048, .inl fh)), (ob 7, .inl (cI, 2048, .inl ff)), (ob 10, .inl (cI, 160, .inl fj)), (ob 11, .inl (cI, 160, .inl fr))] H → va_S A s.heap H locs → lv_has ls 4 [(3, .int (nI y)), (2, .int su), (0, .ref (ob 5)), (1, .int (nI j))] → W p l e ({ frames := 0, cells := 0, slots := 0, locals := 0 }) s m args below meth c H locs 0 0 Q (F0 m 23 ls []) := by
  have hin_X3 : ∀ w ∈ wsX30, w ∈ wp_k_roomOfAll := fun _ h => (List.mem_cons_of_mem _ (List.mem_append_right _ (List.mem_append_left _ h)))
  intro N
  induction N with
  | zero =>
    intro y su hy1 hm
    exact absurd hm (Nat.not_lt_zero _)
  | succ N ih =>
    intro y su hy1 hm H locs ls hP hS hl
    have hJ8 := hJ9.2
    refine lv_iload_n hx hb dX3_roomOfAll_23 rfl (lv_at hl 0 rfl) ?_
    refine lv_aload_n hx hb dX3_roomOfAll_24 rfl (lv_at hl 2 rfl) ?_
    refine va_get (D := D) (ci := 3) (v := .ref (ob 10)) (C := RX3) (T := TX3) (N := 13) hx hb hts hin_X3 hown hK hP 0 rfl rfl 9 (by decide) (hts (.fieldLink RX3 27 "ClashFree$Layout" "home" "[I") (List.mem_of_getElem? (i := 1) rfl)) (fun _ h9 => h9) rfl dX3_roomOfAll_25 ?_
    refine lv_iload_n hx hb dX3_roomOfAll_28 rfl (lv_at hl 3 rfl) ?_
    refine va_iald hx hb hK hP 3 0 rfl rfl (vp_in_nI (by omega) (by decide)) dX3_roomOfAll_29 ?_
    refine lv_topi (fun v1 ev1 => ?_)
    obtain rfl : v1 = nI (J j) := ev1.trans (by rw [nI_clamp (by omega)]; exact hJ9.1)
    refine lv_icmp_ge (tgt := 55) hx hb dX3_roomOfAll_30 (by decide) (fun hc2 => ?_) (fun hc2 => ?_)
    ·
      have hlt : J j ≤ y := (nI_leI (by omega) (by omega)).mp hc2
      exact kx55 y su (hy1) H locs ls (hP.sub [0, 1, 2, 3, 4] rfl) hS (lv_sub hl [1] rfl)
    ·
      have hlt : y < J j := by
        rcases Nat.lt_or_ge y (J j) with z | z
        · exact z
        · exact absurd (nI_le z (by omega)) hc2
      refine lv_iload_n hx hb dX3_roomOfAll_33 rfl (lv_at hl 1 rfl) ?_
      refine lv_aload_n hx hb dX3_roomOfAll_34 rfl (lv_at hl 2 rfl) ?_
      refine va_get (D := D) (ci := 3) (v := .ref (ob 7)) (C := RX3) (T := TX3) (N := 13) hx hb hts hin_X3 hown hK hP 0 rfl rfl 6 (by decide) (hts (.fieldLink RX3 15 "ClashFree$Layout" "roof" "[I") (List.mem_of_getElem? (i := 2) rfl)) (fun _ h9 => h9) rfl dX3_roomOfAll_35 ?_
      refine lv_iload_n hx hb dX3_roomOfAll_38 rfl (lv_at hl 0 rfl) ?_
      refine va_iald hx hb hK hP 2 0 rfl rfl (vp_in_nI (by omega) (by decide)) dX3_roomOfAll_39 ?_
      refine lv_topi (fun v3 ev3 => ?_)
      refine lv_aload_n hx hb dX3_roomOfAll_40 rfl (lv_at hl 2 rfl) ?_
      refine va_get (D := D) (ci := 3) (v := .ref (ob 7)) (C := RX3) (T := TX3) (N := 13) hx hb hts hin_X3 hown hK hP 0 rfl rfl 6 (by decide) (hts (.fieldLink RX3 15 "ClashFree$Layout" "roof" "[I") (List.mem_of_getElem? (i := 2) rfl)) (fun _ h9 => h9) rfl dX3_roomOfAll_41 ?_
      refine lv_iload_n hx hb dX3_roomOfAll_44 rfl (lv_at hl 0 rfl) ?_
      refine va_iald hx hb hK hP 2 0 rfl rfl (vp_in_nI (by omega) (by decide)) dX3_roomOfAll_45 ?_
      refine lv_topi (fun v4 ev4 => ?_)
      refine lv_imul hx hb dX3_roomOfAll_46 ?_
      refine lv_topi (fun v5 ev5 => ?_)
      refine lv_iadd hx hb dX3_roomOfAll_47 ?_
      refine lv_topi (fun v6 ev6 => ?_)
      refine lv_istore_n (lv' := [(2, .int v6), (3, .int (nI y)), (0, .ref (ob 5)), (1, .int (nI j))]) hx hb dX3_roomOfAll_48 rfl hl (by decide) rfl (fun ls hl => ?_)
      refine lv_iinc (v := nI (y + 1)) (lv' := [(3, .int (nI (y + 1))), (2, .int v6), (0, .ref (ob 5)), (1, .int (nI j))]) hx hb dX3_roomOfAll_49 hl (k := 1) rfl (nI_1 _) (by decide) rfl (fun ls hl => ?_)
      refine lv_goto (tgt := 23) hx hb dX3_roomOfAll_52 (by decide) ?_
      exact ih (y + 1) v6 (by omega) (by omega) H locs ls (hP.sub [0, 1, 2, 3, 4] rfl) hS (lv_sub hl [0, 1, 2, 3] rfl)
set_option maxHeartbeats 4000000 in
set_option maxRecDepth 100000 in
theorem k_roomOfAll (l : Launch) (D : va_G) (sz : Nat) (ob : Nat → Nat) (cI : ClassId) (nb : Nat) (ka : Nat) (kb : Nat) (sm : Int32) (ln : Nat) (fh : Nat → Int32) (ff : Nat → Int32) (fj : Nat → Int32) (fr : Nat → Int32) (z1 : Int32) (hL : LyH fj fh nb ln) : Met l yX3_roomOfAll wp_k_roomOfAll ({ frames := 0, cells := 0, slots := 0, locals := 0 }) (PcRC D [.ref (ob 5), .int z1] sz [(ob 5, .inr (3, gY ob (nI nb) (nI ka) (nI kb) sm (nI ln))), (ob 6, .inl (cI, 2048, .inl fh)), (ob 7, .inl (cI, 2048, .inl ff)), (ob 10, .inl (cI, 160, .inl fj)), (ob 11, .inl (cI, 160, .inl fr))] [(cI, .int)]) (va_Qi (fun (r : Int32) (u : Unit) => True) (fun (_ : Unit) _ => True) (va_A [] sz)) 0 0 (va_A [] sz) := by
  refine Met.ofW (cc := cX3_roomOfAll) (maxL := 4) (ret := (some .int)) (by decide) rfl ?_
  intro p e s m args below meth c s₁ B hml hv
  obtain ⟨rfl, hsz, hP, hK, hN⟩ := hv
  have hx := B.exec
  have hb := B.bytes
  have hr := B.returns
  have hts := atoms_spec (ws := wp_k_roomOfAll) B.pre
  have hin_X3 : ∀ w ∈ wsX30, w ∈ wp_k_roomOfAll := fun _ h => (List.mem_cons_of_mem _ (List.mem_append_right _ (List.mem_append_left _ h)))
  have hown : s.vm.findClass RX3 = some m.cls := findClass_of_methodNamed B.named
  have hlocks := B.notSynchronized
  subst hsz
  generalize hAe : va_A [] s.heap.size = A at ⊢
  have hA : ∀ q : Nat, s.heap.size ≤ q → A q := fun q h => by rw [← hAe]; exact Or.inr h
  have hS : va_S A s.heap s.heap [] := va_S.rf
  have hP : va_P D vwCl [(ob 5, .inr (3, gY ob (nI nb) (nI ka) (nI kb) sm (nI ln))), (ob 6, .inl (cI, 2048, .inl fh)), (ob 7, .inl (cI, 2048, .inl ff)), (ob 10, .inl (cI, 160, .inl fj)), (ob 11, .inl (cI, 160, .inl fr))] s.heap := hP
  have hl := lv_entry ([.ref (ob 5), .int z1]) (n := 4) (Nat.le_of_ble_eq_true rfl)
  rw [lg_entry_eq]
  generalize (lg_sl ([.ref (ob 5), .int z1]) ++ List.replicate (4 - (lg_sl ([.ref (ob 5), .int z1])).length) Slot.unset).toArray = ls at hl ⊢
  have hl : lv_has ls 4 [(0, .ref (ob 5)), (1, .int z1)] := hl
  obtain ⟨hnb, hln, J, hm9⟩ := id hL
  refine lv_iload_n hx hb dX3_roomOfAll_0 rfl (lv_at hl 1 rfl) ?_
  refine lv_if_lt (tgt := 12) hx hb dX3_roomOfAll_1 (by decide) (fun hc1 => ?_) (fun hc1 => ?_)
  ·
    refine lv_iconst (v := (-1)) hx hb dX3_roomOfAll_12 (by decide) ?_
    exact W.iret (v := (-1)) hx hb hr (fun t ht hW => ⟨⟨(-1), (), rfl, trivial, trivial⟩, hS.F ht⟩) hS.2.2 dX3_roomOfAll_13
  ·
    refine lv_iload_n hx hb dX3_roomOfAll_4 rfl (lv_at hl 1 rfl) ?_
    refine lv_aload_n hx hb dX3_roomOfAll_5 rfl (lv_at hl 0 rfl) ?_
    refine va_get (D := D) (ci := 3) (v := .int (nI ln)) (C := RX3) (T := TX3) (N := 13) hx hb hts hin_X3 hown hK hP 0 rfl rfl 4 (by decide) (hts (.fieldLink RX3 54 "ClashFree$Layout" "size" "I") (List.mem_of_getElem? (i := 3) rfl)) (fun _ h9 => h9) rfl dX3_roomOfAll_6 ?_
    refine lv_icmp_lt (tgt := 14) hx hb dX3_roomOfAll_9 (by decide) (fun hc2 => ?_) (fun hc2 => ?_)
    ·
      obtain ⟨j, hj, rfl⟩ := inz (by omega) hc1 (hc2)
      refine lv_aload_n hx hb dX3_roomOfAll_14 rfl (lv_at hl 0 rfl) ?_
      refine va_get (D := D) (ci := 3) (v := .ref (ob 11)) (C := RX3) (T := TX3) (N := 13) hx hb hts hin_X3 hown hK hP 0 rfl rfl 10 (by decide) (hts (.fieldLink RX3 30 "ClashFree$Layout" "lies" "[I") (List.mem_of_getElem? (i := 4) rfl)) (fun _ h9 => h9) rfl dX3_roomOfAll_15 ?_
      refine lv_iload_n hx hb dX3_roomOfAll_18 rfl (lv_at hl 1 rfl) ?_
      refine va_iald hx hb hK hP 4 0 rfl rfl (vp_in_nI (by omega) (by decide)) dX3_roomOfAll_19 ?_
      refine lv_topi (fun v3 ev3 => ?_)
      refine lv_istore_n (lv' := [(2, .int v3), (0, .ref (ob 5)), (1, .int (nI j))]) hx hb dX3_roomOfAll_20 rfl hl (by decide) rfl (fun ls hl => ?_)
      refine lv_iconst (v := 0) hx hb dX3_roomOfAll_21 (by decide) ?_
      refine lv_istore_n (lv' := [(3, .int 0), (2, .int v3), (0, .ref (ob 5)), (1, .int (nI j))]) hx hb dX3_roomOfAll_22 rfl hl (by decide) rfl (fun ls hl => ?_)
      refine lk_roa l D ob cI nb ka kb sm ln fh ff fj fr j J (hnb) (hln) (hj) (hm9.1 j hj) hx hb hml hown hts hA (hK.sub [0] rfl) hN ?_ (J j + 1) 0 v3 (Nat.zero_le _) (by omega) _ _ _ (hP.sub [0, 1, 2, 3, 4] rfl) hS (lv_sub hl [0, 1, 2, 3] rfl)
      intro y_4 su_5 hy1_6 H locs ls hP hS hl
      refine lv_iload_n hx hb dX3_roomOfAll_55 rfl (lv_at hl 0 rfl) ?_
      exact W.iret (v := su_5) hx hb hr (fun t ht hW => ⟨⟨su_5, (), rfl, trivial, trivial⟩, hS.F ht⟩) hS.2.2 dX3_roomOfAll_56
    ·
      refine lv_iconst (v := (-1)) hx hb dX3_roomOfAll_12 (by decide) ?_
      exact W.iret (v := (-1)) hx hb hr (fun t ht hW => ⟨⟨(-1), (), rfl, trivial, trivial⟩, hS.F ht⟩) hS.2.2 dX3_roomOfAll_13

def own_k_lbecome : List Cond := [.methodLink RX3 60 yX3_sweep, .instanceMethod yX3_sweep, .selects RX3 yX3_sweep yX3_sweep, .initialized RX3, .fieldLink RX3 36 "ClashFree$Layout" "buckets" "I", .fieldLink RX3 40 "ClashFree$Layout" "a" "I", .fieldLink RX3 43 "ClashFree$Layout" "b" "I", .fieldLink RX3 78 "ClashFree$Layout" "sum" "I", .fieldLink RX3 54 "ClashFree$Layout" "size" "I", .fieldLink RX3 9 "ClashFree$Layout" "held" "[I", .methodLink RX3 96 arraycopyName, .native arraycopyName, .static arraycopyName, .initialized "java/lang/System", .fieldLink RX3 15 "ClashFree$Layout" "roof" "[I", .fieldLink RX3 18 "ClashFree$Layout" "pairA" "[I", .fieldLink RX3 21 "ClashFree$Layout" "pairB" "[I", .fieldLink RX3 27 "ClashFree$Layout" "home" "[I", .fieldLink RX3 30 "ClashFree$Layout" "lies" "[I"]
def wp_k_lbecome : List Cond := .code yX3_become cX3_become 2 none :: (own_k_lbecome ++ (wp_k_sweep ++ (wsX30 ++ ([] : List Cond))))
set_option maxRecDepth 20000 in
theorem inown_k_lbecome : ∀ w ∈ own_k_lbecome, w ∈ lw_tbl := mem_places [575, 577, 1, 109, 178, 182, 184, 188, 189, 191, 669, 671, 670, 119, 195, 198, 200, 202, 203] (by decide +kernel)
set_option maxRecDepth 20000 in
theorem in_k_lbecome : ∀ w ∈ wp_k_lbecome, w ∈ lw_tbl := List.forall_mem_cons.mpr ⟨List.mem_of_getElem? (i := 1197) (by decide +kernel), List.forall_mem_append.mpr ⟨inown_k_lbecome, List.forall_mem_append.mpr ⟨in_k_sweep, List.forall_mem_append.mpr ⟨lwb_X3, fun _ h => absurd h List.not_mem_nil⟩⟩⟩⟩
set_option maxRecDepth 20000 in
theorem good_k_lbecome : wp_k_lbecome.all goodWord = true := by decide +kernel
set_option maxRecDepth 20000 in
theorem g_k_lbecome_k_sweep_60 : GoodIn wp_k_lbecome (wsV RX3 60 RX3 yX3_sweep wp_k_sweep) := goodIn_sub (List.forall_mem_append.mpr ⟨List.forall_mem_cons.mpr ⟨(List.mem_of_getElem? (i := 1) rfl), List.forall_mem_cons.mpr ⟨(List.mem_of_getElem? (i := 2) rfl), List.forall_mem_cons.mpr ⟨(List.mem_of_getElem? (i := 3) rfl), List.forall_mem_cons.mpr ⟨(List.mem_of_getElem? (i := 4) rfl), fun _ h => absurd h List.not_mem_nil⟩⟩⟩⟩, (fun _ h => (List.mem_cons_of_mem _ (List.mem_append_right _ (List.mem_append_left _ h))))⟩) (by decide +kernel)
set_option maxHeartbeats 4000000 in
set_option maxRecDepth 100000 in
theorem k_lbecome (l : Launch) (D : va_G) (sz : Nat) (ob : Nat → Nat) (ob2 : Nat → Nat) (cI : ClassId) (nb : Nat) (ka : Nat) (kb : Nat) (sm : Int32) (ln : Nat) (fh : Nat → Int32) (ff : Nat → Int32) (fa : Nat → Int32) (fs : Nat → Int32) (fj : Nat → Int32) (fr : Nat → Int32) (nb2 : Nat) (ka2 : Nat) (kb2 : Nat) (sm2 : Int32) (ln2 : Nat) (fh2 : Nat → Int32) (ff2 : Nat → Int32) (fa2 : Nat → Int32) (fs2 : Nat → Int32) (fj2 : Nat → Int32) (fr2 : Nat → Int32) (hL : LyH fj fh nb ln) (hL2 : LyH fj2 fh2 nb2 ln2) : Met l yX3_become wp_k_lbecome ({ frames := 1, cells := 0, slots := 0, locals := 40 }) (PcWC D [.ref (ob 5), .ref (ob2 5)] sz [(ob 5, .inr (3, gY ob (nI nb) (nI ka) (nI kb) sm (nI ln))), (ob 6, .inl (cI, 2048, .inl fh)), (ob 7, .inl (cI, 2048, .inl ff)), (ob 8, .inl (cI, 2048, .inl fa)), (ob 9, .inl (cI, 2048, .inl fs)), (ob 10, .inl (cI, 160, .inl fj)), (ob 11, .inl (cI, 160, .inl fr)), (ob2 5, .inr (3, gY ob2 (nI nb2) (nI ka2) (nI kb2) sm2 (nI ln2))), (ob2 6, .inl (cI, 2048, .inl fh2)), (ob2 7, .inl (cI, 2048, .inl ff2)), (ob2 8, .inl (cI, 2048, .inl fa2)), (ob2 9, .inl (cI, 2048, .inl fs2)), (ob2 10, .inl (cI, 160, .inl fj2)), (ob2 11, .inl (cI, 160, .inl fr2))] [(cI, .int)]) (va_Qv (fun (u : (Nat) × (Nat) × (Nat) × (Int32) × (Nat) × (Nat → Int32) × (Nat → Int32) × (Nat → Int32) × (Nat → Int32) × (Nat → Int32) × (Nat → Int32)) => LyH u.2.2.2.2.2.2.2.2.2.1 u.2.2.2.2.2.1 u.1 u.2.2.2.2.1 ∧ u.1 = nb2 ∧ u.2.1 = ka2 ∧ u.2.2.1 = kb2) (fun (u : (Nat) × (Nat) × (Nat) × (Int32) × (Nat) × (Nat → Int32) × (Nat → Int32) × (Nat → Int32) × (Nat → Int32) × (Nat → Int32) × (Nat → Int32)) t => va_P D vwCl [(ob 5, .inr (3, gY ob (nI u.1) (nI u.2.1) (nI u.2.2.1) u.2.2.2.1 (nI u.2.2.2.2.1))), (ob 6, .inl (cI, 2048, .inl u.2.2.2.2.2.1)), (ob 7, .inl (cI, 2048, .inl u.2.2.2.2.2.2.1)), (ob 8, .inl (cI, 2048, .inl u.2.2.2.2.2.2.2.1)), (ob 9, .inl (cI, 2048, .inl u.2.2.2.2.2.2.2.2.1)), (ob 10, .inl (cI, 160, .inl u.2.2.2.2.2.2.2.2.2.1)), (ob 11, .inl (cI, 160, .inl u.2.2.2.2.2.2.2.2.2.2)), (ob2 5, .inr (3, gY ob2 (nI nb2) (nI ka2) (nI kb2) sm2 (nI ln2))), (ob2 6, .inl (cI, 2048, .inl fh2)), (ob2 7, .inl (cI, 2048, .inl ff2)), (ob2 8, .inl (cI, 2048, .inl fa2)), (ob2 9, .inl (cI, 2048, .inl fs2)), (ob2 10, .inl (cI, 160, .inl fj2)), (ob2 11, .inl (cI, 160, .inl fr2))] t.heap ∧ va_K D vwCl [(cI, .int)] t ∧ va_D (va_A [(ob 5, .inr (3, gY ob (nI nb) (nI ka) (nI kb) sm (nI ln))), (ob 6, .inl (cI, 2048, .inl fh)), (ob 7, .inl (cI, 2048, .inl ff)), (ob 8, .inl (cI, 2048, .inl fa)), (ob 9, .inl (cI, 2048, .inl fs)), (ob 10, .inl (cI, 160, .inl fj)), (ob 11, .inl (cI, 160, .inl fr)), (ob2 5, .inr (3, gY ob2 (nI nb2) (nI ka2) (nI kb2) sm2 (nI ln2))), (ob2 6, .inl (cI, 2048, .inl fh2)), (ob2 7, .inl (cI, 2048, .inl ff2)), (ob2 8, .inl (cI, 2048, .inl fa2)), (ob2 9, .inl (cI, 2048, .inl fs2)), (ob2 10, .inl (cI, 160, .inl fj2)), (ob2 11, .inl (cI, 160, .inl fr2))] sz) [(ob 5, .inr (3, gY ob (nI u.1) (nI u.2.1) (nI u.2.2.1) u.2.2.2.1 (nI u.2.2.2.2.1))), (ob 6, .inl (cI, 2048, .inl u.2.2.2.2.2.1)), (ob 7, .inl (cI, 2048, .inl u.2.2.2.2.2.2.1)), (ob 8, .inl (cI, 2048, .inl u.2.2.2.2.2.2.2.1)), (ob 9, .inl (cI, 2048, .inl u.2.2.2.2.2.2.2.2.1)), (ob 10, .inl (cI, 160, .inl u.2.2.2.2.2.2.2.2.2.1)), (ob 11, .inl (cI, 160, .inl u.2.2.2.2.2.2.2.2.2.2)), (ob2 5, .inr (3, gY ob2 (nI nb2) (nI ka2) (nI kb2) sm2 (nI ln2))), (ob2 6, .inl (cI, 2048, .inl fh2)), (ob2 7, .inl (cI, 2048, .inl ff2)), (ob2 8, .inl (cI, 2048, .inl fa2)), (ob2 9, .inl (cI, 2048, .inl fs2)), (ob2 10, .inl (cI, 160, .inl fj2)), (ob2 11, .inl (cI, 160, .inl fr2))]) (va_A [(ob 5, .inr (3, gY ob (nI nb) (nI ka) (nI kb) sm (nI ln))), (ob 6, .inl (cI, 2048, .inl fh)), (ob 7, .inl (cI, 2048, .inl ff)), (ob 8, .inl (cI, 2048, .inl fa)), (ob 9, .inl (cI, 2048, .inl fs)), (ob 10, .inl (cI, 160, .inl fj)), (ob 11, .inl (cI, 160, .inl fr)), (ob2 5, .inr (3, gY ob2 (nI nb2) (nI ka2) (nI kb2) sm2 (nI ln2))), (ob2 6, .inl (cI, 2048, .inl fh2)), (ob2 7, .inl (cI, 2048, .inl ff2)), (ob2 8, .inl (cI, 2048, .inl fa2)), (ob2 9, .inl (cI, 2048, .inl fs2)), (ob2 10, .inl (cI, 160, .inl fj2)), (ob2 11, .inl (cI, 160, .inl fr2))] sz)) 0 0 (va_A [(ob 5, .inr (3, gY ob (nI nb) (nI ka) (nI kb) sm (nI ln))), (ob 6, .inl (cI, 2048, .inl fh)), (ob 7, .inl (cI, 2048, .inl ff)), (ob 8, .inl (cI, 2048, .inl fa)), (ob 9, .inl (cI, 2048, .inl fs)), (ob 10, .inl (cI, 160, .inl fj)), (ob 11, .inl (cI, 160, .inl fr)), (ob2 5, .inr (3, gY ob2 (nI nb2) (nI ka2) (nI kb2) sm2 (nI ln2))), (ob2 6, .inl (cI, 2048, .inl fh2)), (ob2 7, .inl (cI, 2048, .inl ff2)), (ob2 8, .inl (cI, 2048, .inl fa2)), (ob2 9, .inl (cI, 2048, .inl fs2)), (ob2 10, .inl (cI, 160, .inl fj2)), (ob2 11, .inl (cI, 160, .inl fr2))] sz) := by
  refine Met.ofW (cc := cX3_become) (maxL := 2) (ret := none) (by decide) rfl ?_
  intro p e s m args below meth c s₁ B hml hv
  obtain ⟨rfl, hsz, hP, hK, hD0, hN⟩ := hv
  have hx := B.exec
  have hb := B.bytes
  have hr := B.returns
  have hts := atoms_spec (ws := wp_k_lbecome) B.pre
  have hin_X3 : ∀ w ∈ wsX30, w ∈ wp_k_lbecome := fun _ h => (List.mem_cons_of_mem _ (List.mem_append_right _ (List.mem_append_right _ (List.mem_append_left _ h))))
  have hown : s.vm.findClass RX3 = some m.cls := findClass_of_methodNamed B.named
  have hlocks := B.notSynchronized
  subst hsz
  have hD := hD0.self (sz := s.heap.size)
  generalize hAe : va_A [(ob 5, .inr (3, gY ob (nI nb) (nI ka) (nI kb) sm (nI ln))), (ob 6, .inl (cI, 2048, .inl fh)), (ob 7, .inl (cI, 2048, .inl ff)), (ob 8, .inl (cI, 2048, .inl fa)), (ob 9, .inl (cI, 2048, .inl fs)), (ob 10, .inl (cI, 160, .inl fj)), (ob 11, .inl (cI, 160, .inl fr)), (ob2 5, .inr (3, gY ob2 (nI nb2) (nI ka2) (nI kb2) sm2 (nI ln2))), (ob2 6, .inl (cI, 2048, .inl fh2)), (ob2 7, .inl (cI, 2048, .inl ff2)), (ob2 8, .inl (cI, 2048, .inl fa2)), (ob2 9, .inl (cI, 2048, .inl fs2)), (ob2 10, .inl (cI, 160, .inl fj2)), (ob2 11, .inl (cI, 160, .inl fr2))] s.heap.size = A at hD ⊢
  have hA : ∀ q : Nat, s.heap.size ≤ q → A q := fun q h => by rw [← hAe]; exact Or.inr h
  have hS : va_S A s.heap s.heap [] := va_S.rf
  have hP : va_P D vwCl [(ob 5, .inr (3, gY ob (nI nb) (nI ka) (nI kb) sm (nI ln))), (ob 6, .inl (cI, 2048, .inl fh)), (ob 7, .inl (cI, 2048, .inl ff)), (ob 8, .inl (cI, 2048, .inl fa)), (ob 9, .inl (cI, 2048, .inl fs)), (ob 10, .inl (cI, 160, .inl fj)), (ob 11, .inl (cI, 160, .inl fr)), (ob2 5, .inr (3, gY ob2 (nI nb2) (nI ka2) (nI kb2) sm2 (nI ln2))), (ob2 6, .inl (cI, 2048, .inl fh2)), (ob2 7, .inl (cI, 2048, .inl ff2)), (ob2 8, .inl (cI, 2048, .inl fa2)), (ob2 9, .inl (cI, 2048, .inl fs2)), (ob2 10, .inl (cI, 160, .inl fj2)), (ob2 11, .inl (cI, 160, .inl fr2))] s.heap := hP
  have hl := lv_entry ([.ref (ob 5), .ref (ob2 5)]) (n := 2) (Nat.le_of_ble_eq_true rfl)
  rw [lg_entry_eq]
  generalize (lg_sl ([.ref (ob 5), .ref (ob2 5)]) ++ List.replicate (2 - (lg_sl ([.ref (ob 5), .ref (ob2 5)])).length) Slot.unset).toArray = ls at hl ⊢
  have hl : lv_has ls 2 [(0, .ref (ob 5)), (1, .ref (ob2 5))] := hl
  obtain ⟨hnb2, hln2, J2, hm2⟩ := id hL2
  refine lv_aload_n hx hb dX3_become_0 rfl (lv_at hl 0 rfl) ?_
  have hPc := hP.sub (ws' := [(ob 5, .inr (3, gY ob (nI nb) (nI ka) (nI kb) sm (nI ln))), (ob 6, .inl (cI, 2048, .inl fh)), (ob 10, .inl (cI, 160, .inl fj))]) [0, 1, 5] rfl
  have hKc := hK.sub (tys' := [(cI, .int)]) [0] rfl
  have hDc := hD.sub (ws' := [(ob 5, .inr (3, gY ob (nI nb) (nI ka) (nI kb) sm (nI ln))), (ob 6, .inl (cI, 2048, .inl fh)), (ob 10, .inl (cI, 160, .inl fj))]) [0, 1, 5] (by decide) rfl
  have hFc := va_free (wc := [(ob 5, .inr (3, gY ob (nI nb) (nI ka) (nI kb) sm (nI ln))), (ob 6, .inl (cI, 2048, .inl fh)), (ob 10, .inl (cI, 160, .inl fj))]) hD hS hA [0, 1, 5] rfl
  refine va_callv (va_runV (As := []) (rest := []) ⟨hx, hb, hml, hown, hts⟩ (k_sweep l D _ ob cI nb ka kb sm ln fh fj hL) (cwV 0 hts g_k_lbecome_k_sweep_60 rfl rfl rfl (by decide +kernel) ⟨(Nat.le_of_ble_eq_true rfl), (Nat.le_of_ble_eq_true rfl)⟩) (PcWC_V (q0 := 0) hPc hKc hDc hN rfl rfl) rfl rfl hl.1 rfl (lv_room (Nat.le_of_ble_eq_true rfl)) dX3_become_1 ⟨(Nat.le_of_ble_eq_true rfl), (Nat.le_of_ble_eq_true rfl)⟩) hS (fun q _ h => hFc q h) hFc (fun uu tt H locs htt hvm hw hB hz1 hk1 hS => ?_)
  obtain ⟨w2, rfl⟩ : ∃ z, z = uu := ⟨_, rfl⟩
  obtain ⟨hP1, hK1, hD1⟩ := hB
  rw [htt] at hP1
  have hK1 := va_K.moved hvm.symm hK1
  have hP1 : va_P D vwCl [(ob 5, .inr (3, gY ob (nI nb) (nI ka) (nI kb) sm (nI ln))), (ob 6, .inl (cI, 2048, .inl w2)), (ob 10, .inl (cI, 160, .inl fj))] H := hP1
  obtain ⟨hP, hD⟩ := va_join (wr := [(ob 7, .inl (cI, 2048, .inl ff)), (ob 8, .inl (cI, 2048, .inl fa)), (ob 9, .inl (cI, 2048, .inl fs)), (ob 11, .inl (cI, 160, .inl fr)), (ob2 5, .inr (3, gY ob2 (nI nb2) (nI ka2) (nI kb2) sm2 (nI ln2))), (ob2 6, .inl (cI, 2048, .inl fh2)), (ob2 7, .inl (cI, 2048, .inl ff2)), (ob2 8, .inl (cI, 2048, .inl fa2)), (ob2 9, .inl (cI, 2048, .inl fs2)), (ob2 10, .inl (cI, 160, .inl fj2)), (ob2 11, .inl (cI, 160, .inl fr2))]) (w1 := [(ob 5, .inr (3, gY ob (nI nb) (nI ka) (nI kb) sm (nI ln))), (ob 6, .inl (cI, 2048, .inl w2)), (ob 10, .inl (cI, 160, .inl fj))]) hP hD [0, 1, 5] [2, 3, 4, 6, 7, 8, 9, 10, 11, 12, 13] rfl rfl (by decide) (by decide) hk1 hFc hP1 hD1
  have hP : va_P D vwCl [(ob 7, .inl (cI, 2048, .inl ff)), (ob 8, .inl (cI, 2048, .inl fa)), (ob 9, .inl (cI, 2048, .inl fs)), (ob 11, .inl (cI, 160, .inl fr)), (ob2 5, .inr (3, gY ob2 (nI nb2) (nI ka2) (nI kb2) sm2 (nI ln2))), (ob2 6, .inl (cI, 2048, .inl fh2)), (ob2 7, .inl (cI, 2048, .inl ff2)), (ob2 8, .inl (cI, 2048, .inl fa2)), (ob2 9, .inl (cI, 2048, .inl fs2)), (ob2 10, .inl (cI, 160, .inl fj2)), (ob2 11, .inl (cI, 160, .inl fr2)), (ob 5, .inr (3, gY ob (nI nb) (nI ka) (nI kb) sm (nI ln))), (ob 6, .inl (cI, 2048, .inl w2)), (ob 10, .inl (cI, 160, .inl fj))] H := hP
  have hD : va_D A [(ob 7, .inl (cI, 2048, .inl ff)), (ob 8, .inl (cI, 2048, .inl fa)), (ob 9, .inl (cI, 2048, .inl fs)), (ob 11, .inl (cI, 160, .inl fr)), (ob2 5, .inr (3, gY ob2 (nI nb2) (nI ka2) (nI kb2) sm2 (nI ln2))), (ob2 6, .inl (cI, 2048, .inl fh2)), (ob2 7, .inl (cI, 2048, .inl ff2)), (ob2 8, .inl (cI, 2048, .inl fa2)), (ob2 9, .inl (cI, 2048, .inl fs2)), (ob2 10, .inl (cI, 160, .inl fj2)), (ob2 11, .inl (cI, 160, .inl fr2)), (ob 5, .inr (3, gY ob (nI nb) (nI ka) (nI kb) sm (nI ln))), (ob 6, .inl (cI, 2048, .inl w2)), (ob 10, .inl (cI, 160, .inl fj))] := hD
  try dsimp only at hw
  clear hz1 hk1 hFc hPc hKc hDc
  have hz0 := hw
  refine lv_aload_n hx hb dX3_become_4 rfl (lv_at hl 0 rfl) ?_
  refine lv_aload_n hx hb dX3_become_5 rfl (lv_at hl 1 rfl) ?_
  refine va_get (D := D) (ci := 3) (v := .int (nI nb2)) (C := RX3) (T := TX3) (N := 13) hx hb hts hin_X3 hown hK hP 4 rfl rfl 0 (by decide) (hts (.fieldLink RX3 36 "ClashFree$Layout" "buckets" "I") (List.mem_of_getElem? (i := 5) rfl)) (fun _ h9 => h9) rfl dX3_become_6 ?_
  refine va_put (D := D) (ci := 3) (v := .int (nI nb2)) (ty := .int) (C := RX3) (T := TX3) (N := 13) hx hb hts hin_X3 tyX3 tyX3_ok nmX3 hown hK hP hD hS 11 rfl rfl 0 (by decide) (hts (.fieldLink RX3 36 "ClashFree$Layout" "buckets" "I") (List.mem_of_getElem? (i := 5) rfl)) (fun _ h9 => h9) rfl (by decide +kernel) rfl rfl (Nat.le_of_ble_eq_true rfl) dX3_become_9 (fun H locs hP hD hS => ?_)
  have hP : va_P D vwCl [(ob 7, .inl (cI, 2048, .inl ff)), (ob 8, .inl (cI, 2048, .inl fa)), (ob 9, .inl (cI, 2048, .inl fs)), (ob 11, .inl (cI, 160, .inl fr)), (ob2 5, .inr (3, gY ob2 (nI nb2) (nI ka2) (nI kb2) sm2 (nI ln2))), (ob2 6, .inl (cI, 2048, .inl fh2)), (ob2 7, .inl (cI, 2048, .inl ff2)), (ob2 8, .inl (cI, 2048, .inl fa2)), (ob2 9, .inl (cI, 2048, .inl fs2)), (ob2 10, .inl (cI, 160, .inl fj2)), (ob2 11, .inl (cI, 160, .inl fr2)), (ob 5, .inr (3, gY ob (nI nb2) (nI ka) (nI kb) sm (nI ln))), (ob 6, .inl (cI, 2048, .inl w2)), (ob 10, .inl (cI, 160, .inl fj))] H := hP
  have hD : va_D A [(ob 7, .inl (cI, 2048, .inl ff)), (ob 8, .inl (cI, 2048, .inl fa)), (ob 9, .inl (cI, 2048, .inl fs)), (ob 11, .inl (cI, 160, .inl fr)), (ob2 5, .inr (3, gY ob2 (nI nb2) (nI ka2) (nI kb2) sm2 (nI ln2))), (ob2 6, .inl (cI, 2048, .inl fh2)), (ob2 7, .inl (cI, 2048, .inl ff2)), (ob2 8, .inl (cI, 2048, .inl fa2)), (ob2 9, .inl (cI, 2048, .inl fs2)), (ob2 10, .inl (cI, 160, .inl fj2)), (ob2 11, .inl (cI, 160, .inl fr2)), (ob 5, .inr (3, gY ob (nI nb2) (nI ka) (nI kb) sm (nI ln))), (ob 6, .inl (cI, 2048, .inl w2)), (ob 10, .inl (cI, 160, .inl fj))] := hD
  refine lv_aload_n hx hb dX3_become_12 rfl (lv_at hl 0 rfl) ?_
  refine lv_aload_n hx hb dX3_become_13 rfl (lv_at hl 1 rfl) ?_
  refine va_get (D := D) (ci := 3) (v := .int (nI ka2)) (C := RX3) (T := TX3) (N := 13) hx hb hts hin_X3 hown hK hP 4 rfl rfl 1 (by decide) (hts (.fieldLink RX3 40 "ClashFree$Layout" "a" "I") (List.mem_of_getElem? (i := 6) rfl)) (fun _ h9 => h9) rfl dX3_become_14 ?_
  refine va_put (D := D) (ci := 3) (v := .int (nI ka2)) (ty := .int) (C := RX3) (T := TX3) (N := 13) hx hb hts hin_X3 tyX3 tyX3_ok nmX3 hown hK hP hD hS 11 rfl rfl 1 (by decide) (hts (.fieldLink RX3 40 "ClashFree$Layout" "a" "I") (List.mem_of_getElem? (i := 6) rfl)) (fun _ h9 => h9) rfl (by decide +kernel) rfl rfl (Nat.le_of_ble_eq_true rfl) dX3_become_17 (fun H locs hP hD hS => ?_)
  have hP : va_P D vwCl [(ob 7, .inl (cI, 2048, .inl ff)), (ob 8, .inl (cI, 2048, .inl fa)), (ob 9, .inl (cI, 2048, .inl fs)), (ob 11, .inl (cI, 160, .inl fr)), (ob2 5, .inr (3, gY ob2 (nI nb2) (nI ka2) (nI kb2) sm2 (nI ln2))), (ob2 6, .inl (cI, 2048, .inl fh2)), (ob2 7, .inl (cI, 2048, .inl ff2)), (ob2 8, .inl (cI, 2048, .inl fa2)), (ob2 9, .inl (cI, 2048, .inl fs2)), (ob2 10, .inl (cI, 160, .inl fj2)), (ob2 11, .inl (cI, 160, .inl fr2)), (ob 5, .inr (3, gY ob (nI nb2) (nI ka2) (nI kb) sm (nI ln))), (ob 6, .inl (cI, 2048, .inl w2)), (ob 10, .inl (cI, 160, .inl fj))] H := hP
  have hD : va_D A [(ob 7, .inl (cI, 2048, .inl ff)), (ob 8, .inl (cI, 2048, .inl fa)), (ob 9, .inl (cI, 2048, .inl fs)), (ob 11, .inl (cI, 160, .inl fr)), (ob2 5, .inr (3, gY ob2 (nI nb2) (nI ka2) (nI kb2) sm2 (nI ln2))), (ob2 6, .inl (cI, 2048, .inl fh2)), (ob2 7, .inl (cI, 2048, .inl ff2)), (ob2 8, .inl (cI, 2048, .inl fa2)), (ob2 9, .inl (cI, 2048, .inl fs2)), (ob2 10, .inl (cI, 160, .inl fj2)), (ob2 11, .inl (cI, 160, .inl fr2)), (ob 5, .inr (3, gY ob (nI nb2) (nI ka2) (nI kb) sm (nI ln))), (ob 6, .inl (cI, 2048, .inl w2)), (ob 10, .inl (cI, 160, .inl fj))] := hD
  refine lv_aload_n hx hb dX3_become_20 rfl (lv_at hl 0 rfl) ?_
  refine lv_aload_n hx hb dX3_become_21 rfl (lv_at hl 1 rfl) ?_
  refine va_get (D := D) (ci := 3) (v := .int (nI kb2)) (C := RX3) (T := TX3) (N := 13) hx hb hts hin_X3 hown hK hP 4 rfl rfl 2 (by decide) (hts (.fieldLink RX3 43 "ClashFree$Layout" "b" "I") (List.mem_of_getElem? (i := 7) rfl)) (fun _ h9 => h9) rfl dX3_become_22 ?_
  refine va_put (D := D) (ci := 3) (v := .int (nI kb2)) (ty := .int) (C := RX3) (T := TX3) (N := 13) hx hb hts hin_X3 tyX3 tyX3_ok nmX3 hown hK hP hD hS 11 rfl rfl 2 (by decide) (hts (.fieldLink RX3 43 "ClashFree$Layout" "b" "I") (List.mem_of_getElem? (i := 7) rfl)) (fun _ h9 => h9) rfl (by decide +kernel) rfl rfl (Nat.le_of_ble_eq_true rfl) dX3_become_25 (fun H locs hP hD hS => ?_)
  have hP : va_P D vwCl [(ob 7, .inl (cI, 2048, .inl ff)), (ob 8, .inl (cI, 2048, .inl fa)), (ob 9, .inl (cI, 2048, .inl fs)), (ob 11, .inl (cI, 160, .inl fr)), (ob2 5, .inr (3, gY ob2 (nI nb2) (nI ka2) (nI kb2) sm2 (nI ln2))), (ob2 6, .inl (cI, 2048, .inl fh2)), (ob2 7, .inl (cI, 2048, .inl ff2)), (ob2 8, .inl (cI, 2048, .inl fa2)), (ob2 9, .inl (cI, 2048, .inl fs2)), (ob2 10, .inl (cI, 160, .inl fj2)), (ob2 11, .inl (cI, 160, .inl fr2)), (ob 5, .inr (3, gY ob (nI nb2) (nI ka2) (nI kb2) sm (nI ln))), (ob 6, .inl (cI, 2048, .inl w2)), (ob 10, .inl (cI, 160, .inl fj))] H := hP
  have hD : va_D A [(ob 7, .inl (cI, 2048, .inl ff)), (ob 8, .inl (cI, 2048, .inl fa)), (ob 9, .inl (cI, 2048, .inl fs)), (ob 11, .inl (cI, 160, .inl fr)), (ob2 5, .inr (3, gY ob2 (nI nb2) (nI ka2) (nI kb2) sm2 (nI ln2))), (ob2 6, .inl (cI, 2048, .inl fh2)), (ob2 7, .inl (cI, 2048, .inl ff2)), (ob2 8, .inl (cI, 2048, .inl fa2)), (ob2 9, .inl (cI, 2048, .inl fs2)), (ob2 10, .inl (cI, 160, .inl fj2)), (ob2 11, .inl (cI, 160, .inl fr2)), (ob 5, .inr (3, gY ob (nI nb2) (nI ka2) (nI kb2) sm (nI ln))), (ob 6, .inl (cI, 2048, .inl w2)), (ob 10, .inl (cI, 160, .inl fj))] := hD
  refine lv_aload_n hx hb dX3_become_28 rfl (lv_at hl 0 rfl) ?_
  refine lv_aload_n hx hb dX3_become_29 rfl (lv_at hl 1 rfl) ?_
  refine va_get (D := D) (ci := 3) (v := .int sm2) (C := RX3) (T := TX3) (N := 13) hx hb hts hin_X3 hown hK hP 4 rfl rfl 3 (by decide) (hts (.fieldLink RX3 78 "ClashFree$Layout" "sum" "I") (List.mem_of_getElem? (i := 8) rfl)) (fun _ h9 => h9) rfl dX3_become_30 ?_
  refine va_put (D := D) (ci := 3) (v := .int sm2) (ty := .int) (C := RX3) (T := TX3) (N := 13) hx hb hts hin_X3 tyX3 tyX3_ok nmX3 hown hK hP hD hS 11 rfl rfl 3 (by decide) (hts (.fieldLink RX3 78 "ClashFree$Layout" "sum" "I") (List.mem_of_getElem? (i := 8) rfl)) (fun _ h9 => h9) rfl (by decide +kernel) rfl rfl (Nat.le_of_ble_eq_true rfl) dX3_become_33 (fun H locs hP hD hS => ?_)
  have hP : va_P D vwCl [(ob 7, .inl (cI, 2048, .inl ff)), (ob 8, .inl (cI, 2048, .inl fa)), (ob 9, .inl (cI, 2048, .inl fs)), (ob 11, .inl (cI, 160, .inl fr)), (ob2 5, .inr (3, gY ob2 (nI nb2) (nI ka2) (nI kb2) sm2 (nI ln2))), (ob2 6, .inl (cI, 2048, .inl fh2)), (ob2 7, .inl (cI, 2048, .inl ff2)), (ob2 8, .inl (cI, 2048, .inl fa2)), (ob2 9, .inl (cI, 2048, .inl fs2)), (ob2 10, .inl (cI, 160, .inl fj2)), (ob2 11, .inl (cI, 160, .inl fr2)), (ob 5, .inr (3, gY ob (nI nb2) (nI ka2) (nI kb2) sm2 (nI ln))), (ob 6, .inl (cI, 2048, .inl w2)), (ob 10, .inl (cI, 160, .inl fj))] H := hP
  have hD : va_D A [(ob 7, .inl (cI, 2048, .inl ff)), (ob 8, .inl (cI, 2048, .inl fa)), (ob 9, .inl (cI, 2048, .inl fs)), (ob 11, .inl (cI, 160, .inl fr)), (ob2 5, .inr (3, gY ob2 (nI nb2) (nI ka2) (nI kb2) sm2 (nI ln2))), (ob2 6, .inl (cI, 2048, .inl fh2)), (ob2 7, .inl (cI, 2048, .inl ff2)), (ob2 8, .inl (cI, 2048, .inl fa2)), (ob2 9, .inl (cI, 2048, .inl fs2)), (ob2 10, .inl (cI, 160, .inl fj2)), (ob2 11, .inl (cI, 160, .inl fr2)), (ob 5, .inr (3, gY ob (nI nb2) (nI ka2) (nI kb2) sm2 (nI ln))), (ob 6, .inl (cI, 2048, .inl w2)), (ob 10, .inl (cI, 160, .inl fj))] := hD
  refine lv_aload_n hx hb dX3_become_36 rfl (lv_at hl 0 rfl) ?_
  refine lv_aload_n hx hb dX3_become_37 rfl (lv_at hl 1 rfl) ?_
  refine va_get (D := D) (ci := 3) (v := .int (nI ln2)) (C := RX3) (T := TX3) (N := 13) hx hb hts hin_X3 hown hK hP 4 rfl rfl 4 (by decide) (hts (.fieldLink RX3 54 "ClashFree$Layout" "size" "I") (List.mem_of_getElem? (i := 9) rfl)) (fun _ h9 => h9) rfl dX3_become_38 ?_
  refine va_put (D := D) (ci := 3) (v := .int (nI ln2)) (ty := .int) (C := RX3) (T := TX3) (N := 13) hx hb hts hin_X3 tyX3 tyX3_ok nmX3 hown hK hP hD hS 11 rfl rfl 4 (by decide) (hts (.fieldLink RX3 54 "ClashFree$Layout" "size" "I") (List.mem_of_getElem? (i := 9) rfl)) (fun _ h9 => h9) rfl (by decide +kernel) rfl rfl (Nat.le_of_ble_eq_true rfl) dX3_become_41 (fun H locs hP hD hS => ?_)
  have hP : va_P D vwCl [(ob 7, .inl (cI, 2048, .inl ff)), (ob 8, .inl (cI, 2048, .inl fa)), (ob 9, .inl (cI, 2048, .inl fs)), (ob 11, .inl (cI, 160, .inl fr)), (ob2 5, .inr (3, gY ob2 (nI nb2) (nI ka2) (nI kb2) sm2 (nI ln2))), (ob2 6, .inl (cI, 2048, .inl fh2)), (ob2 7, .inl (cI, 2048, .inl ff2)), (ob2 8, .inl (cI, 2048, .inl fa2)), (ob2 9, .inl (cI, 2048, .inl fs2)), (ob2 10, .inl (cI, 160, .inl fj2)), (ob2 11, .inl (cI, 160, .inl fr2)), (ob 5, .inr (3, gY ob (nI nb2) (nI ka2) (nI kb2) sm2 (nI ln2))), (ob 6, .inl (cI, 2048, .inl w2)), (ob 10, .inl (cI, 160, .inl fj))] H := hP
  have hD : va_D A [(ob 7, .inl (cI, 2048, .inl ff)), (ob 8, .inl (cI, 2048, .inl fa)), (ob 9, .inl (cI, 2048, .inl fs)), (ob 11, .inl (cI, 160, .inl fr)), (ob2 5, .inr (3, gY ob2 (nI nb2) (nI ka2) (nI kb2) sm2 (nI ln2))), (ob2 6, .inl (cI, 2048, .inl fh2)), (ob2 7, .inl (cI, 2048, .inl ff2)), (ob2 8, .inl (cI, 2048, .inl fa2)), (ob2 9, .inl (cI, 2048, .inl fs2)), (ob2 10, .inl (cI, 160, .inl fj2)), (ob2 11, .inl (cI, 160, .inl fr2)), (ob 5, .inr (3, gY ob (nI nb2) (nI ka2) (nI kb2) sm2 (nI ln2))), (ob 6, .inl (cI, 2048, .inl w2)), (ob 10, .inl (cI, 160, .inl fj))] := hD
  refine lv_aload_n hx hb dX3_become_44 rfl (lv_at hl 1 rfl) ?_
  refine va_get (D := D) (ci := 3) (v := .ref (ob2 6)) (C := RX3) (T := TX3) (N := 13) hx hb hts hin_X3 hown hK hP 4 rfl rfl 5 (by decide) (hts (.fieldLink RX3 9 "ClashFree$Layout" "held" "[I") (List.mem_of_getElem? (i := 10) rfl)) (fun _ h9 => h9) rfl dX3_become_45 ?_
  refine lv_iconst (v := 0) hx hb dX3_become_48 (by decide) ?_
  refine lv_aload_n hx hb dX3_become_49 rfl (lv_at hl 0 rfl) ?_
  refine va_get (D := D) (ci := 3) (v := .ref (ob 6)) (C := RX3) (T := TX3) (N := 13) hx hb hts hin_X3 hown hK hP 11 rfl rfl 5 (by decide) (hts (.fieldLink RX3 9 "ClashFree$Layout" "held" "[I") (List.mem_of_getElem? (i := 10) rfl)) (fun _ h9 => h9) rfl dX3_become_50 ?_
  refine lv_iconst (v := 0) hx hb dX3_become_53 (by decide) ?_
  refine lv_aload_n hx hb dX3_become_54 rfl (lv_at hl 0 rfl) ?_
  refine va_get (D := D) (ci := 3) (v := .int (nI nb2)) (C := RX3) (T := TX3) (N := 13) hx hb hts hin_X3 hown hK hP 11 rfl rfl 0 (by decide) (hts (.fieldLink RX3 36 "ClashFree$Layout" "buckets" "I") (List.mem_of_getElem? (i := 5) rfl)) (fun _ h9 => h9) rfl dX3_become_55 ?_
  refine va_copyi (ty := .int) hx hb (hml.trans hl.1.symm) hown (hts (.methodLink RX3 96 arraycopyName) (List.mem_of_getElem? (i := 11) rfl)) (hts (.native arraycopyName) (List.mem_of_getElem? (i := 12) rfl)) (hts (.static arraycopyName) (List.mem_of_getElem? (i := 13) rfl)) (hts (.initialized "java/lang/System") (List.mem_of_getElem? (i := 14) rfl)) hK hP hD hS 5 12 0 0 rfl rfl rfl rfl rfl (by decide) (by decide) (Int32.not_lt.mpr (nI_pos' (by omega))) (by rw [nI_clamp (n := nb2) (by omega)]; show 0 + _ ≤ _; omega) (by rw [nI_clamp (n := nb2) (by omega)]; show 0 + _ ≤ _; omega) (fun _ _ => rfl) (Nat.le_of_ble_eq_true rfl) (Nat.le_of_ble_eq_true rfl) dX3_become_58 (fun H locs hP hD hS => ?_)
  have hP : va_P D vwCl [(ob 7, .inl (cI, 2048, .inl ff)), (ob 8, .inl (cI, 2048, .inl fa)), (ob 9, .inl (cI, 2048, .inl fs)), (ob 11, .inl (cI, 160, .inl fr)), (ob2 5, .inr (3, gY ob2 (nI nb2) (nI ka2) (nI kb2) sm2 (nI ln2))), (ob2 6, .inl (cI, 2048, .inl fh2)), (ob2 7, .inl (cI, 2048, .inl ff2)), (ob2 8, .inl (cI, 2048, .inl fa2)), (ob2 9, .inl (cI, 2048, .inl fs2)), (ob2 10, .inl (cI, 160, .inl fj2)), (ob2 11, .inl (cI, 160, .inl fr2)), (ob 5, .inr (3, gY ob (nI nb2) (nI ka2) (nI kb2) sm2 (nI ln2))), (ob 6, .inl (cI, 2048, .inl (va_cpy fh2 w2 (Int32.toNatClampNeg 0) (Int32.toNatClampNeg 0) (Int32.toNatClampNeg (nI nb2))))), (ob 10, .inl (cI, 160, .inl fj))] H := hP
  have hD : va_D A [(ob 7, .inl (cI, 2048, .inl ff)), (ob 8, .inl (cI, 2048, .inl fa)), (ob 9, .inl (cI, 2048, .inl fs)), (ob 11, .inl (cI, 160, .inl fr)), (ob2 5, .inr (3, gY ob2 (nI nb2) (nI ka2) (nI kb2) sm2 (nI ln2))), (ob2 6, .inl (cI, 2048, .inl fh2)), (ob2 7, .inl (cI, 2048, .inl ff2)), (ob2 8, .inl (cI, 2048, .inl fa2)), (ob2 9, .inl (cI, 2048, .inl fs2)), (ob2 10, .inl (cI, 160, .inl fj2)), (ob2 11, .inl (cI, 160, .inl fr2)), (ob 5, .inr (3, gY ob (nI nb2) (nI ka2) (nI kb2) sm2 (nI ln2))), (ob 6, .inl (cI, 2048, .inl (va_cpy fh2 w2 (Int32.toNatClampNeg 0) (Int32.toNatClampNeg 0) (Int32.toNatClampNeg (nI nb2))))), (ob 10, .inl (cI, 160, .inl fj))] := hD
  rw [show (va_cpy fh2 w2 (Int32.toNatClampNeg 0) (Int32.toNatClampNeg 0) (Int32.toNatClampNeg (nI nb2))) = (va_cpy fh2 w2 0 0 nb2) from by rw [nI_clamp (n := nb2) (by omega)]; rfl] at hP hD
  refine lv_aload_n hx hb dX3_become_61 rfl (lv_at hl 1 rfl) ?_
  refine va_get (D := D) (ci := 3) (v := .ref (ob2 7)) (C := RX3) (T := TX3) (N := 13) hx hb hts hin_X3 hown hK hP 4 rfl rfl 6 (by decide) (hts (.fieldLink RX3 15 "ClashFree$Layout" "roof" "[I") (List.mem_of_getElem? (i := 15) rfl)) (fun _ h9 => h9) rfl dX3_become_62 ?_
  refine lv_iconst (v := 0) hx hb dX3_become_65 (by decide) ?_
  refine lv_aload_n hx hb dX3_become_66 rfl (lv_at hl 0 rfl) ?_
  refine va_get (D := D) (ci := 3) (v := .ref (ob 7)) (C := RX3) (T := TX3) (N := 13) hx hb hts hin_X3 hown hK hP 11 rfl rfl 6 (by decide) (hts (.fieldLink RX3 15 "ClashFree$Layout" "roof" "[I") (List.mem_of_getElem? (i := 15) rfl)) (fun _ h9 => h9) rfl dX3_become_67 ?_
  refine lv_iconst (v := 0) hx hb dX3_become_70 (by decide) ?_
  refine lv_aload_n hx hb dX3_become_71 rfl (lv_at hl 0 rfl) ?_
  refine va_get (D := D) (ci := 3) (v := .int (nI nb2)) (C := RX3) (T := TX3) (N := 13) hx hb hts hin_X3 hown hK hP 11 rfl rfl 0 (by decide) (hts (.fieldLink RX3 36 "ClashFree$Layout" "buckets" "I") (List.mem_of_getElem? (i := 5) rfl)) (fun _ h9 => h9) rfl dX3_become_72 ?_
  refine va_copyi (ty := .int) hx hb (hml.trans hl.1.symm) hown (hts (.methodLink RX3 96 arraycopyName) (List.mem_of_getElem? (i := 11) rfl)) (hts (.native arraycopyName) (List.mem_of_getElem? (i := 12) rfl)) (hts (.static arraycopyName) (List.mem_of_getElem? (i := 13) rfl)) (hts (.initialized "java/lang/System") (List.mem_of_getElem? (i := 14) rfl)) hK hP hD hS 6 0 0 0 rfl rfl rfl rfl rfl (by decide) (by decide) (Int32.not_lt.mpr (nI_pos' (by omega))) (by rw [nI_clamp (n := nb2) (by omega)]; show 0 + _ ≤ _; omega) (by rw [nI_clamp (n := nb2) (by omega)]; show 0 + _ ≤ _; omega) (fun _ _ => rfl) (Nat.le_of_ble_eq_true rfl) (Nat.le_of_ble_eq_true rfl) dX3_become_75 (fun H locs hP hD hS => ?_)
  have hP : va_P D vwCl [(ob 7, .inl (cI, 2048, .inl (va_cpy ff2 ff (Int32.toNatClampNeg 0) (Int32.toNatClampNeg 0) (Int32.toNatClampNeg (nI nb2))))), (ob 8, .inl (cI, 2048, .inl fa)), (ob 9, .inl (cI, 2048, .inl fs)), (ob 11, .inl (cI, 160, .inl fr)), (ob2 5, .inr (3, gY ob2 (nI nb2) (nI ka2) (nI kb2) sm2 (nI ln2))), (ob2 6, .inl (cI, 2048, .inl fh2)), (ob2 7, .inl (cI, 2048, .inl ff2)), (ob2 8, .inl (cI, 2048, .inl fa2)), (ob2 9, .inl (cI, 2048, .inl fs2)), (ob2 10, .inl (cI, 160, .inl fj2)), (ob2 11, .inl (cI, 160, .inl fr2)), (ob 5, .inr (3, gY ob (nI nb2) (nI ka2) (nI kb2) sm2 (nI ln2))), (ob 6, .inl (cI, 2048, .inl (va_cpy fh2 w2 0 0 nb2))), (ob 10, .inl (cI, 160, .inl fj))] H := hP
  have hD : va_D A [(ob 7, .inl (cI, 2048, .inl (va_cpy ff2 ff (Int32.toNatClampNeg 0) (Int32.toNatClampNeg 0) (Int32.toNatClampNeg (nI nb2))))), (ob 8, .inl (cI, 2048, .inl fa)), (ob 9, .inl (cI, 2048, .inl fs)), (ob 11, .inl (cI, 160, .inl fr)), (ob2 5, .inr (3, gY ob2 (nI nb2) (nI ka2) (nI kb2) sm2 (nI ln2))), (ob2 6, .inl (cI, 2048, .inl fh2)), (ob2 7, .inl (cI, 2048, .inl ff2)), (ob2 8, .inl (cI, 2048, .inl fa2)), (ob2 9, .inl (cI, 2048, .inl fs2)), (ob2 10, .inl (cI, 160, .inl fj2)), (ob2 11, .inl (cI, 160, .inl fr2)), (ob 5, .inr (3, gY ob (nI nb2) (nI ka2) (nI kb2) sm2 (nI ln2))), (ob 6, .inl (cI, 2048, .inl (va_cpy fh2 w2 0 0 nb2))), (ob 10, .inl (cI, 160, .inl fj))] := hD
  rw [show (va_cpy ff2 ff (Int32.toNatClampNeg 0) (Int32.toNatClampNeg 0) (Int32.toNatClampNeg (nI nb2))) = (va_cpy ff2 ff 0 0 nb2) from by rw [nI_clamp (n := nb2) (by omega)]; rfl] at hP hD
  refine lv_aload_n hx hb dX3_become_78 rfl (lv_at hl 1 rfl) ?_
  refine va_get (D := D) (ci := 3) (v := .ref (ob2 8)) (C := RX3) (T := TX3) (N := 13) hx hb hts hin_X3 hown hK hP 4 rfl rfl 7 (by decide) (hts (.fieldLink RX3 18 "ClashFree$Layout" "pairA" "[I") (List.mem_of_getElem? (i := 16) rfl)) (fun _ h9 => h9) rfl dX3_become_79 ?_
  refine lv_iconst (v := 0) hx hb dX3_become_82 (by decide) ?_
  refine lv_aload_n hx hb dX3_become_83 rfl (lv_at hl 0 rfl) ?_
  refine va_get (D := D) (ci := 3) (v := .ref (ob 8)) (C := RX3) (T := TX3) (N := 13) hx hb hts hin_X3 hown hK hP 11 rfl rfl 7 (by decide) (hts (.fieldLink RX3 18 "ClashFree$Layout" "pairA" "[I") (List.mem_of_getElem? (i := 16) rfl)) (fun _ h9 => h9) rfl dX3_become_84 ?_
  refine lv_iconst (v := 0) hx hb dX3_become_87 (by decide) ?_
  refine lv_aload_n hx hb dX3_become_88 rfl (lv_at hl 0 rfl) ?_
  refine va_get (D := D) (ci := 3) (v := .int (nI nb2)) (C := RX3) (T := TX3) (N := 13) hx hb hts hin_X3 hown hK hP 11 rfl rfl 0 (by decide) (hts (.fieldLink RX3 36 "ClashFree$Layout" "buckets" "I") (List.mem_of_getElem? (i := 5) rfl)) (fun _ h9 => h9) rfl dX3_become_89 ?_
  refine va_copyi (ty := .int) hx hb (hml.trans hl.1.symm) hown (hts (.methodLink RX3 96 arraycopyName) (List.mem_of_getElem? (i := 11) rfl)) (hts (.native arraycopyName) (List.mem_of_getElem? (i := 12) rfl)) (hts (.static arraycopyName) (List.mem_of_getElem? (i := 13) rfl)) (hts (.initialized "java/lang/System") (List.mem_of_getElem? (i := 14) rfl)) hK hP hD hS 7 1 0 0 rfl rfl rfl rfl rfl (by decide) (by decide) (Int32.not_lt.mpr (nI_pos' (by omega))) (by rw [nI_clamp (n := nb2) (by omega)]; show 0 + _ ≤ _; omega) (by rw [nI_clamp (n := nb2) (by omega)]; show 0 + _ ≤ _; omega) (fun _ _ => rfl) (Nat.le_of_ble_eq_true rfl) (Nat.le_of_ble_eq_true rfl) dX3_become_92 (fun H locs hP hD hS => ?_)
  have hP : va_P D vwCl [(ob 7, .inl (cI, 2048, .inl (va_cpy ff2 ff 0 0 nb2))), (ob 8, .inl (cI, 2048, .inl (va_cpy fa2 fa (Int32.toNatClampNeg 0) (Int32.toNatClampNeg 0) (Int32.toNatClampNeg (nI nb2))))), (ob 9, .inl (cI, 2048, .inl fs)), (ob 11, .inl (cI, 160, .inl fr)), (ob2 5, .inr (3, gY ob2 (nI nb2) (nI ka2) (nI kb2) sm2 (nI ln2))), (ob2 6, .inl (cI, 2048, .inl fh2)), (ob2 7, .inl (cI, 2048, .inl ff2)), (ob2 8, .inl (cI, 2048, .inl fa2)), (ob2 9, .inl (cI, 2048, .inl fs2)), (ob2 10, .inl (cI, 160, .inl fj2)), (ob2 11, .inl (cI, 160, .inl fr2)), (ob 5, .inr (3, gY ob (nI nb2) (nI ka2) (nI kb2) sm2 (nI ln2))), (ob 6, .inl (cI, 2048, .inl (va_cpy fh2 w2 0 0 nb2))), (ob 10, .inl (cI, 160, .inl fj))] H := hP
  have hD : va_D A [(ob 7, .inl (cI, 2048, .inl (va_cpy ff2 ff 0 0 nb2))), (ob 8, .inl (cI, 2048, .inl (va_cpy fa2 fa (Int32.toNatClampNeg 0) (Int32.toNatClampNeg 0) (Int32.toNatClampNeg (nI nb2))))), (ob 9, .inl (cI, 2048, .inl fs)), (ob 11, .inl (cI, 160, .inl fr)), (ob2 5, .inr (3, gY ob2 (nI nb2) (nI ka2) (nI kb2) sm2 (nI ln2))), (ob2 6, .inl (cI, 2048, .inl fh2)), (ob2 7, .inl (cI, 2048, .inl ff2)), (ob2 8, .inl (cI, 2048, .inl fa2)), (ob2 9, .inl (cI, 2048, .inl fs2)), (ob2 10, .inl (cI, 160, .inl fj2)), (ob2 11, .inl (cI, 160, .inl fr2)), (ob 5, .inr (3, gY ob (nI nb2) (nI ka2) (nI kb2) sm2 (nI ln2))), (ob 6, .inl (cI, 2048, .inl (va_cpy fh2 w2 0 0 nb2))), (ob 10, .inl (cI, 160, .inl fj))] := hD
  rw [show (va_cpy fa2 fa (Int32.toNatClampNeg 0) (Int32.toNatClampNeg 0) (Int32.toNatClampNeg (nI nb2))) = (va_cpy fa2 fa 0 0 nb2) from by rw [nI_clamp (n := nb2) (by omega)]; rfl] at hP hD
  refine lv_aload_n hx hb dX3_become_95 rfl (lv_at hl 1 rfl) ?_
  refine va_get (D := D) (ci := 3) (v := .ref (ob2 9)) (C := RX3) (T := TX3) (N := 13) hx hb hts hin_X3 hown hK hP 4 rfl rfl 8 (by decide) (hts (.fieldLink RX3 21 "ClashFree$Layout" "pairB" "[I") (List.mem_of_getElem? (i := 17) rfl)) (fun _ h9 => h9) rfl dX3_become_96 ?_
  refine lv_iconst (v := 0) hx hb dX3_become_99 (by decide) ?_
  refine lv_aload_n hx hb dX3_become_100 rfl (lv_at hl 0 rfl) ?_
  refine va_get (D := D) (ci := 3) (v := .ref (ob 9)) (C := RX3) (T := TX3) (N := 13) hx hb hts hin_X3 hown hK hP 11 rfl rfl 8 (by decide) (hts (.fieldLink RX3 21 "ClashFree$Layout" "pairB" "[I") (List.mem_of_getElem? (i := 17) rfl)) (fun _ h9 => h9) rfl dX3_become_101 ?_
  refine lv_iconst (v := 0) hx hb dX3_become_104 (by decide) ?_
  refine lv_aload_n hx hb dX3_become_105 rfl (lv_at hl 0 rfl) ?_
  refine va_get (D := D) (ci := 3) (v := .int (nI nb2)) (C := RX3) (T := TX3) (N := 13) hx hb hts hin_X3 hown hK hP 11 rfl rfl 0 (by decide) (hts (.fieldLink RX3 36 "ClashFree$Layout" "buckets" "I") (List.mem_of_getElem? (i := 5) rfl)) (fun _ h9 => h9) rfl dX3_become_106 ?_
  refine va_copyi (ty := .int) hx hb (hml.trans hl.1.symm) hown (hts (.methodLink RX3 96 arraycopyName) (List.mem_of_getElem? (i := 11) rfl)) (hts (.native arraycopyName) (List.mem_of_getElem? (i := 12) rfl)) (hts (.static arraycopyName) (List.mem_of_getElem? (i := 13) rfl)) (hts (.initialized "java/lang/System") (List.mem_of_getElem? (i := 14) rfl)) hK hP hD hS 8 2 0 0 rfl rfl rfl rfl rfl (by decide) (by decide) (Int32.not_lt.mpr (nI_pos' (by omega))) (by rw [nI_clamp (n := nb2) (by omega)]; show 0 + _ ≤ _; omega) (by rw [nI_clamp (n := nb2) (by omega)]; show 0 + _ ≤ _; omega) (fun _ _ => rfl) (Nat.le_of_ble_eq_true rfl) (Nat.le_of_ble_eq_true rfl) dX3_become_109 (fun H locs hP hD hS => ?_)
  have hP : va_P D vwCl [(ob 7, .inl (cI, 2048, .inl (va_cpy ff2 ff 0 0 nb2))), (ob 8, .inl (cI, 2048, .inl (va_cpy fa2 fa 0 0 nb2))), (ob 9, .inl (cI, 2048, .inl (va_cpy fs2 fs (Int32.toNatClampNeg 0) (Int32.toNatClampNeg 0) (Int32.toNatClampNeg (nI nb2))))), (ob 11, .inl (cI, 160, .inl fr)), (ob2 5, .inr (3, gY ob2 (nI nb2) (nI ka2) (nI kb2) sm2 (nI ln2))), (ob2 6, .inl (cI, 2048, .inl fh2)), (ob2 7, .inl (cI, 2048, .inl ff2)), (ob2 8, .inl (cI, 2048, .inl fa2)), (ob2 9, .inl (cI, 2048, .inl fs2)), (ob2 10, .inl (cI, 160, .inl fj2)), (ob2 11, .inl (cI, 160, .inl fr2)), (ob 5, .inr (3, gY ob (nI nb2) (nI ka2) (nI kb2) sm2 (nI ln2))), (ob 6, .inl (cI, 2048, .inl (va_cpy fh2 w2 0 0 nb2))), (ob 10, .inl (cI, 160, .inl fj))] H := hP
  have hD : va_D A [(ob 7, .inl (cI, 2048, .inl (va_cpy ff2 ff 0 0 nb2))), (ob 8, .inl (cI, 2048, .inl (va_cpy fa2 fa 0 0 nb2))), (ob 9, .inl (cI, 2048, .inl (va_cpy fs2 fs (Int32.toNatClampNeg 0) (Int32.toNatClampNeg 0) (Int32.toNatClampNeg (nI nb2))))), (ob 11, .inl (cI, 160, .inl fr)), (ob2 5, .inr (3, gY ob2 (nI nb2) (nI ka2) (nI kb2) sm2 (nI ln2))), (ob2 6, .inl (cI, 2048, .inl fh2)), (ob2 7, .inl (cI, 2048, .inl ff2)), (ob2 8, .inl (cI, 2048, .inl fa2)), (ob2 9, .inl (cI, 2048, .inl fs2)), (ob2 10, .inl (cI, 160, .inl fj2)), (ob2 11, .inl (cI, 160, .inl fr2)), (ob 5, .inr (3, gY ob (nI nb2) (nI ka2) (nI kb2) sm2 (nI ln2))), (ob 6, .inl (cI, 2048, .inl (va_cpy fh2 w2 0 0 nb2))), (ob 10, .inl (cI, 160, .inl fj))] := hD
  rw [show (va_cpy fs2 fs (Int32.toNatClampNeg 0) (Int32.toNatClampNeg 0) (Int32.toNatClampNeg (nI nb2))) = (va_cpy fs2 fs 0 0 nb2) from by rw [nI_clamp (n := nb2) (by omega)]; rfl] at hP hD
  refine lv_aload_n hx hb dX3_become_112 rfl (lv_at hl 1 rfl) ?_
  refine va_get (D := D) (ci := 3) (v := .ref (ob2 10)) (C := RX3) (T := TX3) (N := 13) hx hb hts hin_X3 hown hK hP 4 rfl rfl 9 (by decide) (hts (.fieldLink RX3 27 "ClashFree$Layout" "home" "[I") (List.mem_of_getElem? (i := 18) rfl)) (fun _ h9 => h9) rfl dX3_become_113 ?_
  refine lv_iconst (v := 0) hx hb dX3_become_116 (by decide) ?_
  refine lv_aload_n hx hb dX3_become_117 rfl (lv_at hl 0 rfl) ?_
  refine va_get (D := D) (ci := 3) (v := .ref (ob 10)) (C := RX3) (T := TX3) (N := 13) hx hb hts hin_X3 hown hK hP 11 rfl rfl 9 (by decide) (hts (.fieldLink RX3 27 "ClashFree$Layout" "home" "[I") (List.mem_of_getElem? (i := 18) rfl)) (fun _ h9 => h9) rfl dX3_become_118 ?_
  refine lv_iconst (v := 0) hx hb dX3_become_121 (by decide) ?_
  refine lv_aload_n hx hb dX3_become_122 rfl (lv_at hl 0 rfl) ?_
  refine va_get (D := D) (ci := 3) (v := .int (nI ln2)) (C := RX3) (T := TX3) (N := 13) hx hb hts hin_X3 hown hK hP 11 rfl rfl 4 (by decide) (hts (.fieldLink RX3 54 "ClashFree$Layout" "size" "I") (List.mem_of_getElem? (i := 9) rfl)) (fun _ h9 => h9) rfl dX3_become_123 ?_
  refine va_copyi (ty := .int) hx hb (hml.trans hl.1.symm) hown (hts (.methodLink RX3 96 arraycopyName) (List.mem_of_getElem? (i := 11) rfl)) (hts (.native arraycopyName) (List.mem_of_getElem? (i := 12) rfl)) (hts (.static arraycopyName) (List.mem_of_getElem? (i := 13) rfl)) (hts (.initialized "java/lang/System") (List.mem_of_getElem? (i := 14) rfl)) hK hP hD hS 9 13 0 0 rfl rfl rfl rfl rfl (by decide) (by decide) (Int32.not_lt.mpr (nI_pos' (by omega))) (by rw [nI_clamp (n := ln2) (by omega)]; show 0 + _ ≤ _; omega) (by rw [nI_clamp (n := ln2) (by omega)]; show 0 + _ ≤ _; omega) (fun _ _ => rfl) (Nat.le_of_ble_eq_true rfl) (Nat.le_of_ble_eq_true rfl) dX3_become_126 (fun H locs hP hD hS => ?_)
  have hP : va_P D vwCl [(ob 7, .inl (cI, 2048, .inl (va_cpy ff2 ff 0 0 nb2))), (ob 8, .inl (cI, 2048, .inl (va_cpy fa2 fa 0 0 nb2))), (ob 9, .inl (cI, 2048, .inl (va_cpy fs2 fs 0 0 nb2))), (ob 11, .inl (cI, 160, .inl fr)), (ob2 5, .inr (3, gY ob2 (nI nb2) (nI ka2) (nI kb2) sm2 (nI ln2))), (ob2 6, .inl (cI, 2048, .inl fh2)), (ob2 7, .inl (cI, 2048, .inl ff2)), (ob2 8, .inl (cI, 2048, .inl fa2)), (ob2 9, .inl (cI, 2048, .inl fs2)), (ob2 10, .inl (cI, 160, .inl fj2)), (ob2 11, .inl (cI, 160, .inl fr2)), (ob 5, .inr (3, gY ob (nI nb2) (nI ka2) (nI kb2) sm2 (nI ln2))), (ob 6, .inl (cI, 2048, .inl (va_cpy fh2 w2 0 0 nb2))), (ob 10, .inl (cI, 160, .inl (va_cpy fj2 fj (Int32.toNatClampNeg 0) (Int32.toNatClampNeg 0) (Int32.toNatClampNeg (nI ln2)))))] H := hP
  have hD : va_D A [(ob 7, .inl (cI, 2048, .inl (va_cpy ff2 ff 0 0 nb2))), (ob 8, .inl (cI, 2048, .inl (va_cpy fa2 fa 0 0 nb2))), (ob 9, .inl (cI, 2048, .inl (va_cpy fs2 fs 0 0 nb2))), (ob 11, .inl (cI, 160, .inl fr)), (ob2 5, .inr (3, gY ob2 (nI nb2) (nI ka2) (nI kb2) sm2 (nI ln2))), (ob2 6, .inl (cI, 2048, .inl fh2)), (ob2 7, .inl (cI, 2048, .inl ff2)), (ob2 8, .inl (cI, 2048, .inl fa2)), (ob2 9, .inl (cI, 2048, .inl fs2)), (ob2 10, .inl (cI, 160, .inl fj2)), (ob2 11, .inl (cI, 160, .inl fr2)), (ob 5, .inr (3, gY ob (nI nb2) (nI ka2) (nI kb2) sm2 (nI ln2))), (ob 6, .inl (cI, 2048, .inl (va_cpy fh2 w2 0 0 nb2))), (ob 10, .inl (cI, 160, .inl (va_cpy fj2 fj (Int32.toNatClampNeg 0) (Int32.toNatClampNeg 0) (Int32.toNatClampNeg (nI ln2)))))] := hD
  rw [show (va_cpy fj2 fj (Int32.toNatClampNeg 0) (Int32.toNatClampNeg 0) (Int32.toNatClampNeg (nI ln2))) = (va_cpy fj2 fj 0 0 ln2) from by rw [nI_clamp (n := ln2) (by omega)]; rfl] at hP hD
  refine lv_aload_n hx hb dX3_become_129 rfl (lv_at hl 1 rfl) ?_
  refine va_get (D := D) (ci := 3) (v := .ref (ob2 11)) (C := RX3) (T := TX3) (N := 13) hx hb hts hin_X3 hown hK hP 4 rfl rfl 10 (by decide) (hts (.fieldLink RX3 30 "ClashFree$Layout" "lies" "[I") (List.mem_of_getElem? (i := 19) rfl)) (fun _ h9 => h9) rfl dX3_become_130 ?_
  refine lv_iconst (v := 0) hx hb dX3_become_133 (by decide) ?_
  refine lv_aload_n hx hb dX3_become_134 rfl (lv_at hl 0 rfl) ?_
  refine va_get (D := D) (ci := 3) (v := .ref (ob 11)) (C := RX3) (T := TX3) (N := 13) hx hb hts hin_X3 hown hK hP 11 rfl rfl 10 (by decide) (hts (.fieldLink RX3 30 "ClashFree$Layout" "lies" "[I") (List.mem_of_getElem? (i := 19) rfl)) (fun _ h9 => h9) rfl dX3_become_135 ?_
  refine lv_iconst (v := 0) hx hb dX3_become_138 (by decide) ?_
  refine lv_aload_n hx hb dX3_become_139 rfl (lv_at hl 0 rfl) ?_
  refine va_get (D := D) (ci := 3) (v := .int (nI ln2)) (C := RX3) (T := TX3) (N := 13) hx hb hts hin_X3 hown hK hP 11 rfl rfl 4 (by decide) (hts (.fieldLink RX3 54 "ClashFree$Layout" "size" "I") (List.mem_of_getElem? (i := 9) rfl)) (fun _ h9 => h9) rfl dX3_become_140 ?_
  refine va_copyi (ty := .int) hx hb (hml.trans hl.1.symm) hown (hts (.methodLink RX3 96 arraycopyName) (List.mem_of_getElem? (i := 11) rfl)) (hts (.native arraycopyName) (List.mem_of_getElem? (i := 12) rfl)) (hts (.static arraycopyName) (List.mem_of_getElem? (i := 13) rfl)) (hts (.initialized "java/lang/System") (List.mem_of_getElem? (i := 14) rfl)) hK hP hD hS 10 3 0 0 rfl rfl rfl rfl rfl (by decide) (by decide) (Int32.not_lt.mpr (nI_pos' (by omega))) (by rw [nI_clamp (n := ln2) (by omega)]; show 0 + _ ≤ _; omega) (by rw [nI_clamp (n := ln2) (by omega)]; show 0 + _ ≤ _; omega) (fun _ _ => rfl) (Nat.le_of_ble_eq_true rfl) (Nat.le_of_ble_eq_true rfl) dX3_become_143 (fun H locs hP hD hS => ?_)
  have hP : va_P D vwCl [(ob 7, .inl (cI, 2048, .inl (va_cpy ff2 ff 0 0 nb2))), (ob 8, .inl (cI, 2048, .inl (va_cpy fa2 fa 0 0 nb2))), (ob 9, .inl (cI, 2048, .inl (va_cpy fs2 fs 0 0 nb2))), (ob 11, .inl (cI, 160, .inl (va_cpy fr2 fr (Int32.toNatClampNeg 0) (Int32.toNatClampNeg 0) (Int32.toNatClampNeg (nI ln2))))), (ob2 5, .inr (3, gY ob2 (nI nb2) (nI ka2) (nI kb2) sm2 (nI ln2))), (ob2 6, .inl (cI, 2048, .inl fh2)), (ob2 7, .inl (cI, 2048, .inl ff2)), (ob2 8, .inl (cI, 2048, .inl fa2)), (ob2 9, .inl (cI, 2048, .inl fs2)), (ob2 10, .inl (cI, 160, .inl fj2)), (ob2 11, .inl (cI, 160, .inl fr2)), (ob 5, .inr (3, gY ob (nI nb2) (nI ka2) (nI kb2) sm2 (nI ln2))), (ob 6, .inl (cI, 2048, .inl (va_cpy fh2 w2 0 0 nb2))), (ob 10, .inl (cI, 160, .inl (va_cpy fj2 fj 0 0 ln2)))] H := hP
  have hD : va_D A [(ob 7, .inl (cI, 2048, .inl (va_cpy ff2 ff 0 0 nb2))), (ob 8, .inl (cI, 2048, .inl (va_cpy fa2 fa 0 0 nb2))), (ob 9, .inl (cI, 2048, .inl (va_cpy fs2 fs 0 0 nb2))), (ob 11, .inl (cI, 160, .inl (va_cpy fr2 fr (Int32.toNatClampNeg 0) (Int32.toNatClampNeg 0) (Int32.toNatClampNeg (nI ln2))))), (ob2 5, .inr (3, gY ob2 (nI nb2) (nI ka2) (nI kb2) sm2 (nI ln2))), (ob2 6, .inl (cI, 2048, .inl fh2)), (ob2 7, .inl (cI, 2048, .inl ff2)), (ob2 8, .inl (cI, 2048, .inl fa2)), (ob2 9, .inl (cI, 2048, .inl fs2)), (ob2 10, .inl (cI, 160, .inl fj2)), (ob2 11, .inl (cI, 160, .inl fr2)), (ob 5, .inr (3, gY ob (nI nb2) (nI ka2) (nI kb2) sm2 (nI ln2))), (ob 6, .inl (cI, 2048, .inl (va_cpy fh2 w2 0 0 nb2))), (ob 10, .inl (cI, 160, .inl (va_cpy fj2 fj 0 0 ln2)))] := hD
  rw [show (va_cpy fr2 fr (Int32.toNatClampNeg 0) (Int32.toNatClampNeg 0) (Int32.toNatClampNeg (nI ln2))) = (va_cpy fr2 fr 0 0 ln2) from by rw [nI_clamp (n := ln2) (by omega)]; rfl] at hP hD
  exact W.vret hx hb hr (fun t ht hW => ⟨⟨(nb2, ka2, kb2, sm2, ln2, (va_cpy fh2 w2 0 0 nb2), (va_cpy ff2 ff 0 0 nb2), (va_cpy fa2 fa 0 0 nb2), (va_cpy fs2 fs 0 0 nb2), (va_cpy fj2 fj 0 0 ln2), (va_cpy fr2 fr 0 0 ln2)), rfl, (by (try dsimp only); first | done | exact ⟨⟨hnb2, hln2, J2, Hm_become (fh := fh) hm2 hnb2 hz0⟩, rfl, rfl, rfl⟩), by rw [ht]; exact hP.sub [11, 12, 0, 1, 2, 13, 3, 4, 5, 6, 7, 8, 9, 10] rfl, va_K.moved hW.alike (hK.sub [0] rfl), hD.sub [11, 12, 0, 1, 2, 13, 3, 4, 5, 6, 7, 8, 9, 10] (by decide) rfl⟩, hS.F ht⟩) hS.2.2 dX3_become_146

