theorem dX3_raised_0 : decode cX3_raised 0 = .ok (.aload_n 0, 1) := by decide +kernel
theorem dX3_raised_1 : decode cX3_raised 1 = .ok (.getfield 15, 3) := by decide +kernel
theorem dX3_raised_4 : decode cX3_raised 4 = .ok (.iload_n 1, 1) := by decide +kernel
theorem dX3_raised_5 : decode cX3_raised 5 = .ok (.iaload, 1) := by decide +kernel
theorem dX3_raised_6 : decode cX3_raised 6 = .ok (.ifCond .ne 7, 3) := by decide +kernel
theorem dX3_raised_9 : decode cX3_raised 9 = .ok (.iconst 2, 1) := by decide +kernel
theorem dX3_raised_10 : decode cX3_raised 10 = .ok (.goto 11, 3) := by decide +kernel
theorem dX3_raised_13 : decode cX3_raised 13 = .ok (.iconst 2, 1) := by decide +kernel
theorem dX3_raised_14 : decode cX3_raised 14 = .ok (.aload_n 0, 1) := by decide +kernel
theorem dX3_raised_15 : decode cX3_raised 15 = .ok (.getfield 15, 3) := by decide +kernel
theorem dX3_raised_18 : decode cX3_raised 18 = .ok (.iload_n 1, 1) := by decide +kernel
theorem dX3_raised_19 : decode cX3_raised 19 = .ok (.iaload, 1) := by decide +kernel
theorem dX3_raised_20 : decode cX3_raised 20 = .ok (.imul, 1) := by decide +kernel
theorem dX3_raised_21 : decode cX3_raised 21 = .ok (.ireturn, 1) := by decide +kernel
theorem dX3_raise_0 : decode cX3_raise 0 = .ok (.aload_n 0, 1) := by decide +kernel
theorem dX3_raise_1 : decode cX3_raise 1 = .ok (.iload_n 1, 1) := by decide +kernel
theorem dX3_raise_2 : decode cX3_raise 2 = .ok (.invokevirtual 89, 3) := by decide +kernel
theorem dX3_raise_5 : decode cX3_raise 5 = .ok (.istore_n 2, 1) := by decide +kernel
theorem dX3_raise_6 : decode cX3_raise 6 = .ok (.aload_n 0, 1) := by decide +kernel
theorem dX3_raise_7 : decode cX3_raise 7 = .ok (.dup, 1) := by decide +kernel
theorem dX3_raise_8 : decode cX3_raise 8 = .ok (.getfield 78, 3) := by decide +kernel
theorem dX3_raise_11 : decode cX3_raise 11 = .ok (.iload_n 2, 1) := by decide +kernel
theorem dX3_raise_12 : decode cX3_raise 12 = .ok (.iload_n 2, 1) := by decide +kernel
theorem dX3_raise_13 : decode cX3_raise 13 = .ok (.imul, 1) := by decide +kernel
theorem dX3_raise_14 : decode cX3_raise 14 = .ok (.aload_n 0, 1) := by decide +kernel
theorem dX3_raise_15 : decode cX3_raise 15 = .ok (.getfield 15, 3) := by decide +kernel
theorem dX3_raise_18 : decode cX3_raise 18 = .ok (.iload_n 1, 1) := by decide +kernel
theorem dX3_raise_19 : decode cX3_raise 19 = .ok (.iaload, 1) := by decide +kernel
theorem dX3_raise_20 : decode cX3_raise 20 = .ok (.aload_n 0, 1) := by decide +kernel
theorem dX3_raise_21 : decode cX3_raise 21 = .ok (.getfield 15, 3) := by decide +kernel
theorem dX3_raise_24 : decode cX3_raise 24 = .ok (.iload_n 1, 1) := by decide +kernel
theorem dX3_raise_25 : decode cX3_raise 25 = .ok (.iaload, 1) := by decide +kernel
theorem dX3_raise_26 : decode cX3_raise 26 = .ok (.imul, 1) := by decide +kernel
theorem dX3_raise_27 : decode cX3_raise 27 = .ok (.isub, 1) := by decide +kernel
theorem dX3_raise_28 : decode cX3_raise 28 = .ok (.iadd, 1) := by decide +kernel
theorem dX3_raise_29 : decode cX3_raise 29 = .ok (.putfield 78, 3) := by decide +kernel
theorem dX3_raise_32 : decode cX3_raise 32 = .ok (.aload_n 0, 1) := by decide +kernel
theorem dX3_raise_33 : decode cX3_raise 33 = .ok (.getfield 15, 3) := by decide +kernel
theorem dX3_raise_36 : decode cX3_raise 36 = .ok (.iload_n 1, 1) := by decide +kernel
theorem dX3_raise_37 : decode cX3_raise 37 = .ok (.iload_n 2, 1) := by decide +kernel
theorem dX3_raise_38 : decode cX3_raise 38 = .ok (.iastore, 1) := by decide +kernel
theorem dX3_raise_39 : decode cX3_raise 39 = .ok (.return_, 1) := by decide +kernel
theorem dX3_insert_0 : decode cX3_insert 0 = .ok (.iload_n 1, 1) := by decide +kernel
theorem dX3_insert_1 : decode cX3_insert 1 = .ok (.ifCond .lt 29, 3) := by decide +kernel
theorem dX3_insert_4 : decode cX3_insert 4 = .ok (.iload_n 1, 1) := by decide +kernel
theorem dX3_insert_5 : decode cX3_insert 5 = .ok (.aload_n 0, 1) := by decide +kernel
theorem dX3_insert_6 : decode cX3_insert 6 = .ok (.getfield 54, 3) := by decide +kernel
theorem dX3_insert_9 : decode cX3_insert 9 = .ok (.if_icmp .gt 21, 3) := by decide +kernel
theorem dX3_insert_12 : decode cX3_insert 12 = .ok (.aload_n 0, 1) := by decide +kernel
theorem dX3_insert_13 : decode cX3_insert 13 = .ok (.getfield 54, 3) := by decide +kernel
theorem dX3_insert_16 : decode cX3_insert 16 = .ok (.sipush 160, 3) := by decide +kernel
theorem dX3_insert_19 : decode cX3_insert 19 = .ok (.if_icmp .ge 11, 3) := by decide +kernel
theorem dX3_insert_22 : decode cX3_insert 22 = .ok (.aload_n 0, 1) := by decide +kernel
theorem dX3_insert_23 : decode cX3_insert 23 = .ok (.iload_n 2, 1) := by decide +kernel
theorem dX3_insert_24 : decode cX3_insert 24 = .ok (.invokevirtual 92, 3) := by decide +kernel
theorem dX3_insert_27 : decode cX3_insert 27 = .ok (.ifCond .ne 4, 3) := by decide +kernel
theorem dX3_insert_30 : decode cX3_insert 30 = .ok (.return_, 1) := by decide +kernel
theorem dX3_insert_31 : decode cX3_insert 31 = .ok (.aload_n 0, 1) := by decide +kernel
theorem dX3_insert_32 : decode cX3_insert 32 = .ok (.getfield 27, 3) := by decide +kernel
theorem dX3_insert_35 : decode cX3_insert 35 = .ok (.iload_n 1, 1) := by decide +kernel
theorem dX3_insert_36 : decode cX3_insert 36 = .ok (.aload_n 0, 1) := by decide +kernel
theorem dX3_insert_37 : decode cX3_insert 37 = .ok (.getfield 27, 3) := by decide +kernel
theorem dX3_insert_40 : decode cX3_insert 40 = .ok (.iload_n 1, 1) := by decide +kernel
theorem dX3_insert_41 : decode cX3_insert 41 = .ok (.iconst 1, 1) := by decide +kernel
theorem dX3_insert_42 : decode cX3_insert 42 = .ok (.iadd, 1) := by decide +kernel
theorem dX3_insert_43 : decode cX3_insert 43 = .ok (.aload_n 0, 1) := by decide +kernel
theorem dX3_insert_44 : decode cX3_insert 44 = .ok (.getfield 54, 3) := by decide +kernel
theorem dX3_insert_47 : decode cX3_insert 47 = .ok (.iload_n 1, 1) := by decide +kernel
theorem dX3_insert_48 : decode cX3_insert 48 = .ok (.isub, 1) := by decide +kernel
theorem dX3_insert_49 : decode cX3_insert 49 = .ok (.invokestatic 96, 3) := by decide +kernel
theorem dX3_insert_52 : decode cX3_insert 52 = .ok (.aload_n 0, 1) := by decide +kernel
theorem dX3_insert_53 : decode cX3_insert 53 = .ok (.getfield 30, 3) := by decide +kernel
theorem dX3_insert_56 : decode cX3_insert 56 = .ok (.iload_n 1, 1) := by decide +kernel
theorem dX3_insert_57 : decode cX3_insert 57 = .ok (.aload_n 0, 1) := by decide +kernel
theorem dX3_insert_58 : decode cX3_insert 58 = .ok (.getfield 30, 3) := by decide +kernel
theorem dX3_insert_61 : decode cX3_insert 61 = .ok (.iload_n 1, 1) := by decide +kernel
theorem dX3_insert_62 : decode cX3_insert 62 = .ok (.iconst 1, 1) := by decide +kernel
theorem dX3_insert_63 : decode cX3_insert 63 = .ok (.iadd, 1) := by decide +kernel
theorem dX3_insert_64 : decode cX3_insert 64 = .ok (.aload_n 0, 1) := by decide +kernel
theorem dX3_insert_65 : decode cX3_insert 65 = .ok (.getfield 54, 3) := by decide +kernel
theorem dX3_insert_68 : decode cX3_insert 68 = .ok (.iload_n 1, 1) := by decide +kernel
theorem dX3_insert_69 : decode cX3_insert 69 = .ok (.isub, 1) := by decide +kernel
theorem dX3_insert_70 : decode cX3_insert 70 = .ok (.invokestatic 96, 3) := by decide +kernel
theorem dX3_insert_73 : decode cX3_insert 73 = .ok (.aload_n 0, 1) := by decide +kernel
theorem dX3_insert_74 : decode cX3_insert 74 = .ok (.getfield 27, 3) := by decide +kernel
theorem dX3_insert_77 : decode cX3_insert 77 = .ok (.iload_n 1, 1) := by decide +kernel
theorem dX3_insert_78 : decode cX3_insert 78 = .ok (.iload_n 2, 1) := by decide +kernel
theorem dX3_insert_79 : decode cX3_insert 79 = .ok (.iastore, 1) := by decide +kernel
theorem dX3_insert_80 : decode cX3_insert 80 = .ok (.aload_n 0, 1) := by decide +kernel
theorem dX3_insert_81 : decode cX3_insert 81 = .ok (.getfield 30, 3) := by decide +kernel
theorem dX3_insert_84 : decode cX3_insert 84 = .ok (.iload_n 1, 1) := by decide +kernel
theorem dX3_insert_85 : decode cX3_insert 85 = .ok (.iconst (-1), 1) := by decide +kernel
theorem dX3_insert_86 : decode cX3_insert 86 = .ok (.iastore, 1) := by decide +kernel
theorem dX3_insert_87 : decode cX3_insert 87 = .ok (.aload_n 0, 1) := by decide +kernel
theorem dX3_insert_88 : decode cX3_insert 88 = .ok (.getfield 9, 3) := by decide +kernel
theorem dX3_insert_91 : decode cX3_insert 91 = .ok (.iload_n 2, 1) := by decide +kernel
theorem dX3_insert_92 : decode cX3_insert 92 = .ok (.dup2, 1) := by decide +kernel
theorem dX3_insert_93 : decode cX3_insert 93 = .ok (.iaload, 1) := by decide +kernel
theorem dX3_insert_94 : decode cX3_insert 94 = .ok (.iconst 1, 1) := by decide +kernel
theorem dX3_insert_95 : decode cX3_insert 95 = .ok (.iadd, 1) := by decide +kernel
theorem dX3_insert_96 : decode cX3_insert 96 = .ok (.iastore, 1) := by decide +kernel
theorem dX3_insert_97 : decode cX3_insert 97 = .ok (.aload_n 0, 1) := by decide +kernel
theorem dX3_insert_98 : decode cX3_insert 98 = .ok (.dup, 1) := by decide +kernel
theorem dX3_insert_99 : decode cX3_insert 99 = .ok (.getfield 54, 3) := by decide +kernel
theorem dX3_insert_102 : decode cX3_insert 102 = .ok (.iconst 1, 1) := by decide +kernel
theorem dX3_insert_103 : decode cX3_insert 103 = .ok (.iadd, 1) := by decide +kernel
theorem dX3_insert_104 : decode cX3_insert 104 = .ok (.putfield 54, 3) := by decide +kernel
theorem dX3_insert_107 : decode cX3_insert 107 = .ok (.return_, 1) := by decide +kernel
theorem dX3_remove_0 : decode cX3_remove 0 = .ok (.iload_n 1, 1) := by decide +kernel
theorem dX3_remove_1 : decode cX3_remove 1 = .ok (.ifCond .lt 11, 3) := by decide +kernel
theorem dX3_remove_4 : decode cX3_remove 4 = .ok (.iload_n 1, 1) := by decide +kernel
theorem dX3_remove_5 : decode cX3_remove 5 = .ok (.aload_n 0, 1) := by decide +kernel
theorem dX3_remove_6 : decode cX3_remove 6 = .ok (.getfield 54, 3) := by decide +kernel
theorem dX3_remove_9 : decode cX3_remove 9 = .ok (.if_icmp .lt 4, 3) := by decide +kernel
theorem dX3_remove_12 : decode cX3_remove 12 = .ok (.return_, 1) := by decide +kernel
theorem dX3_remove_13 : decode cX3_remove 13 = .ok (.aload_n 0, 1) := by decide +kernel
theorem dX3_remove_14 : decode cX3_remove 14 = .ok (.getfield 9, 3) := by decide +kernel
theorem dX3_remove_17 : decode cX3_remove 17 = .ok (.aload_n 0, 1) := by decide +kernel
theorem dX3_remove_18 : decode cX3_remove 18 = .ok (.getfield 27, 3) := by decide +kernel
theorem dX3_remove_21 : decode cX3_remove 21 = .ok (.iload_n 1, 1) := by decide +kernel
theorem dX3_remove_22 : decode cX3_remove 22 = .ok (.iaload, 1) := by decide +kernel
theorem dX3_remove_23 : decode cX3_remove 23 = .ok (.dup2, 1) := by decide +kernel
theorem dX3_remove_24 : decode cX3_remove 24 = .ok (.iaload, 1) := by decide +kernel
theorem dX3_remove_25 : decode cX3_remove 25 = .ok (.iconst 1, 1) := by decide +kernel
theorem dX3_remove_26 : decode cX3_remove 26 = .ok (.isub, 1) := by decide +kernel
theorem dX3_remove_27 : decode cX3_remove 27 = .ok (.iastore, 1) := by decide +kernel
theorem dX3_remove_28 : decode cX3_remove 28 = .ok (.aload_n 0, 1) := by decide +kernel
theorem dX3_remove_29 : decode cX3_remove 29 = .ok (.dup, 1) := by decide +kernel
theorem dX3_remove_30 : decode cX3_remove 30 = .ok (.getfield 54, 3) := by decide +kernel
theorem dX3_remove_33 : decode cX3_remove 33 = .ok (.iconst 1, 1) := by decide +kernel
theorem dX3_remove_34 : decode cX3_remove 34 = .ok (.isub, 1) := by decide +kernel
theorem dX3_remove_35 : decode cX3_remove 35 = .ok (.putfield 54, 3) := by decide +kernel
theorem dX3_remove_38 : decode cX3_remove 38 = .ok (.aload_n 0, 1) := by decide +kernel
theorem dX3_remove_39 : decode cX3_remove 39 = .ok (.getfield 27, 3) := by decide +kernel
theorem dX3_remove_42 : decode cX3_remove 42 = .ok (.iload_n 1, 1) := by decide +kernel
theorem dX3_remove_43 : decode cX3_remove 43 = .ok (.iconst 1, 1) := by decide +kernel
theorem dX3_remove_44 : decode cX3_remove 44 = .ok (.iadd, 1) := by decide +kernel
theorem dX3_remove_45 : decode cX3_remove 45 = .ok (.aload_n 0, 1) := by decide +kernel
theorem dX3_remove_46 : decode cX3_remove 46 = .ok (.getfield 27, 3) := by decide +kernel
theorem dX3_remove_49 : decode cX3_remove 49 = .ok (.iload_n 1, 1) := by decide +kernel
theorem dX3_remove_50 : decode cX3_remove 50 = .ok (.aload_n 0, 1) := by decide +kernel
theorem dX3_remove_51 : decode cX3_remove 51 = .ok (.getfield 54, 3) := by decide +kernel
theorem dX3_remove_54 : decode cX3_remove 54 = .ok (.iload_n 1, 1) := by decide +kernel
theorem dX3_remove_55 : decode cX3_remove 55 = .ok (.isub, 1) := by decide +kernel
theorem dX3_remove_56 : decode cX3_remove 56 = .ok (.invokestatic 96, 3) := by decide +kernel
theorem dX3_remove_59 : decode cX3_remove 59 = .ok (.aload_n 0, 1) := by decide +kernel
theorem dX3_remove_60 : decode cX3_remove 60 = .ok (.getfield 30, 3) := by decide +kernel
theorem dX3_remove_63 : decode cX3_remove 63 = .ok (.iload_n 1, 1) := by decide +kernel
theorem dX3_remove_64 : decode cX3_remove 64 = .ok (.iconst 1, 1) := by decide +kernel
theorem dX3_remove_65 : decode cX3_remove 65 = .ok (.iadd, 1) := by decide +kernel
theorem dX3_remove_66 : decode cX3_remove 66 = .ok (.aload_n 0, 1) := by decide +kernel
theorem dX3_remove_67 : decode cX3_remove 67 = .ok (.getfield 30, 3) := by decide +kernel
theorem dX3_remove_70 : decode cX3_remove 70 = .ok (.iload_n 1, 1) := by decide +kernel
theorem dX3_remove_71 : decode cX3_remove 71 = .ok (.aload_n 0, 1) := by decide +kernel
theorem dX3_remove_72 : decode cX3_remove 72 = .ok (.getfield 54, 3) := by decide +kernel
theorem dX3_remove_75 : decode cX3_remove 75 = .ok (.iload_n 1, 1) := by decide +kernel
theorem dX3_remove_76 : decode cX3_remove 76 = .ok (.isub, 1) := by decide +kernel
theorem dX3_remove_77 : decode cX3_remove 77 = .ok (.invokestatic 96, 3) := by decide +kernel
theorem dX3_remove_80 : decode cX3_remove 80 = .ok (.return_, 1) := by decide +kernel
theorem dX3_roomOfAll_0 : decode cX3_roomOfAll 0 = .ok (.iload_n 1, 1) := by decide +kernel
theorem dX3_roomOfAll_1 : decode cX3_roomOfAll 1 = .ok (.ifCond .lt 11, 3) := by decide +kernel
theorem dX3_roomOfAll_4 : decode cX3_roomOfAll 4 = .ok (.iload_n 1, 1) := by decide +kernel
theorem dX3_roomOfAll_5 : decode cX3_roomOfAll 5 = .ok (.aload_n 0, 1) := by decide +kernel
theorem dX3_roomOfAll_6 : decode cX3_roomOfAll 6 = .ok (.getfield 54, 3) := by decide +kernel
theorem dX3_roomOfAll_9 : decode cX3_roomOfAll 9 = .ok (.if_icmp .lt 5, 3) := by decide +kernel
theorem dX3_roomOfAll_12 : decode cX3_roomOfAll 12 = .ok (.iconst (-1), 1) := by decide +kernel
theorem dX3_roomOfAll_13 : decode cX3_roomOfAll 13 = .ok (.ireturn, 1) := by decide +kernel
theorem dX3_roomOfAll_14 : decode cX3_roomOfAll 14 = .ok (.aload_n 0, 1) := by decide +kernel
theorem dX3_roomOfAll_15 : decode cX3_roomOfAll 15 = .ok (.getfield 30, 3) := by decide +kernel
theorem dX3_roomOfAll_18 : decode cX3_roomOfAll 18 = .ok (.iload_n 1, 1) := by decide +kernel
theorem dX3_roomOfAll_19 : decode cX3_roomOfAll 19 = .ok (.iaload, 1) := by decide +kernel
theorem dX3_roomOfAll_20 : decode cX3_roomOfAll 20 = .ok (.istore_n 2, 1) := by decide +kernel
theorem dX3_roomOfAll_21 : decode cX3_roomOfAll 21 = .ok (.iconst 0, 1) := by decide +kernel
theorem dX3_roomOfAll_22 : decode cX3_roomOfAll 22 = .ok (.istore_n 3, 1) := by decide +kernel
theorem dX3_roomOfAll_23 : decode cX3_roomOfAll 23 = .ok (.iload_n 3, 1) := by decide +kernel
theorem dX3_roomOfAll_24 : decode cX3_roomOfAll 24 = .ok (.aload_n 0, 1) := by decide +kernel
theorem dX3_roomOfAll_25 : decode cX3_roomOfAll 25 = .ok (.getfield 27, 3) := by decide +kernel
theorem dX3_roomOfAll_28 : decode cX3_roomOfAll 28 = .ok (.iload_n 1, 1) := by decide +kernel
theorem dX3_roomOfAll_29 : decode cX3_roomOfAll 29 = .ok (.iaload, 1) := by decide +kernel
theorem dX3_roomOfAll_30 : decode cX3_roomOfAll 30 = .ok (.if_icmp .ge 25, 3) := by decide +kernel
theorem dX3_roomOfAll_33 : decode cX3_roomOfAll 33 = .ok (.iload_n 2, 1) := by decide +kernel
theorem dX3_roomOfAll_34 : decode cX3_roomOfAll 34 = .ok (.aload_n 0, 1) := by decide +kernel
theorem dX3_roomOfAll_35 : decode cX3_roomOfAll 35 = .ok (.getfield 15, 3) := by decide +kernel
theorem dX3_roomOfAll_38 : decode cX3_roomOfAll 38 = .ok (.iload_n 3, 1) := by decide +kernel
theorem dX3_roomOfAll_39 : decode cX3_roomOfAll 39 = .ok (.iaload, 1) := by decide +kernel
theorem dX3_roomOfAll_40 : decode cX3_roomOfAll 40 = .ok (.aload_n 0, 1) := by decide +kernel
theorem dX3_roomOfAll_41 : decode cX3_roomOfAll 41 = .ok (.getfield 15, 3) := by decide +kernel
theorem dX3_roomOfAll_44 : decode cX3_roomOfAll 44 = .ok (.iload_n 3, 1) := by decide +kernel
theorem dX3_roomOfAll_45 : decode cX3_roomOfAll 45 = .ok (.iaload, 1) := by decide +kernel
theorem dX3_roomOfAll_46 : decode cX3_roomOfAll 46 = .ok (.imul, 1) := by decide +kernel
theorem dX3_roomOfAll_47 : decode cX3_roomOfAll 47 = .ok (.iadd, 1) := by decide +kernel
theorem dX3_roomOfAll_48 : decode cX3_roomOfAll 48 = .ok (.istore_n 2, 1) := by decide +kernel
theorem dX3_roomOfAll_49 : decode cX3_roomOfAll 49 = .ok (.iinc 3 1, 3) := by decide +kernel
theorem dX3_roomOfAll_52 : decode cX3_roomOfAll 52 = .ok (.goto (-29), 3) := by decide +kernel
theorem dX3_roomOfAll_55 : decode cX3_roomOfAll 55 = .ok (.iload_n 2, 1) := by decide +kernel
theorem dX3_roomOfAll_56 : decode cX3_roomOfAll 56 = .ok (.ireturn, 1) := by decide +kernel
theorem dX3_become_0 : decode cX3_become 0 = .ok (.aload_n 0, 1) := by decide +kernel
theorem dX3_become_1 : decode cX3_become 1 = .ok (.invokevirtual 60, 3) := by decide +kernel
theorem dX3_become_4 : decode cX3_become 4 = .ok (.aload_n 0, 1) := by decide +kernel
theorem dX3_become_5 : decode cX3_become 5 = .ok (.aload_n 1, 1) := by decide +kernel
theorem dX3_become_6 : decode cX3_become 6 = .ok (.getfield 36, 3) := by decide +kernel
theorem dX3_become_9 : decode cX3_become 9 = .ok (.putfield 36, 3) := by decide +kernel
theorem dX3_become_12 : decode cX3_become 12 = .ok (.aload_n 0, 1) := by decide +kernel
theorem dX3_become_13 : decode cX3_become 13 = .ok (.aload_n 1, 1) := by decide +kernel
theorem dX3_become_14 : decode cX3_become 14 = .ok (.getfield 40, 3) := by decide +kernel
theorem dX3_become_17 : decode cX3_become 17 = .ok (.putfield 40, 3) := by decide +kernel
theorem dX3_become_20 : decode cX3_become 20 = .ok (.aload_n 0, 1) := by decide +kernel
theorem dX3_become_21 : decode cX3_become 21 = .ok (.aload_n 1, 1) := by decide +kernel
theorem dX3_become_22 : decode cX3_become 22 = .ok (.getfield 43, 3) := by decide +kernel
theorem dX3_become_25 : decode cX3_become 25 = .ok (.putfield 43, 3) := by decide +kernel
theorem dX3_become_28 : decode cX3_become 28 = .ok (.aload_n 0, 1) := by decide +kernel
theorem dX3_become_29 : decode cX3_become 29 = .ok (.aload_n 1, 1) := by decide +kernel
theorem dX3_become_30 : decode cX3_become 30 = .ok (.getfield 78, 3) := by decide +kernel
theorem dX3_become_33 : decode cX3_become 33 = .ok (.putfield 78, 3) := by decide +kernel
theorem dX3_become_36 : decode cX3_become 36 = .ok (.aload_n 0, 1) := by decide +kernel
theorem dX3_become_37 : decode cX3_become 37 = .ok (.aload_n 1, 1) := by decide +kernel
theorem dX3_become_38 : decode cX3_become 38 = .ok (.getfield 54, 3) := by decide +kernel
theorem dX3_become_41 : decode cX3_become 41 = .ok (.putfield 54, 3) := by decide +kernel
theorem dX3_become_44 : decode cX3_become 44 = .ok (.aload_n 1, 1) := by decide +kernel
theorem dX3_become_45 : decode cX3_become 45 = .ok (.getfield 9, 3) := by decide +kernel
theorem dX3_become_48 : decode cX3_become 48 = .ok (.iconst 0, 1) := by decide +kernel
theorem dX3_become_49 : decode cX3_become 49 = .ok (.aload_n 0, 1) := by decide +kernel
theorem dX3_become_50 : decode cX3_become 50 = .ok (.getfield 9, 3) := by decide +kernel
theorem dX3_become_53 : decode cX3_become 53 = .ok (.iconst 0, 1) := by decide +kernel
theorem dX3_become_54 : decode cX3_become 54 = .ok (.aload_n 0, 1) := by decide +kernel
theorem dX3_become_55 : decode cX3_become 55 = .ok (.getfield 36, 3) := by decide +kernel
theorem dX3_become_58 : decode cX3_become 58 = .ok (.invokestatic 96, 3) := by decide +kernel
theorem dX3_become_61 : decode cX3_become 61 = .ok (.aload_n 1, 1) := by decide +kernel
theorem dX3_become_62 : decode cX3_become 62 = .ok (.getfield 15, 3) := by decide +kernel
theorem dX3_become_65 : decode cX3_become 65 = .ok (.iconst 0, 1) := by decide +kernel
theorem dX3_become_66 : decode cX3_become 66 = .ok (.aload_n 0, 1) := by decide +kernel
theorem dX3_become_67 : decode cX3_become 67 = .ok (.getfield 15, 3) := by decide +kernel
theorem dX3_become_70 : decode cX3_become 70 = .ok (.iconst 0, 1) := by decide +kernel
theorem dX3_become_71 : decode cX3_become 71 = .ok (.aload_n 0, 1) := by decide +kernel
theorem dX3_become_72 : decode cX3_become 72 = .ok (.getfield 36, 3) := by decide +kernel
theorem dX3_become_75 : decode cX3_become 75 = .ok (.invokestatic 96, 3) := by decide +kernel
theorem dX3_become_78 : decode cX3_become 78 = .ok (.aload_n 1, 1) := by decide +kernel
theorem dX3_become_79 : decode cX3_become 79 = .ok (.getfield 18, 3) := by decide +kernel
theorem dX3_become_82 : decode cX3_become 82 = .ok (.iconst 0, 1) := by decide +kernel
theorem dX3_become_83 : decode cX3_become 83 = .ok (.aload_n 0, 1) := by decide +kernel
theorem dX3_become_84 : decode cX3_become 84 = .ok (.getfield 18, 3) := by decide +kernel
theorem dX3_become_87 : decode cX3_become 87 = .ok (.iconst 0, 1) := by decide +kernel
theorem dX3_become_88 : decode cX3_become 88 = .ok (.aload_n 0, 1) := by decide +kernel
theorem dX3_become_89 : decode cX3_become 89 = .ok (.getfield 36, 3) := by decide +kernel
theorem dX3_become_92 : decode cX3_become 92 = .ok (.invokestatic 96, 3) := by decide +kernel
theorem dX3_become_95 : decode cX3_become 95 = .ok (.aload_n 1, 1) := by decide +kernel
theorem dX3_become_96 : decode cX3_become 96 = .ok (.getfield 21, 3) := by decide +kernel
theorem dX3_become_99 : decode cX3_become 99 = .ok (.iconst 0, 1) := by decide +kernel
theorem dX3_become_100 : decode cX3_become 100 = .ok (.aload_n 0, 1) := by decide +kernel
theorem dX3_become_101 : decode cX3_become 101 = .ok (.getfield 21, 3) := by decide +kernel
theorem dX3_become_104 : decode cX3_become 104 = .ok (.iconst 0, 1) := by decide +kernel
theorem dX3_become_105 : decode cX3_become 105 = .ok (.aload_n 0, 1) := by decide +kernel
theorem dX3_become_106 : decode cX3_become 106 = .ok (.getfield 36, 3) := by decide +kernel
theorem dX3_become_109 : decode cX3_become 109 = .ok (.invokestatic 96, 3) := by decide +kernel
theorem dX3_become_112 : decode cX3_become 112 = .ok (.aload_n 1, 1) := by decide +kernel
theorem dX3_become_113 : decode cX3_become 113 = .ok (.getfield 27, 3) := by decide +kernel
theorem dX3_become_116 : decode cX3_become 116 = .ok (.iconst 0, 1) := by decide +kernel
theorem dX3_become_117 : decode cX3_become 117 = .ok (.aload_n 0, 1) := by decide +kernel
theorem dX3_become_118 : decode cX3_become 118 = .ok (.getfield 27, 3) := by decide +kernel
theorem dX3_become_121 : decode cX3_become 121 = .ok (.iconst 0, 1) := by decide +kernel
theorem dX3_become_122 : decode cX3_become 122 = .ok (.aload_n 0, 1) := by decide +kernel
theorem dX3_become_123 : decode cX3_become 123 = .ok (.getfield 54, 3) := by decide +kernel
theorem dX3_become_126 : decode cX3_become 126 = .ok (.invokestatic 96, 3) := by decide +kernel
theorem dX3_become_129 : decode cX3_become 129 = .ok (.aload_n 1, 1) := by decide +kernel
theorem dX3_become_130 : decode cX3_become 130 = .ok (.getfield 30, 3) := by decide +kernel
theorem dX3_become_133 : decode cX3_become 133 = .ok (.iconst 0, 1) := by decide +kernel
theorem dX3_become_134 : decode cX3_become 134 = .ok (.aload_n 0, 1) := by decide +kernel
theorem dX3_become_135 : decode cX3_become 135 = .ok (.getfield 30, 3) := by decide +kernel
theorem dX3_become_138 : decode cX3_become 138 = .ok (.iconst 0, 1) := by decide +kernel
theorem dX3_become_139 : decode cX3_become 139 = .ok (.aload_n 0, 1) := by decide +kernel
theorem dX3_become_140 : decode cX3_become 140 = .ok (.getfield 54, 3) := by decide +kernel
theorem dX3_become_143 : decode cX3_become 143 = .ok (.invokestatic 96, 3) := by decide +kernel
theorem dX3_become_146 : decode cX3_become 146 = .ok (.return_, 1) := by decide +kernel
