theorem dX2_insert_0 : decode cX2_insert 0 = .ok (.iload_n 1, 1) := by decide +kernel
theorem dX2_insert_1 : decode cX2_insert 1 = .ok (.ifCond .lt 21, 3) := by decide +kernel
theorem dX2_insert_4 : decode cX2_insert 4 = .ok (.iload_n 1, 1) := by decide +kernel
theorem dX2_insert_5 : decode cX2_insert 5 = .ok (.aload_n 0, 1) := by decide +kernel
theorem dX2_insert_6 : decode cX2_insert 6 = .ok (.getfield 18, 3) := by decide +kernel
theorem dX2_insert_9 : decode cX2_insert 9 = .ok (.if_icmp .gt 13, 3) := by decide +kernel
theorem dX2_insert_12 : decode cX2_insert 12 = .ok (.aload_n 0, 1) := by decide +kernel
theorem dX2_insert_13 : decode cX2_insert 13 = .ok (.getfield 18, 3) := by decide +kernel
theorem dX2_insert_16 : decode cX2_insert 16 = .ok (.sipush 160, 3) := by decide +kernel
theorem dX2_insert_19 : decode cX2_insert 19 = .ok (.if_icmp .lt 4, 3) := by decide +kernel
theorem dX2_insert_22 : decode cX2_insert 22 = .ok (.return_, 1) := by decide +kernel
theorem dX2_insert_23 : decode cX2_insert 23 = .ok (.aload_n 0, 1) := by decide +kernel
theorem dX2_insert_24 : decode cX2_insert 24 = .ok (.getfield 9, 3) := by decide +kernel
theorem dX2_insert_27 : decode cX2_insert 27 = .ok (.iload_n 1, 1) := by decide +kernel
theorem dX2_insert_28 : decode cX2_insert 28 = .ok (.aload_n 0, 1) := by decide +kernel
theorem dX2_insert_29 : decode cX2_insert 29 = .ok (.getfield 9, 3) := by decide +kernel
theorem dX2_insert_32 : decode cX2_insert 32 = .ok (.iload_n 1, 1) := by decide +kernel
theorem dX2_insert_33 : decode cX2_insert 33 = .ok (.iconst 1, 1) := by decide +kernel
theorem dX2_insert_34 : decode cX2_insert 34 = .ok (.iadd, 1) := by decide +kernel
theorem dX2_insert_35 : decode cX2_insert 35 = .ok (.aload_n 0, 1) := by decide +kernel
theorem dX2_insert_36 : decode cX2_insert 36 = .ok (.getfield 18, 3) := by decide +kernel
theorem dX2_insert_39 : decode cX2_insert 39 = .ok (.iload_n 1, 1) := by decide +kernel
theorem dX2_insert_40 : decode cX2_insert 40 = .ok (.isub, 1) := by decide +kernel
theorem dX2_insert_41 : decode cX2_insert 41 = .ok (.invokestatic 29, 3) := by decide +kernel
theorem dX2_insert_44 : decode cX2_insert 44 = .ok (.aload_n 0, 1) := by decide +kernel
theorem dX2_insert_45 : decode cX2_insert 45 = .ok (.getfield 15, 3) := by decide +kernel
theorem dX2_insert_48 : decode cX2_insert 48 = .ok (.iload_n 1, 1) := by decide +kernel
theorem dX2_insert_49 : decode cX2_insert 49 = .ok (.aload_n 0, 1) := by decide +kernel
theorem dX2_insert_50 : decode cX2_insert 50 = .ok (.getfield 15, 3) := by decide +kernel
theorem dX2_insert_53 : decode cX2_insert 53 = .ok (.iload_n 1, 1) := by decide +kernel
theorem dX2_insert_54 : decode cX2_insert 54 = .ok (.iconst 1, 1) := by decide +kernel
theorem dX2_insert_55 : decode cX2_insert 55 = .ok (.iadd, 1) := by decide +kernel
theorem dX2_insert_56 : decode cX2_insert 56 = .ok (.aload_n 0, 1) := by decide +kernel
theorem dX2_insert_57 : decode cX2_insert 57 = .ok (.getfield 18, 3) := by decide +kernel
theorem dX2_insert_60 : decode cX2_insert 60 = .ok (.iload_n 1, 1) := by decide +kernel
theorem dX2_insert_61 : decode cX2_insert 61 = .ok (.isub, 1) := by decide +kernel
theorem dX2_insert_62 : decode cX2_insert 62 = .ok (.invokestatic 29, 3) := by decide +kernel
theorem dX2_insert_65 : decode cX2_insert 65 = .ok (.aload_n 0, 1) := by decide +kernel
theorem dX2_insert_66 : decode cX2_insert 66 = .ok (.getfield 9, 3) := by decide +kernel
theorem dX2_insert_69 : decode cX2_insert 69 = .ok (.iload_n 1, 1) := by decide +kernel
theorem dX2_insert_70 : decode cX2_insert 70 = .ok (.iload_n 2, 1) := by decide +kernel
theorem dX2_insert_71 : decode cX2_insert 71 = .ok (.iastore, 1) := by decide +kernel
theorem dX2_insert_72 : decode cX2_insert 72 = .ok (.aload_n 0, 1) := by decide +kernel
theorem dX2_insert_73 : decode cX2_insert 73 = .ok (.getfield 15, 3) := by decide +kernel
theorem dX2_insert_76 : decode cX2_insert 76 = .ok (.iload_n 1, 1) := by decide +kernel
theorem dX2_insert_77 : decode cX2_insert 77 = .ok (.iload_n 3, 1) := by decide +kernel
theorem dX2_insert_78 : decode cX2_insert 78 = .ok (.iastore, 1) := by decide +kernel
theorem dX2_insert_79 : decode cX2_insert 79 = .ok (.aload_n 0, 1) := by decide +kernel
theorem dX2_insert_80 : decode cX2_insert 80 = .ok (.dup, 1) := by decide +kernel
theorem dX2_insert_81 : decode cX2_insert 81 = .ok (.getfield 18, 3) := by decide +kernel
theorem dX2_insert_84 : decode cX2_insert 84 = .ok (.iconst 1, 1) := by decide +kernel
theorem dX2_insert_85 : decode cX2_insert 85 = .ok (.iadd, 1) := by decide +kernel
theorem dX2_insert_86 : decode cX2_insert 86 = .ok (.putfield 18, 3) := by decide +kernel
theorem dX2_insert_89 : decode cX2_insert 89 = .ok (.return_, 1) := by decide +kernel
theorem dX2_remove_0 : decode cX2_remove 0 = .ok (.iload_n 1, 1) := by decide +kernel
theorem dX2_remove_1 : decode cX2_remove 1 = .ok (.ifCond .lt 11, 3) := by decide +kernel
theorem dX2_remove_4 : decode cX2_remove 4 = .ok (.iload_n 1, 1) := by decide +kernel
theorem dX2_remove_5 : decode cX2_remove 5 = .ok (.aload_n 0, 1) := by decide +kernel
theorem dX2_remove_6 : decode cX2_remove 6 = .ok (.getfield 18, 3) := by decide +kernel
theorem dX2_remove_9 : decode cX2_remove 9 = .ok (.if_icmp .lt 4, 3) := by decide +kernel
theorem dX2_remove_12 : decode cX2_remove 12 = .ok (.return_, 1) := by decide +kernel
theorem dX2_remove_13 : decode cX2_remove 13 = .ok (.aload_n 0, 1) := by decide +kernel
theorem dX2_remove_14 : decode cX2_remove 14 = .ok (.getfield 9, 3) := by decide +kernel
theorem dX2_remove_17 : decode cX2_remove 17 = .ok (.iload_n 1, 1) := by decide +kernel
theorem dX2_remove_18 : decode cX2_remove 18 = .ok (.iconst 1, 1) := by decide +kernel
theorem dX2_remove_19 : decode cX2_remove 19 = .ok (.iadd, 1) := by decide +kernel
theorem dX2_remove_20 : decode cX2_remove 20 = .ok (.aload_n 0, 1) := by decide +kernel
theorem dX2_remove_21 : decode cX2_remove 21 = .ok (.getfield 9, 3) := by decide +kernel
theorem dX2_remove_24 : decode cX2_remove 24 = .ok (.iload_n 1, 1) := by decide +kernel
theorem dX2_remove_25 : decode cX2_remove 25 = .ok (.aload_n 0, 1) := by decide +kernel
theorem dX2_remove_26 : decode cX2_remove 26 = .ok (.getfield 18, 3) := by decide +kernel
theorem dX2_remove_29 : decode cX2_remove 29 = .ok (.iload_n 1, 1) := by decide +kernel
theorem dX2_remove_30 : decode cX2_remove 30 = .ok (.isub, 1) := by decide +kernel
theorem dX2_remove_31 : decode cX2_remove 31 = .ok (.iconst 1, 1) := by decide +kernel
theorem dX2_remove_32 : decode cX2_remove 32 = .ok (.isub, 1) := by decide +kernel
theorem dX2_remove_33 : decode cX2_remove 33 = .ok (.invokestatic 29, 3) := by decide +kernel
theorem dX2_remove_36 : decode cX2_remove 36 = .ok (.aload_n 0, 1) := by decide +kernel
theorem dX2_remove_37 : decode cX2_remove 37 = .ok (.getfield 15, 3) := by decide +kernel
theorem dX2_remove_40 : decode cX2_remove 40 = .ok (.iload_n 1, 1) := by decide +kernel
theorem dX2_remove_41 : decode cX2_remove 41 = .ok (.iconst 1, 1) := by decide +kernel
theorem dX2_remove_42 : decode cX2_remove 42 = .ok (.iadd, 1) := by decide +kernel
theorem dX2_remove_43 : decode cX2_remove 43 = .ok (.aload_n 0, 1) := by decide +kernel
theorem dX2_remove_44 : decode cX2_remove 44 = .ok (.getfield 15, 3) := by decide +kernel
theorem dX2_remove_47 : decode cX2_remove 47 = .ok (.iload_n 1, 1) := by decide +kernel
theorem dX2_remove_48 : decode cX2_remove 48 = .ok (.aload_n 0, 1) := by decide +kernel
theorem dX2_remove_49 : decode cX2_remove 49 = .ok (.getfield 18, 3) := by decide +kernel
theorem dX2_remove_52 : decode cX2_remove 52 = .ok (.iload_n 1, 1) := by decide +kernel
theorem dX2_remove_53 : decode cX2_remove 53 = .ok (.isub, 1) := by decide +kernel
theorem dX2_remove_54 : decode cX2_remove 54 = .ok (.iconst 1, 1) := by decide +kernel
theorem dX2_remove_55 : decode cX2_remove 55 = .ok (.isub, 1) := by decide +kernel
theorem dX2_remove_56 : decode cX2_remove 56 = .ok (.invokestatic 29, 3) := by decide +kernel
theorem dX2_remove_59 : decode cX2_remove 59 = .ok (.aload_n 0, 1) := by decide +kernel
theorem dX2_remove_60 : decode cX2_remove 60 = .ok (.dup, 1) := by decide +kernel
theorem dX2_remove_61 : decode cX2_remove 61 = .ok (.getfield 18, 3) := by decide +kernel
theorem dX2_remove_64 : decode cX2_remove 64 = .ok (.iconst 1, 1) := by decide +kernel
theorem dX2_remove_65 : decode cX2_remove 65 = .ok (.isub, 1) := by decide +kernel
theorem dX2_remove_66 : decode cX2_remove 66 = .ok (.putfield 18, 3) := by decide +kernel
theorem dX2_remove_69 : decode cX2_remove 69 = .ok (.return_, 1) := by decide +kernel
theorem dX2_sharedWith_0 : decode cX2_sharedWith 0 = .ok (.iconst 0, 1) := by decide +kernel
theorem dX2_sharedWith_1 : decode cX2_sharedWith 1 = .ok (.istore_n 3, 1) := by decide +kernel
theorem dX2_sharedWith_2 : decode cX2_sharedWith 2 = .ok (.iconst 0, 1) := by decide +kernel
theorem dX2_sharedWith_3 : decode cX2_sharedWith 3 = .ok (.istore 4, 2) := by decide +kernel
theorem dX2_sharedWith_5 : decode cX2_sharedWith 5 = .ok (.iload 4, 2) := by decide +kernel
theorem dX2_sharedWith_7 : decode cX2_sharedWith 7 = .ok (.aload_n 0, 1) := by decide +kernel
theorem dX2_sharedWith_8 : decode cX2_sharedWith 8 = .ok (.getfield 18, 3) := by decide +kernel
theorem dX2_sharedWith_11 : decode cX2_sharedWith 11 = .ok (.if_icmp .ge 51, 3) := by decide +kernel
theorem dX2_sharedWith_14 : decode cX2_sharedWith 14 = .ok (.aload_n 1, 1) := by decide +kernel
theorem dX2_sharedWith_15 : decode cX2_sharedWith 15 = .ok (.aload_n 0, 1) := by decide +kernel
theorem dX2_sharedWith_16 : decode cX2_sharedWith 16 = .ok (.getfield 9, 3) := by decide +kernel
theorem dX2_sharedWith_19 : decode cX2_sharedWith 19 = .ok (.iload 4, 2) := by decide +kernel
theorem dX2_sharedWith_21 : decode cX2_sharedWith 21 = .ok (.iaload, 1) := by decide +kernel
theorem dX2_sharedWith_22 : decode cX2_sharedWith 22 = .ok (.invokevirtual 35, 3) := by decide +kernel
theorem dX2_sharedWith_25 : decode cX2_sharedWith 25 = .ok (.istore 5, 2) := by decide +kernel
theorem dX2_sharedWith_27 : decode cX2_sharedWith 27 = .ok (.iload 5, 2) := by decide +kernel
theorem dX2_sharedWith_29 : decode cX2_sharedWith 29 = .ok (.ifCond .lt 27, 3) := by decide +kernel
theorem dX2_sharedWith_32 : decode cX2_sharedWith 32 = .ok (.iload_n 2, 1) := by decide +kernel
theorem dX2_sharedWith_33 : decode cX2_sharedWith 33 = .ok (.ifCond .eq 20, 3) := by decide +kernel
theorem dX2_sharedWith_36 : decode cX2_sharedWith 36 = .ok (.aload_n 1, 1) := by decide +kernel
theorem dX2_sharedWith_37 : decode cX2_sharedWith 37 = .ok (.getfield 15, 3) := by decide +kernel
theorem dX2_sharedWith_40 : decode cX2_sharedWith 40 = .ok (.iload 5, 2) := by decide +kernel
theorem dX2_sharedWith_42 : decode cX2_sharedWith 42 = .ok (.iaload, 1) := by decide +kernel
theorem dX2_sharedWith_43 : decode cX2_sharedWith 43 = .ok (.aload_n 0, 1) := by decide +kernel
theorem dX2_sharedWith_44 : decode cX2_sharedWith 44 = .ok (.getfield 15, 3) := by decide +kernel
theorem dX2_sharedWith_47 : decode cX2_sharedWith 47 = .ok (.iload 4, 2) := by decide +kernel
theorem dX2_sharedWith_49 : decode cX2_sharedWith 49 = .ok (.iaload, 1) := by decide +kernel
theorem dX2_sharedWith_50 : decode cX2_sharedWith 50 = .ok (.if_icmp .ne 6, 3) := by decide +kernel
theorem dX2_sharedWith_53 : decode cX2_sharedWith 53 = .ok (.iinc 3 1, 3) := by decide +kernel
theorem dX2_sharedWith_56 : decode cX2_sharedWith 56 = .ok (.iinc 4 1, 3) := by decide +kernel
theorem dX2_sharedWith_59 : decode cX2_sharedWith 59 = .ok (.goto (-54), 3) := by decide +kernel
theorem dX2_sharedWith_62 : decode cX2_sharedWith 62 = .ok (.iload_n 3, 1) := by decide +kernel
theorem dX2_sharedWith_63 : decode cX2_sharedWith 63 = .ok (.ireturn, 1) := by decide +kernel
theorem dX2_greatest_0 : decode cX2_greatest 0 = .ok (.iconst (-1), 1) := by decide +kernel
theorem dX2_greatest_1 : decode cX2_greatest 1 = .ok (.istore_n 1, 1) := by decide +kernel
theorem dX2_greatest_2 : decode cX2_greatest 2 = .ok (.iconst 0, 1) := by decide +kernel
theorem dX2_greatest_3 : decode cX2_greatest 3 = .ok (.istore_n 2, 1) := by decide +kernel
theorem dX2_greatest_4 : decode cX2_greatest 4 = .ok (.iload_n 2, 1) := by decide +kernel
theorem dX2_greatest_5 : decode cX2_greatest 5 = .ok (.aload_n 0, 1) := by decide +kernel
theorem dX2_greatest_6 : decode cX2_greatest 6 = .ok (.getfield 18, 3) := by decide +kernel
theorem dX2_greatest_9 : decode cX2_greatest 9 = .ok (.if_icmp .ge 30, 3) := by decide +kernel
theorem dX2_greatest_12 : decode cX2_greatest 12 = .ok (.iload_n 1, 1) := by decide +kernel
theorem dX2_greatest_13 : decode cX2_greatest 13 = .ok (.ifCond .lt 18, 3) := by decide +kernel
theorem dX2_greatest_16 : decode cX2_greatest 16 = .ok (.aload_n 0, 1) := by decide +kernel
theorem dX2_greatest_17 : decode cX2_greatest 17 = .ok (.getfield 15, 3) := by decide +kernel
theorem dX2_greatest_20 : decode cX2_greatest 20 = .ok (.iload_n 2, 1) := by decide +kernel
theorem dX2_greatest_21 : decode cX2_greatest 21 = .ok (.iaload, 1) := by decide +kernel
theorem dX2_greatest_22 : decode cX2_greatest 22 = .ok (.aload_n 0, 1) := by decide +kernel
theorem dX2_greatest_23 : decode cX2_greatest 23 = .ok (.getfield 15, 3) := by decide +kernel
theorem dX2_greatest_26 : decode cX2_greatest 26 = .ok (.iload_n 1, 1) := by decide +kernel
theorem dX2_greatest_27 : decode cX2_greatest 27 = .ok (.iaload, 1) := by decide +kernel
theorem dX2_greatest_28 : decode cX2_greatest 28 = .ok (.if_icmp .le 5, 3) := by decide +kernel
theorem dX2_greatest_31 : decode cX2_greatest 31 = .ok (.iload_n 2, 1) := by decide +kernel
theorem dX2_greatest_32 : decode cX2_greatest 32 = .ok (.istore_n 1, 1) := by decide +kernel
theorem dX2_greatest_33 : decode cX2_greatest 33 = .ok (.iinc 2 1, 3) := by decide +kernel
theorem dX2_greatest_36 : decode cX2_greatest 36 = .ok (.goto (-32), 3) := by decide +kernel
theorem dX2_greatest_39 : decode cX2_greatest 39 = .ok (.iload_n 1, 1) := by decide +kernel
theorem dX2_greatest_40 : decode cX2_greatest 40 = .ok (.ireturn, 1) := by decide +kernel
theorem dX2_valueSum_0 : decode cX2_valueSum 0 = .ok (.lconst 0, 1) := by decide +kernel
theorem dX2_valueSum_1 : decode cX2_valueSum 1 = .ok (.lstore_n 1, 1) := by decide +kernel
theorem dX2_valueSum_2 : decode cX2_valueSum 2 = .ok (.iconst 0, 1) := by decide +kernel
theorem dX2_valueSum_3 : decode cX2_valueSum 3 = .ok (.istore_n 3, 1) := by decide +kernel
theorem dX2_valueSum_4 : decode cX2_valueSum 4 = .ok (.iload_n 3, 1) := by decide +kernel
theorem dX2_valueSum_5 : decode cX2_valueSum 5 = .ok (.aload_n 0, 1) := by decide +kernel
theorem dX2_valueSum_6 : decode cX2_valueSum 6 = .ok (.getfield 18, 3) := by decide +kernel
theorem dX2_valueSum_9 : decode cX2_valueSum 9 = .ok (.if_icmp .ge 19, 3) := by decide +kernel
theorem dX2_valueSum_12 : decode cX2_valueSum 12 = .ok (.lload_n 1, 1) := by decide +kernel
theorem dX2_valueSum_13 : decode cX2_valueSum 13 = .ok (.aload_n 0, 1) := by decide +kernel
theorem dX2_valueSum_14 : decode cX2_valueSum 14 = .ok (.getfield 15, 3) := by decide +kernel
theorem dX2_valueSum_17 : decode cX2_valueSum 17 = .ok (.iload_n 3, 1) := by decide +kernel
theorem dX2_valueSum_18 : decode cX2_valueSum 18 = .ok (.iaload, 1) := by decide +kernel
theorem dX2_valueSum_19 : decode cX2_valueSum 19 = .ok (.i2l, 1) := by decide +kernel
theorem dX2_valueSum_20 : decode cX2_valueSum 20 = .ok (.ladd, 1) := by decide +kernel
theorem dX2_valueSum_21 : decode cX2_valueSum 21 = .ok (.lstore_n 1, 1) := by decide +kernel
theorem dX2_valueSum_22 : decode cX2_valueSum 22 = .ok (.iinc 3 1, 3) := by decide +kernel
theorem dX2_valueSum_25 : decode cX2_valueSum 25 = .ok (.goto (-21), 3) := by decide +kernel
theorem dX2_valueSum_28 : decode cX2_valueSum 28 = .ok (.lload_n 1, 1) := by decide +kernel
theorem dX2_valueSum_29 : decode cX2_valueSum 29 = .ok (.lreturn, 1) := by decide +kernel
theorem dX2_become_0 : decode cX2_become 0 = .ok (.aload_n 0, 1) := by decide +kernel
theorem dX2_become_1 : decode cX2_become 1 = .ok (.aload_n 1, 1) := by decide +kernel
theorem dX2_become_2 : decode cX2_become 2 = .ok (.getfield 18, 3) := by decide +kernel
theorem dX2_become_5 : decode cX2_become 5 = .ok (.putfield 18, 3) := by decide +kernel
theorem dX2_become_8 : decode cX2_become 8 = .ok (.aload_n 1, 1) := by decide +kernel
theorem dX2_become_9 : decode cX2_become 9 = .ok (.getfield 9, 3) := by decide +kernel
theorem dX2_become_12 : decode cX2_become 12 = .ok (.iconst 0, 1) := by decide +kernel
theorem dX2_become_13 : decode cX2_become 13 = .ok (.aload_n 0, 1) := by decide +kernel
theorem dX2_become_14 : decode cX2_become 14 = .ok (.getfield 9, 3) := by decide +kernel
theorem dX2_become_17 : decode cX2_become 17 = .ok (.iconst 0, 1) := by decide +kernel
theorem dX2_become_18 : decode cX2_become 18 = .ok (.aload_n 0, 1) := by decide +kernel
theorem dX2_become_19 : decode cX2_become 19 = .ok (.getfield 18, 3) := by decide +kernel
theorem dX2_become_22 : decode cX2_become 22 = .ok (.invokestatic 29, 3) := by decide +kernel
theorem dX2_become_25 : decode cX2_become 25 = .ok (.aload_n 1, 1) := by decide +kernel
theorem dX2_become_26 : decode cX2_become 26 = .ok (.getfield 15, 3) := by decide +kernel
theorem dX2_become_29 : decode cX2_become 29 = .ok (.iconst 0, 1) := by decide +kernel
theorem dX2_become_30 : decode cX2_become 30 = .ok (.aload_n 0, 1) := by decide +kernel
theorem dX2_become_31 : decode cX2_become 31 = .ok (.getfield 15, 3) := by decide +kernel
theorem dX2_become_34 : decode cX2_become 34 = .ok (.iconst 0, 1) := by decide +kernel
theorem dX2_become_35 : decode cX2_become 35 = .ok (.aload_n 0, 1) := by decide +kernel
theorem dX2_become_36 : decode cX2_become 36 = .ok (.getfield 18, 3) := by decide +kernel
theorem dX2_become_39 : decode cX2_become 39 = .ok (.invokestatic 29, 3) := by decide +kernel
theorem dX2_become_42 : decode cX2_become 42 = .ok (.return_, 1) := by decide +kernel
