theorem dX10_count_0 : decode cX10_count 0 = .ok (.iload_n 1, 1) := by decide +kernel
theorem dX10_count_1 : decode cX10_count 1 = .ok (.tableswitch 42 0 2 #[27, 32, 37], 27) := by decide +kernel
theorem dX10_count_28 : decode cX10_count 28 = .ok (.aload_n 0, 1) := by decide +kernel
theorem dX10_count_29 : decode cX10_count 29 = .ok (.invokevirtual 345, 3) := by decide +kernel
theorem dX10_count_32 : decode cX10_count 32 = .ok (.ireturn, 1) := by decide +kernel
theorem dX10_count_33 : decode cX10_count 33 = .ok (.aload_n 0, 1) := by decide +kernel
theorem dX10_count_34 : decode cX10_count 34 = .ok (.invokevirtual 348, 3) := by decide +kernel
theorem dX10_count_37 : decode cX10_count 37 = .ok (.ireturn, 1) := by decide +kernel
theorem dX10_count_38 : decode cX10_count 38 = .ok (.aload_n 0, 1) := by decide +kernel
theorem dX10_count_39 : decode cX10_count 39 = .ok (.getfield 19, 3) := by decide +kernel
theorem dX10_count_42 : decode cX10_count 42 = .ok (.ireturn, 1) := by decide +kernel
theorem dX10_count_43 : decode cX10_count 43 = .ok (.iconst (-1), 1) := by decide +kernel
theorem dX10_count_44 : decode cX10_count 44 = .ok (.ireturn, 1) := by decide +kernel
theorem dX10_countTables_0 : decode cX10_countTables 0 = .ok (.iconst 0, 1) := by decide +kernel
theorem dX10_countTables_1 : decode cX10_countTables 1 = .ok (.istore_n 1, 1) := by decide +kernel
theorem dX10_countTables_2 : decode cX10_countTables 2 = .ok (.iconst 0, 1) := by decide +kernel
theorem dX10_countTables_3 : decode cX10_countTables 3 = .ok (.istore_n 2, 1) := by decide +kernel
theorem dX10_countTables_4 : decode cX10_countTables 4 = .ok (.iload_n 2, 1) := by decide +kernel
theorem dX10_countTables_5 : decode cX10_countTables 5 = .ok (.iconst 4, 1) := by decide +kernel
theorem dX10_countTables_6 : decode cX10_countTables 6 = .ok (.if_icmp .ge 21, 3) := by decide +kernel
theorem dX10_countTables_9 : decode cX10_countTables 9 = .ok (.aload_n 0, 1) := by decide +kernel
theorem dX10_countTables_10 : decode cX10_countTables 10 = .ok (.getfield 11, 3) := by decide +kernel
theorem dX10_countTables_13 : decode cX10_countTables 13 = .ok (.iload_n 2, 1) := by decide +kernel
theorem dX10_countTables_14 : decode cX10_countTables 14 = .ok (.aaload, 1) := by decide +kernel
theorem dX10_countTables_15 : decode cX10_countTables 15 = .ok (.ifnull 6, 3) := by decide +kernel
theorem dX10_countTables_18 : decode cX10_countTables 18 = .ok (.iinc 1 1, 3) := by decide +kernel
theorem dX10_countTables_21 : decode cX10_countTables 21 = .ok (.iinc 2 1, 3) := by decide +kernel
theorem dX10_countTables_24 : decode cX10_countTables 24 = .ok (.goto (-20), 3) := by decide +kernel
theorem dX10_countTables_27 : decode cX10_countTables 27 = .ok (.iload_n 1, 1) := by decide +kernel
theorem dX10_countTables_28 : decode cX10_countTables 28 = .ok (.ireturn, 1) := by decide +kernel
theorem dX10_countKeys_0 : decode cX10_countKeys 0 = .ok (.iconst 0, 1) := by decide +kernel
theorem dX10_countKeys_1 : decode cX10_countKeys 1 = .ok (.istore_n 1, 1) := by decide +kernel
theorem dX10_countKeys_2 : decode cX10_countKeys 2 = .ok (.iconst 0, 1) := by decide +kernel
theorem dX10_countKeys_3 : decode cX10_countKeys 3 = .ok (.istore_n 2, 1) := by decide +kernel
theorem dX10_countKeys_4 : decode cX10_countKeys 4 = .ok (.iload_n 2, 1) := by decide +kernel
theorem dX10_countKeys_5 : decode cX10_countKeys 5 = .ok (.iconst 4, 1) := by decide +kernel
theorem dX10_countKeys_6 : decode cX10_countKeys 6 = .ok (.if_icmp .ge 33, 3) := by decide +kernel
theorem dX10_countKeys_9 : decode cX10_countKeys 9 = .ok (.aload_n 0, 1) := by decide +kernel
theorem dX10_countKeys_10 : decode cX10_countKeys 10 = .ok (.getfield 11, 3) := by decide +kernel
theorem dX10_countKeys_13 : decode cX10_countKeys 13 = .ok (.iload_n 2, 1) := by decide +kernel
theorem dX10_countKeys_14 : decode cX10_countKeys 14 = .ok (.aaload, 1) := by decide +kernel
theorem dX10_countKeys_15 : decode cX10_countKeys 15 = .ok (.ifnull 18, 3) := by decide +kernel
theorem dX10_countKeys_18 : decode cX10_countKeys 18 = .ok (.iload_n 1, 1) := by decide +kernel
theorem dX10_countKeys_19 : decode cX10_countKeys 19 = .ok (.aload_n 0, 1) := by decide +kernel
theorem dX10_countKeys_20 : decode cX10_countKeys 20 = .ok (.getfield 11, 3) := by decide +kernel
theorem dX10_countKeys_23 : decode cX10_countKeys 23 = .ok (.iload_n 2, 1) := by decide +kernel
theorem dX10_countKeys_24 : decode cX10_countKeys 24 = .ok (.aaload, 1) := by decide +kernel
theorem dX10_countKeys_25 : decode cX10_countKeys 25 = .ok (.getfield 93, 3) := by decide +kernel
theorem dX10_countKeys_28 : decode cX10_countKeys 28 = .ok (.getfield 121, 3) := by decide +kernel
theorem dX10_countKeys_31 : decode cX10_countKeys 31 = .ok (.iadd, 1) := by decide +kernel
theorem dX10_countKeys_32 : decode cX10_countKeys 32 = .ok (.istore_n 1, 1) := by decide +kernel
theorem dX10_countKeys_33 : decode cX10_countKeys 33 = .ok (.iinc 2 1, 3) := by decide +kernel
theorem dX10_countKeys_36 : decode cX10_countKeys 36 = .ok (.goto (-32), 3) := by decide +kernel
theorem dX10_countKeys_39 : decode cX10_countKeys 39 = .ok (.iload_n 1, 1) := by decide +kernel
theorem dX10_countKeys_40 : decode cX10_countKeys 40 = .ok (.ireturn, 1) := by decide +kernel
